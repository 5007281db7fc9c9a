/-! lists by lots -/
def sp_lot (s : Int) : Nat → Int
  | 0 => s + 1
  | k + 1 => (sp_lot s k * 48271).tmod 2147483647
theorem sp_lot_b {s : Int} (h0 : 0 ≤ s) (h1 : s ≤ 200000) : ∀ k : Nat, 0 ≤ sp_lot s k ∧ sp_lot s k < 2147483647
  | 0 => by simp only [sp_lot]; omega
  | k + 1 => by
    have h := sp_lot_b h0 h1 k
    simp only [sp_lot]
    rw [Int.tmod_eq_emod_of_nonneg (by omega)]
    omega
theorem sp_lot_w {s : Int} (h0 : 0 ≤ s) (h1 : s ≤ 200000) (k : Nat) : mv_wl ((mv_wl (sp_lot s k * 48271)).tmod 2147483647) = sp_lot s (k + 1) := by
  have h := sp_lot_b h0 h1 k
  have h2 := sp_lot_b h0 h1 (k + 1)
  rw [mv_wl_id (z := sp_lot s k * 48271) (by omega) (by omega)]
  exact mv_wl_id (by show _ ≤ sp_lot s (k + 1); omega) (by show sp_lot s (k + 1) < _; omega)
/-- the uncle whom the lot gives to child c -/
def sp_du (V : mv_M) (s : Int) (c : Nat) : Nat := ((sp_lot s (c + 1)).tmod (V 0 9)).toNat
theorem sp_du_b {V : mv_M} {s : Int} (h0 : 0 ≤ s) (h1 : s ≤ 200000) (h9 : 0 < V 0 9) (c : Nat) : (sp_lot s (c + 1)).tmod (V 0 9) = (sp_du V s c : Int) ∧ (sp_du V s c : Int) < V 0 9 := by
  have h := sp_lot_b h0 h1 (c + 1)
  have e := Int.tmod_eq_emod_of_nonneg h.1 (b := V 0 9)
  have e1 := Int.emod_nonneg (sp_lot s (c + 1)) (b := V 0 9) (by omega)
  have e2 := Int.emod_lt_of_pos (sp_lot s (c + 1)) h9
  unfold sp_du
  omega
theorem sp_du_w {V : mv_M} {s : Int} (h0 : 0 ≤ s) (h1 : s ≤ 200000) (h9 : 0 < V 0 9) (h6 : V 0 9 ≤ 6) (c : Nat) : mv_w (mv_wl ((sp_lot s (c + 1)).tmod (V 0 9))) = (sp_du V s c : Int) := by
  have h := sp_du_b h0 h1 h9 c
  rw [h.1, mv_wl_id (by omega) (by omega), mv_w_id (by omega) (by omega)]
def sp_dc (V : mv_M) (s : Int) : Nat → Nat → Int
  | 0 => fun _ => 0
  | c + 1 => if sp_dc V s c (sp_du V s c) < sp_room V (sp_du V s c) then mv_up (sp_dc V s c) (sp_du V s c) (sp_dc V s c (sp_du V s c) + 1) else sp_dc V s c
theorem sp_dc_b (V : mv_M) (s : Int) (j : Nat) : ∀ c : Nat, 0 ≤ sp_dc V s c j ∧ sp_dc V s c j ≤ c
  | 0 => ⟨Int.le_refl _, Int.le_refl _⟩
  | c + 1 => by
    have h := sp_dc_b V s j c
    have h2 := sp_dc_b V s (sp_du V s c) c
    simp only [sp_dc]
    split
    · unfold mv_up
      split <;> omega
    · omega
def sp_dr (V : mv_M) (s : Int) (c : Nat) : Int := if V 0 9 = 0 then -1 else if sp_dc V s c (sp_du V s c) < sp_room V (sp_du V s c) then (sp_du V s c : Int) else -1
theorem sp_dr_b {V : mv_M} {s : Int} (h0 : 0 ≤ s) (h1 : s ≤ 200000) (h9 : 0 ≤ V 0 9) (c : Nat) : -1 ≤ sp_dr V s c ∧ sp_dr V s c < V 0 9 := by
  unfold sp_dr
  by_cases q : V 0 9 = 0
  · rw [if_pos q]; omega
  · rw [if_neg q]
    have := sp_du_b h0 h1 (V := V) (by omega) c
    split <;> omega
theorem sp_cdr_lp {V M0 : mv_M} {P : Nat → Nat → List Int} {s : Int} {d : Nat} (ho : sp_ok V) (ht : sp_tb V P M0) (h0 : 0 ≤ s) (h1 : s ≤ 200000) (h9 : 0 < V 0 9) :
    ∀ (r c : Nat) (M : mv_M) (l5 : mv_V), (c : Int) + r = V 0 8 → mv_ag [64, 65] M0 M → (∀ j, j < 6 → M 65 j = sp_dc V s c j) → (∀ j, j < 6 → M 64 j = if j < c then sp_dr V s j else -1) → mv_isL l5 = false →
      mv_Ru (d + 1) 40 24 [mv_R 60, mv_I s, mv_L (sp_lot s c), mv_U, mv_I (c : Int), l5] [] M mv_U (fun M1 => mv_ag [64, 65] M0 M1 ∧ ∀ j : Nat, (j : Int) < V 0 8 → M1 64 j = sp_dr V s j) := by
  have h8 := sp_ok_s8 ho
  have h96 := sp_ok_s9 ho
  intro r
  induction r with
  | zero =>
    intro c M l5 hk hag hcnt hrow h5
    have e8 : M 60 8 = (c : Int) := by rw [hag 60 (by decide), ht.1.1]; omega
    refine mv_go' 3 (pc' := 30) (ls' := [mv_R 60, mv_I s, mv_L (sp_lot s c), mv_U, mv_I (c : Int), l5]) (st' := [mv_I (M 60 8), mv_I (c : Int)]) (M1 := M) rfl ?_
    rw [show M 60 8 = (c : Int) from by exact e8]
    refine mv_go' 1 (pc' := if (c : Int) < (c : Int) then 33 else 103) (ls' := [mv_R 60, mv_I s, mv_L (sp_lot s c), mv_U, mv_I (c : Int), l5]) (st' := []) (M1 := M) rfl ?_
    refine mv_ff' (by omega) ?_
    exact mv_ret (fun n => rfl) ⟨hag, fun j hj => by rw [hrow j (by omega), if_pos (by omega)]⟩
  | succ r ih =>
    intro c M l5 hk hag hcnt hrow h5
    have e8 : M 60 8 = V 0 8 := by rw [hag 60 (by decide), ht.1.1]
    have e9 : M 60 9 = V 0 9 := by rw [hag 60 (by decide), ht.1.2]
    have hub := sp_du_b h0 h1 h9 c
    have hw1 := sp_lot_w h0 h1 c
    have hw2 := sp_du_w h0 h1 h9 h96.2 c
    obtain ⟨u, hu⟩ : ∃ u, u = sp_du V s c := ⟨_, rfl⟩
    rw [← hu] at hub hw2
    have hcu := hcnt u (by omega)
    have hcb := sp_dc_b V s u c
    have hru : M 63 u = sp_room V u := by rw [hag 63 (by decide)]; exact ht.2.1 u (by omega)
    have hdr : sp_dr V s c = if sp_dc V s c u < sp_room V u then (u : Int) else -1 := by rw [hu]; exact if_neg (by omega)
    have hdc : sp_dc V s (c + 1) = if sp_dc V s c u < sp_room V u then mv_up (sp_dc V s c) u (sp_dc V s c u + 1) else sp_dc V s c := by rw [hu]; rfl
    by_cases hq : sp_dc V s c u < sp_room V u
    · rw [if_pos hq] at hdr hdc
      refine mv_go' 3 (pc' := 30) (ls' := [mv_R 60, mv_I s, mv_L (sp_lot s c), mv_U, mv_I (c : Int), l5]) (st' := [mv_I (M 60 8), mv_I (c : Int)]) (M1 := M) rfl ?_
      rw [show M 60 8 = V 0 8 from by exact e8]
      refine mv_go' 1 (pc' := if (c : Int) < (V 0 8) then 33 else 103) (ls' := [mv_R 60, mv_I s, mv_L (sp_lot s c), mv_U, mv_I (c : Int), l5]) (st' := []) (M1 := M) rfl ?_
      refine mv_tt' (by omega) ?_
      refine mv_go' 2 (pc' := 37) (ls' := [mv_R 60, mv_I s, mv_L (sp_lot s c), mv_U, mv_I (c : Int), l5]) (st' := [mv_I (M 60 9)]) (M1 := M) rfl ?_
      rw [show M 60 9 = V 0 9 from by exact e9]
      refine mv_go' 1 (pc' := if 0 < (V 0 9) then 40 else 103) (ls' := [mv_R 60, mv_I s, mv_L (sp_lot s c), mv_U, mv_I (c : Int), l5]) (st' := []) (M1 := M) rfl ?_
      refine mv_tt' (by omega) ?_
      refine mv_go' 5 (pc' := if 2147483647 = 0 then mv_bad else 49) (ls' := [mv_R 60, mv_I s, mv_L (sp_lot s c), mv_U, mv_I (c : Int), l5]) (st' := [mv_L (mv_wl ((mv_wl ((sp_lot s c) * 48271)).tmod 2147483647))]) (M1 := M) rfl ?_
      refine mv_ff' (by omega) ?_
      rw [show mv_wl ((mv_wl ((sp_lot s c) * 48271)).tmod 2147483647) = sp_lot s (c + 1) from by exact hw1]
      refine mv_go' 4 (pc' := 55) (ls' := [mv_R 60, mv_I s, mv_L (sp_lot s (c + 1)), mv_U, mv_I (c : Int), l5]) (st' := [mv_I (M 60 9), mv_L (sp_lot s (c + 1))]) (M1 := M) rfl ?_
      rw [show M 60 9 = V 0 9 from by exact e9]
      refine mv_go' 2 (pc' := if (V 0 9) = 0 then mv_bad else 57) (ls' := [mv_R 60, mv_I s, mv_L (sp_lot s (c + 1)), mv_U, mv_I (c : Int), l5]) (st' := [mv_L (mv_wl ((sp_lot s (c + 1)).tmod (V 0 9)))]) (M1 := M) rfl ?_
      refine mv_ff' (by omega) ?_
      refine mv_go' 1 (pc' := 58) (ls' := [mv_R 60, mv_I s, mv_L (sp_lot s (c + 1)), mv_U, mv_I (c : Int), l5]) (st' := [mv_I (mv_w (mv_wl ((sp_lot s (c + 1)).tmod (V 0 9))))]) (M1 := M) rfl ?_
      rw [show mv_w (mv_wl ((sp_lot s (c + 1)).tmod (V 0 9))) = (u : Int) from by exact hw2]
      refine mv_go' 5 (pc' := if 0 ≤ (u : Int) ∧ (u : Int) < 6 then 67 else mv_bad) (ls' := [mv_R 60, mv_I s, mv_L (sp_lot s (c + 1)), mv_U, mv_I (c : Int), mv_I (u : Int)]) (st' := [mv_I (M 65 u)]) (M1 := M) rfl ?_
      refine mv_tt' (by omega) ?_
      rw [show M 65 u = sp_dc V s c u from by exact hcu]
      refine mv_go' 4 (pc' := if 0 ≤ (u : Int) ∧ (u : Int) < 6 then 74 else mv_bad) (ls' := [mv_R 60, mv_I s, mv_L (sp_lot s (c + 1)), mv_U, mv_I (c : Int), mv_I (u : Int)]) (st' := [mv_I (M 63 u), mv_I (sp_dc V s c u)]) (M1 := M) rfl ?_
      refine mv_tt' (by omega) ?_
      rw [show M 63 u = sp_room V u from by exact hru]
      refine mv_go' 1 (pc' := if (sp_dc V s c u) < (sp_room V u) then 77 else 97) (ls' := [mv_R 60, mv_I s, mv_L (sp_lot s (c + 1)), mv_U, mv_I (c : Int), mv_I (u : Int)]) (st' := []) (M1 := M) rfl ?_
      refine mv_tt' (by omega) ?_
      refine mv_go' 5 (pc' := if 0 ≤ (u : Int) ∧ (u : Int) < 6 then 85 else mv_bad) (ls' := [mv_R 60, mv_I s, mv_L (sp_lot s (c + 1)), mv_U, mv_I (c : Int), mv_I (u : Int)]) (st' := [mv_I (M 65 u), mv_I (u : Int), mv_R 65]) (M1 := M) rfl ?_
      refine mv_tt' (by omega) ?_
      rw [show M 65 u = sp_dc V s c u from by exact hcu]
      refine mv_go' 3 (pc' := if 0 ≤ (u : Int) ∧ (u : Int) < 6 then 88 else mv_bad) (ls' := [mv_R 60, mv_I s, mv_L (sp_lot s (c + 1)), mv_U, mv_I (c : Int), mv_I (u : Int)]) (st' := []) (M1 := (mv_st M 65 (mv_up (M 65) u (mv_w ((sp_dc V s c u) + 1))))) rfl ?_
      refine mv_tt' (by omega) ?_
      refine mv_go' 5 (pc' := if 0 ≤ (c : Int) ∧ (c : Int) < 6 then 97 else mv_bad) (ls' := [mv_R 60, mv_I s, mv_L (sp_lot s (c + 1)), mv_U, mv_I (c : Int), mv_I (u : Int)]) (st' := []) (M1 := (mv_st (mv_st M 65 (mv_up (M 65) u (mv_w ((sp_dc V s c u) + 1)))) 64 (mv_up (M 64) c (u : Int)))) rfl ?_
      refine mv_tt' (by omega) ?_
      refine mv_go' 2 (pc' := 24) (ls' := [mv_R 60, mv_I s, mv_L (sp_lot s (c + 1)), mv_U, mv_I (mv_w ((c : Int) + 1)), mv_I (u : Int)]) (st' := []) (M1 := (mv_st (mv_st M 65 (mv_up (M 65) u (mv_w ((sp_dc V s c u) + 1)))) 64 (mv_up (M 64) c (u : Int)))) rfl ?_
      rw [show mv_w ((c : Int) + 1) = (c : Int) + 1 from mv_w_id (by omega) (by omega)]
      rw [show mv_w ((sp_dc V s c u) + 1) = (sp_dc V s c u) + 1 from mv_w_id (by omega) (by omega)]
      rw [show (c : Int) + 1 = ((c + 1 : Nat) : Int) from by omega]
      refine ih (c + 1) _ _ (by omega) ((hag.st (by decide)).st (by decide)) (fun j hj => ?_) (fun j hj => ?_) rfl
      · show mv_up (M 65) u (sp_dc V s c u + 1) j = _
        rw [hdc]
        exact sp_up_c (hcnt j hj)
      · show mv_up (M 64) c (u : Int) j = _
        by_cases q : j = c
        · rw [q, mv_up_s, if_pos (by omega), hdr]
        · rw [mv_up_n _ _ q, hrow j hj]
          by_cases q2 : j < c
          · rw [if_pos q2, if_pos (by omega)]
          · rw [if_neg q2, if_neg (by omega)]
    · rw [if_neg hq] at hdr hdc
      refine mv_go' 3 (pc' := 30) (ls' := [mv_R 60, mv_I s, mv_L (sp_lot s c), mv_U, mv_I (c : Int), l5]) (st' := [mv_I (M 60 8), mv_I (c : Int)]) (M1 := M) rfl ?_
      rw [show M 60 8 = V 0 8 from by exact e8]
      refine mv_go' 1 (pc' := if (c : Int) < (V 0 8) then 33 else 103) (ls' := [mv_R 60, mv_I s, mv_L (sp_lot s c), mv_U, mv_I (c : Int), l5]) (st' := []) (M1 := M) rfl ?_
      refine mv_tt' (by omega) ?_
      refine mv_go' 2 (pc' := 37) (ls' := [mv_R 60, mv_I s, mv_L (sp_lot s c), mv_U, mv_I (c : Int), l5]) (st' := [mv_I (M 60 9)]) (M1 := M) rfl ?_
      rw [show M 60 9 = V 0 9 from by exact e9]
      refine mv_go' 1 (pc' := if 0 < (V 0 9) then 40 else 103) (ls' := [mv_R 60, mv_I s, mv_L (sp_lot s c), mv_U, mv_I (c : Int), l5]) (st' := []) (M1 := M) rfl ?_
      refine mv_tt' (by omega) ?_
      refine mv_go' 5 (pc' := if 2147483647 = 0 then mv_bad else 49) (ls' := [mv_R 60, mv_I s, mv_L (sp_lot s c), mv_U, mv_I (c : Int), l5]) (st' := [mv_L (mv_wl ((mv_wl ((sp_lot s c) * 48271)).tmod 2147483647))]) (M1 := M) rfl ?_
      refine mv_ff' (by omega) ?_
      rw [show mv_wl ((mv_wl ((sp_lot s c) * 48271)).tmod 2147483647) = sp_lot s (c + 1) from by exact hw1]
      refine mv_go' 4 (pc' := 55) (ls' := [mv_R 60, mv_I s, mv_L (sp_lot s (c + 1)), mv_U, mv_I (c : Int), l5]) (st' := [mv_I (M 60 9), mv_L (sp_lot s (c + 1))]) (M1 := M) rfl ?_
      rw [show M 60 9 = V 0 9 from by exact e9]
      refine mv_go' 2 (pc' := if (V 0 9) = 0 then mv_bad else 57) (ls' := [mv_R 60, mv_I s, mv_L (sp_lot s (c + 1)), mv_U, mv_I (c : Int), l5]) (st' := [mv_L (mv_wl ((sp_lot s (c + 1)).tmod (V 0 9)))]) (M1 := M) rfl ?_
      refine mv_ff' (by omega) ?_
      refine mv_go' 1 (pc' := 58) (ls' := [mv_R 60, mv_I s, mv_L (sp_lot s (c + 1)), mv_U, mv_I (c : Int), l5]) (st' := [mv_I (mv_w (mv_wl ((sp_lot s (c + 1)).tmod (V 0 9))))]) (M1 := M) rfl ?_
      rw [show mv_w (mv_wl ((sp_lot s (c + 1)).tmod (V 0 9))) = (u : Int) from by exact hw2]
      refine mv_go' 5 (pc' := if 0 ≤ (u : Int) ∧ (u : Int) < 6 then 67 else mv_bad) (ls' := [mv_R 60, mv_I s, mv_L (sp_lot s (c + 1)), mv_U, mv_I (c : Int), mv_I (u : Int)]) (st' := [mv_I (M 65 u)]) (M1 := M) rfl ?_
      refine mv_tt' (by omega) ?_
      rw [show M 65 u = sp_dc V s c u from by exact hcu]
      refine mv_go' 4 (pc' := if 0 ≤ (u : Int) ∧ (u : Int) < 6 then 74 else mv_bad) (ls' := [mv_R 60, mv_I s, mv_L (sp_lot s (c + 1)), mv_U, mv_I (c : Int), mv_I (u : Int)]) (st' := [mv_I (M 63 u), mv_I (sp_dc V s c u)]) (M1 := M) rfl ?_
      refine mv_tt' (by omega) ?_
      rw [show M 63 u = sp_room V u from by exact hru]
      refine mv_go' 1 (pc' := if (sp_dc V s c u) < (sp_room V u) then 77 else 97) (ls' := [mv_R 60, mv_I s, mv_L (sp_lot s (c + 1)), mv_U, mv_I (c : Int), mv_I (u : Int)]) (st' := []) (M1 := M) rfl ?_
      refine mv_ff' (by omega) ?_
      refine mv_go' 2 (pc' := 24) (ls' := [mv_R 60, mv_I s, mv_L (sp_lot s (c + 1)), mv_U, mv_I (mv_w ((c : Int) + 1)), mv_I (u : Int)]) (st' := []) (M1 := M) rfl ?_
      rw [show mv_w ((c : Int) + 1) = (c : Int) + 1 from mv_w_id (by omega) (by omega)]
      rw [show (c : Int) + 1 = ((c + 1 : Nat) : Int) from by omega]
      refine ih (c + 1) _ _ (by omega) hag (fun j hj => ?_) (fun j hj => ?_) rfl
      · rw [hdc]; exact hcnt j hj
      · rw [hrow j hj]
        by_cases q : j = c
        · rw [q, if_neg (by omega), if_pos (by omega), hdr]
        · by_cases q2 : j < c
          · rw [if_pos q2, if_pos (by omega)]
          · rw [if_neg q2, if_neg (by omega)]
theorem sp_cdr {V M0 : mv_M} {P : Nat → Nat → List Int} {s : Int} (ho : sp_ok V) (ht : sp_tb V P M0) (h0 : 0 ≤ s) (h1 : s ≤ 200000) :
    mv_Ru 2 40 0 [mv_R 60, mv_I s, mv_U, mv_U, mv_U, mv_U] [] M0 mv_U (fun M1 => mv_ag [64, 65] M0 M1 ∧ ∀ j : Nat, (j : Int) < V 0 8 → M1 64 j = sp_dr V s j) := by
  have h8 := sp_ok_s8 ho
  have h96 := sp_ok_s9 ho
  by_cases h9 : 0 < V 0 9
  · refine mv_go' 3 (pc' := 5) (ls' := [mv_R 60, mv_I s, mv_U, mv_U, mv_U, mv_U]) (st' := [mv_I (-1), mv_R 64]) (M1 := M0) rfl ?_
    refine mv_call (st2 := []) rfl (Or.inr rfl) rfl rfl rfl (sp_fill_64) (by first | decide | omega) (fun Ma1 hm2 => ?_)
    have hx := hm2
    refine mv_go' 3 (pc' := 13) (ls' := [mv_R 60, mv_I s, mv_U, mv_U, mv_U, mv_U]) (st' := [mv_I 0, mv_R 65]) (M1 := Ma1) rfl ?_
    refine mv_call (st2 := []) rfl (Or.inr rfl) rfl rfl rfl (sp_fill_65) (by first | decide | omega) (fun Ma3 hm4 => ?_)
    have hz := hm4
    refine mv_go' 7 (pc' := 24) (ls' := [mv_R 60, mv_I s, mv_L (mv_wl (s + 1)), mv_U, mv_I 0, mv_U]) (st' := []) (M1 := Ma3) rfl ?_
    rw [show mv_wl (s + 1) = s + 1 from mv_wl_id (by omega) (by omega)]
    have hag : mv_ag [64, 65] M0 Ma3 := (hx.1.wd (by decide)).tr (hz.1.wd (by decide))
    have h64 : ∀ j, j < 6 → Ma3 64 j = -1 := fun j hj => by rw [hz.1 64 (by decide)]; exact hx.2 j hj
    refine (sp_cdr_lp (d := 1) (P := P) (M0 := Ma3) ho ⟨?_, ?_, ?_⟩ h0 h1 h9 (V 0 8).toNat 0 Ma3 mv_U (by omega) mv_ag.rf (fun j hj => hz.2 j hj) (fun j hj => by rw [if_neg (by omega)]; exact h64 j hj) rfl).imp (fun M1 q => ⟨hag.tr q.1, q.2⟩)
    · rw [hag 60 (by decide)]; exact ht.1
    · rw [hag 63 (by decide)]; exact ht.2.1
    · rw [hag 61 (by decide)]; exact ht.2.2
  · refine mv_go' 3 (pc' := 5) (ls' := [mv_R 60, mv_I s, mv_U, mv_U, mv_U, mv_U]) (st' := [mv_I (-1), mv_R 64]) (M1 := M0) rfl ?_
    refine mv_call (st2 := []) rfl (Or.inr rfl) rfl rfl rfl (sp_fill_64) (by first | decide | omega) (fun Ma5 hm6 => ?_)
    have hx := hm6
    refine mv_go' 3 (pc' := 13) (ls' := [mv_R 60, mv_I s, mv_U, mv_U, mv_U, mv_U]) (st' := [mv_I 0, mv_R 65]) (M1 := Ma5) rfl ?_
    refine mv_call (st2 := []) rfl (Or.inr rfl) rfl rfl rfl (sp_fill_65) (by first | decide | omega) (fun Ma7 hm8 => ?_)
    have hz := hm8
    refine mv_go' 7 (pc' := 24) (ls' := [mv_R 60, mv_I s, mv_L (mv_wl (s + 1)), mv_U, mv_I 0, mv_U]) (st' := []) (M1 := Ma7) rfl ?_
    rw [show mv_wl (s + 1) = s + 1 from mv_wl_id (by omega) (by omega)]
    have hag : mv_ag [64, 65] M0 Ma7 := (hx.1.wd (by decide)).tr (hz.1.wd (by decide))
    have h64 : ∀ j, j < 6 → Ma7 64 j = -1 := fun j hj => by rw [hz.1 64 (by decide)]; exact hx.2 j hj
    have e8 : Ma7 60 8 = V 0 8 := by rw [hag 60 (by decide)]; exact ht.1.1
    have e9 : Ma7 60 9 = V 0 9 := by rw [hag 60 (by decide)]; exact ht.1.2
    refine mv_go' 3 (pc' := 30) (ls' := [mv_R 60, mv_I s, mv_L (s + 1), mv_U, mv_I 0, mv_U]) (st' := [mv_I (Ma7 60 8), mv_I 0]) (M1 := Ma7) rfl ?_
    rw [show Ma7 60 8 = V 0 8 from by exact e8]
    refine mv_go' 1 (pc' := if 0 < (V 0 8) then 33 else 103) (ls' := [mv_R 60, mv_I s, mv_L (s + 1), mv_U, mv_I 0, mv_U]) (st' := []) (M1 := Ma7) rfl ?_
    refine mv_sp' (fun ha9 => ?_) (fun ha9 => ?_)
    · refine mv_go' 2 (pc' := 37) (ls' := [mv_R 60, mv_I s, mv_L (s + 1), mv_U, mv_I 0, mv_U]) (st' := [mv_I (Ma7 60 9)]) (M1 := Ma7) rfl ?_
      rw [show Ma7 60 9 = V 0 9 from by exact e9]
      refine mv_go' 1 (pc' := if 0 < (V 0 9) then 40 else 103) (ls' := [mv_R 60, mv_I s, mv_L (s + 1), mv_U, mv_I 0, mv_U]) (st' := []) (M1 := Ma7) rfl ?_
      refine mv_ff' (by omega) ?_
      exact mv_ret (fun n => rfl) ⟨hag, fun j hj => by rw [h64 j (by omega), show sp_dr V s j = -1 from if_pos (by omega)]⟩
    · exact mv_ret (fun n => rfl) ⟨hag, fun j hj => by rw [h64 j (by omega), show sp_dr V s j = -1 from if_pos (by omega)]⟩
