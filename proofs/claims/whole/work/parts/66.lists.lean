/-! lists of the model; drawn -/
theorem sp_mli1 {d : Nat} {M0 : mv_M} {s lot : Int} {U : Int} {l5 l6 : mv_V} {Q : mv_M → Prop} (h9 : 0 ≤ U ∧ U ≤ 6) (h5 : mv_isL l5 = false) (h6 : mv_isL l6 = false) (hU : M0 100 1 = U) : ∀ (r k : Nat) (M : mv_M), (k : Int) + r = U → mv_ag [135] M0 M → (∀ j, j < k → M 135 j = 0) →
    (∀ (k : Nat) M2, mv_ag [135] M0 M2 → (∀ j : Nat, (j : Int) < U → M2 135 j = 0) → mv_Ru d 181 41 [mv_R 100, mv_I s, mv_L lot, mv_U, mv_I (k : Int), l5, l6] [] M2 mv_U Q) → mv_Ru d 181 18 [mv_R 100, mv_I s, mv_L lot, mv_U, mv_I (k : Int), l5, l6] [] M mv_U Q := by
  intro r
  induction r with
  | zero =>
    intro k M hk hag hj e
    have e9 : M 100 1 = (k : Int) := by rw [hag 100 (by decide), hU]; omega
    refine mv_go' 3 (pc' := 24) (ls' := [mv_R 100, mv_I s, mv_L lot, mv_U, mv_I (k : Int), l5, l6]) (st' := [mv_I (M 100 1), mv_I (k : Int)]) (M1 := M) rfl ?_
    rw [show M 100 1 = (k : Int) from by exact e9]
    refine mv_go' 1 (pc' := if (k : Int) < (k : Int) then 27 else 41) (ls' := [mv_R 100, mv_I s, mv_L lot, mv_U, mv_I (k : Int), l5, l6]) (st' := []) (M1 := M) rfl ?_
    refine mv_ff' (by omega) ?_
    exact e k M hag (fun j hj2 => hj j (by omega))
  | succ r ih =>
    intro k M hk hag hj e
    have e9 : M 100 1 = U := by rw [hag 100 (by decide), hU]
    refine mv_go' 3 (pc' := 24) (ls' := [mv_R 100, mv_I s, mv_L lot, mv_U, mv_I (k : Int), l5, l6]) (st' := [mv_I (M 100 1), mv_I (k : Int)]) (M1 := M) rfl ?_
    rw [show M 100 1 = U from by exact e9]
    refine mv_go' 1 (pc' := if (k : Int) < U then 27 else 41) (ls' := [mv_R 100, mv_I s, mv_L lot, mv_U, mv_I (k : Int), l5, l6]) (st' := []) (M1 := M) rfl ?_
    refine mv_tt' (by omega) ?_
    refine mv_go' 5 (pc' := if 0 ≤ (k : Int) ∧ (k : Int) < 6 then 35 else mv_bad) (ls' := [mv_R 100, mv_I s, mv_L lot, mv_U, mv_I (k : Int), l5, l6]) (st' := []) (M1 := (mv_st M 135 (mv_up (M 135) k 0))) rfl ?_
    refine mv_tt' (by omega) ?_
    refine mv_go' 2 (pc' := 18) (ls' := [mv_R 100, mv_I s, mv_L lot, mv_U, mv_I (mv_w ((k : Int) + 1)), l5, l6]) (st' := []) (M1 := (mv_st M 135 (mv_up (M 135) k 0))) rfl ?_
    rw [show mv_w ((k : Int) + 1) = ((k + 1 : Nat) : Int) from by (rw [show mv_w ((k : Int) + 1) = (k : Int) + 1 from mv_w_id (by omega) (by omega)]) <;> omega]
    refine ih (k + 1) _ (by omega) (hag.st (by decide)) (fun j hj2 => ?_) e
    show mv_up (M 135) k 0 j = 0
    by_cases q : j = k
    · rw [q, mv_up_s]
    · rw [mv_up_n _ _ q]; exact hj j (by omega)
theorem sp_mli2 {V M0 : mv_M} {P : Nat → Nat → List Int} {s : Int} {d : Nat} (hm : sp_m M0 V) (ho : sp_ok V) (ht : sp_tmm V P M0) (h0 : 0 ≤ s) (h1 : s ≤ 200000) :
    ∀ (r c : Nat) (M : mv_M) (l5 l6 : mv_V), (c : Int) + r = V 0 8 → mv_ag [100, 135] M0 M → (∀ j, j ≠ 38 → j ≠ 39 → M 100 j = M0 100 j) → (∀ j : Nat, (j : Int) < V 0 9 → M 135 j = sp_dc V s c j) → M 100 38 = sp_rd (sp_dr V s) c → M 100 39 = sp_rs (sp_suits V P) (sp_dr V s) c → mv_isL l5 = false → mv_isL l6 = false →
      mv_Ru (d + 1) 181 44 [mv_R 100, mv_I s, mv_L (sp_lot s c), mv_U, mv_I (c : Int), l5, l6] [] M mv_U (fun M1 => (mv_ag [100, 135] M0 M1 ∧ ∀ j, j ≠ 38 → j ≠ 39 → M1 100 j = M0 100 j) ∧ M1 100 38 = sp_rd (sp_dr V s) (V 0 8).toNat ∧ M1 100 39 = sp_rs (sp_suits V P) (sp_dr V s) (V 0 8).toNat) := by
  have h8 := sp_ok_s8 ho
  have h96 := sp_ok_s9 ho
  intro r
  induction r with
  | zero =>
    intro c M l5 l6 hk hag h100 hcnt hrd hrs h5 h6
    have e8 : M 100 0 = (c : Int) := by rw [h100 0 (by decide) (by decide), sp_m_s8 hm]; omega
    refine mv_go' 3 (pc' := 50) (ls' := [mv_R 100, mv_I s, mv_L (sp_lot s c), mv_U, mv_I (c : Int), l5, l6]) (st' := [mv_I (M 100 0), mv_I (c : Int)]) (M1 := M) rfl ?_
    rw [show M 100 0 = (c : Int) from by exact e8]
    refine mv_go' 1 (pc' := if (c : Int) < (c : Int) then 53 else 164) (ls' := [mv_R 100, mv_I s, mv_L (sp_lot s c), mv_U, mv_I (c : Int), l5, l6]) (st' := []) (M1 := M) rfl ?_
    refine mv_ff' (by omega) ?_
    rw [show (V 0 8).toNat = c from by omega]
    exact mv_ret (fun n => rfl) ⟨⟨hag, h100⟩, hrd, hrs⟩
  | succ r ih =>
    intro c M l5 l6 hk hag h100 hcnt hrd hrs h5 h6
    have e8 : M 100 0 = V 0 8 := by rw [h100 0 (by decide) (by decide), sp_m_s8 hm]
    have e9 : M 100 1 = V 0 9 := by rw [h100 1 (by decide) (by decide), sp_m_s9 hm]
    have hw1 := sp_lot_w h0 h1 c
    have hdb : ∀ j, -1 ≤ sp_dr V s j ∧ sp_dr V s j < V 0 9 := fun j => sp_dr_b h0 h1 h96.1 j
    have hrdb := sp_rd_b (sp_dr V s) c (fun j hj => by have := hdb j; omega)
    have ht6 := sp_t6_b c (by omega)
    have hrsb := sp_rs_b (P := P) ho (sp_dr V s) c (fun j hj => hdb j)
    by_cases h9 : 0 < V 0 9
    · have hub := sp_du_b h0 h1 h9 c
      have hw2 := sp_du_w h0 h1 h9 h96.2 c
      obtain ⟨u, hu⟩ : ∃ u, u = sp_du V s c := ⟨_, rfl⟩
      rw [← hu] at hub hw2
      have hcu := hcnt u (by omega)
      have hcb := sp_dc_b V s u c
      have hru : M 134 u = sp_room V u := by rw [hag 134 (by decide)]; exact ht.1 u (by omega)
      have hsu : M 133 (6 * c + u) = sp_suits V P c u := by rw [hag 133 (by decide)]; exact ht.2 c u (by omega) (by omega)
      have hsb := sp_suits_b P ho c (u := u) (by omega)
      have hdr : sp_dr V s c = if sp_dc V s c u < sp_room V u then (u : Int) else -1 := by rw [hu]; exact if_neg (by omega)
      have hdc : sp_dc V s (c + 1) = if sp_dc V s c u < sp_room V u then mv_up (sp_dc V s c) u (sp_dc V s c u + 1) else sp_dc V s c := by rw [hu]; rfl
      by_cases hq : sp_dc V s c u < sp_room V u
      · rw [if_pos hq] at hdr hdc
        have ers : sp_rs (sp_suits V P) (sp_dr V s) (c + 1) = sp_rs (sp_suits V P) (sp_dr V s) c + sp_suits V P c u := by simp only [sp_rs]; rw [hdr, if_neg (by omega), Int.toNat_natCast]
        have erd : sp_rd (sp_dr V s) (c + 1) = 10 * sp_rd (sp_dr V s) c + u + 1 := by simp only [sp_rd]; rw [hdr]
        refine mv_go' 3 (pc' := 50) (ls' := [mv_R 100, mv_I s, mv_L (sp_lot s c), mv_U, mv_I (c : Int), l5, l6]) (st' := [mv_I (M 100 0), mv_I (c : Int)]) (M1 := M) rfl ?_
        rw [show M 100 0 = V 0 8 from by exact e8]
        refine mv_go' 1 (pc' := if (c : Int) < (V 0 8) then 53 else 164) (ls' := [mv_R 100, mv_I s, mv_L (sp_lot s c), mv_U, mv_I (c : Int), l5, l6]) (st' := []) (M1 := M) rfl ?_
        refine mv_tt' (by omega) ?_
        refine mv_go' 7 (pc' := if 2147483647 = 0 then mv_bad else 65) (ls' := [mv_R 100, mv_I s, mv_L (sp_lot s c), mv_U, mv_I (c : Int), mv_I (-1), l6]) (st' := [mv_L (mv_wl ((mv_wl ((sp_lot s c) * 48271)).tmod 2147483647))]) (M1 := M) rfl ?_
        refine mv_ff' (by omega) ?_
        rw [show mv_wl ((mv_wl ((sp_lot s c) * 48271)).tmod 2147483647) = sp_lot s (c + 1) from by exact hw1]
        refine mv_go' 3 (pc' := 70) (ls' := [mv_R 100, mv_I s, mv_L (sp_lot s (c + 1)), mv_U, mv_I (c : Int), mv_I (-1), l6]) (st' := [mv_I (M 100 1)]) (M1 := M) rfl ?_
        rw [show M 100 1 = V 0 9 from by exact e9]
        refine mv_go' 1 (pc' := if 0 < (V 0 9) then 73 else 142) (ls' := [mv_R 100, mv_I s, mv_L (sp_lot s (c + 1)), mv_U, mv_I (c : Int), mv_I (-1), l6]) (st' := []) (M1 := M) rfl ?_
        refine mv_tt' (by omega) ?_
        refine mv_go' 3 (pc' := 78) (ls' := [mv_R 100, mv_I s, mv_L (sp_lot s (c + 1)), mv_U, mv_I (c : Int), mv_I (-1), l6]) (st' := [mv_I (M 100 1), mv_L (sp_lot s (c + 1))]) (M1 := M) rfl ?_
        rw [show M 100 1 = V 0 9 from by exact e9]
        refine mv_go' 2 (pc' := if (V 0 9) = 0 then mv_bad else 80) (ls' := [mv_R 100, mv_I s, mv_L (sp_lot s (c + 1)), mv_U, mv_I (c : Int), mv_I (-1), l6]) (st' := [mv_L (mv_wl ((sp_lot s (c + 1)).tmod (V 0 9)))]) (M1 := M) rfl ?_
        refine mv_ff' (by omega) ?_
        refine mv_go' 1 (pc' := 81) (ls' := [mv_R 100, mv_I s, mv_L (sp_lot s (c + 1)), mv_U, mv_I (c : Int), mv_I (-1), l6]) (st' := [mv_I (mv_w (mv_wl ((sp_lot s (c + 1)).tmod (V 0 9))))]) (M1 := M) rfl ?_
        rw [show mv_w (mv_wl ((sp_lot s (c + 1)).tmod (V 0 9))) = (u : Int) from by exact hw2]
        refine mv_go' 2 (pc' := 83) (ls' := [mv_R 100, mv_I s, mv_L (sp_lot s (c + 1)), mv_U, mv_I (c : Int), mv_I (-1), l6]) (st' := [mv_I 5, mv_I 0, mv_I (u : Int)]) (M1 := M) rfl ?_
        refine mv_callP (st2 := [mv_I (u : Int)]) rfl (Or.inr rfl) rfl rfl rfl ((mv_Ru.val sp_mwithin (congrArg mv_I (sp_cl_id (by omega) (by omega))))) (by first | decide | omega) ?_
        refine mv_go' 5 (pc' := if 0 ≤ (u : Int) ∧ (u : Int) < 6 then 95 else mv_bad) (ls' := [mv_R 100, mv_I s, mv_L (sp_lot s (c + 1)), mv_U, mv_I (c : Int), mv_I (-1), mv_I (u : Int)]) (st' := [mv_I (M 135 u)]) (M1 := M) rfl ?_
        refine mv_tt' (by omega) ?_
        rw [show M 135 u = sp_dc V s c u from by exact hcu]
        refine mv_go' 4 (pc' := if 0 ≤ (u : Int) ∧ (u : Int) < 6 then 102 else mv_bad) (ls' := [mv_R 100, mv_I s, mv_L (sp_lot s (c + 1)), mv_U, mv_I (c : Int), mv_I (-1), mv_I (u : Int)]) (st' := [mv_I (M 134 u), mv_I (sp_dc V s c u)]) (M1 := M) rfl ?_
        refine mv_tt' (by omega) ?_
        rw [show M 134 u = sp_room V u from by exact hru]
        refine mv_go' 1 (pc' := if (sp_dc V s c u) < (sp_room V u) then 105 else 142) (ls' := [mv_R 100, mv_I s, mv_L (sp_lot s (c + 1)), mv_U, mv_I (c : Int), mv_I (-1), mv_I (u : Int)]) (st' := []) (M1 := M) rfl ?_
        refine mv_tt' (by omega) ?_
        refine mv_go' 5 (pc' := if 0 ≤ (u : Int) ∧ (u : Int) < 6 then 113 else mv_bad) (ls' := [mv_R 100, mv_I s, mv_L (sp_lot s (c + 1)), mv_U, mv_I (c : Int), mv_I (-1), mv_I (u : Int)]) (st' := [mv_I (M 135 u), mv_I (u : Int), mv_R 135]) (M1 := M) rfl ?_
        refine mv_tt' (by omega) ?_
        rw [show M 135 u = sp_dc V s c u from by exact hcu]
        refine mv_go' 3 (pc' := if 0 ≤ (u : Int) ∧ (u : Int) < 6 then 116 else mv_bad) (ls' := [mv_R 100, mv_I s, mv_L (sp_lot s (c + 1)), mv_U, mv_I (c : Int), mv_I (-1), mv_I (u : Int)]) (st' := []) (M1 := (mv_st M 135 (mv_up (M 135) u (mv_w ((sp_dc V s c u) + 1))))) rfl ?_
        refine mv_tt' (by omega) ?_
        refine mv_go' 5 (pc' := 125) (ls' := [mv_R 100, mv_I s, mv_L (sp_lot s (c + 1)), mv_U, mv_I (c : Int), mv_I (u : Int), mv_I (u : Int)]) (st' := [mv_I (M 100 39), mv_R 100]) (M1 := (mv_st M 135 (mv_up (M 135) u (mv_w ((sp_dc V s c u) + 1))))) rfl ?_
        rw [show M 100 39 = sp_rs (sp_suits V P) (sp_dr V s) c from by exact hrs]
        refine mv_go' 7 (pc' := 137) (ls' := [mv_R 100, mv_I s, mv_L (sp_lot s (c + 1)), mv_U, mv_I (c : Int), mv_I (u : Int), mv_I (u : Int)]) (st' := [mv_I (mv_w ((mv_w (6 * (c : Int))) + (u : Int))), mv_R 133, mv_I (sp_rs (sp_suits V P) (sp_dr V s) c), mv_R 100]) (M1 := (mv_st M 135 (mv_up (M 135) u (mv_w ((sp_dc V s c u) + 1))))) rfl ?_
        rw [show mv_w ((mv_w (6 * (c : Int))) + (u : Int)) = ((6 * c + u : Nat) : Int) from by (rw [show mv_w (6 * (c : Int)) = 6 * (c : Int) from mv_w_id (by omega) (by omega), show mv_w ((6 * (c : Int)) + (u : Int)) = (6 * (c : Int)) + (u : Int) from mv_w_id (by omega) (by omega)]) <;> omega]
        refine mv_go' 1 (pc' := if 0 ≤ ((6 * c + u : Nat) : Int) ∧ ((6 * c + u : Nat) : Int) < 36 then 138 else mv_bad) (ls' := [mv_R 100, mv_I s, mv_L (sp_lot s (c + 1)), mv_U, mv_I (c : Int), mv_I (u : Int), mv_I (u : Int)]) (st' := [mv_I (M 133 (6 * c + u)), mv_I (sp_rs (sp_suits V P) (sp_dr V s) c), mv_R 100]) (M1 := (mv_st M 135 (mv_up (M 135) u (mv_w ((sp_dc V s c u) + 1))))) rfl ?_
        refine mv_tt' (by omega) ?_
        rw [show M 133 (6 * c + u) = sp_suits V P c u from by exact hsu]
        refine mv_go' 1 (pc' := 139) (ls' := [mv_R 100, mv_I s, mv_L (sp_lot s (c + 1)), mv_U, mv_I (c : Int), mv_I (u : Int), mv_I (u : Int)]) (st' := [mv_I (mv_w ((sp_rs (sp_suits V P) (sp_dr V s) c) + (sp_suits V P c u))), mv_R 100]) (M1 := (mv_st M 135 (mv_up (M 135) u (mv_w ((sp_dc V s c u) + 1))))) rfl ?_
        rw [show mv_w ((sp_rs (sp_suits V P) (sp_dr V s) c) + (sp_suits V P c u)) = (sp_rs (sp_suits V P) (sp_dr V s) c) + (sp_suits V P c u) from mv_w_id (by omega) (by omega)]
        rw [show mv_w ((sp_dc V s c u) + 1) = (sp_dc V s c u) + 1 from mv_w_id (by omega) (by omega)]
        refine mv_go' 5 (pc' := 149) (ls' := [mv_R 100, mv_I s, mv_L (sp_lot s (c + 1)), mv_U, mv_I (c : Int), mv_I (u : Int), mv_I (u : Int)]) (st' := [mv_I (M 100 38), mv_I 10, mv_R 100]) (M1 := (mv_st (mv_st M 135 (mv_up (M 135) u ((sp_dc V s c u) + 1))) 100 (mv_up (M 100) 39 ((sp_rs (sp_suits V P) (sp_dr V s) c) + (sp_suits V P c u))))) rfl ?_
        rw [show M 100 38 = sp_rd (sp_dr V s) c from by exact hrd]
        refine mv_go' 5 (pc' := 155) (ls' := [mv_R 100, mv_I s, mv_L (sp_lot s (c + 1)), mv_U, mv_I (c : Int), mv_I (u : Int), mv_I (u : Int)]) (st' := [mv_I (mv_w ((mv_w ((mv_w (10 * (sp_rd (sp_dr V s) c))) + (u : Int))) + 1)), mv_R 100]) (M1 := (mv_st (mv_st M 135 (mv_up (M 135) u ((sp_dc V s c u) + 1))) 100 (mv_up (M 100) 39 ((sp_rs (sp_suits V P) (sp_dr V s) c) + (sp_suits V P c u))))) rfl ?_
        rw [show mv_w (10 * (sp_rd (sp_dr V s) c)) = 10 * (sp_rd (sp_dr V s) c) from mv_w_id (by omega) (by omega)]
        rw [show mv_w ((10 * (sp_rd (sp_dr V s) c)) + (u : Int)) = (10 * (sp_rd (sp_dr V s) c)) + (u : Int) from mv_w_id (by omega) (by omega)]
        rw [show mv_w (((10 * (sp_rd (sp_dr V s) c)) + (u : Int)) + 1) = ((10 * (sp_rd (sp_dr V s) c)) + (u : Int)) + 1 from mv_w_id (by omega) (by omega)]
        refine mv_go' 3 (pc' := 44) (ls' := [mv_R 100, mv_I s, mv_L (sp_lot s (c + 1)), mv_U, mv_I (mv_w ((c : Int) + 1)), mv_I (u : Int), mv_I (u : Int)]) (st' := []) (M1 := (mv_st (mv_st (mv_st M 135 (mv_up (M 135) u ((sp_dc V s c u) + 1))) 100 (mv_up (M 100) 39 ((sp_rs (sp_suits V P) (sp_dr V s) c) + (sp_suits V P c u)))) 100 (mv_up (mv_up (M 100) 39 ((sp_rs (sp_suits V P) (sp_dr V s) c) + (sp_suits V P c u))) 38 (((10 * (sp_rd (sp_dr V s) c)) + (u : Int)) + 1)))) rfl ?_
        rw [show mv_w ((c : Int) + 1) = (c : Int) + 1 from mv_w_id (by omega) (by omega)]
        rw [show (c : Int) + 1 = ((c + 1 : Nat) : Int) from by omega]
        refine ih (c + 1) _ _ _ (by omega) ?_ (fun j j1 j2 => ?_) (fun j hj => ?_) ?_ ?_ rfl rfl
        · repeat (first | exact hag | refine mv_ag.st ?_ (by decide))
        · exact (mv_up_n _ _ j1).trans ((mv_up_n _ _ j2).trans (h100 j j1 j2))
        · show mv_up (M 135) u (sp_dc V s c u + 1) j = _
          rw [hdc]
          exact sp_up_c (hcnt j hj)
        · show ((10 * (sp_rd (sp_dr V s) c)) + (u : Int)) + 1 = _
          rw [erd]
          try omega
        · show (sp_rs (sp_suits V P) (sp_dr V s) c) + (sp_suits V P c u) = _
          rw [ers]
      · rw [if_neg hq] at hdr hdc
        have ers : sp_rs (sp_suits V P) (sp_dr V s) (c + 1) = sp_rs (sp_suits V P) (sp_dr V s) c := by simp only [sp_rs]; rw [hdr, if_pos rfl]; omega
        have erd : sp_rd (sp_dr V s) (c + 1) = 10 * sp_rd (sp_dr V s) c := by simp only [sp_rd]; rw [hdr]; omega
        refine mv_go' 3 (pc' := 50) (ls' := [mv_R 100, mv_I s, mv_L (sp_lot s c), mv_U, mv_I (c : Int), l5, l6]) (st' := [mv_I (M 100 0), mv_I (c : Int)]) (M1 := M) rfl ?_
        rw [show M 100 0 = V 0 8 from by exact e8]
        refine mv_go' 1 (pc' := if (c : Int) < (V 0 8) then 53 else 164) (ls' := [mv_R 100, mv_I s, mv_L (sp_lot s c), mv_U, mv_I (c : Int), l5, l6]) (st' := []) (M1 := M) rfl ?_
        refine mv_tt' (by omega) ?_
        refine mv_go' 7 (pc' := if 2147483647 = 0 then mv_bad else 65) (ls' := [mv_R 100, mv_I s, mv_L (sp_lot s c), mv_U, mv_I (c : Int), mv_I (-1), l6]) (st' := [mv_L (mv_wl ((mv_wl ((sp_lot s c) * 48271)).tmod 2147483647))]) (M1 := M) rfl ?_
        refine mv_ff' (by omega) ?_
        rw [show mv_wl ((mv_wl ((sp_lot s c) * 48271)).tmod 2147483647) = sp_lot s (c + 1) from by exact hw1]
        refine mv_go' 3 (pc' := 70) (ls' := [mv_R 100, mv_I s, mv_L (sp_lot s (c + 1)), mv_U, mv_I (c : Int), mv_I (-1), l6]) (st' := [mv_I (M 100 1)]) (M1 := M) rfl ?_
        rw [show M 100 1 = V 0 9 from by exact e9]
        refine mv_go' 1 (pc' := if 0 < (V 0 9) then 73 else 142) (ls' := [mv_R 100, mv_I s, mv_L (sp_lot s (c + 1)), mv_U, mv_I (c : Int), mv_I (-1), l6]) (st' := []) (M1 := M) rfl ?_
        refine mv_tt' (by omega) ?_
        refine mv_go' 3 (pc' := 78) (ls' := [mv_R 100, mv_I s, mv_L (sp_lot s (c + 1)), mv_U, mv_I (c : Int), mv_I (-1), l6]) (st' := [mv_I (M 100 1), mv_L (sp_lot s (c + 1))]) (M1 := M) rfl ?_
        rw [show M 100 1 = V 0 9 from by exact e9]
        refine mv_go' 2 (pc' := if (V 0 9) = 0 then mv_bad else 80) (ls' := [mv_R 100, mv_I s, mv_L (sp_lot s (c + 1)), mv_U, mv_I (c : Int), mv_I (-1), l6]) (st' := [mv_L (mv_wl ((sp_lot s (c + 1)).tmod (V 0 9)))]) (M1 := M) rfl ?_
        refine mv_ff' (by omega) ?_
        refine mv_go' 1 (pc' := 81) (ls' := [mv_R 100, mv_I s, mv_L (sp_lot s (c + 1)), mv_U, mv_I (c : Int), mv_I (-1), l6]) (st' := [mv_I (mv_w (mv_wl ((sp_lot s (c + 1)).tmod (V 0 9))))]) (M1 := M) rfl ?_
        rw [show mv_w (mv_wl ((sp_lot s (c + 1)).tmod (V 0 9))) = (u : Int) from by exact hw2]
        refine mv_go' 2 (pc' := 83) (ls' := [mv_R 100, mv_I s, mv_L (sp_lot s (c + 1)), mv_U, mv_I (c : Int), mv_I (-1), l6]) (st' := [mv_I 5, mv_I 0, mv_I (u : Int)]) (M1 := M) rfl ?_
        refine mv_callP (st2 := [mv_I (u : Int)]) rfl (Or.inr rfl) rfl rfl rfl ((mv_Ru.val sp_mwithin (congrArg mv_I (sp_cl_id (by omega) (by omega))))) (by first | decide | omega) ?_
        refine mv_go' 5 (pc' := if 0 ≤ (u : Int) ∧ (u : Int) < 6 then 95 else mv_bad) (ls' := [mv_R 100, mv_I s, mv_L (sp_lot s (c + 1)), mv_U, mv_I (c : Int), mv_I (-1), mv_I (u : Int)]) (st' := [mv_I (M 135 u)]) (M1 := M) rfl ?_
        refine mv_tt' (by omega) ?_
        rw [show M 135 u = sp_dc V s c u from by exact hcu]
        refine mv_go' 4 (pc' := if 0 ≤ (u : Int) ∧ (u : Int) < 6 then 102 else mv_bad) (ls' := [mv_R 100, mv_I s, mv_L (sp_lot s (c + 1)), mv_U, mv_I (c : Int), mv_I (-1), mv_I (u : Int)]) (st' := [mv_I (M 134 u), mv_I (sp_dc V s c u)]) (M1 := M) rfl ?_
        refine mv_tt' (by omega) ?_
        rw [show M 134 u = sp_room V u from by exact hru]
        refine mv_go' 1 (pc' := if (sp_dc V s c u) < (sp_room V u) then 105 else 142) (ls' := [mv_R 100, mv_I s, mv_L (sp_lot s (c + 1)), mv_U, mv_I (c : Int), mv_I (-1), mv_I (u : Int)]) (st' := []) (M1 := M) rfl ?_
        refine mv_ff' (by omega) ?_
        refine mv_go' 4 (pc' := 149) (ls' := [mv_R 100, mv_I s, mv_L (sp_lot s (c + 1)), mv_U, mv_I (c : Int), mv_I (-1), mv_I (u : Int)]) (st' := [mv_I (M 100 38), mv_I 10, mv_R 100]) (M1 := M) rfl ?_
        rw [show M 100 38 = sp_rd (sp_dr V s) c from by exact hrd]
        refine mv_go' 5 (pc' := 155) (ls' := [mv_R 100, mv_I s, mv_L (sp_lot s (c + 1)), mv_U, mv_I (c : Int), mv_I (-1), mv_I (u : Int)]) (st' := [mv_I (mv_w ((mv_w ((mv_w (10 * (sp_rd (sp_dr V s) c))) + (-1))) + 1)), mv_R 100]) (M1 := M) rfl ?_
        rw [show mv_w (10 * (sp_rd (sp_dr V s) c)) = 10 * (sp_rd (sp_dr V s) c) from mv_w_id (by omega) (by omega)]
        rw [show mv_w ((10 * (sp_rd (sp_dr V s) c)) + (-1)) = (10 * (sp_rd (sp_dr V s) c)) + (-1) from mv_w_id (by omega) (by omega)]
        rw [show mv_w (((10 * (sp_rd (sp_dr V s) c)) + (-1)) + 1) = ((10 * (sp_rd (sp_dr V s) c)) + (-1)) + 1 from mv_w_id (by omega) (by omega)]
        refine mv_go' 3 (pc' := 44) (ls' := [mv_R 100, mv_I s, mv_L (sp_lot s (c + 1)), mv_U, mv_I (mv_w ((c : Int) + 1)), mv_I (-1), mv_I (u : Int)]) (st' := []) (M1 := (mv_st M 100 (mv_up (M 100) 38 (((10 * (sp_rd (sp_dr V s) c)) + (-1)) + 1)))) rfl ?_
        rw [show mv_w ((c : Int) + 1) = (c : Int) + 1 from mv_w_id (by omega) (by omega)]
        rw [show (c : Int) + 1 = ((c + 1 : Nat) : Int) from by omega]
        refine ih (c + 1) _ _ _ (by omega) ?_ (fun j j1 j2 => ?_) (fun j hj => ?_) ?_ ?_ rfl rfl
        · repeat (first | exact hag | refine mv_ag.st ?_ (by decide))
        · exact (mv_up_n _ _ j1).trans (h100 j j1 j2)
        · rw [hdc]; exact hcnt j hj
        · show ((10 * (sp_rd (sp_dr V s) c)) + (-1)) + 1 = _
          rw [erd]
          try omega
        · show M 100 39 = _
          rw [ers]; exact hrs
    · have hdr : sp_dr V s c = -1 := if_pos (by omega)
      have ers : sp_rs (sp_suits V P) (sp_dr V s) (c + 1) = sp_rs (sp_suits V P) (sp_dr V s) c := by simp only [sp_rs]; rw [hdr, if_pos rfl]; omega
      have erd : sp_rd (sp_dr V s) (c + 1) = 10 * sp_rd (sp_dr V s) c := by simp only [sp_rd]; rw [hdr]; omega
      refine mv_go' 3 (pc' := 50) (ls' := [mv_R 100, mv_I s, mv_L (sp_lot s c), mv_U, mv_I (c : Int), l5, l6]) (st' := [mv_I (M 100 0), mv_I (c : Int)]) (M1 := M) rfl ?_
      rw [show M 100 0 = V 0 8 from by exact e8]
      refine mv_go' 1 (pc' := if (c : Int) < (V 0 8) then 53 else 164) (ls' := [mv_R 100, mv_I s, mv_L (sp_lot s c), mv_U, mv_I (c : Int), l5, l6]) (st' := []) (M1 := M) rfl ?_
      refine mv_tt' (by omega) ?_
      refine mv_go' 7 (pc' := if 2147483647 = 0 then mv_bad else 65) (ls' := [mv_R 100, mv_I s, mv_L (sp_lot s c), mv_U, mv_I (c : Int), mv_I (-1), l6]) (st' := [mv_L (mv_wl ((mv_wl ((sp_lot s c) * 48271)).tmod 2147483647))]) (M1 := M) rfl ?_
      refine mv_ff' (by omega) ?_
      rw [show mv_wl ((mv_wl ((sp_lot s c) * 48271)).tmod 2147483647) = sp_lot s (c + 1) from by exact hw1]
      refine mv_go' 3 (pc' := 70) (ls' := [mv_R 100, mv_I s, mv_L (sp_lot s (c + 1)), mv_U, mv_I (c : Int), mv_I (-1), l6]) (st' := [mv_I (M 100 1)]) (M1 := M) rfl ?_
      rw [show M 100 1 = V 0 9 from by exact e9]
      refine mv_go' 1 (pc' := if 0 < (V 0 9) then 73 else 142) (ls' := [mv_R 100, mv_I s, mv_L (sp_lot s (c + 1)), mv_U, mv_I (c : Int), mv_I (-1), l6]) (st' := []) (M1 := M) rfl ?_
      refine mv_ff' (by omega) ?_
      refine mv_go' 4 (pc' := 149) (ls' := [mv_R 100, mv_I s, mv_L (sp_lot s (c + 1)), mv_U, mv_I (c : Int), mv_I (-1), l6]) (st' := [mv_I (M 100 38), mv_I 10, mv_R 100]) (M1 := M) rfl ?_
      rw [show M 100 38 = sp_rd (sp_dr V s) c from by exact hrd]
      refine mv_go' 5 (pc' := 155) (ls' := [mv_R 100, mv_I s, mv_L (sp_lot s (c + 1)), mv_U, mv_I (c : Int), mv_I (-1), l6]) (st' := [mv_I (mv_w ((mv_w ((mv_w (10 * (sp_rd (sp_dr V s) c))) + (-1))) + 1)), mv_R 100]) (M1 := M) rfl ?_
      rw [show mv_w (10 * (sp_rd (sp_dr V s) c)) = 10 * (sp_rd (sp_dr V s) c) from mv_w_id (by omega) (by omega)]
      rw [show mv_w ((10 * (sp_rd (sp_dr V s) c)) + (-1)) = (10 * (sp_rd (sp_dr V s) c)) + (-1) from mv_w_id (by omega) (by omega)]
      rw [show mv_w (((10 * (sp_rd (sp_dr V s) c)) + (-1)) + 1) = ((10 * (sp_rd (sp_dr V s) c)) + (-1)) + 1 from mv_w_id (by omega) (by omega)]
      refine mv_go' 3 (pc' := 44) (ls' := [mv_R 100, mv_I s, mv_L (sp_lot s (c + 1)), mv_U, mv_I (mv_w ((c : Int) + 1)), mv_I (-1), l6]) (st' := []) (M1 := (mv_st M 100 (mv_up (M 100) 38 (((10 * (sp_rd (sp_dr V s) c)) + (-1)) + 1)))) rfl ?_
      rw [show mv_w ((c : Int) + 1) = (c : Int) + 1 from mv_w_id (by omega) (by omega)]
      rw [show (c : Int) + 1 = ((c + 1 : Nat) : Int) from by omega]
      refine ih (c + 1) _ _ _ (by omega) ?_ (fun j j1 j2 => ?_) (fun j hj => absurd hj (by omega)) ?_ ?_ rfl h6
      · repeat (first | exact hag | refine mv_ag.st ?_ (by decide))
      · exact (mv_up_n _ _ j1).trans (h100 j j1 j2)
      · show ((10 * (sp_rd (sp_dr V s) c)) + (-1)) + 1 = _
        rw [erd]
        try omega
      · show M 100 39 = _
        rw [ers]; exact hrs
theorem sp_mli {V M0 : mv_M} {P : Nat → Nat → List Int} {s : Int} (hm : sp_m M0 V) (ho : sp_ok V) (ht : sp_tmm V P M0) (h0 : 0 ≤ s) (h1 : s ≤ 200000) :
    mv_Ru 2 181 0 [mv_R 100, mv_I s, mv_U, mv_U, mv_U, mv_U, mv_U] [] M0 mv_U (fun M1 => (mv_ag [100, 135] M0 M1 ∧ ∀ j, j ≠ 38 → j ≠ 39 → M1 100 j = M0 100 j) ∧ M1 100 38 = sp_rd (sp_dr V s) (V 0 8).toNat ∧ M1 100 39 = sp_rs (sp_suits V P) (sp_dr V s) (V 0 8).toNat) := by
  have h8 := sp_ok_s8 ho
  have h96 := sp_ok_s9 ho
  refine mv_go' 13 (pc' := 18) (ls' := [mv_R 100, mv_I s, mv_L (mv_wl (s + 1)), mv_U, mv_I 0, mv_U, mv_U]) (st' := []) (M1 := (mv_st (mv_st M0 100 (mv_up (M0 100) 38 0)) 100 (mv_up (mv_up (M0 100) 38 0) 39 0))) rfl ?_
  rw [show mv_wl (s + 1) = s + 1 from mv_wl_id (by omega) (by omega)]
  obtain ⟨MX, eX⟩ : ∃ MX, MX = (mv_st (mv_st M0 100 (mv_up (M0 100) 38 0)) 100 (mv_up (mv_up (M0 100) 38 0) 39 0)) := ⟨_, rfl⟩
  have a1 : mv_ag [100] M0 MX := by rw [eX]; repeat (first | exact mv_ag.rf | refine mv_ag.st ?_ (by decide))
  have a2 : ∀ j, j ≠ 38 → j ≠ 39 → MX 100 j = M0 100 j := fun j j1 j2 => by rw [eX]; exact (mv_up_n _ _ j2).trans (mv_up_n _ _ j1)
  have a3 : MX 100 38 = 0 := by rw [eX]; rfl
  have a4 : MX 100 39 = 0 := by rw [eX]; rfl
  rw [← eX]
  refine mv_eqs (ls2 := [mv_R 100, mv_I s, mv_L (sp_lot s 0), mv_U, mv_I ((0 : Nat) : Int), mv_U, mv_U]) (by rw [show s + 1 = sp_lot s 0 from by simp only [sp_lot]]; rfl) rfl rfl ?_
  refine sp_mli1 (M0 := MX) (U := V 0 9) h96 rfl rfl (by rw [a2 1 (by decide) (by decide), sp_m_s9 hm]) (V 0 9).toNat 0 MX (by omega) mv_ag.rf (fun j hj => absurd hj (by omega)) (fun k M2 q1 q2 => ?_)
  refine mv_go' 2 (pc' := 44) (ls' := [mv_R 100, mv_I s, mv_L (sp_lot s 0), mv_U, mv_I 0, mv_U, mv_U]) (st' := []) (M1 := M2) rfl ?_
  have e100 : M2 100 = MX 100 := q1 100 (by decide)
  exact sp_mli2 (d := 1) (P := P) hm ho ht h0 h1 (V 0 8).toNat 0 M2 mv_U mv_U (by omega) ((a1.wd (by decide)).tr (q1.wd (by decide))) (fun j j1 j2 => by rw [e100]; exact a2 j j1 j2) (fun j hj => q2 j hj) (by rw [e100]; exact a3) (by rw [e100]; exact a4) rfl rfl
