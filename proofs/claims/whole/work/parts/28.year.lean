/-! a year, the class: easeNeed, passYear -/
def sp_y1 (V : mv_M) (P : Nat → Nat → List Int) (c : Nat) : mv_M :=
  if V 2 c = -1 then V else sp_tire (if 0 < sp_suits V P c (V 2 c).toNat then sp_ease V c else V) P (V 2 c).toNat
def sp_yn (V : mv_M) (P : Nat → Nat → List Int) : Nat → mv_M
  | 0 => V
  | c + 1 => sp_y1 (sp_yn V P c) P c
def sp_year (V : mv_M) (P : Nat → Nat → List Int) : mv_M := mv_st (sp_yn V P (V 0 8).toNat) 0 (mv_up (V 0) 10 (V 0 10 + 1))
/-- of these rows a year changes none -/
theorem sp_tire_r (V : mv_M) (P : Nat → Nat → List Int) (u : Nat) : sp_tire V P u 0 = V 0 ∧ sp_tire V P u 2 = V 2 ∧ sp_tire V P u 4 = V 4 ∧ sp_tire V P u 5 = V 5 := ⟨rfl, rfl, rfl, rfl⟩
theorem sp_y1_r (V : mv_M) (P : Nat → Nat → List Int) (c : Nat) : sp_y1 V P c 0 = V 0 ∧ sp_y1 V P c 2 = V 2 ∧ sp_y1 V P c 4 = V 4 ∧ sp_y1 V P c 5 = V 5 := by
  unfold sp_y1
  split
  · exact ⟨rfl, rfl, rfl, rfl⟩
  · split
    · exact ⟨rfl, rfl, rfl, rfl⟩
    · exact ⟨rfl, rfl, rfl, rfl⟩
theorem sp_yn_r (V : mv_M) (P : Nat → Nat → List Int) : ∀ c : Nat, sp_yn V P c 0 = V 0 ∧ sp_yn V P c 2 = V 2 ∧ sp_yn V P c 4 = V 4 ∧ sp_yn V P c 5 = V 5
  | 0 => ⟨rfl, rfl, rfl, rfl⟩
  | c + 1 => by
    have h1 := sp_yn_r V P c
    have h2 := sp_y1_r (sp_yn V P c) P c
    exact ⟨h2.1.trans h1.1, h2.2.1.trans h1.2.1, h2.2.2.1.trans h1.2.2.1, h2.2.2.2.trans h1.2.2.2⟩
theorem sp_ok_y1 {V : mv_M} (P : Nat → Nat → List Int) (h : sp_ok V) {c : Nat} (hc : (c : Int) < V 0 8) : sp_ok (sp_y1 V P c) := by
  have h8 := sp_ok_s8 h
  have h9 := sp_ok_s9 h
  have h2 := sp_ok_2 h c hc
  unfold sp_y1
  split
  · exact h
  · split
    · exact sp_ok_tire P (sp_ok_ease h (by omega)) (by omega)
    · exact sp_ok_tire P h (by omega)
theorem sp_ok_yn {V : mv_M} (P : Nat → Nat → List Int) (h : sp_ok V) : ∀ c : Nat, (c : Int) ≤ V 0 8 → sp_ok (sp_yn V P c)
  | 0, _ => h
  | c + 1, hc => sp_ok_y1 P (sp_ok_yn P h c (by omega)) (by rw [(sp_yn_r V P c).1]; omega)
theorem sp_ok_year {V : mv_M} (P : Nat → Nat → List Int) (h : sp_ok V) (hy : V 0 10 < 200) : sp_ok (sp_year V P) := by
  have h8 := sp_ok_s8 h
  have h10 := sp_ok_s10 h
  have h1 := sp_ok_yn P h (V 0 8).toNat (by omega)
  have hr := sp_yn_r V P (V 0 8).toNat
  unfold sp_ok at h1
  rw [hr.1] at h1
  exact ⟨h1.1, h1.2.1, ⟨by show 0 ≤ V 0 10 + 1; omega, by show V 0 10 + 1 ≤ 200; omega⟩, h1.2.2.2⟩
theorem sp_cgr_30 {V M : mv_M} {c g i d : Nat} {v : mv_V} {Q : mv_M → Prop} (hV : sp_c 30 M V) (ho : sp_ok V) (hc : c < 6) (hg : g ≤ 3) (hi : i ≤ 3)
    (e : mv_Ru d 59 8 [mv_R 30, mv_I (c : Int), mv_I ((4 * c + (if V 1 (4 * c + g) < V 1 (4 * c + i) then i else g) : Nat) : Int), mv_I ((4 * c + i + 1 : Nat) : Int)] [] M v Q) :
    mv_Ru d 59 8 [mv_R 30, mv_I (c : Int), mv_I ((4 * c + g : Nat) : Int), mv_I ((4 * c + i : Nat) : Int)] [] M v Q := by
  refine mv_go' 7 (pc' := if ((4 * c + i : Nat) : Int) < (mv_w ((mv_w ((c : Int) * 4)) + 4)) then 17 else 40) (ls' := [mv_R 30, mv_I (c : Int), mv_I ((4 * c + g : Nat) : Int), mv_I ((4 * c + i : Nat) : Int)]) (st' := []) (M1 := M) rfl ?_
  rw [show mv_w ((c : Int) * 4) = (c : Int) * 4 from mv_w_id (by omega) (by omega)]
  rw [show mv_w (((c : Int) * 4) + 4) = ((c : Int) * 4) + 4 from mv_w_id (by omega) (by omega)]
  refine mv_tt' (by omega) ?_
  refine mv_go' 4 (pc' := if 0 ≤ ((4 * c + i : Nat) : Int) ∧ ((4 * c + i : Nat) : Int) < 24 then 23 else mv_bad) (ls' := [mv_R 30, mv_I (c : Int), mv_I ((4 * c + g : Nat) : Int), mv_I ((4 * c + i : Nat) : Int)]) (st' := [mv_I (M 31 (4 * c + i))]) (M1 := M) rfl ?_
  refine mv_tt' (by omega) ?_
  have hr1 := sp_ok_1 ho (4 * c + i) (by omega)
  rw [show M 31 (4 * c + i) = V 1 (4 * c + i) from by exact sp_c_1 hV (4 * c + i) (by omega)]
  refine mv_go' 4 (pc' := if 0 ≤ ((4 * c + g : Nat) : Int) ∧ ((4 * c + g : Nat) : Int) < 24 then 29 else mv_bad) (ls' := [mv_R 30, mv_I (c : Int), mv_I ((4 * c + g : Nat) : Int), mv_I ((4 * c + i : Nat) : Int)]) (st' := [mv_I (M 31 (4 * c + g)), mv_I (V 1 (4 * c + i))]) (M1 := M) rfl ?_
  refine mv_tt' (by omega) ?_
  have hr3 := sp_ok_1 ho (4 * c + g) (by omega)
  rw [show M 31 (4 * c + g) = V 1 (4 * c + g) from by exact sp_c_1 hV (4 * c + g) (by omega)]
  refine mv_go' 1 (pc' := if (V 1 (4 * c + g)) < (V 1 (4 * c + i)) then 32 else 34) (ls' := [mv_R 30, mv_I (c : Int), mv_I ((4 * c + g : Nat) : Int), mv_I ((4 * c + i : Nat) : Int)]) (st' := []) (M1 := M) rfl ?_
  refine mv_sp' (fun h => ?_) (fun h => ?_)
  · refine mv_go' 4 (pc' := 8) (ls' := [mv_R 30, mv_I (c : Int), mv_I ((4 * c + i : Nat) : Int), mv_I (mv_w (((4 * c + i : Nat) : Int) + 1))]) (st' := []) (M1 := M) rfl ?_
    rw [show mv_w (((4 * c + i : Nat) : Int) + 1) = ((4 * c + i + 1 : Nat) : Int) from by (rw [show mv_w (((4 * c + i : Nat) : Int) + 1) = ((4 * c + i : Nat) : Int) + 1 from mv_w_id (by omega) (by omega)]) <;> omega]
    rw [if_pos h] at e
    exact e
  · refine mv_go' 2 (pc' := 8) (ls' := [mv_R 30, mv_I (c : Int), mv_I ((4 * c + g : Nat) : Int), mv_I (mv_w (((4 * c + i : Nat) : Int) + 1))]) (st' := []) (M1 := M) rfl ?_
    rw [show mv_w (((4 * c + i : Nat) : Int) + 1) = ((4 * c + i + 1 : Nat) : Int) from by (rw [show mv_w (((4 * c + i : Nat) : Int) + 1) = ((4 * c + i : Nat) : Int) + 1 from mv_w_id (by omega) (by omega)]) <;> omega]
    rw [if_neg h] at e
    exact e
theorem sp_cease_30 {V M : mv_M} {c : Nat} (hV : sp_c 30 M V) (ho : sp_ok V) (hc : c < 6) :
    mv_Ru 0 59 0 [mv_R 30, mv_I (c : Int), mv_U, mv_U] [] M mv_U (fun M1 => mv_ag [31] M M1 ∧ sp_c 30 M1 (sp_ease V c)) := by
  have hg := sp_g3_b (V 1) c
  have hg1 : sp_g1 (V 1) c ≤ 3 := by unfold sp_g1; split <;> omega
  have hg2 : sp_g2 (V 1) c ≤ 3 := by unfold sp_g2; split <;> omega
  refine mv_go' 8 (pc' := 8) (ls' := [mv_R 30, mv_I (c : Int), mv_I (mv_w ((c : Int) * 4)), mv_I (mv_w ((mv_w ((c : Int) * 4)) + 1))]) (st' := []) (M1 := M) rfl ?_
  rw [show mv_w ((mv_w ((c : Int) * 4)) + 1) = ((4 * c + 1 : Nat) : Int) from by (rw [show mv_w ((c : Int) * 4) = (c : Int) * 4 from mv_w_id (by omega) (by omega), show mv_w (((c : Int) * 4) + 1) = ((c : Int) * 4) + 1 from mv_w_id (by omega) (by omega)]) <;> omega]
  rw [show mv_w ((c : Int) * 4) = ((4 * c + 0 : Nat) : Int) from by (rw [mv_w_id (by omega) (by omega)]); omega]
  refine sp_cgr_30 (g := 0) (i := 1) hV ho hc (by decide) (by decide) ?_
  refine sp_cgr_30 (g := sp_g1 (V 1) c) (i := 2) hV ho hc hg1 (by decide) ?_
  refine sp_cgr_30 (g := sp_g2 (V 1) c) (i := 3) hV ho hc hg2 (by decide) ?_
  obtain ⟨g, hgg⟩ : ∃ g, g = sp_g3 (V 1) c := ⟨_, rfl⟩
  refine mv_eqs (ls2 := [mv_R 30, mv_I (c : Int), mv_I ((4 * c + g : Nat) : Int), mv_I ((4 * c + 4 : Nat) : Int)]) (by rw [hgg]; rfl) rfl rfl ?_
  rw [← hgg] at hg
  refine mv_go' 7 (pc' := if ((4 * c + 4 : Nat) : Int) < (mv_w ((mv_w ((c : Int) * 4)) + 4)) then 17 else 40) (ls' := [mv_R 30, mv_I (c : Int), mv_I ((4 * c + g : Nat) : Int), mv_I ((4 * c + 4 : Nat) : Int)]) (st' := []) (M1 := M) rfl ?_
  rw [show mv_w ((c : Int) * 4) = (c : Int) * 4 from mv_w_id (by omega) (by omega)]
  rw [show mv_w (((c : Int) * 4) + 4) = ((c : Int) * 4) + 4 from mv_w_id (by omega) (by omega)]
  refine mv_ff' (by omega) ?_
  refine mv_go' 8 (pc' := if 0 ≤ ((4 * c + g : Nat) : Int) ∧ ((4 * c + g : Nat) : Int) < 24 then 52 else mv_bad) (ls' := [mv_R 30, mv_I (c : Int), mv_I ((4 * c + g : Nat) : Int), mv_I ((4 * c + 4 : Nat) : Int)]) (st' := [mv_I (M 31 (4 * c + g)), mv_I 0, mv_I ((4 * c + g : Nat) : Int), mv_R 31]) (M1 := M) rfl ?_
  refine mv_tt' (by omega) ?_
  have hr5 := sp_ok_1 ho (4 * c + g) (by omega)
  rw [show M 31 (4 * c + g) = V 1 (4 * c + g) from by exact sp_c_1 hV (4 * c + g) (by omega)]
  refine mv_go' 4 (pc' := if 0 ≤ ((4 * c + g : Nat) : Int) ∧ ((4 * c + g : Nat) : Int) < 24 then 58 else mv_bad) (ls' := [mv_R 30, mv_I (c : Int), mv_I ((4 * c + g : Nat) : Int), mv_I ((4 * c + 4 : Nat) : Int)]) (st' := []) (M1 := (mv_st M 31 (mv_up (M 31) (4 * c + g) (if 0 < (mv_w ((V 1 (4 * c + g)) - 1)) then (mv_w ((V 1 (4 * c + g)) - 1)) else 0)))) rfl ?_
  refine mv_tt' (by omega) ?_
  rw [show mv_w ((V 1 (4 * c + g)) - 1) = (V 1 (4 * c + g)) - 1 from mv_w_id (by omega) (by omega)]
  exact mv_ret (fun n => rfl) (⟨mv_ag.st mv_ag.rf (by decide), by unfold sp_ease; rw [← hgg]; exact sp_c_st1 hV⟩)
theorem sp_cgr_50 {V M : mv_M} {c g i d : Nat} {v : mv_V} {Q : mv_M → Prop} (hV : sp_c 50 M V) (ho : sp_ok V) (hc : c < 6) (hg : g ≤ 3) (hi : i ≤ 3)
    (e : mv_Ru d 59 8 [mv_R 50, mv_I (c : Int), mv_I ((4 * c + (if V 1 (4 * c + g) < V 1 (4 * c + i) then i else g) : Nat) : Int), mv_I ((4 * c + i + 1 : Nat) : Int)] [] M v Q) :
    mv_Ru d 59 8 [mv_R 50, mv_I (c : Int), mv_I ((4 * c + g : Nat) : Int), mv_I ((4 * c + i : Nat) : Int)] [] M v Q := by
  refine mv_go' 7 (pc' := if ((4 * c + i : Nat) : Int) < (mv_w ((mv_w ((c : Int) * 4)) + 4)) then 17 else 40) (ls' := [mv_R 50, mv_I (c : Int), mv_I ((4 * c + g : Nat) : Int), mv_I ((4 * c + i : Nat) : Int)]) (st' := []) (M1 := M) rfl ?_
  rw [show mv_w ((c : Int) * 4) = (c : Int) * 4 from mv_w_id (by omega) (by omega)]
  rw [show mv_w (((c : Int) * 4) + 4) = ((c : Int) * 4) + 4 from mv_w_id (by omega) (by omega)]
  refine mv_tt' (by omega) ?_
  refine mv_go' 4 (pc' := if 0 ≤ ((4 * c + i : Nat) : Int) ∧ ((4 * c + i : Nat) : Int) < 24 then 23 else mv_bad) (ls' := [mv_R 50, mv_I (c : Int), mv_I ((4 * c + g : Nat) : Int), mv_I ((4 * c + i : Nat) : Int)]) (st' := [mv_I (M 51 (4 * c + i))]) (M1 := M) rfl ?_
  refine mv_tt' (by omega) ?_
  have hr7 := sp_ok_1 ho (4 * c + i) (by omega)
  rw [show M 51 (4 * c + i) = V 1 (4 * c + i) from by exact sp_c_1 hV (4 * c + i) (by omega)]
  refine mv_go' 4 (pc' := if 0 ≤ ((4 * c + g : Nat) : Int) ∧ ((4 * c + g : Nat) : Int) < 24 then 29 else mv_bad) (ls' := [mv_R 50, mv_I (c : Int), mv_I ((4 * c + g : Nat) : Int), mv_I ((4 * c + i : Nat) : Int)]) (st' := [mv_I (M 51 (4 * c + g)), mv_I (V 1 (4 * c + i))]) (M1 := M) rfl ?_
  refine mv_tt' (by omega) ?_
  have hr9 := sp_ok_1 ho (4 * c + g) (by omega)
  rw [show M 51 (4 * c + g) = V 1 (4 * c + g) from by exact sp_c_1 hV (4 * c + g) (by omega)]
  refine mv_go' 1 (pc' := if (V 1 (4 * c + g)) < (V 1 (4 * c + i)) then 32 else 34) (ls' := [mv_R 50, mv_I (c : Int), mv_I ((4 * c + g : Nat) : Int), mv_I ((4 * c + i : Nat) : Int)]) (st' := []) (M1 := M) rfl ?_
  refine mv_sp' (fun h => ?_) (fun h => ?_)
  · refine mv_go' 4 (pc' := 8) (ls' := [mv_R 50, mv_I (c : Int), mv_I ((4 * c + i : Nat) : Int), mv_I (mv_w (((4 * c + i : Nat) : Int) + 1))]) (st' := []) (M1 := M) rfl ?_
    rw [show mv_w (((4 * c + i : Nat) : Int) + 1) = ((4 * c + i + 1 : Nat) : Int) from by (rw [show mv_w (((4 * c + i : Nat) : Int) + 1) = ((4 * c + i : Nat) : Int) + 1 from mv_w_id (by omega) (by omega)]) <;> omega]
    rw [if_pos h] at e
    exact e
  · refine mv_go' 2 (pc' := 8) (ls' := [mv_R 50, mv_I (c : Int), mv_I ((4 * c + g : Nat) : Int), mv_I (mv_w (((4 * c + i : Nat) : Int) + 1))]) (st' := []) (M1 := M) rfl ?_
    rw [show mv_w (((4 * c + i : Nat) : Int) + 1) = ((4 * c + i + 1 : Nat) : Int) from by (rw [show mv_w (((4 * c + i : Nat) : Int) + 1) = ((4 * c + i : Nat) : Int) + 1 from mv_w_id (by omega) (by omega)]) <;> omega]
    rw [if_neg h] at e
    exact e
theorem sp_cease_50 {V M : mv_M} {c : Nat} (hV : sp_c 50 M V) (ho : sp_ok V) (hc : c < 6) :
    mv_Ru 0 59 0 [mv_R 50, mv_I (c : Int), mv_U, mv_U] [] M mv_U (fun M1 => mv_ag [51] M M1 ∧ sp_c 50 M1 (sp_ease V c)) := by
  have hg := sp_g3_b (V 1) c
  have hg1 : sp_g1 (V 1) c ≤ 3 := by unfold sp_g1; split <;> omega
  have hg2 : sp_g2 (V 1) c ≤ 3 := by unfold sp_g2; split <;> omega
  refine mv_go' 8 (pc' := 8) (ls' := [mv_R 50, mv_I (c : Int), mv_I (mv_w ((c : Int) * 4)), mv_I (mv_w ((mv_w ((c : Int) * 4)) + 1))]) (st' := []) (M1 := M) rfl ?_
  rw [show mv_w ((mv_w ((c : Int) * 4)) + 1) = ((4 * c + 1 : Nat) : Int) from by (rw [show mv_w ((c : Int) * 4) = (c : Int) * 4 from mv_w_id (by omega) (by omega), show mv_w (((c : Int) * 4) + 1) = ((c : Int) * 4) + 1 from mv_w_id (by omega) (by omega)]) <;> omega]
  rw [show mv_w ((c : Int) * 4) = ((4 * c + 0 : Nat) : Int) from by (rw [mv_w_id (by omega) (by omega)]); omega]
  refine sp_cgr_50 (g := 0) (i := 1) hV ho hc (by decide) (by decide) ?_
  refine sp_cgr_50 (g := sp_g1 (V 1) c) (i := 2) hV ho hc hg1 (by decide) ?_
  refine sp_cgr_50 (g := sp_g2 (V 1) c) (i := 3) hV ho hc hg2 (by decide) ?_
  obtain ⟨g, hgg⟩ : ∃ g, g = sp_g3 (V 1) c := ⟨_, rfl⟩
  refine mv_eqs (ls2 := [mv_R 50, mv_I (c : Int), mv_I ((4 * c + g : Nat) : Int), mv_I ((4 * c + 4 : Nat) : Int)]) (by rw [hgg]; rfl) rfl rfl ?_
  rw [← hgg] at hg
  refine mv_go' 7 (pc' := if ((4 * c + 4 : Nat) : Int) < (mv_w ((mv_w ((c : Int) * 4)) + 4)) then 17 else 40) (ls' := [mv_R 50, mv_I (c : Int), mv_I ((4 * c + g : Nat) : Int), mv_I ((4 * c + 4 : Nat) : Int)]) (st' := []) (M1 := M) rfl ?_
  rw [show mv_w ((c : Int) * 4) = (c : Int) * 4 from mv_w_id (by omega) (by omega)]
  rw [show mv_w (((c : Int) * 4) + 4) = ((c : Int) * 4) + 4 from mv_w_id (by omega) (by omega)]
  refine mv_ff' (by omega) ?_
  refine mv_go' 8 (pc' := if 0 ≤ ((4 * c + g : Nat) : Int) ∧ ((4 * c + g : Nat) : Int) < 24 then 52 else mv_bad) (ls' := [mv_R 50, mv_I (c : Int), mv_I ((4 * c + g : Nat) : Int), mv_I ((4 * c + 4 : Nat) : Int)]) (st' := [mv_I (M 51 (4 * c + g)), mv_I 0, mv_I ((4 * c + g : Nat) : Int), mv_R 51]) (M1 := M) rfl ?_
  refine mv_tt' (by omega) ?_
  have hr11 := sp_ok_1 ho (4 * c + g) (by omega)
  rw [show M 51 (4 * c + g) = V 1 (4 * c + g) from by exact sp_c_1 hV (4 * c + g) (by omega)]
  refine mv_go' 4 (pc' := if 0 ≤ ((4 * c + g : Nat) : Int) ∧ ((4 * c + g : Nat) : Int) < 24 then 58 else mv_bad) (ls' := [mv_R 50, mv_I (c : Int), mv_I ((4 * c + g : Nat) : Int), mv_I ((4 * c + 4 : Nat) : Int)]) (st' := []) (M1 := (mv_st M 51 (mv_up (M 51) (4 * c + g) (if 0 < (mv_w ((V 1 (4 * c + g)) - 1)) then (mv_w ((V 1 (4 * c + g)) - 1)) else 0)))) rfl ?_
  refine mv_tt' (by omega) ?_
  rw [show mv_w ((V 1 (4 * c + g)) - 1) = (V 1 (4 * c + g)) - 1 from mv_w_id (by omega) (by omega)]
  exact mv_ret (fun n => rfl) (⟨mv_ag.st mv_ag.rf (by decide), by unfold sp_ease; rw [← hgg]; exact sp_c_st1 hV⟩)
