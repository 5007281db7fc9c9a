/-! Ward.says -/
theorem sp_ct_ag {S : List Nat} {L : Nat} {M M1 : mv_M} {P : Nat → List Int} (h : sp_ct L M P) (ha : mv_ag S M M1) (hs : L + 1 ∉ S ∧ L + 2 ∉ S) : sp_ct L M1 P := by
  unfold sp_ct
  rw [ha _ hs.1, ha _ hs.2]
  exact h
theorem sp_ct_wf {L : Nat} {M : mv_M} {P : Nat → List Int} (h : sp_ct L M P) {p : Nat} (hp : p < 3) : sp_wf (P p) 0 := by
  match p, hp with
  | 0, _ => exact h.2.2.1.1
  | 1, _ => exact h.2.2.1.2.1
  | 2, _ => exact h.2.2.1.2.2
theorem sp_csays_30_0 {V M : mv_M} {P : Nat → Nat → List Int} {p u k : Nat} {need : Int} (hV : sp_c 30 M V) (ho : sp_ok V) (hl : V 0 11 = 0) (hP : sp_ct (10 + 3 * 0) M (P 0)) (hp : p < 3) (hu : (u : Int) < V 0 9) (hk : k < 4) :
    mv_Ru 2 49 0 [mv_R 30, mv_I (p : Int), mv_I (u : Int), mv_I (k : Int), mv_I need, mv_U, mv_U] [] M (mv_I (sp_says V P p u k need)) (fun M1 => mv_ag [36, 37] M M1) := by
  have h9 := sp_ok_s9 ho
  refine mv_go' 2 (pc' := 4) (ls' := [mv_R 30, mv_I (p : Int), mv_I (u : Int), mv_I (k : Int), mv_I need, mv_U, mv_U]) (st' := [mv_I (M 30 11)]) (M1 := M) rfl ?_
  have hr1 := sp_ok_s11 ho
  rw [show M 30 11 = V 0 11 from by exact sp_c_s11 hV]
  rw [show V 0 11 = 0 from by exact hl]
  refine mv_go' 1 (pc' := if 0 < 0 then 16 else 7) (ls' := [mv_R 30, mv_I (p : Int), mv_I (u : Int), mv_I (k : Int), mv_I need, mv_U, mv_U]) (st' := []) (M1 := M) rfl ?_
  refine mv_ff' (by decide) ?_
  refine mv_go' 2 (pc' := 11) (ls' := [mv_R 30, mv_I (p : Int), mv_I (u : Int), mv_I (k : Int), mv_I need, mv_U, mv_U]) (st' := [mv_I (M 30 11)]) (M1 := M) rfl ?_
  have hr3 := sp_ok_s11 ho
  rw [show M 30 11 = V 0 11 from by exact sp_c_s11 hV]
  rw [show V 0 11 = 0 from by exact hl]
  refine mv_go' 2 (pc' := if 0 < 6 then 20 else 16) (ls' := [mv_R 30, mv_I (p : Int), mv_I (u : Int), mv_I (k : Int), mv_I need, mv_U, mv_U]) (st' := []) (M1 := M) rfl ?_
  refine mv_tt' (by decide) ?_
  refine mv_go' 4 (pc' := 28) (ls' := [mv_R 30, mv_I (p : Int), mv_I (u : Int), mv_I (k : Int), mv_I need, mv_U, mv_U]) (st' := [mv_I (M 30 11), mv_R 1]) (M1 := M) rfl ?_
  have hr5 := sp_ok_s11 ho
  rw [show M 30 11 = V 0 11 from by exact sp_c_s11 hV]
  rw [show V 0 11 = 0 from by exact hl]
  refine mv_go' 1 (pc' := if 0 ≤ 0 ∧ 0 < 6 then 29 else mv_bad) (ls' := [mv_R 30, mv_I (p : Int), mv_I (u : Int), mv_I (k : Int), mv_I need, mv_U, mv_U]) (st' := [mv_R 10]) (M1 := M) rfl ?_
  refine mv_tt' (by first | omega | decide) ?_
  refine mv_go' 13 (pc' := 52) (ls' := [mv_R 30, mv_I (p : Int), mv_I (u : Int), mv_I (k : Int), mv_I need, mv_R 10, mv_U]) (st' := [mv_I (mv_w ((mv_w ((u : Int) * 4)) + (k : Int))), mv_R 33, mv_I 0, mv_R 36]) (M1 := M) rfl ?_
  rw [show mv_w ((mv_w ((u : Int) * 4)) + (k : Int)) = ((4 * u + k : Nat) : Int) from by (rw [show mv_w ((u : Int) * 4) = (u : Int) * 4 from mv_w_id (by omega) (by omega), show mv_w (((u : Int) * 4) + (k : Int)) = ((u : Int) * 4) + (k : Int) from mv_w_id (by omega) (by omega)]) <;> omega]
  refine mv_go' 1 (pc' := if 0 ≤ ((4 * u + k : Nat) : Int) ∧ ((4 * u + k : Nat) : Int) < 24 then 53 else mv_bad) (ls' := [mv_R 30, mv_I (p : Int), mv_I (u : Int), mv_I (k : Int), mv_I need, mv_R 10, mv_U]) (st' := [mv_I (M 33 (4 * u + k)), mv_I 0, mv_R 36]) (M1 := M) rfl ?_
  refine mv_tt' (by first | omega | decide) ?_
  have hr7 := sp_ok_3 ho (4 * u + k) (by omega)
  rw [show M 33 (4 * u + k) = V 3 (4 * u + k) from by exact sp_c_3 hV (4 * u + k) (by omega)]
  refine mv_go' 1 (pc' := if 0 ≤ 0 ∧ 0 < 6 then 54 else mv_bad) (ls' := [mv_R 30, mv_I (p : Int), mv_I (u : Int), mv_I (k : Int), mv_I need, mv_R 10, mv_U]) (st' := []) (M1 := (mv_st M 36 (mv_up (M 36) 0 (V 3 (4 * u + k))))) rfl ?_
  refine mv_tt' (by first | omega | decide) ?_
  refine mv_go' 5 (pc' := if 0 ≤ 1 ∧ 1 < 6 then 62 else mv_bad) (ls' := [mv_R 30, mv_I (p : Int), mv_I (u : Int), mv_I (k : Int), mv_I need, mv_R 10, mv_U]) (st' := []) (M1 := (mv_st (mv_st M 36 (mv_up (M 36) 0 (V 3 (4 * u + k)))) 36 (mv_up (mv_up (M 36) 0 (V 3 (4 * u + k))) 1 need))) rfl ?_
  refine mv_tt' (by first | omega | decide) ?_
  refine mv_go' 5 (pc' := if 0 ≤ 2 ∧ 2 < 6 then 69 else mv_bad) (ls' := [mv_R 30, mv_I (p : Int), mv_I (u : Int), mv_I (k : Int), mv_I need, mv_R 10, mv_U]) (st' := []) (M1 := (mv_st (mv_st (mv_st M 36 (mv_up (M 36) 0 (V 3 (4 * u + k)))) 36 (mv_up (mv_up (M 36) 0 (V 3 (4 * u + k))) 1 need)) 36 (mv_up (mv_up (mv_up (M 36) 0 (V 3 (4 * u + k))) 1 need) 2 (k : Int)))) rfl ?_
  refine mv_tt' (by first | omega | decide) ?_
  refine mv_go' 5 (pc' := 78) (ls' := [mv_R 30, mv_I (p : Int), mv_I (u : Int), mv_I (k : Int), mv_I need, mv_R 10, mv_U]) (st' := [mv_I (M 30 10), mv_I 3, mv_R 36]) (M1 := (mv_st (mv_st (mv_st M 36 (mv_up (M 36) 0 (V 3 (4 * u + k)))) 36 (mv_up (mv_up (M 36) 0 (V 3 (4 * u + k))) 1 need)) 36 (mv_up (mv_up (mv_up (M 36) 0 (V 3 (4 * u + k))) 1 need) 2 (k : Int)))) rfl ?_
  have hr9 := sp_ok_s10 ho
  rw [show M 30 10 = V 0 10 from by exact sp_c_s10 hV]
  refine mv_go' 1 (pc' := if 0 ≤ 3 ∧ 3 < 6 then 79 else mv_bad) (ls' := [mv_R 30, mv_I (p : Int), mv_I (u : Int), mv_I (k : Int), mv_I need, mv_R 10, mv_U]) (st' := []) (M1 := (mv_st (mv_st (mv_st (mv_st M 36 (mv_up (M 36) 0 (V 3 (4 * u + k)))) 36 (mv_up (mv_up (M 36) 0 (V 3 (4 * u + k))) 1 need)) 36 (mv_up (mv_up (mv_up (M 36) 0 (V 3 (4 * u + k))) 1 need) 2 (k : Int))) 36 (mv_up (mv_up (mv_up (mv_up (M 36) 0 (V 3 (4 * u + k))) 1 need) 2 (k : Int)) 3 (V 0 10)))) rfl ?_
  refine mv_tt' (by first | omega | decide) ?_
  refine mv_go' 5 (pc' := 86) (ls' := [mv_R 30, mv_I (p : Int), mv_I (u : Int), mv_I (k : Int), mv_I need, mv_R 10, mv_U]) (st' := [mv_I (u : Int), mv_R 30, mv_I 4, mv_R 36]) (M1 := (mv_st (mv_st (mv_st (mv_st M 36 (mv_up (M 36) 0 (V 3 (4 * u + k)))) 36 (mv_up (mv_up (M 36) 0 (V 3 (4 * u + k))) 1 need)) 36 (mv_up (mv_up (mv_up (M 36) 0 (V 3 (4 * u + k))) 1 need) 2 (k : Int))) 36 (mv_up (mv_up (mv_up (mv_up (M 36) 0 (V 3 (4 * u + k))) 1 need) 2 (k : Int)) 3 (V 0 10)))) rfl ?_
  have ha : mv_ag [36] M (mv_st (mv_st (mv_st (mv_st M 36 (mv_up (M 36) 0 (V 3 (4 * u + k)))) 36 (mv_up (mv_up (M 36) 0 (V 3 (4 * u + k))) 1 need)) 36 (mv_up (mv_up (mv_up (M 36) 0 (V 3 (4 * u + k))) 1 need) 2 (k : Int))) 36 (mv_up (mv_up (mv_up (mv_up (M 36) 0 (V 3 (4 * u + k))) 1 need) 2 (k : Int)) 3 (V 0 10))) := by repeat (first | exact mv_ag.rf | refine mv_ag.st ?_ (by decide))
  refine mv_callP (st2 := [mv_I (sp_hired V (u : Int)), mv_I 4, mv_R 36]) rfl (Or.inl rfl) rfl rfl rfl (sp_hired_30 (sp_c_ag hV ha (by decide)) ho) (by first | decide | omega) ?_
  refine mv_go' 1 (pc' := if 0 ≤ 4 ∧ 4 < 6 then 90 else mv_bad) (ls' := [mv_R 30, mv_I (p : Int), mv_I (u : Int), mv_I (k : Int), mv_I need, mv_R 10, mv_U]) (st' := []) (M1 := (mv_st (mv_st (mv_st (mv_st (mv_st M 36 (mv_up (M 36) 0 (V 3 (4 * u + k)))) 36 (mv_up (mv_up (M 36) 0 (V 3 (4 * u + k))) 1 need)) 36 (mv_up (mv_up (mv_up (M 36) 0 (V 3 (4 * u + k))) 1 need) 2 (k : Int))) 36 (mv_up (mv_up (mv_up (mv_up (M 36) 0 (V 3 (4 * u + k))) 1 need) 2 (k : Int)) 3 (V 0 10))) 36 (mv_up (mv_up (mv_up (mv_up (mv_up (M 36) 0 (V 3 (4 * u + k))) 1 need) 2 (k : Int)) 3 (V 0 10)) 4 (sp_hired V (u : Int))))) rfl ?_
  refine mv_tt' (by first | omega | decide) ?_
  refine mv_go' 7 (pc' := if 0 ≤ (u : Int) ∧ (u : Int) < 6 then 101 else mv_bad) (ls' := [mv_R 30, mv_I (p : Int), mv_I (u : Int), mv_I (k : Int), mv_I need, mv_R 10, mv_U]) (st' := [mv_I (M 35 u), mv_I 5, mv_R 36]) (M1 := (mv_st (mv_st (mv_st (mv_st (mv_st M 36 (mv_up (M 36) 0 (V 3 (4 * u + k)))) 36 (mv_up (mv_up (M 36) 0 (V 3 (4 * u + k))) 1 need)) 36 (mv_up (mv_up (mv_up (M 36) 0 (V 3 (4 * u + k))) 1 need) 2 (k : Int))) 36 (mv_up (mv_up (mv_up (mv_up (M 36) 0 (V 3 (4 * u + k))) 1 need) 2 (k : Int)) 3 (V 0 10))) 36 (mv_up (mv_up (mv_up (mv_up (mv_up (M 36) 0 (V 3 (4 * u + k))) 1 need) 2 (k : Int)) 3 (V 0 10)) 4 (sp_hired V (u : Int))))) rfl ?_
  refine mv_tt' (by first | omega | decide) ?_
  have hr11 := sp_ok_5 ho u (by omega)
  rw [show M 35 u = V 5 u from by exact sp_c_5 hV u (by omega)]
  refine mv_go' 1 (pc' := if 0 ≤ 5 ∧ 5 < 6 then 102 else mv_bad) (ls' := [mv_R 30, mv_I (p : Int), mv_I (u : Int), mv_I (k : Int), mv_I need, mv_R 10, mv_U]) (st' := []) (M1 := (mv_st (mv_st (mv_st (mv_st (mv_st (mv_st M 36 (mv_up (M 36) 0 (V 3 (4 * u + k)))) 36 (mv_up (mv_up (M 36) 0 (V 3 (4 * u + k))) 1 need)) 36 (mv_up (mv_up (mv_up (M 36) 0 (V 3 (4 * u + k))) 1 need) 2 (k : Int))) 36 (mv_up (mv_up (mv_up (mv_up (M 36) 0 (V 3 (4 * u + k))) 1 need) 2 (k : Int)) 3 (V 0 10))) 36 (mv_up (mv_up (mv_up (mv_up (mv_up (M 36) 0 (V 3 (4 * u + k))) 1 need) 2 (k : Int)) 3 (V 0 10)) 4 (sp_hired V (u : Int)))) 36 (mv_up (mv_up (mv_up (mv_up (mv_up (mv_up (M 36) 0 (V 3 (4 * u + k))) 1 need) 2 (k : Int)) 3 (V 0 10)) 4 (sp_hired V (u : Int))) 5 (V 5 u)))) rfl ?_
  refine mv_tt' (by first | omega | decide) ?_
  refine mv_go' 6 (pc' := 113) (ls' := [mv_R 30, mv_I (p : Int), mv_I (u : Int), mv_I (k : Int), mv_I need, mv_R 10, mv_U]) (st' := [mv_R 37, mv_R 36, mv_I (p : Int), mv_R 10]) (M1 := (mv_st (mv_st (mv_st (mv_st (mv_st (mv_st M 36 (mv_up (M 36) 0 (V 3 (4 * u + k)))) 36 (mv_up (mv_up (M 36) 0 (V 3 (4 * u + k))) 1 need)) 36 (mv_up (mv_up (mv_up (M 36) 0 (V 3 (4 * u + k))) 1 need) 2 (k : Int))) 36 (mv_up (mv_up (mv_up (mv_up (M 36) 0 (V 3 (4 * u + k))) 1 need) 2 (k : Int)) 3 (V 0 10))) 36 (mv_up (mv_up (mv_up (mv_up (mv_up (M 36) 0 (V 3 (4 * u + k))) 1 need) 2 (k : Int)) 3 (V 0 10)) 4 (sp_hired V (u : Int)))) 36 (mv_up (mv_up (mv_up (mv_up (mv_up (mv_up (M 36) 0 (V 3 (4 * u + k))) 1 need) 2 (k : Int)) 3 (V 0 10)) 4 (sp_hired V (u : Int))) 5 (V 5 u)))) rfl ?_
  have ha : mv_ag [36] M (mv_st (mv_st (mv_st (mv_st (mv_st (mv_st M 36 (mv_up (M 36) 0 (V 3 (4 * u + k)))) 36 (mv_up (mv_up (M 36) 0 (V 3 (4 * u + k))) 1 need)) 36 (mv_up (mv_up (mv_up (M 36) 0 (V 3 (4 * u + k))) 1 need) 2 (k : Int))) 36 (mv_up (mv_up (mv_up (mv_up (M 36) 0 (V 3 (4 * u + k))) 1 need) 2 (k : Int)) 3 (V 0 10))) 36 (mv_up (mv_up (mv_up (mv_up (mv_up (M 36) 0 (V 3 (4 * u + k))) 1 need) 2 (k : Int)) 3 (V 0 10)) 4 (sp_hired V (u : Int)))) 36 (mv_up (mv_up (mv_up (mv_up (mv_up (mv_up (M 36) 0 (V 3 (4 * u + k))) 1 need) 2 (k : Int)) 3 (V 0 10)) 4 (sp_hired V (u : Int))) 5 (V 5 u))) := by repeat (first | exact mv_ag.rf | refine mv_ag.st ?_ (by decide))
  have hn : ∀ i, i < 6 → (mv_st (mv_st (mv_st (mv_st (mv_st (mv_st M 36 (mv_up (M 36) 0 (V 3 (4 * u + k)))) 36 (mv_up (mv_up (M 36) 0 (V 3 (4 * u + k))) 1 need)) 36 (mv_up (mv_up (mv_up (M 36) 0 (V 3 (4 * u + k))) 1 need) 2 (k : Int))) 36 (mv_up (mv_up (mv_up (mv_up (M 36) 0 (V 3 (4 * u + k))) 1 need) 2 (k : Int)) 3 (V 0 10))) 36 (mv_up (mv_up (mv_up (mv_up (mv_up (M 36) 0 (V 3 (4 * u + k))) 1 need) 2 (k : Int)) 3 (V 0 10)) 4 (sp_hired V (u : Int)))) 36 (mv_up (mv_up (mv_up (mv_up (mv_up (mv_up (M 36) 0 (V 3 (4 * u + k))) 1 need) 2 (k : Int)) 3 (V 0 10)) 4 (sp_hired V (u : Int))) 5 (V 5 u))) 36 i = sp_nm V u k need i := fun i hi => match i, hi with
    | 0, _ => rfl
    | 1, _ => rfl
    | 2, _ => rfl
    | 3, _ => rfl
    | 4, _ => rfl
    | 5, _ => rfl
  refine mv_call (st2 := [mv_I (sp_top (sp_run (sp_nm V u k need) (P 0 p) []))]) rfl (Or.inl rfl) rfl rfl rfl ((sp_value_10_36 hp (sp_ct_ag hP ha (by decide))).val (congrArg mv_I (congrArg sp_top (sp_run_nm hn (P 0 p) 0 [] (sp_ct_wf hP hp) rfl)))) (by first | decide | omega) (fun M1 h1 => ?_)
  have h2 : mv_ag [36, 37] M M1 := (ha.wd (by decide)).tr (h1.wd (by decide))
  refine mv_go' 4 (pc' := if (p : Int) = 2 then 123 else 134) (ls' := [mv_R 30, mv_I (p : Int), mv_I (u : Int), mv_I (k : Int), mv_I need, mv_R 10, mv_I (sp_top (sp_run (sp_nm V u k need) (P 0 p) []))]) (st' := []) (M1 := M1) rfl ?_
  refine mv_sp' (fun c => ?_) (fun c => ?_)
  · refine mv_go' 3 (pc' := 128) (ls' := [mv_R 30, mv_I (p : Int), mv_I (u : Int), mv_I (k : Int), mv_I need, mv_R 10, mv_I (sp_top (sp_run (sp_nm V u k need) (P 0 p) []))]) (st' := [mv_I 9, mv_I 0, mv_I (sp_top (sp_run (sp_nm V u k need) (P 0 p) []))]) (M1 := M1) rfl ?_
    refine mv_callP (st2 := [mv_I (sp_cl (sp_top (sp_run (sp_nm V u k need) (P 0 p) [])) 0 9)]) rfl (Or.inr rfl) rfl rfl rfl (sp_cwithin (by decide)) (by first | decide | omega) ?_
    refine mv_go' 1 (pc' := 143) (ls' := [mv_R 30, mv_I (p : Int), mv_I (u : Int), mv_I (k : Int), mv_I need, mv_R 10, mv_I (sp_top (sp_run (sp_nm V u k need) (P 0 p) []))]) (st' := [mv_I (sp_cl (sp_top (sp_run (sp_nm V u k need) (P 0 p) [])) 0 9)]) (M1 := M1) rfl ?_
    exact mv_Ru.val (mv_ret (fun n => rfl) (h2)) (congrArg mv_I (by (have c2 : p = 2 := by omega); simp only [sp_says, hl, if_pos c2]; rfl))
  · refine mv_go' 3 (pc' := 140) (ls' := [mv_R 30, mv_I (p : Int), mv_I (u : Int), mv_I (k : Int), mv_I need, mv_R 10, mv_I (sp_top (sp_run (sp_nm V u k need) (P 0 p) []))]) (st' := [mv_I 99, mv_I (-99), mv_I (sp_top (sp_run (sp_nm V u k need) (P 0 p) []))]) (M1 := M1) rfl ?_
    refine mv_callP (st2 := [mv_I (sp_cl (sp_top (sp_run (sp_nm V u k need) (P 0 p) [])) (-99) 99)]) rfl (Or.inr rfl) rfl rfl rfl (sp_cwithin (by decide)) (by first | decide | omega) ?_
    exact mv_Ru.val (mv_ret (fun n => rfl) (h2)) (congrArg mv_I (by (have c2 : ¬ p = 2 := by omega); simp only [sp_says, hl, if_neg c2]; rfl))
theorem sp_csays_30_1 {V M : mv_M} {P : Nat → Nat → List Int} {p u k : Nat} {need : Int} (hV : sp_c 30 M V) (ho : sp_ok V) (hl : V 0 11 = 1) (hP : sp_ct (10 + 3 * 1) M (P 1)) (hp : p < 3) (hu : (u : Int) < V 0 9) (hk : k < 4) :
    mv_Ru 2 49 0 [mv_R 30, mv_I (p : Int), mv_I (u : Int), mv_I (k : Int), mv_I need, mv_U, mv_U] [] M (mv_I (sp_says V P p u k need)) (fun M1 => mv_ag [36, 37] M M1) := by
  have h9 := sp_ok_s9 ho
  refine mv_go' 2 (pc' := 4) (ls' := [mv_R 30, mv_I (p : Int), mv_I (u : Int), mv_I (k : Int), mv_I need, mv_U, mv_U]) (st' := [mv_I (M 30 11)]) (M1 := M) rfl ?_
  have hr13 := sp_ok_s11 ho
  rw [show M 30 11 = V 0 11 from by exact sp_c_s11 hV]
  rw [show V 0 11 = 1 from by exact hl]
  refine mv_go' 1 (pc' := if 1 < 0 then 16 else 7) (ls' := [mv_R 30, mv_I (p : Int), mv_I (u : Int), mv_I (k : Int), mv_I need, mv_U, mv_U]) (st' := []) (M1 := M) rfl ?_
  refine mv_ff' (by decide) ?_
  refine mv_go' 2 (pc' := 11) (ls' := [mv_R 30, mv_I (p : Int), mv_I (u : Int), mv_I (k : Int), mv_I need, mv_U, mv_U]) (st' := [mv_I (M 30 11)]) (M1 := M) rfl ?_
  have hr15 := sp_ok_s11 ho
  rw [show M 30 11 = V 0 11 from by exact sp_c_s11 hV]
  rw [show V 0 11 = 1 from by exact hl]
  refine mv_go' 2 (pc' := if 1 < 6 then 20 else 16) (ls' := [mv_R 30, mv_I (p : Int), mv_I (u : Int), mv_I (k : Int), mv_I need, mv_U, mv_U]) (st' := []) (M1 := M) rfl ?_
  refine mv_tt' (by decide) ?_
  refine mv_go' 4 (pc' := 28) (ls' := [mv_R 30, mv_I (p : Int), mv_I (u : Int), mv_I (k : Int), mv_I need, mv_U, mv_U]) (st' := [mv_I (M 30 11), mv_R 1]) (M1 := M) rfl ?_
  have hr17 := sp_ok_s11 ho
  rw [show M 30 11 = V 0 11 from by exact sp_c_s11 hV]
  rw [show V 0 11 = 1 from by exact hl]
  refine mv_go' 1 (pc' := if 0 ≤ 1 ∧ 1 < 6 then 29 else mv_bad) (ls' := [mv_R 30, mv_I (p : Int), mv_I (u : Int), mv_I (k : Int), mv_I need, mv_U, mv_U]) (st' := [mv_R 13]) (M1 := M) rfl ?_
  refine mv_tt' (by first | omega | decide) ?_
  refine mv_go' 13 (pc' := 52) (ls' := [mv_R 30, mv_I (p : Int), mv_I (u : Int), mv_I (k : Int), mv_I need, mv_R 13, mv_U]) (st' := [mv_I (mv_w ((mv_w ((u : Int) * 4)) + (k : Int))), mv_R 33, mv_I 0, mv_R 36]) (M1 := M) rfl ?_
  rw [show mv_w ((mv_w ((u : Int) * 4)) + (k : Int)) = ((4 * u + k : Nat) : Int) from by (rw [show mv_w ((u : Int) * 4) = (u : Int) * 4 from mv_w_id (by omega) (by omega), show mv_w (((u : Int) * 4) + (k : Int)) = ((u : Int) * 4) + (k : Int) from mv_w_id (by omega) (by omega)]) <;> omega]
  refine mv_go' 1 (pc' := if 0 ≤ ((4 * u + k : Nat) : Int) ∧ ((4 * u + k : Nat) : Int) < 24 then 53 else mv_bad) (ls' := [mv_R 30, mv_I (p : Int), mv_I (u : Int), mv_I (k : Int), mv_I need, mv_R 13, mv_U]) (st' := [mv_I (M 33 (4 * u + k)), mv_I 0, mv_R 36]) (M1 := M) rfl ?_
  refine mv_tt' (by first | omega | decide) ?_
  have hr19 := sp_ok_3 ho (4 * u + k) (by omega)
  rw [show M 33 (4 * u + k) = V 3 (4 * u + k) from by exact sp_c_3 hV (4 * u + k) (by omega)]
  refine mv_go' 1 (pc' := if 0 ≤ 0 ∧ 0 < 6 then 54 else mv_bad) (ls' := [mv_R 30, mv_I (p : Int), mv_I (u : Int), mv_I (k : Int), mv_I need, mv_R 13, mv_U]) (st' := []) (M1 := (mv_st M 36 (mv_up (M 36) 0 (V 3 (4 * u + k))))) rfl ?_
  refine mv_tt' (by first | omega | decide) ?_
  refine mv_go' 5 (pc' := if 0 ≤ 1 ∧ 1 < 6 then 62 else mv_bad) (ls' := [mv_R 30, mv_I (p : Int), mv_I (u : Int), mv_I (k : Int), mv_I need, mv_R 13, mv_U]) (st' := []) (M1 := (mv_st (mv_st M 36 (mv_up (M 36) 0 (V 3 (4 * u + k)))) 36 (mv_up (mv_up (M 36) 0 (V 3 (4 * u + k))) 1 need))) rfl ?_
  refine mv_tt' (by first | omega | decide) ?_
  refine mv_go' 5 (pc' := if 0 ≤ 2 ∧ 2 < 6 then 69 else mv_bad) (ls' := [mv_R 30, mv_I (p : Int), mv_I (u : Int), mv_I (k : Int), mv_I need, mv_R 13, mv_U]) (st' := []) (M1 := (mv_st (mv_st (mv_st M 36 (mv_up (M 36) 0 (V 3 (4 * u + k)))) 36 (mv_up (mv_up (M 36) 0 (V 3 (4 * u + k))) 1 need)) 36 (mv_up (mv_up (mv_up (M 36) 0 (V 3 (4 * u + k))) 1 need) 2 (k : Int)))) rfl ?_
  refine mv_tt' (by first | omega | decide) ?_
  refine mv_go' 5 (pc' := 78) (ls' := [mv_R 30, mv_I (p : Int), mv_I (u : Int), mv_I (k : Int), mv_I need, mv_R 13, mv_U]) (st' := [mv_I (M 30 10), mv_I 3, mv_R 36]) (M1 := (mv_st (mv_st (mv_st M 36 (mv_up (M 36) 0 (V 3 (4 * u + k)))) 36 (mv_up (mv_up (M 36) 0 (V 3 (4 * u + k))) 1 need)) 36 (mv_up (mv_up (mv_up (M 36) 0 (V 3 (4 * u + k))) 1 need) 2 (k : Int)))) rfl ?_
  have hr21 := sp_ok_s10 ho
  rw [show M 30 10 = V 0 10 from by exact sp_c_s10 hV]
  refine mv_go' 1 (pc' := if 0 ≤ 3 ∧ 3 < 6 then 79 else mv_bad) (ls' := [mv_R 30, mv_I (p : Int), mv_I (u : Int), mv_I (k : Int), mv_I need, mv_R 13, mv_U]) (st' := []) (M1 := (mv_st (mv_st (mv_st (mv_st M 36 (mv_up (M 36) 0 (V 3 (4 * u + k)))) 36 (mv_up (mv_up (M 36) 0 (V 3 (4 * u + k))) 1 need)) 36 (mv_up (mv_up (mv_up (M 36) 0 (V 3 (4 * u + k))) 1 need) 2 (k : Int))) 36 (mv_up (mv_up (mv_up (mv_up (M 36) 0 (V 3 (4 * u + k))) 1 need) 2 (k : Int)) 3 (V 0 10)))) rfl ?_
  refine mv_tt' (by first | omega | decide) ?_
  refine mv_go' 5 (pc' := 86) (ls' := [mv_R 30, mv_I (p : Int), mv_I (u : Int), mv_I (k : Int), mv_I need, mv_R 13, mv_U]) (st' := [mv_I (u : Int), mv_R 30, mv_I 4, mv_R 36]) (M1 := (mv_st (mv_st (mv_st (mv_st M 36 (mv_up (M 36) 0 (V 3 (4 * u + k)))) 36 (mv_up (mv_up (M 36) 0 (V 3 (4 * u + k))) 1 need)) 36 (mv_up (mv_up (mv_up (M 36) 0 (V 3 (4 * u + k))) 1 need) 2 (k : Int))) 36 (mv_up (mv_up (mv_up (mv_up (M 36) 0 (V 3 (4 * u + k))) 1 need) 2 (k : Int)) 3 (V 0 10)))) rfl ?_
  have ha : mv_ag [36] M (mv_st (mv_st (mv_st (mv_st M 36 (mv_up (M 36) 0 (V 3 (4 * u + k)))) 36 (mv_up (mv_up (M 36) 0 (V 3 (4 * u + k))) 1 need)) 36 (mv_up (mv_up (mv_up (M 36) 0 (V 3 (4 * u + k))) 1 need) 2 (k : Int))) 36 (mv_up (mv_up (mv_up (mv_up (M 36) 0 (V 3 (4 * u + k))) 1 need) 2 (k : Int)) 3 (V 0 10))) := by repeat (first | exact mv_ag.rf | refine mv_ag.st ?_ (by decide))
  refine mv_callP (st2 := [mv_I (sp_hired V (u : Int)), mv_I 4, mv_R 36]) rfl (Or.inl rfl) rfl rfl rfl (sp_hired_30 (sp_c_ag hV ha (by decide)) ho) (by first | decide | omega) ?_
  refine mv_go' 1 (pc' := if 0 ≤ 4 ∧ 4 < 6 then 90 else mv_bad) (ls' := [mv_R 30, mv_I (p : Int), mv_I (u : Int), mv_I (k : Int), mv_I need, mv_R 13, mv_U]) (st' := []) (M1 := (mv_st (mv_st (mv_st (mv_st (mv_st M 36 (mv_up (M 36) 0 (V 3 (4 * u + k)))) 36 (mv_up (mv_up (M 36) 0 (V 3 (4 * u + k))) 1 need)) 36 (mv_up (mv_up (mv_up (M 36) 0 (V 3 (4 * u + k))) 1 need) 2 (k : Int))) 36 (mv_up (mv_up (mv_up (mv_up (M 36) 0 (V 3 (4 * u + k))) 1 need) 2 (k : Int)) 3 (V 0 10))) 36 (mv_up (mv_up (mv_up (mv_up (mv_up (M 36) 0 (V 3 (4 * u + k))) 1 need) 2 (k : Int)) 3 (V 0 10)) 4 (sp_hired V (u : Int))))) rfl ?_
  refine mv_tt' (by first | omega | decide) ?_
  refine mv_go' 7 (pc' := if 0 ≤ (u : Int) ∧ (u : Int) < 6 then 101 else mv_bad) (ls' := [mv_R 30, mv_I (p : Int), mv_I (u : Int), mv_I (k : Int), mv_I need, mv_R 13, mv_U]) (st' := [mv_I (M 35 u), mv_I 5, mv_R 36]) (M1 := (mv_st (mv_st (mv_st (mv_st (mv_st M 36 (mv_up (M 36) 0 (V 3 (4 * u + k)))) 36 (mv_up (mv_up (M 36) 0 (V 3 (4 * u + k))) 1 need)) 36 (mv_up (mv_up (mv_up (M 36) 0 (V 3 (4 * u + k))) 1 need) 2 (k : Int))) 36 (mv_up (mv_up (mv_up (mv_up (M 36) 0 (V 3 (4 * u + k))) 1 need) 2 (k : Int)) 3 (V 0 10))) 36 (mv_up (mv_up (mv_up (mv_up (mv_up (M 36) 0 (V 3 (4 * u + k))) 1 need) 2 (k : Int)) 3 (V 0 10)) 4 (sp_hired V (u : Int))))) rfl ?_
  refine mv_tt' (by first | omega | decide) ?_
  have hr23 := sp_ok_5 ho u (by omega)
  rw [show M 35 u = V 5 u from by exact sp_c_5 hV u (by omega)]
  refine mv_go' 1 (pc' := if 0 ≤ 5 ∧ 5 < 6 then 102 else mv_bad) (ls' := [mv_R 30, mv_I (p : Int), mv_I (u : Int), mv_I (k : Int), mv_I need, mv_R 13, mv_U]) (st' := []) (M1 := (mv_st (mv_st (mv_st (mv_st (mv_st (mv_st M 36 (mv_up (M 36) 0 (V 3 (4 * u + k)))) 36 (mv_up (mv_up (M 36) 0 (V 3 (4 * u + k))) 1 need)) 36 (mv_up (mv_up (mv_up (M 36) 0 (V 3 (4 * u + k))) 1 need) 2 (k : Int))) 36 (mv_up (mv_up (mv_up (mv_up (M 36) 0 (V 3 (4 * u + k))) 1 need) 2 (k : Int)) 3 (V 0 10))) 36 (mv_up (mv_up (mv_up (mv_up (mv_up (M 36) 0 (V 3 (4 * u + k))) 1 need) 2 (k : Int)) 3 (V 0 10)) 4 (sp_hired V (u : Int)))) 36 (mv_up (mv_up (mv_up (mv_up (mv_up (mv_up (M 36) 0 (V 3 (4 * u + k))) 1 need) 2 (k : Int)) 3 (V 0 10)) 4 (sp_hired V (u : Int))) 5 (V 5 u)))) rfl ?_
  refine mv_tt' (by first | omega | decide) ?_
  refine mv_go' 6 (pc' := 113) (ls' := [mv_R 30, mv_I (p : Int), mv_I (u : Int), mv_I (k : Int), mv_I need, mv_R 13, mv_U]) (st' := [mv_R 37, mv_R 36, mv_I (p : Int), mv_R 13]) (M1 := (mv_st (mv_st (mv_st (mv_st (mv_st (mv_st M 36 (mv_up (M 36) 0 (V 3 (4 * u + k)))) 36 (mv_up (mv_up (M 36) 0 (V 3 (4 * u + k))) 1 need)) 36 (mv_up (mv_up (mv_up (M 36) 0 (V 3 (4 * u + k))) 1 need) 2 (k : Int))) 36 (mv_up (mv_up (mv_up (mv_up (M 36) 0 (V 3 (4 * u + k))) 1 need) 2 (k : Int)) 3 (V 0 10))) 36 (mv_up (mv_up (mv_up (mv_up (mv_up (M 36) 0 (V 3 (4 * u + k))) 1 need) 2 (k : Int)) 3 (V 0 10)) 4 (sp_hired V (u : Int)))) 36 (mv_up (mv_up (mv_up (mv_up (mv_up (mv_up (M 36) 0 (V 3 (4 * u + k))) 1 need) 2 (k : Int)) 3 (V 0 10)) 4 (sp_hired V (u : Int))) 5 (V 5 u)))) rfl ?_
  have ha : mv_ag [36] M (mv_st (mv_st (mv_st (mv_st (mv_st (mv_st M 36 (mv_up (M 36) 0 (V 3 (4 * u + k)))) 36 (mv_up (mv_up (M 36) 0 (V 3 (4 * u + k))) 1 need)) 36 (mv_up (mv_up (mv_up (M 36) 0 (V 3 (4 * u + k))) 1 need) 2 (k : Int))) 36 (mv_up (mv_up (mv_up (mv_up (M 36) 0 (V 3 (4 * u + k))) 1 need) 2 (k : Int)) 3 (V 0 10))) 36 (mv_up (mv_up (mv_up (mv_up (mv_up (M 36) 0 (V 3 (4 * u + k))) 1 need) 2 (k : Int)) 3 (V 0 10)) 4 (sp_hired V (u : Int)))) 36 (mv_up (mv_up (mv_up (mv_up (mv_up (mv_up (M 36) 0 (V 3 (4 * u + k))) 1 need) 2 (k : Int)) 3 (V 0 10)) 4 (sp_hired V (u : Int))) 5 (V 5 u))) := by repeat (first | exact mv_ag.rf | refine mv_ag.st ?_ (by decide))
  have hn : ∀ i, i < 6 → (mv_st (mv_st (mv_st (mv_st (mv_st (mv_st M 36 (mv_up (M 36) 0 (V 3 (4 * u + k)))) 36 (mv_up (mv_up (M 36) 0 (V 3 (4 * u + k))) 1 need)) 36 (mv_up (mv_up (mv_up (M 36) 0 (V 3 (4 * u + k))) 1 need) 2 (k : Int))) 36 (mv_up (mv_up (mv_up (mv_up (M 36) 0 (V 3 (4 * u + k))) 1 need) 2 (k : Int)) 3 (V 0 10))) 36 (mv_up (mv_up (mv_up (mv_up (mv_up (M 36) 0 (V 3 (4 * u + k))) 1 need) 2 (k : Int)) 3 (V 0 10)) 4 (sp_hired V (u : Int)))) 36 (mv_up (mv_up (mv_up (mv_up (mv_up (mv_up (M 36) 0 (V 3 (4 * u + k))) 1 need) 2 (k : Int)) 3 (V 0 10)) 4 (sp_hired V (u : Int))) 5 (V 5 u))) 36 i = sp_nm V u k need i := fun i hi => match i, hi with
    | 0, _ => rfl
    | 1, _ => rfl
    | 2, _ => rfl
    | 3, _ => rfl
    | 4, _ => rfl
    | 5, _ => rfl
  refine mv_call (st2 := [mv_I (sp_top (sp_run (sp_nm V u k need) (P 1 p) []))]) rfl (Or.inl rfl) rfl rfl rfl ((sp_value_13_36 hp (sp_ct_ag hP ha (by decide))).val (congrArg mv_I (congrArg sp_top (sp_run_nm hn (P 1 p) 0 [] (sp_ct_wf hP hp) rfl)))) (by first | decide | omega) (fun M1 h1 => ?_)
  have h2 : mv_ag [36, 37] M M1 := (ha.wd (by decide)).tr (h1.wd (by decide))
  refine mv_go' 4 (pc' := if (p : Int) = 2 then 123 else 134) (ls' := [mv_R 30, mv_I (p : Int), mv_I (u : Int), mv_I (k : Int), mv_I need, mv_R 13, mv_I (sp_top (sp_run (sp_nm V u k need) (P 1 p) []))]) (st' := []) (M1 := M1) rfl ?_
  refine mv_sp' (fun c => ?_) (fun c => ?_)
  · refine mv_go' 3 (pc' := 128) (ls' := [mv_R 30, mv_I (p : Int), mv_I (u : Int), mv_I (k : Int), mv_I need, mv_R 13, mv_I (sp_top (sp_run (sp_nm V u k need) (P 1 p) []))]) (st' := [mv_I 9, mv_I 0, mv_I (sp_top (sp_run (sp_nm V u k need) (P 1 p) []))]) (M1 := M1) rfl ?_
    refine mv_callP (st2 := [mv_I (sp_cl (sp_top (sp_run (sp_nm V u k need) (P 1 p) [])) 0 9)]) rfl (Or.inr rfl) rfl rfl rfl (sp_cwithin (by decide)) (by first | decide | omega) ?_
    refine mv_go' 1 (pc' := 143) (ls' := [mv_R 30, mv_I (p : Int), mv_I (u : Int), mv_I (k : Int), mv_I need, mv_R 13, mv_I (sp_top (sp_run (sp_nm V u k need) (P 1 p) []))]) (st' := [mv_I (sp_cl (sp_top (sp_run (sp_nm V u k need) (P 1 p) [])) 0 9)]) (M1 := M1) rfl ?_
    exact mv_Ru.val (mv_ret (fun n => rfl) (h2)) (congrArg mv_I (by (have c2 : p = 2 := by omega); simp only [sp_says, hl, if_pos c2]; rfl))
  · refine mv_go' 3 (pc' := 140) (ls' := [mv_R 30, mv_I (p : Int), mv_I (u : Int), mv_I (k : Int), mv_I need, mv_R 13, mv_I (sp_top (sp_run (sp_nm V u k need) (P 1 p) []))]) (st' := [mv_I 99, mv_I (-99), mv_I (sp_top (sp_run (sp_nm V u k need) (P 1 p) []))]) (M1 := M1) rfl ?_
    refine mv_callP (st2 := [mv_I (sp_cl (sp_top (sp_run (sp_nm V u k need) (P 1 p) [])) (-99) 99)]) rfl (Or.inr rfl) rfl rfl rfl (sp_cwithin (by decide)) (by first | decide | omega) ?_
    exact mv_Ru.val (mv_ret (fun n => rfl) (h2)) (congrArg mv_I (by (have c2 : ¬ p = 2 := by omega); simp only [sp_says, hl, if_neg c2]; rfl))
theorem sp_csays_30_2 {V M : mv_M} {P : Nat → Nat → List Int} {p u k : Nat} {need : Int} (hV : sp_c 30 M V) (ho : sp_ok V) (hl : V 0 11 = 2) (hP : sp_ct (10 + 3 * 2) M (P 2)) (hp : p < 3) (hu : (u : Int) < V 0 9) (hk : k < 4) :
    mv_Ru 2 49 0 [mv_R 30, mv_I (p : Int), mv_I (u : Int), mv_I (k : Int), mv_I need, mv_U, mv_U] [] M (mv_I (sp_says V P p u k need)) (fun M1 => mv_ag [36, 37] M M1) := by
  have h9 := sp_ok_s9 ho
  refine mv_go' 2 (pc' := 4) (ls' := [mv_R 30, mv_I (p : Int), mv_I (u : Int), mv_I (k : Int), mv_I need, mv_U, mv_U]) (st' := [mv_I (M 30 11)]) (M1 := M) rfl ?_
  have hr25 := sp_ok_s11 ho
  rw [show M 30 11 = V 0 11 from by exact sp_c_s11 hV]
  rw [show V 0 11 = 2 from by exact hl]
  refine mv_go' 1 (pc' := if 2 < 0 then 16 else 7) (ls' := [mv_R 30, mv_I (p : Int), mv_I (u : Int), mv_I (k : Int), mv_I need, mv_U, mv_U]) (st' := []) (M1 := M) rfl ?_
  refine mv_ff' (by decide) ?_
  refine mv_go' 2 (pc' := 11) (ls' := [mv_R 30, mv_I (p : Int), mv_I (u : Int), mv_I (k : Int), mv_I need, mv_U, mv_U]) (st' := [mv_I (M 30 11)]) (M1 := M) rfl ?_
  have hr27 := sp_ok_s11 ho
  rw [show M 30 11 = V 0 11 from by exact sp_c_s11 hV]
  rw [show V 0 11 = 2 from by exact hl]
  refine mv_go' 2 (pc' := if 2 < 6 then 20 else 16) (ls' := [mv_R 30, mv_I (p : Int), mv_I (u : Int), mv_I (k : Int), mv_I need, mv_U, mv_U]) (st' := []) (M1 := M) rfl ?_
  refine mv_tt' (by decide) ?_
  refine mv_go' 4 (pc' := 28) (ls' := [mv_R 30, mv_I (p : Int), mv_I (u : Int), mv_I (k : Int), mv_I need, mv_U, mv_U]) (st' := [mv_I (M 30 11), mv_R 1]) (M1 := M) rfl ?_
  have hr29 := sp_ok_s11 ho
  rw [show M 30 11 = V 0 11 from by exact sp_c_s11 hV]
  rw [show V 0 11 = 2 from by exact hl]
  refine mv_go' 1 (pc' := if 0 ≤ 2 ∧ 2 < 6 then 29 else mv_bad) (ls' := [mv_R 30, mv_I (p : Int), mv_I (u : Int), mv_I (k : Int), mv_I need, mv_U, mv_U]) (st' := [mv_R 16]) (M1 := M) rfl ?_
  refine mv_tt' (by first | omega | decide) ?_
  refine mv_go' 13 (pc' := 52) (ls' := [mv_R 30, mv_I (p : Int), mv_I (u : Int), mv_I (k : Int), mv_I need, mv_R 16, mv_U]) (st' := [mv_I (mv_w ((mv_w ((u : Int) * 4)) + (k : Int))), mv_R 33, mv_I 0, mv_R 36]) (M1 := M) rfl ?_
  rw [show mv_w ((mv_w ((u : Int) * 4)) + (k : Int)) = ((4 * u + k : Nat) : Int) from by (rw [show mv_w ((u : Int) * 4) = (u : Int) * 4 from mv_w_id (by omega) (by omega), show mv_w (((u : Int) * 4) + (k : Int)) = ((u : Int) * 4) + (k : Int) from mv_w_id (by omega) (by omega)]) <;> omega]
  refine mv_go' 1 (pc' := if 0 ≤ ((4 * u + k : Nat) : Int) ∧ ((4 * u + k : Nat) : Int) < 24 then 53 else mv_bad) (ls' := [mv_R 30, mv_I (p : Int), mv_I (u : Int), mv_I (k : Int), mv_I need, mv_R 16, mv_U]) (st' := [mv_I (M 33 (4 * u + k)), mv_I 0, mv_R 36]) (M1 := M) rfl ?_
  refine mv_tt' (by first | omega | decide) ?_
  have hr31 := sp_ok_3 ho (4 * u + k) (by omega)
  rw [show M 33 (4 * u + k) = V 3 (4 * u + k) from by exact sp_c_3 hV (4 * u + k) (by omega)]
  refine mv_go' 1 (pc' := if 0 ≤ 0 ∧ 0 < 6 then 54 else mv_bad) (ls' := [mv_R 30, mv_I (p : Int), mv_I (u : Int), mv_I (k : Int), mv_I need, mv_R 16, mv_U]) (st' := []) (M1 := (mv_st M 36 (mv_up (M 36) 0 (V 3 (4 * u + k))))) rfl ?_
  refine mv_tt' (by first | omega | decide) ?_
  refine mv_go' 5 (pc' := if 0 ≤ 1 ∧ 1 < 6 then 62 else mv_bad) (ls' := [mv_R 30, mv_I (p : Int), mv_I (u : Int), mv_I (k : Int), mv_I need, mv_R 16, mv_U]) (st' := []) (M1 := (mv_st (mv_st M 36 (mv_up (M 36) 0 (V 3 (4 * u + k)))) 36 (mv_up (mv_up (M 36) 0 (V 3 (4 * u + k))) 1 need))) rfl ?_
  refine mv_tt' (by first | omega | decide) ?_
  refine mv_go' 5 (pc' := if 0 ≤ 2 ∧ 2 < 6 then 69 else mv_bad) (ls' := [mv_R 30, mv_I (p : Int), mv_I (u : Int), mv_I (k : Int), mv_I need, mv_R 16, mv_U]) (st' := []) (M1 := (mv_st (mv_st (mv_st M 36 (mv_up (M 36) 0 (V 3 (4 * u + k)))) 36 (mv_up (mv_up (M 36) 0 (V 3 (4 * u + k))) 1 need)) 36 (mv_up (mv_up (mv_up (M 36) 0 (V 3 (4 * u + k))) 1 need) 2 (k : Int)))) rfl ?_
  refine mv_tt' (by first | omega | decide) ?_
  refine mv_go' 5 (pc' := 78) (ls' := [mv_R 30, mv_I (p : Int), mv_I (u : Int), mv_I (k : Int), mv_I need, mv_R 16, mv_U]) (st' := [mv_I (M 30 10), mv_I 3, mv_R 36]) (M1 := (mv_st (mv_st (mv_st M 36 (mv_up (M 36) 0 (V 3 (4 * u + k)))) 36 (mv_up (mv_up (M 36) 0 (V 3 (4 * u + k))) 1 need)) 36 (mv_up (mv_up (mv_up (M 36) 0 (V 3 (4 * u + k))) 1 need) 2 (k : Int)))) rfl ?_
  have hr33 := sp_ok_s10 ho
  rw [show M 30 10 = V 0 10 from by exact sp_c_s10 hV]
  refine mv_go' 1 (pc' := if 0 ≤ 3 ∧ 3 < 6 then 79 else mv_bad) (ls' := [mv_R 30, mv_I (p : Int), mv_I (u : Int), mv_I (k : Int), mv_I need, mv_R 16, mv_U]) (st' := []) (M1 := (mv_st (mv_st (mv_st (mv_st M 36 (mv_up (M 36) 0 (V 3 (4 * u + k)))) 36 (mv_up (mv_up (M 36) 0 (V 3 (4 * u + k))) 1 need)) 36 (mv_up (mv_up (mv_up (M 36) 0 (V 3 (4 * u + k))) 1 need) 2 (k : Int))) 36 (mv_up (mv_up (mv_up (mv_up (M 36) 0 (V 3 (4 * u + k))) 1 need) 2 (k : Int)) 3 (V 0 10)))) rfl ?_
  refine mv_tt' (by first | omega | decide) ?_
  refine mv_go' 5 (pc' := 86) (ls' := [mv_R 30, mv_I (p : Int), mv_I (u : Int), mv_I (k : Int), mv_I need, mv_R 16, mv_U]) (st' := [mv_I (u : Int), mv_R 30, mv_I 4, mv_R 36]) (M1 := (mv_st (mv_st (mv_st (mv_st M 36 (mv_up (M 36) 0 (V 3 (4 * u + k)))) 36 (mv_up (mv_up (M 36) 0 (V 3 (4 * u + k))) 1 need)) 36 (mv_up (mv_up (mv_up (M 36) 0 (V 3 (4 * u + k))) 1 need) 2 (k : Int))) 36 (mv_up (mv_up (mv_up (mv_up (M 36) 0 (V 3 (4 * u + k))) 1 need) 2 (k : Int)) 3 (V 0 10)))) rfl ?_
  have ha : mv_ag [36] M (mv_st (mv_st (mv_st (mv_st M 36 (mv_up (M 36) 0 (V 3 (4 * u + k)))) 36 (mv_up (mv_up (M 36) 0 (V 3 (4 * u + k))) 1 need)) 36 (mv_up (mv_up (mv_up (M 36) 0 (V 3 (4 * u + k))) 1 need) 2 (k : Int))) 36 (mv_up (mv_up (mv_up (mv_up (M 36) 0 (V 3 (4 * u + k))) 1 need) 2 (k : Int)) 3 (V 0 10))) := by repeat (first | exact mv_ag.rf | refine mv_ag.st ?_ (by decide))
  refine mv_callP (st2 := [mv_I (sp_hired V (u : Int)), mv_I 4, mv_R 36]) rfl (Or.inl rfl) rfl rfl rfl (sp_hired_30 (sp_c_ag hV ha (by decide)) ho) (by first | decide | omega) ?_
  refine mv_go' 1 (pc' := if 0 ≤ 4 ∧ 4 < 6 then 90 else mv_bad) (ls' := [mv_R 30, mv_I (p : Int), mv_I (u : Int), mv_I (k : Int), mv_I need, mv_R 16, mv_U]) (st' := []) (M1 := (mv_st (mv_st (mv_st (mv_st (mv_st M 36 (mv_up (M 36) 0 (V 3 (4 * u + k)))) 36 (mv_up (mv_up (M 36) 0 (V 3 (4 * u + k))) 1 need)) 36 (mv_up (mv_up (mv_up (M 36) 0 (V 3 (4 * u + k))) 1 need) 2 (k : Int))) 36 (mv_up (mv_up (mv_up (mv_up (M 36) 0 (V 3 (4 * u + k))) 1 need) 2 (k : Int)) 3 (V 0 10))) 36 (mv_up (mv_up (mv_up (mv_up (mv_up (M 36) 0 (V 3 (4 * u + k))) 1 need) 2 (k : Int)) 3 (V 0 10)) 4 (sp_hired V (u : Int))))) rfl ?_
  refine mv_tt' (by first | omega | decide) ?_
  refine mv_go' 7 (pc' := if 0 ≤ (u : Int) ∧ (u : Int) < 6 then 101 else mv_bad) (ls' := [mv_R 30, mv_I (p : Int), mv_I (u : Int), mv_I (k : Int), mv_I need, mv_R 16, mv_U]) (st' := [mv_I (M 35 u), mv_I 5, mv_R 36]) (M1 := (mv_st (mv_st (mv_st (mv_st (mv_st M 36 (mv_up (M 36) 0 (V 3 (4 * u + k)))) 36 (mv_up (mv_up (M 36) 0 (V 3 (4 * u + k))) 1 need)) 36 (mv_up (mv_up (mv_up (M 36) 0 (V 3 (4 * u + k))) 1 need) 2 (k : Int))) 36 (mv_up (mv_up (mv_up (mv_up (M 36) 0 (V 3 (4 * u + k))) 1 need) 2 (k : Int)) 3 (V 0 10))) 36 (mv_up (mv_up (mv_up (mv_up (mv_up (M 36) 0 (V 3 (4 * u + k))) 1 need) 2 (k : Int)) 3 (V 0 10)) 4 (sp_hired V (u : Int))))) rfl ?_
  refine mv_tt' (by first | omega | decide) ?_
  have hr35 := sp_ok_5 ho u (by omega)
  rw [show M 35 u = V 5 u from by exact sp_c_5 hV u (by omega)]
  refine mv_go' 1 (pc' := if 0 ≤ 5 ∧ 5 < 6 then 102 else mv_bad) (ls' := [mv_R 30, mv_I (p : Int), mv_I (u : Int), mv_I (k : Int), mv_I need, mv_R 16, mv_U]) (st' := []) (M1 := (mv_st (mv_st (mv_st (mv_st (mv_st (mv_st M 36 (mv_up (M 36) 0 (V 3 (4 * u + k)))) 36 (mv_up (mv_up (M 36) 0 (V 3 (4 * u + k))) 1 need)) 36 (mv_up (mv_up (mv_up (M 36) 0 (V 3 (4 * u + k))) 1 need) 2 (k : Int))) 36 (mv_up (mv_up (mv_up (mv_up (M 36) 0 (V 3 (4 * u + k))) 1 need) 2 (k : Int)) 3 (V 0 10))) 36 (mv_up (mv_up (mv_up (mv_up (mv_up (M 36) 0 (V 3 (4 * u + k))) 1 need) 2 (k : Int)) 3 (V 0 10)) 4 (sp_hired V (u : Int)))) 36 (mv_up (mv_up (mv_up (mv_up (mv_up (mv_up (M 36) 0 (V 3 (4 * u + k))) 1 need) 2 (k : Int)) 3 (V 0 10)) 4 (sp_hired V (u : Int))) 5 (V 5 u)))) rfl ?_
  refine mv_tt' (by first | omega | decide) ?_
  refine mv_go' 6 (pc' := 113) (ls' := [mv_R 30, mv_I (p : Int), mv_I (u : Int), mv_I (k : Int), mv_I need, mv_R 16, mv_U]) (st' := [mv_R 37, mv_R 36, mv_I (p : Int), mv_R 16]) (M1 := (mv_st (mv_st (mv_st (mv_st (mv_st (mv_st M 36 (mv_up (M 36) 0 (V 3 (4 * u + k)))) 36 (mv_up (mv_up (M 36) 0 (V 3 (4 * u + k))) 1 need)) 36 (mv_up (mv_up (mv_up (M 36) 0 (V 3 (4 * u + k))) 1 need) 2 (k : Int))) 36 (mv_up (mv_up (mv_up (mv_up (M 36) 0 (V 3 (4 * u + k))) 1 need) 2 (k : Int)) 3 (V 0 10))) 36 (mv_up (mv_up (mv_up (mv_up (mv_up (M 36) 0 (V 3 (4 * u + k))) 1 need) 2 (k : Int)) 3 (V 0 10)) 4 (sp_hired V (u : Int)))) 36 (mv_up (mv_up (mv_up (mv_up (mv_up (mv_up (M 36) 0 (V 3 (4 * u + k))) 1 need) 2 (k : Int)) 3 (V 0 10)) 4 (sp_hired V (u : Int))) 5 (V 5 u)))) rfl ?_
  have ha : mv_ag [36] M (mv_st (mv_st (mv_st (mv_st (mv_st (mv_st M 36 (mv_up (M 36) 0 (V 3 (4 * u + k)))) 36 (mv_up (mv_up (M 36) 0 (V 3 (4 * u + k))) 1 need)) 36 (mv_up (mv_up (mv_up (M 36) 0 (V 3 (4 * u + k))) 1 need) 2 (k : Int))) 36 (mv_up (mv_up (mv_up (mv_up (M 36) 0 (V 3 (4 * u + k))) 1 need) 2 (k : Int)) 3 (V 0 10))) 36 (mv_up (mv_up (mv_up (mv_up (mv_up (M 36) 0 (V 3 (4 * u + k))) 1 need) 2 (k : Int)) 3 (V 0 10)) 4 (sp_hired V (u : Int)))) 36 (mv_up (mv_up (mv_up (mv_up (mv_up (mv_up (M 36) 0 (V 3 (4 * u + k))) 1 need) 2 (k : Int)) 3 (V 0 10)) 4 (sp_hired V (u : Int))) 5 (V 5 u))) := by repeat (first | exact mv_ag.rf | refine mv_ag.st ?_ (by decide))
  have hn : ∀ i, i < 6 → (mv_st (mv_st (mv_st (mv_st (mv_st (mv_st M 36 (mv_up (M 36) 0 (V 3 (4 * u + k)))) 36 (mv_up (mv_up (M 36) 0 (V 3 (4 * u + k))) 1 need)) 36 (mv_up (mv_up (mv_up (M 36) 0 (V 3 (4 * u + k))) 1 need) 2 (k : Int))) 36 (mv_up (mv_up (mv_up (mv_up (M 36) 0 (V 3 (4 * u + k))) 1 need) 2 (k : Int)) 3 (V 0 10))) 36 (mv_up (mv_up (mv_up (mv_up (mv_up (M 36) 0 (V 3 (4 * u + k))) 1 need) 2 (k : Int)) 3 (V 0 10)) 4 (sp_hired V (u : Int)))) 36 (mv_up (mv_up (mv_up (mv_up (mv_up (mv_up (M 36) 0 (V 3 (4 * u + k))) 1 need) 2 (k : Int)) 3 (V 0 10)) 4 (sp_hired V (u : Int))) 5 (V 5 u))) 36 i = sp_nm V u k need i := fun i hi => match i, hi with
    | 0, _ => rfl
    | 1, _ => rfl
    | 2, _ => rfl
    | 3, _ => rfl
    | 4, _ => rfl
    | 5, _ => rfl
  refine mv_call (st2 := [mv_I (sp_top (sp_run (sp_nm V u k need) (P 2 p) []))]) rfl (Or.inl rfl) rfl rfl rfl ((sp_value_16_36 hp (sp_ct_ag hP ha (by decide))).val (congrArg mv_I (congrArg sp_top (sp_run_nm hn (P 2 p) 0 [] (sp_ct_wf hP hp) rfl)))) (by first | decide | omega) (fun M1 h1 => ?_)
  have h2 : mv_ag [36, 37] M M1 := (ha.wd (by decide)).tr (h1.wd (by decide))
  refine mv_go' 4 (pc' := if (p : Int) = 2 then 123 else 134) (ls' := [mv_R 30, mv_I (p : Int), mv_I (u : Int), mv_I (k : Int), mv_I need, mv_R 16, mv_I (sp_top (sp_run (sp_nm V u k need) (P 2 p) []))]) (st' := []) (M1 := M1) rfl ?_
  refine mv_sp' (fun c => ?_) (fun c => ?_)
  · refine mv_go' 3 (pc' := 128) (ls' := [mv_R 30, mv_I (p : Int), mv_I (u : Int), mv_I (k : Int), mv_I need, mv_R 16, mv_I (sp_top (sp_run (sp_nm V u k need) (P 2 p) []))]) (st' := [mv_I 9, mv_I 0, mv_I (sp_top (sp_run (sp_nm V u k need) (P 2 p) []))]) (M1 := M1) rfl ?_
    refine mv_callP (st2 := [mv_I (sp_cl (sp_top (sp_run (sp_nm V u k need) (P 2 p) [])) 0 9)]) rfl (Or.inr rfl) rfl rfl rfl (sp_cwithin (by decide)) (by first | decide | omega) ?_
    refine mv_go' 1 (pc' := 143) (ls' := [mv_R 30, mv_I (p : Int), mv_I (u : Int), mv_I (k : Int), mv_I need, mv_R 16, mv_I (sp_top (sp_run (sp_nm V u k need) (P 2 p) []))]) (st' := [mv_I (sp_cl (sp_top (sp_run (sp_nm V u k need) (P 2 p) [])) 0 9)]) (M1 := M1) rfl ?_
    exact mv_Ru.val (mv_ret (fun n => rfl) (h2)) (congrArg mv_I (by (have c2 : p = 2 := by omega); simp only [sp_says, hl, if_pos c2]; rfl))
  · refine mv_go' 3 (pc' := 140) (ls' := [mv_R 30, mv_I (p : Int), mv_I (u : Int), mv_I (k : Int), mv_I need, mv_R 16, mv_I (sp_top (sp_run (sp_nm V u k need) (P 2 p) []))]) (st' := [mv_I 99, mv_I (-99), mv_I (sp_top (sp_run (sp_nm V u k need) (P 2 p) []))]) (M1 := M1) rfl ?_
    refine mv_callP (st2 := [mv_I (sp_cl (sp_top (sp_run (sp_nm V u k need) (P 2 p) [])) (-99) 99)]) rfl (Or.inr rfl) rfl rfl rfl (sp_cwithin (by decide)) (by first | decide | omega) ?_
    exact mv_Ru.val (mv_ret (fun n => rfl) (h2)) (congrArg mv_I (by (have c2 : ¬ p = 2 := by omega); simp only [sp_says, hl, if_neg c2]; rfl))
theorem sp_csays_30_3 {V M : mv_M} {P : Nat → Nat → List Int} {p u k : Nat} {need : Int} (hV : sp_c 30 M V) (ho : sp_ok V) (hl : V 0 11 = 3) (hP : sp_ct (10 + 3 * 3) M (P 3)) (hp : p < 3) (hu : (u : Int) < V 0 9) (hk : k < 4) :
    mv_Ru 2 49 0 [mv_R 30, mv_I (p : Int), mv_I (u : Int), mv_I (k : Int), mv_I need, mv_U, mv_U] [] M (mv_I (sp_says V P p u k need)) (fun M1 => mv_ag [36, 37] M M1) := by
  have h9 := sp_ok_s9 ho
  refine mv_go' 2 (pc' := 4) (ls' := [mv_R 30, mv_I (p : Int), mv_I (u : Int), mv_I (k : Int), mv_I need, mv_U, mv_U]) (st' := [mv_I (M 30 11)]) (M1 := M) rfl ?_
  have hr37 := sp_ok_s11 ho
  rw [show M 30 11 = V 0 11 from by exact sp_c_s11 hV]
  rw [show V 0 11 = 3 from by exact hl]
  refine mv_go' 1 (pc' := if 3 < 0 then 16 else 7) (ls' := [mv_R 30, mv_I (p : Int), mv_I (u : Int), mv_I (k : Int), mv_I need, mv_U, mv_U]) (st' := []) (M1 := M) rfl ?_
  refine mv_ff' (by decide) ?_
  refine mv_go' 2 (pc' := 11) (ls' := [mv_R 30, mv_I (p : Int), mv_I (u : Int), mv_I (k : Int), mv_I need, mv_U, mv_U]) (st' := [mv_I (M 30 11)]) (M1 := M) rfl ?_
  have hr39 := sp_ok_s11 ho
  rw [show M 30 11 = V 0 11 from by exact sp_c_s11 hV]
  rw [show V 0 11 = 3 from by exact hl]
  refine mv_go' 2 (pc' := if 3 < 6 then 20 else 16) (ls' := [mv_R 30, mv_I (p : Int), mv_I (u : Int), mv_I (k : Int), mv_I need, mv_U, mv_U]) (st' := []) (M1 := M) rfl ?_
  refine mv_tt' (by decide) ?_
  refine mv_go' 4 (pc' := 28) (ls' := [mv_R 30, mv_I (p : Int), mv_I (u : Int), mv_I (k : Int), mv_I need, mv_U, mv_U]) (st' := [mv_I (M 30 11), mv_R 1]) (M1 := M) rfl ?_
  have hr41 := sp_ok_s11 ho
  rw [show M 30 11 = V 0 11 from by exact sp_c_s11 hV]
  rw [show V 0 11 = 3 from by exact hl]
  refine mv_go' 1 (pc' := if 0 ≤ 3 ∧ 3 < 6 then 29 else mv_bad) (ls' := [mv_R 30, mv_I (p : Int), mv_I (u : Int), mv_I (k : Int), mv_I need, mv_U, mv_U]) (st' := [mv_R 19]) (M1 := M) rfl ?_
  refine mv_tt' (by first | omega | decide) ?_
  refine mv_go' 13 (pc' := 52) (ls' := [mv_R 30, mv_I (p : Int), mv_I (u : Int), mv_I (k : Int), mv_I need, mv_R 19, mv_U]) (st' := [mv_I (mv_w ((mv_w ((u : Int) * 4)) + (k : Int))), mv_R 33, mv_I 0, mv_R 36]) (M1 := M) rfl ?_
  rw [show mv_w ((mv_w ((u : Int) * 4)) + (k : Int)) = ((4 * u + k : Nat) : Int) from by (rw [show mv_w ((u : Int) * 4) = (u : Int) * 4 from mv_w_id (by omega) (by omega), show mv_w (((u : Int) * 4) + (k : Int)) = ((u : Int) * 4) + (k : Int) from mv_w_id (by omega) (by omega)]) <;> omega]
  refine mv_go' 1 (pc' := if 0 ≤ ((4 * u + k : Nat) : Int) ∧ ((4 * u + k : Nat) : Int) < 24 then 53 else mv_bad) (ls' := [mv_R 30, mv_I (p : Int), mv_I (u : Int), mv_I (k : Int), mv_I need, mv_R 19, mv_U]) (st' := [mv_I (M 33 (4 * u + k)), mv_I 0, mv_R 36]) (M1 := M) rfl ?_
  refine mv_tt' (by first | omega | decide) ?_
  have hr43 := sp_ok_3 ho (4 * u + k) (by omega)
  rw [show M 33 (4 * u + k) = V 3 (4 * u + k) from by exact sp_c_3 hV (4 * u + k) (by omega)]
  refine mv_go' 1 (pc' := if 0 ≤ 0 ∧ 0 < 6 then 54 else mv_bad) (ls' := [mv_R 30, mv_I (p : Int), mv_I (u : Int), mv_I (k : Int), mv_I need, mv_R 19, mv_U]) (st' := []) (M1 := (mv_st M 36 (mv_up (M 36) 0 (V 3 (4 * u + k))))) rfl ?_
  refine mv_tt' (by first | omega | decide) ?_
  refine mv_go' 5 (pc' := if 0 ≤ 1 ∧ 1 < 6 then 62 else mv_bad) (ls' := [mv_R 30, mv_I (p : Int), mv_I (u : Int), mv_I (k : Int), mv_I need, mv_R 19, mv_U]) (st' := []) (M1 := (mv_st (mv_st M 36 (mv_up (M 36) 0 (V 3 (4 * u + k)))) 36 (mv_up (mv_up (M 36) 0 (V 3 (4 * u + k))) 1 need))) rfl ?_
  refine mv_tt' (by first | omega | decide) ?_
  refine mv_go' 5 (pc' := if 0 ≤ 2 ∧ 2 < 6 then 69 else mv_bad) (ls' := [mv_R 30, mv_I (p : Int), mv_I (u : Int), mv_I (k : Int), mv_I need, mv_R 19, mv_U]) (st' := []) (M1 := (mv_st (mv_st (mv_st M 36 (mv_up (M 36) 0 (V 3 (4 * u + k)))) 36 (mv_up (mv_up (M 36) 0 (V 3 (4 * u + k))) 1 need)) 36 (mv_up (mv_up (mv_up (M 36) 0 (V 3 (4 * u + k))) 1 need) 2 (k : Int)))) rfl ?_
  refine mv_tt' (by first | omega | decide) ?_
  refine mv_go' 5 (pc' := 78) (ls' := [mv_R 30, mv_I (p : Int), mv_I (u : Int), mv_I (k : Int), mv_I need, mv_R 19, mv_U]) (st' := [mv_I (M 30 10), mv_I 3, mv_R 36]) (M1 := (mv_st (mv_st (mv_st M 36 (mv_up (M 36) 0 (V 3 (4 * u + k)))) 36 (mv_up (mv_up (M 36) 0 (V 3 (4 * u + k))) 1 need)) 36 (mv_up (mv_up (mv_up (M 36) 0 (V 3 (4 * u + k))) 1 need) 2 (k : Int)))) rfl ?_
  have hr45 := sp_ok_s10 ho
  rw [show M 30 10 = V 0 10 from by exact sp_c_s10 hV]
  refine mv_go' 1 (pc' := if 0 ≤ 3 ∧ 3 < 6 then 79 else mv_bad) (ls' := [mv_R 30, mv_I (p : Int), mv_I (u : Int), mv_I (k : Int), mv_I need, mv_R 19, mv_U]) (st' := []) (M1 := (mv_st (mv_st (mv_st (mv_st M 36 (mv_up (M 36) 0 (V 3 (4 * u + k)))) 36 (mv_up (mv_up (M 36) 0 (V 3 (4 * u + k))) 1 need)) 36 (mv_up (mv_up (mv_up (M 36) 0 (V 3 (4 * u + k))) 1 need) 2 (k : Int))) 36 (mv_up (mv_up (mv_up (mv_up (M 36) 0 (V 3 (4 * u + k))) 1 need) 2 (k : Int)) 3 (V 0 10)))) rfl ?_
  refine mv_tt' (by first | omega | decide) ?_
  refine mv_go' 5 (pc' := 86) (ls' := [mv_R 30, mv_I (p : Int), mv_I (u : Int), mv_I (k : Int), mv_I need, mv_R 19, mv_U]) (st' := [mv_I (u : Int), mv_R 30, mv_I 4, mv_R 36]) (M1 := (mv_st (mv_st (mv_st (mv_st M 36 (mv_up (M 36) 0 (V 3 (4 * u + k)))) 36 (mv_up (mv_up (M 36) 0 (V 3 (4 * u + k))) 1 need)) 36 (mv_up (mv_up (mv_up (M 36) 0 (V 3 (4 * u + k))) 1 need) 2 (k : Int))) 36 (mv_up (mv_up (mv_up (mv_up (M 36) 0 (V 3 (4 * u + k))) 1 need) 2 (k : Int)) 3 (V 0 10)))) rfl ?_
  have ha : mv_ag [36] M (mv_st (mv_st (mv_st (mv_st M 36 (mv_up (M 36) 0 (V 3 (4 * u + k)))) 36 (mv_up (mv_up (M 36) 0 (V 3 (4 * u + k))) 1 need)) 36 (mv_up (mv_up (mv_up (M 36) 0 (V 3 (4 * u + k))) 1 need) 2 (k : Int))) 36 (mv_up (mv_up (mv_up (mv_up (M 36) 0 (V 3 (4 * u + k))) 1 need) 2 (k : Int)) 3 (V 0 10))) := by repeat (first | exact mv_ag.rf | refine mv_ag.st ?_ (by decide))
  refine mv_callP (st2 := [mv_I (sp_hired V (u : Int)), mv_I 4, mv_R 36]) rfl (Or.inl rfl) rfl rfl rfl (sp_hired_30 (sp_c_ag hV ha (by decide)) ho) (by first | decide | omega) ?_
  refine mv_go' 1 (pc' := if 0 ≤ 4 ∧ 4 < 6 then 90 else mv_bad) (ls' := [mv_R 30, mv_I (p : Int), mv_I (u : Int), mv_I (k : Int), mv_I need, mv_R 19, mv_U]) (st' := []) (M1 := (mv_st (mv_st (mv_st (mv_st (mv_st M 36 (mv_up (M 36) 0 (V 3 (4 * u + k)))) 36 (mv_up (mv_up (M 36) 0 (V 3 (4 * u + k))) 1 need)) 36 (mv_up (mv_up (mv_up (M 36) 0 (V 3 (4 * u + k))) 1 need) 2 (k : Int))) 36 (mv_up (mv_up (mv_up (mv_up (M 36) 0 (V 3 (4 * u + k))) 1 need) 2 (k : Int)) 3 (V 0 10))) 36 (mv_up (mv_up (mv_up (mv_up (mv_up (M 36) 0 (V 3 (4 * u + k))) 1 need) 2 (k : Int)) 3 (V 0 10)) 4 (sp_hired V (u : Int))))) rfl ?_
  refine mv_tt' (by first | omega | decide) ?_
  refine mv_go' 7 (pc' := if 0 ≤ (u : Int) ∧ (u : Int) < 6 then 101 else mv_bad) (ls' := [mv_R 30, mv_I (p : Int), mv_I (u : Int), mv_I (k : Int), mv_I need, mv_R 19, mv_U]) (st' := [mv_I (M 35 u), mv_I 5, mv_R 36]) (M1 := (mv_st (mv_st (mv_st (mv_st (mv_st M 36 (mv_up (M 36) 0 (V 3 (4 * u + k)))) 36 (mv_up (mv_up (M 36) 0 (V 3 (4 * u + k))) 1 need)) 36 (mv_up (mv_up (mv_up (M 36) 0 (V 3 (4 * u + k))) 1 need) 2 (k : Int))) 36 (mv_up (mv_up (mv_up (mv_up (M 36) 0 (V 3 (4 * u + k))) 1 need) 2 (k : Int)) 3 (V 0 10))) 36 (mv_up (mv_up (mv_up (mv_up (mv_up (M 36) 0 (V 3 (4 * u + k))) 1 need) 2 (k : Int)) 3 (V 0 10)) 4 (sp_hired V (u : Int))))) rfl ?_
  refine mv_tt' (by first | omega | decide) ?_
  have hr47 := sp_ok_5 ho u (by omega)
  rw [show M 35 u = V 5 u from by exact sp_c_5 hV u (by omega)]
  refine mv_go' 1 (pc' := if 0 ≤ 5 ∧ 5 < 6 then 102 else mv_bad) (ls' := [mv_R 30, mv_I (p : Int), mv_I (u : Int), mv_I (k : Int), mv_I need, mv_R 19, mv_U]) (st' := []) (M1 := (mv_st (mv_st (mv_st (mv_st (mv_st (mv_st M 36 (mv_up (M 36) 0 (V 3 (4 * u + k)))) 36 (mv_up (mv_up (M 36) 0 (V 3 (4 * u + k))) 1 need)) 36 (mv_up (mv_up (mv_up (M 36) 0 (V 3 (4 * u + k))) 1 need) 2 (k : Int))) 36 (mv_up (mv_up (mv_up (mv_up (M 36) 0 (V 3 (4 * u + k))) 1 need) 2 (k : Int)) 3 (V 0 10))) 36 (mv_up (mv_up (mv_up (mv_up (mv_up (M 36) 0 (V 3 (4 * u + k))) 1 need) 2 (k : Int)) 3 (V 0 10)) 4 (sp_hired V (u : Int)))) 36 (mv_up (mv_up (mv_up (mv_up (mv_up (mv_up (M 36) 0 (V 3 (4 * u + k))) 1 need) 2 (k : Int)) 3 (V 0 10)) 4 (sp_hired V (u : Int))) 5 (V 5 u)))) rfl ?_
  refine mv_tt' (by first | omega | decide) ?_
  refine mv_go' 6 (pc' := 113) (ls' := [mv_R 30, mv_I (p : Int), mv_I (u : Int), mv_I (k : Int), mv_I need, mv_R 19, mv_U]) (st' := [mv_R 37, mv_R 36, mv_I (p : Int), mv_R 19]) (M1 := (mv_st (mv_st (mv_st (mv_st (mv_st (mv_st M 36 (mv_up (M 36) 0 (V 3 (4 * u + k)))) 36 (mv_up (mv_up (M 36) 0 (V 3 (4 * u + k))) 1 need)) 36 (mv_up (mv_up (mv_up (M 36) 0 (V 3 (4 * u + k))) 1 need) 2 (k : Int))) 36 (mv_up (mv_up (mv_up (mv_up (M 36) 0 (V 3 (4 * u + k))) 1 need) 2 (k : Int)) 3 (V 0 10))) 36 (mv_up (mv_up (mv_up (mv_up (mv_up (M 36) 0 (V 3 (4 * u + k))) 1 need) 2 (k : Int)) 3 (V 0 10)) 4 (sp_hired V (u : Int)))) 36 (mv_up (mv_up (mv_up (mv_up (mv_up (mv_up (M 36) 0 (V 3 (4 * u + k))) 1 need) 2 (k : Int)) 3 (V 0 10)) 4 (sp_hired V (u : Int))) 5 (V 5 u)))) rfl ?_
  have ha : mv_ag [36] M (mv_st (mv_st (mv_st (mv_st (mv_st (mv_st M 36 (mv_up (M 36) 0 (V 3 (4 * u + k)))) 36 (mv_up (mv_up (M 36) 0 (V 3 (4 * u + k))) 1 need)) 36 (mv_up (mv_up (mv_up (M 36) 0 (V 3 (4 * u + k))) 1 need) 2 (k : Int))) 36 (mv_up (mv_up (mv_up (mv_up (M 36) 0 (V 3 (4 * u + k))) 1 need) 2 (k : Int)) 3 (V 0 10))) 36 (mv_up (mv_up (mv_up (mv_up (mv_up (M 36) 0 (V 3 (4 * u + k))) 1 need) 2 (k : Int)) 3 (V 0 10)) 4 (sp_hired V (u : Int)))) 36 (mv_up (mv_up (mv_up (mv_up (mv_up (mv_up (M 36) 0 (V 3 (4 * u + k))) 1 need) 2 (k : Int)) 3 (V 0 10)) 4 (sp_hired V (u : Int))) 5 (V 5 u))) := by repeat (first | exact mv_ag.rf | refine mv_ag.st ?_ (by decide))
  have hn : ∀ i, i < 6 → (mv_st (mv_st (mv_st (mv_st (mv_st (mv_st M 36 (mv_up (M 36) 0 (V 3 (4 * u + k)))) 36 (mv_up (mv_up (M 36) 0 (V 3 (4 * u + k))) 1 need)) 36 (mv_up (mv_up (mv_up (M 36) 0 (V 3 (4 * u + k))) 1 need) 2 (k : Int))) 36 (mv_up (mv_up (mv_up (mv_up (M 36) 0 (V 3 (4 * u + k))) 1 need) 2 (k : Int)) 3 (V 0 10))) 36 (mv_up (mv_up (mv_up (mv_up (mv_up (M 36) 0 (V 3 (4 * u + k))) 1 need) 2 (k : Int)) 3 (V 0 10)) 4 (sp_hired V (u : Int)))) 36 (mv_up (mv_up (mv_up (mv_up (mv_up (mv_up (M 36) 0 (V 3 (4 * u + k))) 1 need) 2 (k : Int)) 3 (V 0 10)) 4 (sp_hired V (u : Int))) 5 (V 5 u))) 36 i = sp_nm V u k need i := fun i hi => match i, hi with
    | 0, _ => rfl
    | 1, _ => rfl
    | 2, _ => rfl
    | 3, _ => rfl
    | 4, _ => rfl
    | 5, _ => rfl
  refine mv_call (st2 := [mv_I (sp_top (sp_run (sp_nm V u k need) (P 3 p) []))]) rfl (Or.inl rfl) rfl rfl rfl ((sp_value_19_36 hp (sp_ct_ag hP ha (by decide))).val (congrArg mv_I (congrArg sp_top (sp_run_nm hn (P 3 p) 0 [] (sp_ct_wf hP hp) rfl)))) (by first | decide | omega) (fun M1 h1 => ?_)
  have h2 : mv_ag [36, 37] M M1 := (ha.wd (by decide)).tr (h1.wd (by decide))
  refine mv_go' 4 (pc' := if (p : Int) = 2 then 123 else 134) (ls' := [mv_R 30, mv_I (p : Int), mv_I (u : Int), mv_I (k : Int), mv_I need, mv_R 19, mv_I (sp_top (sp_run (sp_nm V u k need) (P 3 p) []))]) (st' := []) (M1 := M1) rfl ?_
  refine mv_sp' (fun c => ?_) (fun c => ?_)
  · refine mv_go' 3 (pc' := 128) (ls' := [mv_R 30, mv_I (p : Int), mv_I (u : Int), mv_I (k : Int), mv_I need, mv_R 19, mv_I (sp_top (sp_run (sp_nm V u k need) (P 3 p) []))]) (st' := [mv_I 9, mv_I 0, mv_I (sp_top (sp_run (sp_nm V u k need) (P 3 p) []))]) (M1 := M1) rfl ?_
    refine mv_callP (st2 := [mv_I (sp_cl (sp_top (sp_run (sp_nm V u k need) (P 3 p) [])) 0 9)]) rfl (Or.inr rfl) rfl rfl rfl (sp_cwithin (by decide)) (by first | decide | omega) ?_
    refine mv_go' 1 (pc' := 143) (ls' := [mv_R 30, mv_I (p : Int), mv_I (u : Int), mv_I (k : Int), mv_I need, mv_R 19, mv_I (sp_top (sp_run (sp_nm V u k need) (P 3 p) []))]) (st' := [mv_I (sp_cl (sp_top (sp_run (sp_nm V u k need) (P 3 p) [])) 0 9)]) (M1 := M1) rfl ?_
    exact mv_Ru.val (mv_ret (fun n => rfl) (h2)) (congrArg mv_I (by (have c2 : p = 2 := by omega); simp only [sp_says, hl, if_pos c2]; rfl))
  · refine mv_go' 3 (pc' := 140) (ls' := [mv_R 30, mv_I (p : Int), mv_I (u : Int), mv_I (k : Int), mv_I need, mv_R 19, mv_I (sp_top (sp_run (sp_nm V u k need) (P 3 p) []))]) (st' := [mv_I 99, mv_I (-99), mv_I (sp_top (sp_run (sp_nm V u k need) (P 3 p) []))]) (M1 := M1) rfl ?_
    refine mv_callP (st2 := [mv_I (sp_cl (sp_top (sp_run (sp_nm V u k need) (P 3 p) [])) (-99) 99)]) rfl (Or.inr rfl) rfl rfl rfl (sp_cwithin (by decide)) (by first | decide | omega) ?_
    exact mv_Ru.val (mv_ret (fun n => rfl) (h2)) (congrArg mv_I (by (have c2 : ¬ p = 2 := by omega); simp only [sp_says, hl, if_neg c2]; rfl))
theorem sp_csays_30_4 {V M : mv_M} {P : Nat → Nat → List Int} {p u k : Nat} {need : Int} (hV : sp_c 30 M V) (ho : sp_ok V) (hl : V 0 11 = 4) (hP : sp_ct (10 + 3 * 4) M (P 4)) (hp : p < 3) (hu : (u : Int) < V 0 9) (hk : k < 4) :
    mv_Ru 2 49 0 [mv_R 30, mv_I (p : Int), mv_I (u : Int), mv_I (k : Int), mv_I need, mv_U, mv_U] [] M (mv_I (sp_says V P p u k need)) (fun M1 => mv_ag [36, 37] M M1) := by
  have h9 := sp_ok_s9 ho
  refine mv_go' 2 (pc' := 4) (ls' := [mv_R 30, mv_I (p : Int), mv_I (u : Int), mv_I (k : Int), mv_I need, mv_U, mv_U]) (st' := [mv_I (M 30 11)]) (M1 := M) rfl ?_
  have hr49 := sp_ok_s11 ho
  rw [show M 30 11 = V 0 11 from by exact sp_c_s11 hV]
  rw [show V 0 11 = 4 from by exact hl]
  refine mv_go' 1 (pc' := if 4 < 0 then 16 else 7) (ls' := [mv_R 30, mv_I (p : Int), mv_I (u : Int), mv_I (k : Int), mv_I need, mv_U, mv_U]) (st' := []) (M1 := M) rfl ?_
  refine mv_ff' (by decide) ?_
  refine mv_go' 2 (pc' := 11) (ls' := [mv_R 30, mv_I (p : Int), mv_I (u : Int), mv_I (k : Int), mv_I need, mv_U, mv_U]) (st' := [mv_I (M 30 11)]) (M1 := M) rfl ?_
  have hr51 := sp_ok_s11 ho
  rw [show M 30 11 = V 0 11 from by exact sp_c_s11 hV]
  rw [show V 0 11 = 4 from by exact hl]
  refine mv_go' 2 (pc' := if 4 < 6 then 20 else 16) (ls' := [mv_R 30, mv_I (p : Int), mv_I (u : Int), mv_I (k : Int), mv_I need, mv_U, mv_U]) (st' := []) (M1 := M) rfl ?_
  refine mv_tt' (by decide) ?_
  refine mv_go' 4 (pc' := 28) (ls' := [mv_R 30, mv_I (p : Int), mv_I (u : Int), mv_I (k : Int), mv_I need, mv_U, mv_U]) (st' := [mv_I (M 30 11), mv_R 1]) (M1 := M) rfl ?_
  have hr53 := sp_ok_s11 ho
  rw [show M 30 11 = V 0 11 from by exact sp_c_s11 hV]
  rw [show V 0 11 = 4 from by exact hl]
  refine mv_go' 1 (pc' := if 0 ≤ 4 ∧ 4 < 6 then 29 else mv_bad) (ls' := [mv_R 30, mv_I (p : Int), mv_I (u : Int), mv_I (k : Int), mv_I need, mv_U, mv_U]) (st' := [mv_R 22]) (M1 := M) rfl ?_
  refine mv_tt' (by first | omega | decide) ?_
  refine mv_go' 13 (pc' := 52) (ls' := [mv_R 30, mv_I (p : Int), mv_I (u : Int), mv_I (k : Int), mv_I need, mv_R 22, mv_U]) (st' := [mv_I (mv_w ((mv_w ((u : Int) * 4)) + (k : Int))), mv_R 33, mv_I 0, mv_R 36]) (M1 := M) rfl ?_
  rw [show mv_w ((mv_w ((u : Int) * 4)) + (k : Int)) = ((4 * u + k : Nat) : Int) from by (rw [show mv_w ((u : Int) * 4) = (u : Int) * 4 from mv_w_id (by omega) (by omega), show mv_w (((u : Int) * 4) + (k : Int)) = ((u : Int) * 4) + (k : Int) from mv_w_id (by omega) (by omega)]) <;> omega]
  refine mv_go' 1 (pc' := if 0 ≤ ((4 * u + k : Nat) : Int) ∧ ((4 * u + k : Nat) : Int) < 24 then 53 else mv_bad) (ls' := [mv_R 30, mv_I (p : Int), mv_I (u : Int), mv_I (k : Int), mv_I need, mv_R 22, mv_U]) (st' := [mv_I (M 33 (4 * u + k)), mv_I 0, mv_R 36]) (M1 := M) rfl ?_
  refine mv_tt' (by first | omega | decide) ?_
  have hr55 := sp_ok_3 ho (4 * u + k) (by omega)
  rw [show M 33 (4 * u + k) = V 3 (4 * u + k) from by exact sp_c_3 hV (4 * u + k) (by omega)]
  refine mv_go' 1 (pc' := if 0 ≤ 0 ∧ 0 < 6 then 54 else mv_bad) (ls' := [mv_R 30, mv_I (p : Int), mv_I (u : Int), mv_I (k : Int), mv_I need, mv_R 22, mv_U]) (st' := []) (M1 := (mv_st M 36 (mv_up (M 36) 0 (V 3 (4 * u + k))))) rfl ?_
  refine mv_tt' (by first | omega | decide) ?_
  refine mv_go' 5 (pc' := if 0 ≤ 1 ∧ 1 < 6 then 62 else mv_bad) (ls' := [mv_R 30, mv_I (p : Int), mv_I (u : Int), mv_I (k : Int), mv_I need, mv_R 22, mv_U]) (st' := []) (M1 := (mv_st (mv_st M 36 (mv_up (M 36) 0 (V 3 (4 * u + k)))) 36 (mv_up (mv_up (M 36) 0 (V 3 (4 * u + k))) 1 need))) rfl ?_
  refine mv_tt' (by first | omega | decide) ?_
  refine mv_go' 5 (pc' := if 0 ≤ 2 ∧ 2 < 6 then 69 else mv_bad) (ls' := [mv_R 30, mv_I (p : Int), mv_I (u : Int), mv_I (k : Int), mv_I need, mv_R 22, mv_U]) (st' := []) (M1 := (mv_st (mv_st (mv_st M 36 (mv_up (M 36) 0 (V 3 (4 * u + k)))) 36 (mv_up (mv_up (M 36) 0 (V 3 (4 * u + k))) 1 need)) 36 (mv_up (mv_up (mv_up (M 36) 0 (V 3 (4 * u + k))) 1 need) 2 (k : Int)))) rfl ?_
  refine mv_tt' (by first | omega | decide) ?_
  refine mv_go' 5 (pc' := 78) (ls' := [mv_R 30, mv_I (p : Int), mv_I (u : Int), mv_I (k : Int), mv_I need, mv_R 22, mv_U]) (st' := [mv_I (M 30 10), mv_I 3, mv_R 36]) (M1 := (mv_st (mv_st (mv_st M 36 (mv_up (M 36) 0 (V 3 (4 * u + k)))) 36 (mv_up (mv_up (M 36) 0 (V 3 (4 * u + k))) 1 need)) 36 (mv_up (mv_up (mv_up (M 36) 0 (V 3 (4 * u + k))) 1 need) 2 (k : Int)))) rfl ?_
  have hr57 := sp_ok_s10 ho
  rw [show M 30 10 = V 0 10 from by exact sp_c_s10 hV]
  refine mv_go' 1 (pc' := if 0 ≤ 3 ∧ 3 < 6 then 79 else mv_bad) (ls' := [mv_R 30, mv_I (p : Int), mv_I (u : Int), mv_I (k : Int), mv_I need, mv_R 22, mv_U]) (st' := []) (M1 := (mv_st (mv_st (mv_st (mv_st M 36 (mv_up (M 36) 0 (V 3 (4 * u + k)))) 36 (mv_up (mv_up (M 36) 0 (V 3 (4 * u + k))) 1 need)) 36 (mv_up (mv_up (mv_up (M 36) 0 (V 3 (4 * u + k))) 1 need) 2 (k : Int))) 36 (mv_up (mv_up (mv_up (mv_up (M 36) 0 (V 3 (4 * u + k))) 1 need) 2 (k : Int)) 3 (V 0 10)))) rfl ?_
  refine mv_tt' (by first | omega | decide) ?_
  refine mv_go' 5 (pc' := 86) (ls' := [mv_R 30, mv_I (p : Int), mv_I (u : Int), mv_I (k : Int), mv_I need, mv_R 22, mv_U]) (st' := [mv_I (u : Int), mv_R 30, mv_I 4, mv_R 36]) (M1 := (mv_st (mv_st (mv_st (mv_st M 36 (mv_up (M 36) 0 (V 3 (4 * u + k)))) 36 (mv_up (mv_up (M 36) 0 (V 3 (4 * u + k))) 1 need)) 36 (mv_up (mv_up (mv_up (M 36) 0 (V 3 (4 * u + k))) 1 need) 2 (k : Int))) 36 (mv_up (mv_up (mv_up (mv_up (M 36) 0 (V 3 (4 * u + k))) 1 need) 2 (k : Int)) 3 (V 0 10)))) rfl ?_
  have ha : mv_ag [36] M (mv_st (mv_st (mv_st (mv_st M 36 (mv_up (M 36) 0 (V 3 (4 * u + k)))) 36 (mv_up (mv_up (M 36) 0 (V 3 (4 * u + k))) 1 need)) 36 (mv_up (mv_up (mv_up (M 36) 0 (V 3 (4 * u + k))) 1 need) 2 (k : Int))) 36 (mv_up (mv_up (mv_up (mv_up (M 36) 0 (V 3 (4 * u + k))) 1 need) 2 (k : Int)) 3 (V 0 10))) := by repeat (first | exact mv_ag.rf | refine mv_ag.st ?_ (by decide))
  refine mv_callP (st2 := [mv_I (sp_hired V (u : Int)), mv_I 4, mv_R 36]) rfl (Or.inl rfl) rfl rfl rfl (sp_hired_30 (sp_c_ag hV ha (by decide)) ho) (by first | decide | omega) ?_
  refine mv_go' 1 (pc' := if 0 ≤ 4 ∧ 4 < 6 then 90 else mv_bad) (ls' := [mv_R 30, mv_I (p : Int), mv_I (u : Int), mv_I (k : Int), mv_I need, mv_R 22, mv_U]) (st' := []) (M1 := (mv_st (mv_st (mv_st (mv_st (mv_st M 36 (mv_up (M 36) 0 (V 3 (4 * u + k)))) 36 (mv_up (mv_up (M 36) 0 (V 3 (4 * u + k))) 1 need)) 36 (mv_up (mv_up (mv_up (M 36) 0 (V 3 (4 * u + k))) 1 need) 2 (k : Int))) 36 (mv_up (mv_up (mv_up (mv_up (M 36) 0 (V 3 (4 * u + k))) 1 need) 2 (k : Int)) 3 (V 0 10))) 36 (mv_up (mv_up (mv_up (mv_up (mv_up (M 36) 0 (V 3 (4 * u + k))) 1 need) 2 (k : Int)) 3 (V 0 10)) 4 (sp_hired V (u : Int))))) rfl ?_
  refine mv_tt' (by first | omega | decide) ?_
  refine mv_go' 7 (pc' := if 0 ≤ (u : Int) ∧ (u : Int) < 6 then 101 else mv_bad) (ls' := [mv_R 30, mv_I (p : Int), mv_I (u : Int), mv_I (k : Int), mv_I need, mv_R 22, mv_U]) (st' := [mv_I (M 35 u), mv_I 5, mv_R 36]) (M1 := (mv_st (mv_st (mv_st (mv_st (mv_st M 36 (mv_up (M 36) 0 (V 3 (4 * u + k)))) 36 (mv_up (mv_up (M 36) 0 (V 3 (4 * u + k))) 1 need)) 36 (mv_up (mv_up (mv_up (M 36) 0 (V 3 (4 * u + k))) 1 need) 2 (k : Int))) 36 (mv_up (mv_up (mv_up (mv_up (M 36) 0 (V 3 (4 * u + k))) 1 need) 2 (k : Int)) 3 (V 0 10))) 36 (mv_up (mv_up (mv_up (mv_up (mv_up (M 36) 0 (V 3 (4 * u + k))) 1 need) 2 (k : Int)) 3 (V 0 10)) 4 (sp_hired V (u : Int))))) rfl ?_
  refine mv_tt' (by first | omega | decide) ?_
  have hr59 := sp_ok_5 ho u (by omega)
  rw [show M 35 u = V 5 u from by exact sp_c_5 hV u (by omega)]
  refine mv_go' 1 (pc' := if 0 ≤ 5 ∧ 5 < 6 then 102 else mv_bad) (ls' := [mv_R 30, mv_I (p : Int), mv_I (u : Int), mv_I (k : Int), mv_I need, mv_R 22, mv_U]) (st' := []) (M1 := (mv_st (mv_st (mv_st (mv_st (mv_st (mv_st M 36 (mv_up (M 36) 0 (V 3 (4 * u + k)))) 36 (mv_up (mv_up (M 36) 0 (V 3 (4 * u + k))) 1 need)) 36 (mv_up (mv_up (mv_up (M 36) 0 (V 3 (4 * u + k))) 1 need) 2 (k : Int))) 36 (mv_up (mv_up (mv_up (mv_up (M 36) 0 (V 3 (4 * u + k))) 1 need) 2 (k : Int)) 3 (V 0 10))) 36 (mv_up (mv_up (mv_up (mv_up (mv_up (M 36) 0 (V 3 (4 * u + k))) 1 need) 2 (k : Int)) 3 (V 0 10)) 4 (sp_hired V (u : Int)))) 36 (mv_up (mv_up (mv_up (mv_up (mv_up (mv_up (M 36) 0 (V 3 (4 * u + k))) 1 need) 2 (k : Int)) 3 (V 0 10)) 4 (sp_hired V (u : Int))) 5 (V 5 u)))) rfl ?_
  refine mv_tt' (by first | omega | decide) ?_
  refine mv_go' 6 (pc' := 113) (ls' := [mv_R 30, mv_I (p : Int), mv_I (u : Int), mv_I (k : Int), mv_I need, mv_R 22, mv_U]) (st' := [mv_R 37, mv_R 36, mv_I (p : Int), mv_R 22]) (M1 := (mv_st (mv_st (mv_st (mv_st (mv_st (mv_st M 36 (mv_up (M 36) 0 (V 3 (4 * u + k)))) 36 (mv_up (mv_up (M 36) 0 (V 3 (4 * u + k))) 1 need)) 36 (mv_up (mv_up (mv_up (M 36) 0 (V 3 (4 * u + k))) 1 need) 2 (k : Int))) 36 (mv_up (mv_up (mv_up (mv_up (M 36) 0 (V 3 (4 * u + k))) 1 need) 2 (k : Int)) 3 (V 0 10))) 36 (mv_up (mv_up (mv_up (mv_up (mv_up (M 36) 0 (V 3 (4 * u + k))) 1 need) 2 (k : Int)) 3 (V 0 10)) 4 (sp_hired V (u : Int)))) 36 (mv_up (mv_up (mv_up (mv_up (mv_up (mv_up (M 36) 0 (V 3 (4 * u + k))) 1 need) 2 (k : Int)) 3 (V 0 10)) 4 (sp_hired V (u : Int))) 5 (V 5 u)))) rfl ?_
  have ha : mv_ag [36] M (mv_st (mv_st (mv_st (mv_st (mv_st (mv_st M 36 (mv_up (M 36) 0 (V 3 (4 * u + k)))) 36 (mv_up (mv_up (M 36) 0 (V 3 (4 * u + k))) 1 need)) 36 (mv_up (mv_up (mv_up (M 36) 0 (V 3 (4 * u + k))) 1 need) 2 (k : Int))) 36 (mv_up (mv_up (mv_up (mv_up (M 36) 0 (V 3 (4 * u + k))) 1 need) 2 (k : Int)) 3 (V 0 10))) 36 (mv_up (mv_up (mv_up (mv_up (mv_up (M 36) 0 (V 3 (4 * u + k))) 1 need) 2 (k : Int)) 3 (V 0 10)) 4 (sp_hired V (u : Int)))) 36 (mv_up (mv_up (mv_up (mv_up (mv_up (mv_up (M 36) 0 (V 3 (4 * u + k))) 1 need) 2 (k : Int)) 3 (V 0 10)) 4 (sp_hired V (u : Int))) 5 (V 5 u))) := by repeat (first | exact mv_ag.rf | refine mv_ag.st ?_ (by decide))
  have hn : ∀ i, i < 6 → (mv_st (mv_st (mv_st (mv_st (mv_st (mv_st M 36 (mv_up (M 36) 0 (V 3 (4 * u + k)))) 36 (mv_up (mv_up (M 36) 0 (V 3 (4 * u + k))) 1 need)) 36 (mv_up (mv_up (mv_up (M 36) 0 (V 3 (4 * u + k))) 1 need) 2 (k : Int))) 36 (mv_up (mv_up (mv_up (mv_up (M 36) 0 (V 3 (4 * u + k))) 1 need) 2 (k : Int)) 3 (V 0 10))) 36 (mv_up (mv_up (mv_up (mv_up (mv_up (M 36) 0 (V 3 (4 * u + k))) 1 need) 2 (k : Int)) 3 (V 0 10)) 4 (sp_hired V (u : Int)))) 36 (mv_up (mv_up (mv_up (mv_up (mv_up (mv_up (M 36) 0 (V 3 (4 * u + k))) 1 need) 2 (k : Int)) 3 (V 0 10)) 4 (sp_hired V (u : Int))) 5 (V 5 u))) 36 i = sp_nm V u k need i := fun i hi => match i, hi with
    | 0, _ => rfl
    | 1, _ => rfl
    | 2, _ => rfl
    | 3, _ => rfl
    | 4, _ => rfl
    | 5, _ => rfl
  refine mv_call (st2 := [mv_I (sp_top (sp_run (sp_nm V u k need) (P 4 p) []))]) rfl (Or.inl rfl) rfl rfl rfl ((sp_value_22_36 hp (sp_ct_ag hP ha (by decide))).val (congrArg mv_I (congrArg sp_top (sp_run_nm hn (P 4 p) 0 [] (sp_ct_wf hP hp) rfl)))) (by first | decide | omega) (fun M1 h1 => ?_)
  have h2 : mv_ag [36, 37] M M1 := (ha.wd (by decide)).tr (h1.wd (by decide))
  refine mv_go' 4 (pc' := if (p : Int) = 2 then 123 else 134) (ls' := [mv_R 30, mv_I (p : Int), mv_I (u : Int), mv_I (k : Int), mv_I need, mv_R 22, mv_I (sp_top (sp_run (sp_nm V u k need) (P 4 p) []))]) (st' := []) (M1 := M1) rfl ?_
  refine mv_sp' (fun c => ?_) (fun c => ?_)
  · refine mv_go' 3 (pc' := 128) (ls' := [mv_R 30, mv_I (p : Int), mv_I (u : Int), mv_I (k : Int), mv_I need, mv_R 22, mv_I (sp_top (sp_run (sp_nm V u k need) (P 4 p) []))]) (st' := [mv_I 9, mv_I 0, mv_I (sp_top (sp_run (sp_nm V u k need) (P 4 p) []))]) (M1 := M1) rfl ?_
    refine mv_callP (st2 := [mv_I (sp_cl (sp_top (sp_run (sp_nm V u k need) (P 4 p) [])) 0 9)]) rfl (Or.inr rfl) rfl rfl rfl (sp_cwithin (by decide)) (by first | decide | omega) ?_
    refine mv_go' 1 (pc' := 143) (ls' := [mv_R 30, mv_I (p : Int), mv_I (u : Int), mv_I (k : Int), mv_I need, mv_R 22, mv_I (sp_top (sp_run (sp_nm V u k need) (P 4 p) []))]) (st' := [mv_I (sp_cl (sp_top (sp_run (sp_nm V u k need) (P 4 p) [])) 0 9)]) (M1 := M1) rfl ?_
    exact mv_Ru.val (mv_ret (fun n => rfl) (h2)) (congrArg mv_I (by (have c2 : p = 2 := by omega); simp only [sp_says, hl, if_pos c2]; rfl))
  · refine mv_go' 3 (pc' := 140) (ls' := [mv_R 30, mv_I (p : Int), mv_I (u : Int), mv_I (k : Int), mv_I need, mv_R 22, mv_I (sp_top (sp_run (sp_nm V u k need) (P 4 p) []))]) (st' := [mv_I 99, mv_I (-99), mv_I (sp_top (sp_run (sp_nm V u k need) (P 4 p) []))]) (M1 := M1) rfl ?_
    refine mv_callP (st2 := [mv_I (sp_cl (sp_top (sp_run (sp_nm V u k need) (P 4 p) [])) (-99) 99)]) rfl (Or.inr rfl) rfl rfl rfl (sp_cwithin (by decide)) (by first | decide | omega) ?_
    exact mv_Ru.val (mv_ret (fun n => rfl) (h2)) (congrArg mv_I (by (have c2 : ¬ p = 2 := by omega); simp only [sp_says, hl, if_neg c2]; rfl))
theorem sp_csays_30_5 {V M : mv_M} {P : Nat → Nat → List Int} {p u k : Nat} {need : Int} (hV : sp_c 30 M V) (ho : sp_ok V) (hl : V 0 11 = 5) (hP : sp_ct (10 + 3 * 5) M (P 5)) (hp : p < 3) (hu : (u : Int) < V 0 9) (hk : k < 4) :
    mv_Ru 2 49 0 [mv_R 30, mv_I (p : Int), mv_I (u : Int), mv_I (k : Int), mv_I need, mv_U, mv_U] [] M (mv_I (sp_says V P p u k need)) (fun M1 => mv_ag [36, 37] M M1) := by
  have h9 := sp_ok_s9 ho
  refine mv_go' 2 (pc' := 4) (ls' := [mv_R 30, mv_I (p : Int), mv_I (u : Int), mv_I (k : Int), mv_I need, mv_U, mv_U]) (st' := [mv_I (M 30 11)]) (M1 := M) rfl ?_
  have hr61 := sp_ok_s11 ho
  rw [show M 30 11 = V 0 11 from by exact sp_c_s11 hV]
  rw [show V 0 11 = 5 from by exact hl]
  refine mv_go' 1 (pc' := if 5 < 0 then 16 else 7) (ls' := [mv_R 30, mv_I (p : Int), mv_I (u : Int), mv_I (k : Int), mv_I need, mv_U, mv_U]) (st' := []) (M1 := M) rfl ?_
  refine mv_ff' (by decide) ?_
  refine mv_go' 2 (pc' := 11) (ls' := [mv_R 30, mv_I (p : Int), mv_I (u : Int), mv_I (k : Int), mv_I need, mv_U, mv_U]) (st' := [mv_I (M 30 11)]) (M1 := M) rfl ?_
  have hr63 := sp_ok_s11 ho
  rw [show M 30 11 = V 0 11 from by exact sp_c_s11 hV]
  rw [show V 0 11 = 5 from by exact hl]
  refine mv_go' 2 (pc' := if 5 < 6 then 20 else 16) (ls' := [mv_R 30, mv_I (p : Int), mv_I (u : Int), mv_I (k : Int), mv_I need, mv_U, mv_U]) (st' := []) (M1 := M) rfl ?_
  refine mv_tt' (by decide) ?_
  refine mv_go' 4 (pc' := 28) (ls' := [mv_R 30, mv_I (p : Int), mv_I (u : Int), mv_I (k : Int), mv_I need, mv_U, mv_U]) (st' := [mv_I (M 30 11), mv_R 1]) (M1 := M) rfl ?_
  have hr65 := sp_ok_s11 ho
  rw [show M 30 11 = V 0 11 from by exact sp_c_s11 hV]
  rw [show V 0 11 = 5 from by exact hl]
  refine mv_go' 1 (pc' := if 0 ≤ 5 ∧ 5 < 6 then 29 else mv_bad) (ls' := [mv_R 30, mv_I (p : Int), mv_I (u : Int), mv_I (k : Int), mv_I need, mv_U, mv_U]) (st' := [mv_R 25]) (M1 := M) rfl ?_
  refine mv_tt' (by first | omega | decide) ?_
  refine mv_go' 13 (pc' := 52) (ls' := [mv_R 30, mv_I (p : Int), mv_I (u : Int), mv_I (k : Int), mv_I need, mv_R 25, mv_U]) (st' := [mv_I (mv_w ((mv_w ((u : Int) * 4)) + (k : Int))), mv_R 33, mv_I 0, mv_R 36]) (M1 := M) rfl ?_
  rw [show mv_w ((mv_w ((u : Int) * 4)) + (k : Int)) = ((4 * u + k : Nat) : Int) from by (rw [show mv_w ((u : Int) * 4) = (u : Int) * 4 from mv_w_id (by omega) (by omega), show mv_w (((u : Int) * 4) + (k : Int)) = ((u : Int) * 4) + (k : Int) from mv_w_id (by omega) (by omega)]) <;> omega]
  refine mv_go' 1 (pc' := if 0 ≤ ((4 * u + k : Nat) : Int) ∧ ((4 * u + k : Nat) : Int) < 24 then 53 else mv_bad) (ls' := [mv_R 30, mv_I (p : Int), mv_I (u : Int), mv_I (k : Int), mv_I need, mv_R 25, mv_U]) (st' := [mv_I (M 33 (4 * u + k)), mv_I 0, mv_R 36]) (M1 := M) rfl ?_
  refine mv_tt' (by first | omega | decide) ?_
  have hr67 := sp_ok_3 ho (4 * u + k) (by omega)
  rw [show M 33 (4 * u + k) = V 3 (4 * u + k) from by exact sp_c_3 hV (4 * u + k) (by omega)]
  refine mv_go' 1 (pc' := if 0 ≤ 0 ∧ 0 < 6 then 54 else mv_bad) (ls' := [mv_R 30, mv_I (p : Int), mv_I (u : Int), mv_I (k : Int), mv_I need, mv_R 25, mv_U]) (st' := []) (M1 := (mv_st M 36 (mv_up (M 36) 0 (V 3 (4 * u + k))))) rfl ?_
  refine mv_tt' (by first | omega | decide) ?_
  refine mv_go' 5 (pc' := if 0 ≤ 1 ∧ 1 < 6 then 62 else mv_bad) (ls' := [mv_R 30, mv_I (p : Int), mv_I (u : Int), mv_I (k : Int), mv_I need, mv_R 25, mv_U]) (st' := []) (M1 := (mv_st (mv_st M 36 (mv_up (M 36) 0 (V 3 (4 * u + k)))) 36 (mv_up (mv_up (M 36) 0 (V 3 (4 * u + k))) 1 need))) rfl ?_
  refine mv_tt' (by first | omega | decide) ?_
  refine mv_go' 5 (pc' := if 0 ≤ 2 ∧ 2 < 6 then 69 else mv_bad) (ls' := [mv_R 30, mv_I (p : Int), mv_I (u : Int), mv_I (k : Int), mv_I need, mv_R 25, mv_U]) (st' := []) (M1 := (mv_st (mv_st (mv_st M 36 (mv_up (M 36) 0 (V 3 (4 * u + k)))) 36 (mv_up (mv_up (M 36) 0 (V 3 (4 * u + k))) 1 need)) 36 (mv_up (mv_up (mv_up (M 36) 0 (V 3 (4 * u + k))) 1 need) 2 (k : Int)))) rfl ?_
  refine mv_tt' (by first | omega | decide) ?_
  refine mv_go' 5 (pc' := 78) (ls' := [mv_R 30, mv_I (p : Int), mv_I (u : Int), mv_I (k : Int), mv_I need, mv_R 25, mv_U]) (st' := [mv_I (M 30 10), mv_I 3, mv_R 36]) (M1 := (mv_st (mv_st (mv_st M 36 (mv_up (M 36) 0 (V 3 (4 * u + k)))) 36 (mv_up (mv_up (M 36) 0 (V 3 (4 * u + k))) 1 need)) 36 (mv_up (mv_up (mv_up (M 36) 0 (V 3 (4 * u + k))) 1 need) 2 (k : Int)))) rfl ?_
  have hr69 := sp_ok_s10 ho
  rw [show M 30 10 = V 0 10 from by exact sp_c_s10 hV]
  refine mv_go' 1 (pc' := if 0 ≤ 3 ∧ 3 < 6 then 79 else mv_bad) (ls' := [mv_R 30, mv_I (p : Int), mv_I (u : Int), mv_I (k : Int), mv_I need, mv_R 25, mv_U]) (st' := []) (M1 := (mv_st (mv_st (mv_st (mv_st M 36 (mv_up (M 36) 0 (V 3 (4 * u + k)))) 36 (mv_up (mv_up (M 36) 0 (V 3 (4 * u + k))) 1 need)) 36 (mv_up (mv_up (mv_up (M 36) 0 (V 3 (4 * u + k))) 1 need) 2 (k : Int))) 36 (mv_up (mv_up (mv_up (mv_up (M 36) 0 (V 3 (4 * u + k))) 1 need) 2 (k : Int)) 3 (V 0 10)))) rfl ?_
  refine mv_tt' (by first | omega | decide) ?_
  refine mv_go' 5 (pc' := 86) (ls' := [mv_R 30, mv_I (p : Int), mv_I (u : Int), mv_I (k : Int), mv_I need, mv_R 25, mv_U]) (st' := [mv_I (u : Int), mv_R 30, mv_I 4, mv_R 36]) (M1 := (mv_st (mv_st (mv_st (mv_st M 36 (mv_up (M 36) 0 (V 3 (4 * u + k)))) 36 (mv_up (mv_up (M 36) 0 (V 3 (4 * u + k))) 1 need)) 36 (mv_up (mv_up (mv_up (M 36) 0 (V 3 (4 * u + k))) 1 need) 2 (k : Int))) 36 (mv_up (mv_up (mv_up (mv_up (M 36) 0 (V 3 (4 * u + k))) 1 need) 2 (k : Int)) 3 (V 0 10)))) rfl ?_
  have ha : mv_ag [36] M (mv_st (mv_st (mv_st (mv_st M 36 (mv_up (M 36) 0 (V 3 (4 * u + k)))) 36 (mv_up (mv_up (M 36) 0 (V 3 (4 * u + k))) 1 need)) 36 (mv_up (mv_up (mv_up (M 36) 0 (V 3 (4 * u + k))) 1 need) 2 (k : Int))) 36 (mv_up (mv_up (mv_up (mv_up (M 36) 0 (V 3 (4 * u + k))) 1 need) 2 (k : Int)) 3 (V 0 10))) := by repeat (first | exact mv_ag.rf | refine mv_ag.st ?_ (by decide))
  refine mv_callP (st2 := [mv_I (sp_hired V (u : Int)), mv_I 4, mv_R 36]) rfl (Or.inl rfl) rfl rfl rfl (sp_hired_30 (sp_c_ag hV ha (by decide)) ho) (by first | decide | omega) ?_
  refine mv_go' 1 (pc' := if 0 ≤ 4 ∧ 4 < 6 then 90 else mv_bad) (ls' := [mv_R 30, mv_I (p : Int), mv_I (u : Int), mv_I (k : Int), mv_I need, mv_R 25, mv_U]) (st' := []) (M1 := (mv_st (mv_st (mv_st (mv_st (mv_st M 36 (mv_up (M 36) 0 (V 3 (4 * u + k)))) 36 (mv_up (mv_up (M 36) 0 (V 3 (4 * u + k))) 1 need)) 36 (mv_up (mv_up (mv_up (M 36) 0 (V 3 (4 * u + k))) 1 need) 2 (k : Int))) 36 (mv_up (mv_up (mv_up (mv_up (M 36) 0 (V 3 (4 * u + k))) 1 need) 2 (k : Int)) 3 (V 0 10))) 36 (mv_up (mv_up (mv_up (mv_up (mv_up (M 36) 0 (V 3 (4 * u + k))) 1 need) 2 (k : Int)) 3 (V 0 10)) 4 (sp_hired V (u : Int))))) rfl ?_
  refine mv_tt' (by first | omega | decide) ?_
  refine mv_go' 7 (pc' := if 0 ≤ (u : Int) ∧ (u : Int) < 6 then 101 else mv_bad) (ls' := [mv_R 30, mv_I (p : Int), mv_I (u : Int), mv_I (k : Int), mv_I need, mv_R 25, mv_U]) (st' := [mv_I (M 35 u), mv_I 5, mv_R 36]) (M1 := (mv_st (mv_st (mv_st (mv_st (mv_st M 36 (mv_up (M 36) 0 (V 3 (4 * u + k)))) 36 (mv_up (mv_up (M 36) 0 (V 3 (4 * u + k))) 1 need)) 36 (mv_up (mv_up (mv_up (M 36) 0 (V 3 (4 * u + k))) 1 need) 2 (k : Int))) 36 (mv_up (mv_up (mv_up (mv_up (M 36) 0 (V 3 (4 * u + k))) 1 need) 2 (k : Int)) 3 (V 0 10))) 36 (mv_up (mv_up (mv_up (mv_up (mv_up (M 36) 0 (V 3 (4 * u + k))) 1 need) 2 (k : Int)) 3 (V 0 10)) 4 (sp_hired V (u : Int))))) rfl ?_
  refine mv_tt' (by first | omega | decide) ?_
  have hr71 := sp_ok_5 ho u (by omega)
  rw [show M 35 u = V 5 u from by exact sp_c_5 hV u (by omega)]
  refine mv_go' 1 (pc' := if 0 ≤ 5 ∧ 5 < 6 then 102 else mv_bad) (ls' := [mv_R 30, mv_I (p : Int), mv_I (u : Int), mv_I (k : Int), mv_I need, mv_R 25, mv_U]) (st' := []) (M1 := (mv_st (mv_st (mv_st (mv_st (mv_st (mv_st M 36 (mv_up (M 36) 0 (V 3 (4 * u + k)))) 36 (mv_up (mv_up (M 36) 0 (V 3 (4 * u + k))) 1 need)) 36 (mv_up (mv_up (mv_up (M 36) 0 (V 3 (4 * u + k))) 1 need) 2 (k : Int))) 36 (mv_up (mv_up (mv_up (mv_up (M 36) 0 (V 3 (4 * u + k))) 1 need) 2 (k : Int)) 3 (V 0 10))) 36 (mv_up (mv_up (mv_up (mv_up (mv_up (M 36) 0 (V 3 (4 * u + k))) 1 need) 2 (k : Int)) 3 (V 0 10)) 4 (sp_hired V (u : Int)))) 36 (mv_up (mv_up (mv_up (mv_up (mv_up (mv_up (M 36) 0 (V 3 (4 * u + k))) 1 need) 2 (k : Int)) 3 (V 0 10)) 4 (sp_hired V (u : Int))) 5 (V 5 u)))) rfl ?_
  refine mv_tt' (by first | omega | decide) ?_
  refine mv_go' 6 (pc' := 113) (ls' := [mv_R 30, mv_I (p : Int), mv_I (u : Int), mv_I (k : Int), mv_I need, mv_R 25, mv_U]) (st' := [mv_R 37, mv_R 36, mv_I (p : Int), mv_R 25]) (M1 := (mv_st (mv_st (mv_st (mv_st (mv_st (mv_st M 36 (mv_up (M 36) 0 (V 3 (4 * u + k)))) 36 (mv_up (mv_up (M 36) 0 (V 3 (4 * u + k))) 1 need)) 36 (mv_up (mv_up (mv_up (M 36) 0 (V 3 (4 * u + k))) 1 need) 2 (k : Int))) 36 (mv_up (mv_up (mv_up (mv_up (M 36) 0 (V 3 (4 * u + k))) 1 need) 2 (k : Int)) 3 (V 0 10))) 36 (mv_up (mv_up (mv_up (mv_up (mv_up (M 36) 0 (V 3 (4 * u + k))) 1 need) 2 (k : Int)) 3 (V 0 10)) 4 (sp_hired V (u : Int)))) 36 (mv_up (mv_up (mv_up (mv_up (mv_up (mv_up (M 36) 0 (V 3 (4 * u + k))) 1 need) 2 (k : Int)) 3 (V 0 10)) 4 (sp_hired V (u : Int))) 5 (V 5 u)))) rfl ?_
  have ha : mv_ag [36] M (mv_st (mv_st (mv_st (mv_st (mv_st (mv_st M 36 (mv_up (M 36) 0 (V 3 (4 * u + k)))) 36 (mv_up (mv_up (M 36) 0 (V 3 (4 * u + k))) 1 need)) 36 (mv_up (mv_up (mv_up (M 36) 0 (V 3 (4 * u + k))) 1 need) 2 (k : Int))) 36 (mv_up (mv_up (mv_up (mv_up (M 36) 0 (V 3 (4 * u + k))) 1 need) 2 (k : Int)) 3 (V 0 10))) 36 (mv_up (mv_up (mv_up (mv_up (mv_up (M 36) 0 (V 3 (4 * u + k))) 1 need) 2 (k : Int)) 3 (V 0 10)) 4 (sp_hired V (u : Int)))) 36 (mv_up (mv_up (mv_up (mv_up (mv_up (mv_up (M 36) 0 (V 3 (4 * u + k))) 1 need) 2 (k : Int)) 3 (V 0 10)) 4 (sp_hired V (u : Int))) 5 (V 5 u))) := by repeat (first | exact mv_ag.rf | refine mv_ag.st ?_ (by decide))
  have hn : ∀ i, i < 6 → (mv_st (mv_st (mv_st (mv_st (mv_st (mv_st M 36 (mv_up (M 36) 0 (V 3 (4 * u + k)))) 36 (mv_up (mv_up (M 36) 0 (V 3 (4 * u + k))) 1 need)) 36 (mv_up (mv_up (mv_up (M 36) 0 (V 3 (4 * u + k))) 1 need) 2 (k : Int))) 36 (mv_up (mv_up (mv_up (mv_up (M 36) 0 (V 3 (4 * u + k))) 1 need) 2 (k : Int)) 3 (V 0 10))) 36 (mv_up (mv_up (mv_up (mv_up (mv_up (M 36) 0 (V 3 (4 * u + k))) 1 need) 2 (k : Int)) 3 (V 0 10)) 4 (sp_hired V (u : Int)))) 36 (mv_up (mv_up (mv_up (mv_up (mv_up (mv_up (M 36) 0 (V 3 (4 * u + k))) 1 need) 2 (k : Int)) 3 (V 0 10)) 4 (sp_hired V (u : Int))) 5 (V 5 u))) 36 i = sp_nm V u k need i := fun i hi => match i, hi with
    | 0, _ => rfl
    | 1, _ => rfl
    | 2, _ => rfl
    | 3, _ => rfl
    | 4, _ => rfl
    | 5, _ => rfl
  refine mv_call (st2 := [mv_I (sp_top (sp_run (sp_nm V u k need) (P 5 p) []))]) rfl (Or.inl rfl) rfl rfl rfl ((sp_value_25_36 hp (sp_ct_ag hP ha (by decide))).val (congrArg mv_I (congrArg sp_top (sp_run_nm hn (P 5 p) 0 [] (sp_ct_wf hP hp) rfl)))) (by first | decide | omega) (fun M1 h1 => ?_)
  have h2 : mv_ag [36, 37] M M1 := (ha.wd (by decide)).tr (h1.wd (by decide))
  refine mv_go' 4 (pc' := if (p : Int) = 2 then 123 else 134) (ls' := [mv_R 30, mv_I (p : Int), mv_I (u : Int), mv_I (k : Int), mv_I need, mv_R 25, mv_I (sp_top (sp_run (sp_nm V u k need) (P 5 p) []))]) (st' := []) (M1 := M1) rfl ?_
  refine mv_sp' (fun c => ?_) (fun c => ?_)
  · refine mv_go' 3 (pc' := 128) (ls' := [mv_R 30, mv_I (p : Int), mv_I (u : Int), mv_I (k : Int), mv_I need, mv_R 25, mv_I (sp_top (sp_run (sp_nm V u k need) (P 5 p) []))]) (st' := [mv_I 9, mv_I 0, mv_I (sp_top (sp_run (sp_nm V u k need) (P 5 p) []))]) (M1 := M1) rfl ?_
    refine mv_callP (st2 := [mv_I (sp_cl (sp_top (sp_run (sp_nm V u k need) (P 5 p) [])) 0 9)]) rfl (Or.inr rfl) rfl rfl rfl (sp_cwithin (by decide)) (by first | decide | omega) ?_
    refine mv_go' 1 (pc' := 143) (ls' := [mv_R 30, mv_I (p : Int), mv_I (u : Int), mv_I (k : Int), mv_I need, mv_R 25, mv_I (sp_top (sp_run (sp_nm V u k need) (P 5 p) []))]) (st' := [mv_I (sp_cl (sp_top (sp_run (sp_nm V u k need) (P 5 p) [])) 0 9)]) (M1 := M1) rfl ?_
    exact mv_Ru.val (mv_ret (fun n => rfl) (h2)) (congrArg mv_I (by (have c2 : p = 2 := by omega); simp only [sp_says, hl, if_pos c2]; rfl))
  · refine mv_go' 3 (pc' := 140) (ls' := [mv_R 30, mv_I (p : Int), mv_I (u : Int), mv_I (k : Int), mv_I need, mv_R 25, mv_I (sp_top (sp_run (sp_nm V u k need) (P 5 p) []))]) (st' := [mv_I 99, mv_I (-99), mv_I (sp_top (sp_run (sp_nm V u k need) (P 5 p) []))]) (M1 := M1) rfl ?_
    refine mv_callP (st2 := [mv_I (sp_cl (sp_top (sp_run (sp_nm V u k need) (P 5 p) [])) (-99) 99)]) rfl (Or.inr rfl) rfl rfl rfl (sp_cwithin (by decide)) (by first | decide | omega) ?_
    exact mv_Ru.val (mv_ret (fun n => rfl) (h2)) (congrArg mv_I (by (have c2 : ¬ p = 2 := by omega); simp only [sp_says, hl, if_neg c2]; rfl))
theorem sp_csays_50_0 {V M : mv_M} {P : Nat → Nat → List Int} {p u k : Nat} {need : Int} (hV : sp_c 50 M V) (ho : sp_ok V) (hl : V 0 11 = 0) (hP : sp_ct (10 + 3 * 0) M (P 0)) (hp : p < 3) (hu : (u : Int) < V 0 9) (hk : k < 4) :
    mv_Ru 2 49 0 [mv_R 50, mv_I (p : Int), mv_I (u : Int), mv_I (k : Int), mv_I need, mv_U, mv_U] [] M (mv_I (sp_says V P p u k need)) (fun M1 => mv_ag [56, 57] M M1) := by
  have h9 := sp_ok_s9 ho
  refine mv_go' 2 (pc' := 4) (ls' := [mv_R 50, mv_I (p : Int), mv_I (u : Int), mv_I (k : Int), mv_I need, mv_U, mv_U]) (st' := [mv_I (M 50 11)]) (M1 := M) rfl ?_
  have hr73 := sp_ok_s11 ho
  rw [show M 50 11 = V 0 11 from by exact sp_c_s11 hV]
  rw [show V 0 11 = 0 from by exact hl]
  refine mv_go' 1 (pc' := if 0 < 0 then 16 else 7) (ls' := [mv_R 50, mv_I (p : Int), mv_I (u : Int), mv_I (k : Int), mv_I need, mv_U, mv_U]) (st' := []) (M1 := M) rfl ?_
  refine mv_ff' (by decide) ?_
  refine mv_go' 2 (pc' := 11) (ls' := [mv_R 50, mv_I (p : Int), mv_I (u : Int), mv_I (k : Int), mv_I need, mv_U, mv_U]) (st' := [mv_I (M 50 11)]) (M1 := M) rfl ?_
  have hr75 := sp_ok_s11 ho
  rw [show M 50 11 = V 0 11 from by exact sp_c_s11 hV]
  rw [show V 0 11 = 0 from by exact hl]
  refine mv_go' 2 (pc' := if 0 < 6 then 20 else 16) (ls' := [mv_R 50, mv_I (p : Int), mv_I (u : Int), mv_I (k : Int), mv_I need, mv_U, mv_U]) (st' := []) (M1 := M) rfl ?_
  refine mv_tt' (by decide) ?_
  refine mv_go' 4 (pc' := 28) (ls' := [mv_R 50, mv_I (p : Int), mv_I (u : Int), mv_I (k : Int), mv_I need, mv_U, mv_U]) (st' := [mv_I (M 50 11), mv_R 1]) (M1 := M) rfl ?_
  have hr77 := sp_ok_s11 ho
  rw [show M 50 11 = V 0 11 from by exact sp_c_s11 hV]
  rw [show V 0 11 = 0 from by exact hl]
  refine mv_go' 1 (pc' := if 0 ≤ 0 ∧ 0 < 6 then 29 else mv_bad) (ls' := [mv_R 50, mv_I (p : Int), mv_I (u : Int), mv_I (k : Int), mv_I need, mv_U, mv_U]) (st' := [mv_R 10]) (M1 := M) rfl ?_
  refine mv_tt' (by first | omega | decide) ?_
  refine mv_go' 13 (pc' := 52) (ls' := [mv_R 50, mv_I (p : Int), mv_I (u : Int), mv_I (k : Int), mv_I need, mv_R 10, mv_U]) (st' := [mv_I (mv_w ((mv_w ((u : Int) * 4)) + (k : Int))), mv_R 53, mv_I 0, mv_R 56]) (M1 := M) rfl ?_
  rw [show mv_w ((mv_w ((u : Int) * 4)) + (k : Int)) = ((4 * u + k : Nat) : Int) from by (rw [show mv_w ((u : Int) * 4) = (u : Int) * 4 from mv_w_id (by omega) (by omega), show mv_w (((u : Int) * 4) + (k : Int)) = ((u : Int) * 4) + (k : Int) from mv_w_id (by omega) (by omega)]) <;> omega]
  refine mv_go' 1 (pc' := if 0 ≤ ((4 * u + k : Nat) : Int) ∧ ((4 * u + k : Nat) : Int) < 24 then 53 else mv_bad) (ls' := [mv_R 50, mv_I (p : Int), mv_I (u : Int), mv_I (k : Int), mv_I need, mv_R 10, mv_U]) (st' := [mv_I (M 53 (4 * u + k)), mv_I 0, mv_R 56]) (M1 := M) rfl ?_
  refine mv_tt' (by first | omega | decide) ?_
  have hr79 := sp_ok_3 ho (4 * u + k) (by omega)
  rw [show M 53 (4 * u + k) = V 3 (4 * u + k) from by exact sp_c_3 hV (4 * u + k) (by omega)]
  refine mv_go' 1 (pc' := if 0 ≤ 0 ∧ 0 < 6 then 54 else mv_bad) (ls' := [mv_R 50, mv_I (p : Int), mv_I (u : Int), mv_I (k : Int), mv_I need, mv_R 10, mv_U]) (st' := []) (M1 := (mv_st M 56 (mv_up (M 56) 0 (V 3 (4 * u + k))))) rfl ?_
  refine mv_tt' (by first | omega | decide) ?_
  refine mv_go' 5 (pc' := if 0 ≤ 1 ∧ 1 < 6 then 62 else mv_bad) (ls' := [mv_R 50, mv_I (p : Int), mv_I (u : Int), mv_I (k : Int), mv_I need, mv_R 10, mv_U]) (st' := []) (M1 := (mv_st (mv_st M 56 (mv_up (M 56) 0 (V 3 (4 * u + k)))) 56 (mv_up (mv_up (M 56) 0 (V 3 (4 * u + k))) 1 need))) rfl ?_
  refine mv_tt' (by first | omega | decide) ?_
  refine mv_go' 5 (pc' := if 0 ≤ 2 ∧ 2 < 6 then 69 else mv_bad) (ls' := [mv_R 50, mv_I (p : Int), mv_I (u : Int), mv_I (k : Int), mv_I need, mv_R 10, mv_U]) (st' := []) (M1 := (mv_st (mv_st (mv_st M 56 (mv_up (M 56) 0 (V 3 (4 * u + k)))) 56 (mv_up (mv_up (M 56) 0 (V 3 (4 * u + k))) 1 need)) 56 (mv_up (mv_up (mv_up (M 56) 0 (V 3 (4 * u + k))) 1 need) 2 (k : Int)))) rfl ?_
  refine mv_tt' (by first | omega | decide) ?_
  refine mv_go' 5 (pc' := 78) (ls' := [mv_R 50, mv_I (p : Int), mv_I (u : Int), mv_I (k : Int), mv_I need, mv_R 10, mv_U]) (st' := [mv_I (M 50 10), mv_I 3, mv_R 56]) (M1 := (mv_st (mv_st (mv_st M 56 (mv_up (M 56) 0 (V 3 (4 * u + k)))) 56 (mv_up (mv_up (M 56) 0 (V 3 (4 * u + k))) 1 need)) 56 (mv_up (mv_up (mv_up (M 56) 0 (V 3 (4 * u + k))) 1 need) 2 (k : Int)))) rfl ?_
  have hr81 := sp_ok_s10 ho
  rw [show M 50 10 = V 0 10 from by exact sp_c_s10 hV]
  refine mv_go' 1 (pc' := if 0 ≤ 3 ∧ 3 < 6 then 79 else mv_bad) (ls' := [mv_R 50, mv_I (p : Int), mv_I (u : Int), mv_I (k : Int), mv_I need, mv_R 10, mv_U]) (st' := []) (M1 := (mv_st (mv_st (mv_st (mv_st M 56 (mv_up (M 56) 0 (V 3 (4 * u + k)))) 56 (mv_up (mv_up (M 56) 0 (V 3 (4 * u + k))) 1 need)) 56 (mv_up (mv_up (mv_up (M 56) 0 (V 3 (4 * u + k))) 1 need) 2 (k : Int))) 56 (mv_up (mv_up (mv_up (mv_up (M 56) 0 (V 3 (4 * u + k))) 1 need) 2 (k : Int)) 3 (V 0 10)))) rfl ?_
  refine mv_tt' (by first | omega | decide) ?_
  refine mv_go' 5 (pc' := 86) (ls' := [mv_R 50, mv_I (p : Int), mv_I (u : Int), mv_I (k : Int), mv_I need, mv_R 10, mv_U]) (st' := [mv_I (u : Int), mv_R 50, mv_I 4, mv_R 56]) (M1 := (mv_st (mv_st (mv_st (mv_st M 56 (mv_up (M 56) 0 (V 3 (4 * u + k)))) 56 (mv_up (mv_up (M 56) 0 (V 3 (4 * u + k))) 1 need)) 56 (mv_up (mv_up (mv_up (M 56) 0 (V 3 (4 * u + k))) 1 need) 2 (k : Int))) 56 (mv_up (mv_up (mv_up (mv_up (M 56) 0 (V 3 (4 * u + k))) 1 need) 2 (k : Int)) 3 (V 0 10)))) rfl ?_
  have ha : mv_ag [56] M (mv_st (mv_st (mv_st (mv_st M 56 (mv_up (M 56) 0 (V 3 (4 * u + k)))) 56 (mv_up (mv_up (M 56) 0 (V 3 (4 * u + k))) 1 need)) 56 (mv_up (mv_up (mv_up (M 56) 0 (V 3 (4 * u + k))) 1 need) 2 (k : Int))) 56 (mv_up (mv_up (mv_up (mv_up (M 56) 0 (V 3 (4 * u + k))) 1 need) 2 (k : Int)) 3 (V 0 10))) := by repeat (first | exact mv_ag.rf | refine mv_ag.st ?_ (by decide))
  refine mv_callP (st2 := [mv_I (sp_hired V (u : Int)), mv_I 4, mv_R 56]) rfl (Or.inl rfl) rfl rfl rfl (sp_hired_50 (sp_c_ag hV ha (by decide)) ho) (by first | decide | omega) ?_
  refine mv_go' 1 (pc' := if 0 ≤ 4 ∧ 4 < 6 then 90 else mv_bad) (ls' := [mv_R 50, mv_I (p : Int), mv_I (u : Int), mv_I (k : Int), mv_I need, mv_R 10, mv_U]) (st' := []) (M1 := (mv_st (mv_st (mv_st (mv_st (mv_st M 56 (mv_up (M 56) 0 (V 3 (4 * u + k)))) 56 (mv_up (mv_up (M 56) 0 (V 3 (4 * u + k))) 1 need)) 56 (mv_up (mv_up (mv_up (M 56) 0 (V 3 (4 * u + k))) 1 need) 2 (k : Int))) 56 (mv_up (mv_up (mv_up (mv_up (M 56) 0 (V 3 (4 * u + k))) 1 need) 2 (k : Int)) 3 (V 0 10))) 56 (mv_up (mv_up (mv_up (mv_up (mv_up (M 56) 0 (V 3 (4 * u + k))) 1 need) 2 (k : Int)) 3 (V 0 10)) 4 (sp_hired V (u : Int))))) rfl ?_
  refine mv_tt' (by first | omega | decide) ?_
  refine mv_go' 7 (pc' := if 0 ≤ (u : Int) ∧ (u : Int) < 6 then 101 else mv_bad) (ls' := [mv_R 50, mv_I (p : Int), mv_I (u : Int), mv_I (k : Int), mv_I need, mv_R 10, mv_U]) (st' := [mv_I (M 55 u), mv_I 5, mv_R 56]) (M1 := (mv_st (mv_st (mv_st (mv_st (mv_st M 56 (mv_up (M 56) 0 (V 3 (4 * u + k)))) 56 (mv_up (mv_up (M 56) 0 (V 3 (4 * u + k))) 1 need)) 56 (mv_up (mv_up (mv_up (M 56) 0 (V 3 (4 * u + k))) 1 need) 2 (k : Int))) 56 (mv_up (mv_up (mv_up (mv_up (M 56) 0 (V 3 (4 * u + k))) 1 need) 2 (k : Int)) 3 (V 0 10))) 56 (mv_up (mv_up (mv_up (mv_up (mv_up (M 56) 0 (V 3 (4 * u + k))) 1 need) 2 (k : Int)) 3 (V 0 10)) 4 (sp_hired V (u : Int))))) rfl ?_
  refine mv_tt' (by first | omega | decide) ?_
  have hr83 := sp_ok_5 ho u (by omega)
  rw [show M 55 u = V 5 u from by exact sp_c_5 hV u (by omega)]
  refine mv_go' 1 (pc' := if 0 ≤ 5 ∧ 5 < 6 then 102 else mv_bad) (ls' := [mv_R 50, mv_I (p : Int), mv_I (u : Int), mv_I (k : Int), mv_I need, mv_R 10, mv_U]) (st' := []) (M1 := (mv_st (mv_st (mv_st (mv_st (mv_st (mv_st M 56 (mv_up (M 56) 0 (V 3 (4 * u + k)))) 56 (mv_up (mv_up (M 56) 0 (V 3 (4 * u + k))) 1 need)) 56 (mv_up (mv_up (mv_up (M 56) 0 (V 3 (4 * u + k))) 1 need) 2 (k : Int))) 56 (mv_up (mv_up (mv_up (mv_up (M 56) 0 (V 3 (4 * u + k))) 1 need) 2 (k : Int)) 3 (V 0 10))) 56 (mv_up (mv_up (mv_up (mv_up (mv_up (M 56) 0 (V 3 (4 * u + k))) 1 need) 2 (k : Int)) 3 (V 0 10)) 4 (sp_hired V (u : Int)))) 56 (mv_up (mv_up (mv_up (mv_up (mv_up (mv_up (M 56) 0 (V 3 (4 * u + k))) 1 need) 2 (k : Int)) 3 (V 0 10)) 4 (sp_hired V (u : Int))) 5 (V 5 u)))) rfl ?_
  refine mv_tt' (by first | omega | decide) ?_
  refine mv_go' 6 (pc' := 113) (ls' := [mv_R 50, mv_I (p : Int), mv_I (u : Int), mv_I (k : Int), mv_I need, mv_R 10, mv_U]) (st' := [mv_R 57, mv_R 56, mv_I (p : Int), mv_R 10]) (M1 := (mv_st (mv_st (mv_st (mv_st (mv_st (mv_st M 56 (mv_up (M 56) 0 (V 3 (4 * u + k)))) 56 (mv_up (mv_up (M 56) 0 (V 3 (4 * u + k))) 1 need)) 56 (mv_up (mv_up (mv_up (M 56) 0 (V 3 (4 * u + k))) 1 need) 2 (k : Int))) 56 (mv_up (mv_up (mv_up (mv_up (M 56) 0 (V 3 (4 * u + k))) 1 need) 2 (k : Int)) 3 (V 0 10))) 56 (mv_up (mv_up (mv_up (mv_up (mv_up (M 56) 0 (V 3 (4 * u + k))) 1 need) 2 (k : Int)) 3 (V 0 10)) 4 (sp_hired V (u : Int)))) 56 (mv_up (mv_up (mv_up (mv_up (mv_up (mv_up (M 56) 0 (V 3 (4 * u + k))) 1 need) 2 (k : Int)) 3 (V 0 10)) 4 (sp_hired V (u : Int))) 5 (V 5 u)))) rfl ?_
  have ha : mv_ag [56] M (mv_st (mv_st (mv_st (mv_st (mv_st (mv_st M 56 (mv_up (M 56) 0 (V 3 (4 * u + k)))) 56 (mv_up (mv_up (M 56) 0 (V 3 (4 * u + k))) 1 need)) 56 (mv_up (mv_up (mv_up (M 56) 0 (V 3 (4 * u + k))) 1 need) 2 (k : Int))) 56 (mv_up (mv_up (mv_up (mv_up (M 56) 0 (V 3 (4 * u + k))) 1 need) 2 (k : Int)) 3 (V 0 10))) 56 (mv_up (mv_up (mv_up (mv_up (mv_up (M 56) 0 (V 3 (4 * u + k))) 1 need) 2 (k : Int)) 3 (V 0 10)) 4 (sp_hired V (u : Int)))) 56 (mv_up (mv_up (mv_up (mv_up (mv_up (mv_up (M 56) 0 (V 3 (4 * u + k))) 1 need) 2 (k : Int)) 3 (V 0 10)) 4 (sp_hired V (u : Int))) 5 (V 5 u))) := by repeat (first | exact mv_ag.rf | refine mv_ag.st ?_ (by decide))
  have hn : ∀ i, i < 6 → (mv_st (mv_st (mv_st (mv_st (mv_st (mv_st M 56 (mv_up (M 56) 0 (V 3 (4 * u + k)))) 56 (mv_up (mv_up (M 56) 0 (V 3 (4 * u + k))) 1 need)) 56 (mv_up (mv_up (mv_up (M 56) 0 (V 3 (4 * u + k))) 1 need) 2 (k : Int))) 56 (mv_up (mv_up (mv_up (mv_up (M 56) 0 (V 3 (4 * u + k))) 1 need) 2 (k : Int)) 3 (V 0 10))) 56 (mv_up (mv_up (mv_up (mv_up (mv_up (M 56) 0 (V 3 (4 * u + k))) 1 need) 2 (k : Int)) 3 (V 0 10)) 4 (sp_hired V (u : Int)))) 56 (mv_up (mv_up (mv_up (mv_up (mv_up (mv_up (M 56) 0 (V 3 (4 * u + k))) 1 need) 2 (k : Int)) 3 (V 0 10)) 4 (sp_hired V (u : Int))) 5 (V 5 u))) 56 i = sp_nm V u k need i := fun i hi => match i, hi with
    | 0, _ => rfl
    | 1, _ => rfl
    | 2, _ => rfl
    | 3, _ => rfl
    | 4, _ => rfl
    | 5, _ => rfl
  refine mv_call (st2 := [mv_I (sp_top (sp_run (sp_nm V u k need) (P 0 p) []))]) rfl (Or.inl rfl) rfl rfl rfl ((sp_value_10_56 hp (sp_ct_ag hP ha (by decide))).val (congrArg mv_I (congrArg sp_top (sp_run_nm hn (P 0 p) 0 [] (sp_ct_wf hP hp) rfl)))) (by first | decide | omega) (fun M1 h1 => ?_)
  have h2 : mv_ag [56, 57] M M1 := (ha.wd (by decide)).tr (h1.wd (by decide))
  refine mv_go' 4 (pc' := if (p : Int) = 2 then 123 else 134) (ls' := [mv_R 50, mv_I (p : Int), mv_I (u : Int), mv_I (k : Int), mv_I need, mv_R 10, mv_I (sp_top (sp_run (sp_nm V u k need) (P 0 p) []))]) (st' := []) (M1 := M1) rfl ?_
  refine mv_sp' (fun c => ?_) (fun c => ?_)
  · refine mv_go' 3 (pc' := 128) (ls' := [mv_R 50, mv_I (p : Int), mv_I (u : Int), mv_I (k : Int), mv_I need, mv_R 10, mv_I (sp_top (sp_run (sp_nm V u k need) (P 0 p) []))]) (st' := [mv_I 9, mv_I 0, mv_I (sp_top (sp_run (sp_nm V u k need) (P 0 p) []))]) (M1 := M1) rfl ?_
    refine mv_callP (st2 := [mv_I (sp_cl (sp_top (sp_run (sp_nm V u k need) (P 0 p) [])) 0 9)]) rfl (Or.inr rfl) rfl rfl rfl (sp_cwithin (by decide)) (by first | decide | omega) ?_
    refine mv_go' 1 (pc' := 143) (ls' := [mv_R 50, mv_I (p : Int), mv_I (u : Int), mv_I (k : Int), mv_I need, mv_R 10, mv_I (sp_top (sp_run (sp_nm V u k need) (P 0 p) []))]) (st' := [mv_I (sp_cl (sp_top (sp_run (sp_nm V u k need) (P 0 p) [])) 0 9)]) (M1 := M1) rfl ?_
    exact mv_Ru.val (mv_ret (fun n => rfl) (h2)) (congrArg mv_I (by (have c2 : p = 2 := by omega); simp only [sp_says, hl, if_pos c2]; rfl))
  · refine mv_go' 3 (pc' := 140) (ls' := [mv_R 50, mv_I (p : Int), mv_I (u : Int), mv_I (k : Int), mv_I need, mv_R 10, mv_I (sp_top (sp_run (sp_nm V u k need) (P 0 p) []))]) (st' := [mv_I 99, mv_I (-99), mv_I (sp_top (sp_run (sp_nm V u k need) (P 0 p) []))]) (M1 := M1) rfl ?_
    refine mv_callP (st2 := [mv_I (sp_cl (sp_top (sp_run (sp_nm V u k need) (P 0 p) [])) (-99) 99)]) rfl (Or.inr rfl) rfl rfl rfl (sp_cwithin (by decide)) (by first | decide | omega) ?_
    exact mv_Ru.val (mv_ret (fun n => rfl) (h2)) (congrArg mv_I (by (have c2 : ¬ p = 2 := by omega); simp only [sp_says, hl, if_neg c2]; rfl))
theorem sp_csays_50_1 {V M : mv_M} {P : Nat → Nat → List Int} {p u k : Nat} {need : Int} (hV : sp_c 50 M V) (ho : sp_ok V) (hl : V 0 11 = 1) (hP : sp_ct (10 + 3 * 1) M (P 1)) (hp : p < 3) (hu : (u : Int) < V 0 9) (hk : k < 4) :
    mv_Ru 2 49 0 [mv_R 50, mv_I (p : Int), mv_I (u : Int), mv_I (k : Int), mv_I need, mv_U, mv_U] [] M (mv_I (sp_says V P p u k need)) (fun M1 => mv_ag [56, 57] M M1) := by
  have h9 := sp_ok_s9 ho
  refine mv_go' 2 (pc' := 4) (ls' := [mv_R 50, mv_I (p : Int), mv_I (u : Int), mv_I (k : Int), mv_I need, mv_U, mv_U]) (st' := [mv_I (M 50 11)]) (M1 := M) rfl ?_
  have hr85 := sp_ok_s11 ho
  rw [show M 50 11 = V 0 11 from by exact sp_c_s11 hV]
  rw [show V 0 11 = 1 from by exact hl]
  refine mv_go' 1 (pc' := if 1 < 0 then 16 else 7) (ls' := [mv_R 50, mv_I (p : Int), mv_I (u : Int), mv_I (k : Int), mv_I need, mv_U, mv_U]) (st' := []) (M1 := M) rfl ?_
  refine mv_ff' (by decide) ?_
  refine mv_go' 2 (pc' := 11) (ls' := [mv_R 50, mv_I (p : Int), mv_I (u : Int), mv_I (k : Int), mv_I need, mv_U, mv_U]) (st' := [mv_I (M 50 11)]) (M1 := M) rfl ?_
  have hr87 := sp_ok_s11 ho
  rw [show M 50 11 = V 0 11 from by exact sp_c_s11 hV]
  rw [show V 0 11 = 1 from by exact hl]
  refine mv_go' 2 (pc' := if 1 < 6 then 20 else 16) (ls' := [mv_R 50, mv_I (p : Int), mv_I (u : Int), mv_I (k : Int), mv_I need, mv_U, mv_U]) (st' := []) (M1 := M) rfl ?_
  refine mv_tt' (by decide) ?_
  refine mv_go' 4 (pc' := 28) (ls' := [mv_R 50, mv_I (p : Int), mv_I (u : Int), mv_I (k : Int), mv_I need, mv_U, mv_U]) (st' := [mv_I (M 50 11), mv_R 1]) (M1 := M) rfl ?_
  have hr89 := sp_ok_s11 ho
  rw [show M 50 11 = V 0 11 from by exact sp_c_s11 hV]
  rw [show V 0 11 = 1 from by exact hl]
  refine mv_go' 1 (pc' := if 0 ≤ 1 ∧ 1 < 6 then 29 else mv_bad) (ls' := [mv_R 50, mv_I (p : Int), mv_I (u : Int), mv_I (k : Int), mv_I need, mv_U, mv_U]) (st' := [mv_R 13]) (M1 := M) rfl ?_
  refine mv_tt' (by first | omega | decide) ?_
  refine mv_go' 13 (pc' := 52) (ls' := [mv_R 50, mv_I (p : Int), mv_I (u : Int), mv_I (k : Int), mv_I need, mv_R 13, mv_U]) (st' := [mv_I (mv_w ((mv_w ((u : Int) * 4)) + (k : Int))), mv_R 53, mv_I 0, mv_R 56]) (M1 := M) rfl ?_
  rw [show mv_w ((mv_w ((u : Int) * 4)) + (k : Int)) = ((4 * u + k : Nat) : Int) from by (rw [show mv_w ((u : Int) * 4) = (u : Int) * 4 from mv_w_id (by omega) (by omega), show mv_w (((u : Int) * 4) + (k : Int)) = ((u : Int) * 4) + (k : Int) from mv_w_id (by omega) (by omega)]) <;> omega]
  refine mv_go' 1 (pc' := if 0 ≤ ((4 * u + k : Nat) : Int) ∧ ((4 * u + k : Nat) : Int) < 24 then 53 else mv_bad) (ls' := [mv_R 50, mv_I (p : Int), mv_I (u : Int), mv_I (k : Int), mv_I need, mv_R 13, mv_U]) (st' := [mv_I (M 53 (4 * u + k)), mv_I 0, mv_R 56]) (M1 := M) rfl ?_
  refine mv_tt' (by first | omega | decide) ?_
  have hr91 := sp_ok_3 ho (4 * u + k) (by omega)
  rw [show M 53 (4 * u + k) = V 3 (4 * u + k) from by exact sp_c_3 hV (4 * u + k) (by omega)]
  refine mv_go' 1 (pc' := if 0 ≤ 0 ∧ 0 < 6 then 54 else mv_bad) (ls' := [mv_R 50, mv_I (p : Int), mv_I (u : Int), mv_I (k : Int), mv_I need, mv_R 13, mv_U]) (st' := []) (M1 := (mv_st M 56 (mv_up (M 56) 0 (V 3 (4 * u + k))))) rfl ?_
  refine mv_tt' (by first | omega | decide) ?_
  refine mv_go' 5 (pc' := if 0 ≤ 1 ∧ 1 < 6 then 62 else mv_bad) (ls' := [mv_R 50, mv_I (p : Int), mv_I (u : Int), mv_I (k : Int), mv_I need, mv_R 13, mv_U]) (st' := []) (M1 := (mv_st (mv_st M 56 (mv_up (M 56) 0 (V 3 (4 * u + k)))) 56 (mv_up (mv_up (M 56) 0 (V 3 (4 * u + k))) 1 need))) rfl ?_
  refine mv_tt' (by first | omega | decide) ?_
  refine mv_go' 5 (pc' := if 0 ≤ 2 ∧ 2 < 6 then 69 else mv_bad) (ls' := [mv_R 50, mv_I (p : Int), mv_I (u : Int), mv_I (k : Int), mv_I need, mv_R 13, mv_U]) (st' := []) (M1 := (mv_st (mv_st (mv_st M 56 (mv_up (M 56) 0 (V 3 (4 * u + k)))) 56 (mv_up (mv_up (M 56) 0 (V 3 (4 * u + k))) 1 need)) 56 (mv_up (mv_up (mv_up (M 56) 0 (V 3 (4 * u + k))) 1 need) 2 (k : Int)))) rfl ?_
  refine mv_tt' (by first | omega | decide) ?_
  refine mv_go' 5 (pc' := 78) (ls' := [mv_R 50, mv_I (p : Int), mv_I (u : Int), mv_I (k : Int), mv_I need, mv_R 13, mv_U]) (st' := [mv_I (M 50 10), mv_I 3, mv_R 56]) (M1 := (mv_st (mv_st (mv_st M 56 (mv_up (M 56) 0 (V 3 (4 * u + k)))) 56 (mv_up (mv_up (M 56) 0 (V 3 (4 * u + k))) 1 need)) 56 (mv_up (mv_up (mv_up (M 56) 0 (V 3 (4 * u + k))) 1 need) 2 (k : Int)))) rfl ?_
  have hr93 := sp_ok_s10 ho
  rw [show M 50 10 = V 0 10 from by exact sp_c_s10 hV]
  refine mv_go' 1 (pc' := if 0 ≤ 3 ∧ 3 < 6 then 79 else mv_bad) (ls' := [mv_R 50, mv_I (p : Int), mv_I (u : Int), mv_I (k : Int), mv_I need, mv_R 13, mv_U]) (st' := []) (M1 := (mv_st (mv_st (mv_st (mv_st M 56 (mv_up (M 56) 0 (V 3 (4 * u + k)))) 56 (mv_up (mv_up (M 56) 0 (V 3 (4 * u + k))) 1 need)) 56 (mv_up (mv_up (mv_up (M 56) 0 (V 3 (4 * u + k))) 1 need) 2 (k : Int))) 56 (mv_up (mv_up (mv_up (mv_up (M 56) 0 (V 3 (4 * u + k))) 1 need) 2 (k : Int)) 3 (V 0 10)))) rfl ?_
  refine mv_tt' (by first | omega | decide) ?_
  refine mv_go' 5 (pc' := 86) (ls' := [mv_R 50, mv_I (p : Int), mv_I (u : Int), mv_I (k : Int), mv_I need, mv_R 13, mv_U]) (st' := [mv_I (u : Int), mv_R 50, mv_I 4, mv_R 56]) (M1 := (mv_st (mv_st (mv_st (mv_st M 56 (mv_up (M 56) 0 (V 3 (4 * u + k)))) 56 (mv_up (mv_up (M 56) 0 (V 3 (4 * u + k))) 1 need)) 56 (mv_up (mv_up (mv_up (M 56) 0 (V 3 (4 * u + k))) 1 need) 2 (k : Int))) 56 (mv_up (mv_up (mv_up (mv_up (M 56) 0 (V 3 (4 * u + k))) 1 need) 2 (k : Int)) 3 (V 0 10)))) rfl ?_
  have ha : mv_ag [56] M (mv_st (mv_st (mv_st (mv_st M 56 (mv_up (M 56) 0 (V 3 (4 * u + k)))) 56 (mv_up (mv_up (M 56) 0 (V 3 (4 * u + k))) 1 need)) 56 (mv_up (mv_up (mv_up (M 56) 0 (V 3 (4 * u + k))) 1 need) 2 (k : Int))) 56 (mv_up (mv_up (mv_up (mv_up (M 56) 0 (V 3 (4 * u + k))) 1 need) 2 (k : Int)) 3 (V 0 10))) := by repeat (first | exact mv_ag.rf | refine mv_ag.st ?_ (by decide))
  refine mv_callP (st2 := [mv_I (sp_hired V (u : Int)), mv_I 4, mv_R 56]) rfl (Or.inl rfl) rfl rfl rfl (sp_hired_50 (sp_c_ag hV ha (by decide)) ho) (by first | decide | omega) ?_
  refine mv_go' 1 (pc' := if 0 ≤ 4 ∧ 4 < 6 then 90 else mv_bad) (ls' := [mv_R 50, mv_I (p : Int), mv_I (u : Int), mv_I (k : Int), mv_I need, mv_R 13, mv_U]) (st' := []) (M1 := (mv_st (mv_st (mv_st (mv_st (mv_st M 56 (mv_up (M 56) 0 (V 3 (4 * u + k)))) 56 (mv_up (mv_up (M 56) 0 (V 3 (4 * u + k))) 1 need)) 56 (mv_up (mv_up (mv_up (M 56) 0 (V 3 (4 * u + k))) 1 need) 2 (k : Int))) 56 (mv_up (mv_up (mv_up (mv_up (M 56) 0 (V 3 (4 * u + k))) 1 need) 2 (k : Int)) 3 (V 0 10))) 56 (mv_up (mv_up (mv_up (mv_up (mv_up (M 56) 0 (V 3 (4 * u + k))) 1 need) 2 (k : Int)) 3 (V 0 10)) 4 (sp_hired V (u : Int))))) rfl ?_
  refine mv_tt' (by first | omega | decide) ?_
  refine mv_go' 7 (pc' := if 0 ≤ (u : Int) ∧ (u : Int) < 6 then 101 else mv_bad) (ls' := [mv_R 50, mv_I (p : Int), mv_I (u : Int), mv_I (k : Int), mv_I need, mv_R 13, mv_U]) (st' := [mv_I (M 55 u), mv_I 5, mv_R 56]) (M1 := (mv_st (mv_st (mv_st (mv_st (mv_st M 56 (mv_up (M 56) 0 (V 3 (4 * u + k)))) 56 (mv_up (mv_up (M 56) 0 (V 3 (4 * u + k))) 1 need)) 56 (mv_up (mv_up (mv_up (M 56) 0 (V 3 (4 * u + k))) 1 need) 2 (k : Int))) 56 (mv_up (mv_up (mv_up (mv_up (M 56) 0 (V 3 (4 * u + k))) 1 need) 2 (k : Int)) 3 (V 0 10))) 56 (mv_up (mv_up (mv_up (mv_up (mv_up (M 56) 0 (V 3 (4 * u + k))) 1 need) 2 (k : Int)) 3 (V 0 10)) 4 (sp_hired V (u : Int))))) rfl ?_
  refine mv_tt' (by first | omega | decide) ?_
  have hr95 := sp_ok_5 ho u (by omega)
  rw [show M 55 u = V 5 u from by exact sp_c_5 hV u (by omega)]
  refine mv_go' 1 (pc' := if 0 ≤ 5 ∧ 5 < 6 then 102 else mv_bad) (ls' := [mv_R 50, mv_I (p : Int), mv_I (u : Int), mv_I (k : Int), mv_I need, mv_R 13, mv_U]) (st' := []) (M1 := (mv_st (mv_st (mv_st (mv_st (mv_st (mv_st M 56 (mv_up (M 56) 0 (V 3 (4 * u + k)))) 56 (mv_up (mv_up (M 56) 0 (V 3 (4 * u + k))) 1 need)) 56 (mv_up (mv_up (mv_up (M 56) 0 (V 3 (4 * u + k))) 1 need) 2 (k : Int))) 56 (mv_up (mv_up (mv_up (mv_up (M 56) 0 (V 3 (4 * u + k))) 1 need) 2 (k : Int)) 3 (V 0 10))) 56 (mv_up (mv_up (mv_up (mv_up (mv_up (M 56) 0 (V 3 (4 * u + k))) 1 need) 2 (k : Int)) 3 (V 0 10)) 4 (sp_hired V (u : Int)))) 56 (mv_up (mv_up (mv_up (mv_up (mv_up (mv_up (M 56) 0 (V 3 (4 * u + k))) 1 need) 2 (k : Int)) 3 (V 0 10)) 4 (sp_hired V (u : Int))) 5 (V 5 u)))) rfl ?_
  refine mv_tt' (by first | omega | decide) ?_
  refine mv_go' 6 (pc' := 113) (ls' := [mv_R 50, mv_I (p : Int), mv_I (u : Int), mv_I (k : Int), mv_I need, mv_R 13, mv_U]) (st' := [mv_R 57, mv_R 56, mv_I (p : Int), mv_R 13]) (M1 := (mv_st (mv_st (mv_st (mv_st (mv_st (mv_st M 56 (mv_up (M 56) 0 (V 3 (4 * u + k)))) 56 (mv_up (mv_up (M 56) 0 (V 3 (4 * u + k))) 1 need)) 56 (mv_up (mv_up (mv_up (M 56) 0 (V 3 (4 * u + k))) 1 need) 2 (k : Int))) 56 (mv_up (mv_up (mv_up (mv_up (M 56) 0 (V 3 (4 * u + k))) 1 need) 2 (k : Int)) 3 (V 0 10))) 56 (mv_up (mv_up (mv_up (mv_up (mv_up (M 56) 0 (V 3 (4 * u + k))) 1 need) 2 (k : Int)) 3 (V 0 10)) 4 (sp_hired V (u : Int)))) 56 (mv_up (mv_up (mv_up (mv_up (mv_up (mv_up (M 56) 0 (V 3 (4 * u + k))) 1 need) 2 (k : Int)) 3 (V 0 10)) 4 (sp_hired V (u : Int))) 5 (V 5 u)))) rfl ?_
  have ha : mv_ag [56] M (mv_st (mv_st (mv_st (mv_st (mv_st (mv_st M 56 (mv_up (M 56) 0 (V 3 (4 * u + k)))) 56 (mv_up (mv_up (M 56) 0 (V 3 (4 * u + k))) 1 need)) 56 (mv_up (mv_up (mv_up (M 56) 0 (V 3 (4 * u + k))) 1 need) 2 (k : Int))) 56 (mv_up (mv_up (mv_up (mv_up (M 56) 0 (V 3 (4 * u + k))) 1 need) 2 (k : Int)) 3 (V 0 10))) 56 (mv_up (mv_up (mv_up (mv_up (mv_up (M 56) 0 (V 3 (4 * u + k))) 1 need) 2 (k : Int)) 3 (V 0 10)) 4 (sp_hired V (u : Int)))) 56 (mv_up (mv_up (mv_up (mv_up (mv_up (mv_up (M 56) 0 (V 3 (4 * u + k))) 1 need) 2 (k : Int)) 3 (V 0 10)) 4 (sp_hired V (u : Int))) 5 (V 5 u))) := by repeat (first | exact mv_ag.rf | refine mv_ag.st ?_ (by decide))
  have hn : ∀ i, i < 6 → (mv_st (mv_st (mv_st (mv_st (mv_st (mv_st M 56 (mv_up (M 56) 0 (V 3 (4 * u + k)))) 56 (mv_up (mv_up (M 56) 0 (V 3 (4 * u + k))) 1 need)) 56 (mv_up (mv_up (mv_up (M 56) 0 (V 3 (4 * u + k))) 1 need) 2 (k : Int))) 56 (mv_up (mv_up (mv_up (mv_up (M 56) 0 (V 3 (4 * u + k))) 1 need) 2 (k : Int)) 3 (V 0 10))) 56 (mv_up (mv_up (mv_up (mv_up (mv_up (M 56) 0 (V 3 (4 * u + k))) 1 need) 2 (k : Int)) 3 (V 0 10)) 4 (sp_hired V (u : Int)))) 56 (mv_up (mv_up (mv_up (mv_up (mv_up (mv_up (M 56) 0 (V 3 (4 * u + k))) 1 need) 2 (k : Int)) 3 (V 0 10)) 4 (sp_hired V (u : Int))) 5 (V 5 u))) 56 i = sp_nm V u k need i := fun i hi => match i, hi with
    | 0, _ => rfl
    | 1, _ => rfl
    | 2, _ => rfl
    | 3, _ => rfl
    | 4, _ => rfl
    | 5, _ => rfl
  refine mv_call (st2 := [mv_I (sp_top (sp_run (sp_nm V u k need) (P 1 p) []))]) rfl (Or.inl rfl) rfl rfl rfl ((sp_value_13_56 hp (sp_ct_ag hP ha (by decide))).val (congrArg mv_I (congrArg sp_top (sp_run_nm hn (P 1 p) 0 [] (sp_ct_wf hP hp) rfl)))) (by first | decide | omega) (fun M1 h1 => ?_)
  have h2 : mv_ag [56, 57] M M1 := (ha.wd (by decide)).tr (h1.wd (by decide))
  refine mv_go' 4 (pc' := if (p : Int) = 2 then 123 else 134) (ls' := [mv_R 50, mv_I (p : Int), mv_I (u : Int), mv_I (k : Int), mv_I need, mv_R 13, mv_I (sp_top (sp_run (sp_nm V u k need) (P 1 p) []))]) (st' := []) (M1 := M1) rfl ?_
  refine mv_sp' (fun c => ?_) (fun c => ?_)
  · refine mv_go' 3 (pc' := 128) (ls' := [mv_R 50, mv_I (p : Int), mv_I (u : Int), mv_I (k : Int), mv_I need, mv_R 13, mv_I (sp_top (sp_run (sp_nm V u k need) (P 1 p) []))]) (st' := [mv_I 9, mv_I 0, mv_I (sp_top (sp_run (sp_nm V u k need) (P 1 p) []))]) (M1 := M1) rfl ?_
    refine mv_callP (st2 := [mv_I (sp_cl (sp_top (sp_run (sp_nm V u k need) (P 1 p) [])) 0 9)]) rfl (Or.inr rfl) rfl rfl rfl (sp_cwithin (by decide)) (by first | decide | omega) ?_
    refine mv_go' 1 (pc' := 143) (ls' := [mv_R 50, mv_I (p : Int), mv_I (u : Int), mv_I (k : Int), mv_I need, mv_R 13, mv_I (sp_top (sp_run (sp_nm V u k need) (P 1 p) []))]) (st' := [mv_I (sp_cl (sp_top (sp_run (sp_nm V u k need) (P 1 p) [])) 0 9)]) (M1 := M1) rfl ?_
    exact mv_Ru.val (mv_ret (fun n => rfl) (h2)) (congrArg mv_I (by (have c2 : p = 2 := by omega); simp only [sp_says, hl, if_pos c2]; rfl))
  · refine mv_go' 3 (pc' := 140) (ls' := [mv_R 50, mv_I (p : Int), mv_I (u : Int), mv_I (k : Int), mv_I need, mv_R 13, mv_I (sp_top (sp_run (sp_nm V u k need) (P 1 p) []))]) (st' := [mv_I 99, mv_I (-99), mv_I (sp_top (sp_run (sp_nm V u k need) (P 1 p) []))]) (M1 := M1) rfl ?_
    refine mv_callP (st2 := [mv_I (sp_cl (sp_top (sp_run (sp_nm V u k need) (P 1 p) [])) (-99) 99)]) rfl (Or.inr rfl) rfl rfl rfl (sp_cwithin (by decide)) (by first | decide | omega) ?_
    exact mv_Ru.val (mv_ret (fun n => rfl) (h2)) (congrArg mv_I (by (have c2 : ¬ p = 2 := by omega); simp only [sp_says, hl, if_neg c2]; rfl))
theorem sp_csays_50_2 {V M : mv_M} {P : Nat → Nat → List Int} {p u k : Nat} {need : Int} (hV : sp_c 50 M V) (ho : sp_ok V) (hl : V 0 11 = 2) (hP : sp_ct (10 + 3 * 2) M (P 2)) (hp : p < 3) (hu : (u : Int) < V 0 9) (hk : k < 4) :
    mv_Ru 2 49 0 [mv_R 50, mv_I (p : Int), mv_I (u : Int), mv_I (k : Int), mv_I need, mv_U, mv_U] [] M (mv_I (sp_says V P p u k need)) (fun M1 => mv_ag [56, 57] M M1) := by
  have h9 := sp_ok_s9 ho
  refine mv_go' 2 (pc' := 4) (ls' := [mv_R 50, mv_I (p : Int), mv_I (u : Int), mv_I (k : Int), mv_I need, mv_U, mv_U]) (st' := [mv_I (M 50 11)]) (M1 := M) rfl ?_
  have hr97 := sp_ok_s11 ho
  rw [show M 50 11 = V 0 11 from by exact sp_c_s11 hV]
  rw [show V 0 11 = 2 from by exact hl]
  refine mv_go' 1 (pc' := if 2 < 0 then 16 else 7) (ls' := [mv_R 50, mv_I (p : Int), mv_I (u : Int), mv_I (k : Int), mv_I need, mv_U, mv_U]) (st' := []) (M1 := M) rfl ?_
  refine mv_ff' (by decide) ?_
  refine mv_go' 2 (pc' := 11) (ls' := [mv_R 50, mv_I (p : Int), mv_I (u : Int), mv_I (k : Int), mv_I need, mv_U, mv_U]) (st' := [mv_I (M 50 11)]) (M1 := M) rfl ?_
  have hr99 := sp_ok_s11 ho
  rw [show M 50 11 = V 0 11 from by exact sp_c_s11 hV]
  rw [show V 0 11 = 2 from by exact hl]
  refine mv_go' 2 (pc' := if 2 < 6 then 20 else 16) (ls' := [mv_R 50, mv_I (p : Int), mv_I (u : Int), mv_I (k : Int), mv_I need, mv_U, mv_U]) (st' := []) (M1 := M) rfl ?_
  refine mv_tt' (by decide) ?_
  refine mv_go' 4 (pc' := 28) (ls' := [mv_R 50, mv_I (p : Int), mv_I (u : Int), mv_I (k : Int), mv_I need, mv_U, mv_U]) (st' := [mv_I (M 50 11), mv_R 1]) (M1 := M) rfl ?_
  have hr101 := sp_ok_s11 ho
  rw [show M 50 11 = V 0 11 from by exact sp_c_s11 hV]
  rw [show V 0 11 = 2 from by exact hl]
  refine mv_go' 1 (pc' := if 0 ≤ 2 ∧ 2 < 6 then 29 else mv_bad) (ls' := [mv_R 50, mv_I (p : Int), mv_I (u : Int), mv_I (k : Int), mv_I need, mv_U, mv_U]) (st' := [mv_R 16]) (M1 := M) rfl ?_
  refine mv_tt' (by first | omega | decide) ?_
  refine mv_go' 13 (pc' := 52) (ls' := [mv_R 50, mv_I (p : Int), mv_I (u : Int), mv_I (k : Int), mv_I need, mv_R 16, mv_U]) (st' := [mv_I (mv_w ((mv_w ((u : Int) * 4)) + (k : Int))), mv_R 53, mv_I 0, mv_R 56]) (M1 := M) rfl ?_
  rw [show mv_w ((mv_w ((u : Int) * 4)) + (k : Int)) = ((4 * u + k : Nat) : Int) from by (rw [show mv_w ((u : Int) * 4) = (u : Int) * 4 from mv_w_id (by omega) (by omega), show mv_w (((u : Int) * 4) + (k : Int)) = ((u : Int) * 4) + (k : Int) from mv_w_id (by omega) (by omega)]) <;> omega]
  refine mv_go' 1 (pc' := if 0 ≤ ((4 * u + k : Nat) : Int) ∧ ((4 * u + k : Nat) : Int) < 24 then 53 else mv_bad) (ls' := [mv_R 50, mv_I (p : Int), mv_I (u : Int), mv_I (k : Int), mv_I need, mv_R 16, mv_U]) (st' := [mv_I (M 53 (4 * u + k)), mv_I 0, mv_R 56]) (M1 := M) rfl ?_
  refine mv_tt' (by first | omega | decide) ?_
  have hr103 := sp_ok_3 ho (4 * u + k) (by omega)
  rw [show M 53 (4 * u + k) = V 3 (4 * u + k) from by exact sp_c_3 hV (4 * u + k) (by omega)]
  refine mv_go' 1 (pc' := if 0 ≤ 0 ∧ 0 < 6 then 54 else mv_bad) (ls' := [mv_R 50, mv_I (p : Int), mv_I (u : Int), mv_I (k : Int), mv_I need, mv_R 16, mv_U]) (st' := []) (M1 := (mv_st M 56 (mv_up (M 56) 0 (V 3 (4 * u + k))))) rfl ?_
  refine mv_tt' (by first | omega | decide) ?_
  refine mv_go' 5 (pc' := if 0 ≤ 1 ∧ 1 < 6 then 62 else mv_bad) (ls' := [mv_R 50, mv_I (p : Int), mv_I (u : Int), mv_I (k : Int), mv_I need, mv_R 16, mv_U]) (st' := []) (M1 := (mv_st (mv_st M 56 (mv_up (M 56) 0 (V 3 (4 * u + k)))) 56 (mv_up (mv_up (M 56) 0 (V 3 (4 * u + k))) 1 need))) rfl ?_
  refine mv_tt' (by first | omega | decide) ?_
  refine mv_go' 5 (pc' := if 0 ≤ 2 ∧ 2 < 6 then 69 else mv_bad) (ls' := [mv_R 50, mv_I (p : Int), mv_I (u : Int), mv_I (k : Int), mv_I need, mv_R 16, mv_U]) (st' := []) (M1 := (mv_st (mv_st (mv_st M 56 (mv_up (M 56) 0 (V 3 (4 * u + k)))) 56 (mv_up (mv_up (M 56) 0 (V 3 (4 * u + k))) 1 need)) 56 (mv_up (mv_up (mv_up (M 56) 0 (V 3 (4 * u + k))) 1 need) 2 (k : Int)))) rfl ?_
  refine mv_tt' (by first | omega | decide) ?_
  refine mv_go' 5 (pc' := 78) (ls' := [mv_R 50, mv_I (p : Int), mv_I (u : Int), mv_I (k : Int), mv_I need, mv_R 16, mv_U]) (st' := [mv_I (M 50 10), mv_I 3, mv_R 56]) (M1 := (mv_st (mv_st (mv_st M 56 (mv_up (M 56) 0 (V 3 (4 * u + k)))) 56 (mv_up (mv_up (M 56) 0 (V 3 (4 * u + k))) 1 need)) 56 (mv_up (mv_up (mv_up (M 56) 0 (V 3 (4 * u + k))) 1 need) 2 (k : Int)))) rfl ?_
  have hr105 := sp_ok_s10 ho
  rw [show M 50 10 = V 0 10 from by exact sp_c_s10 hV]
  refine mv_go' 1 (pc' := if 0 ≤ 3 ∧ 3 < 6 then 79 else mv_bad) (ls' := [mv_R 50, mv_I (p : Int), mv_I (u : Int), mv_I (k : Int), mv_I need, mv_R 16, mv_U]) (st' := []) (M1 := (mv_st (mv_st (mv_st (mv_st M 56 (mv_up (M 56) 0 (V 3 (4 * u + k)))) 56 (mv_up (mv_up (M 56) 0 (V 3 (4 * u + k))) 1 need)) 56 (mv_up (mv_up (mv_up (M 56) 0 (V 3 (4 * u + k))) 1 need) 2 (k : Int))) 56 (mv_up (mv_up (mv_up (mv_up (M 56) 0 (V 3 (4 * u + k))) 1 need) 2 (k : Int)) 3 (V 0 10)))) rfl ?_
  refine mv_tt' (by first | omega | decide) ?_
  refine mv_go' 5 (pc' := 86) (ls' := [mv_R 50, mv_I (p : Int), mv_I (u : Int), mv_I (k : Int), mv_I need, mv_R 16, mv_U]) (st' := [mv_I (u : Int), mv_R 50, mv_I 4, mv_R 56]) (M1 := (mv_st (mv_st (mv_st (mv_st M 56 (mv_up (M 56) 0 (V 3 (4 * u + k)))) 56 (mv_up (mv_up (M 56) 0 (V 3 (4 * u + k))) 1 need)) 56 (mv_up (mv_up (mv_up (M 56) 0 (V 3 (4 * u + k))) 1 need) 2 (k : Int))) 56 (mv_up (mv_up (mv_up (mv_up (M 56) 0 (V 3 (4 * u + k))) 1 need) 2 (k : Int)) 3 (V 0 10)))) rfl ?_
  have ha : mv_ag [56] M (mv_st (mv_st (mv_st (mv_st M 56 (mv_up (M 56) 0 (V 3 (4 * u + k)))) 56 (mv_up (mv_up (M 56) 0 (V 3 (4 * u + k))) 1 need)) 56 (mv_up (mv_up (mv_up (M 56) 0 (V 3 (4 * u + k))) 1 need) 2 (k : Int))) 56 (mv_up (mv_up (mv_up (mv_up (M 56) 0 (V 3 (4 * u + k))) 1 need) 2 (k : Int)) 3 (V 0 10))) := by repeat (first | exact mv_ag.rf | refine mv_ag.st ?_ (by decide))
  refine mv_callP (st2 := [mv_I (sp_hired V (u : Int)), mv_I 4, mv_R 56]) rfl (Or.inl rfl) rfl rfl rfl (sp_hired_50 (sp_c_ag hV ha (by decide)) ho) (by first | decide | omega) ?_
  refine mv_go' 1 (pc' := if 0 ≤ 4 ∧ 4 < 6 then 90 else mv_bad) (ls' := [mv_R 50, mv_I (p : Int), mv_I (u : Int), mv_I (k : Int), mv_I need, mv_R 16, mv_U]) (st' := []) (M1 := (mv_st (mv_st (mv_st (mv_st (mv_st M 56 (mv_up (M 56) 0 (V 3 (4 * u + k)))) 56 (mv_up (mv_up (M 56) 0 (V 3 (4 * u + k))) 1 need)) 56 (mv_up (mv_up (mv_up (M 56) 0 (V 3 (4 * u + k))) 1 need) 2 (k : Int))) 56 (mv_up (mv_up (mv_up (mv_up (M 56) 0 (V 3 (4 * u + k))) 1 need) 2 (k : Int)) 3 (V 0 10))) 56 (mv_up (mv_up (mv_up (mv_up (mv_up (M 56) 0 (V 3 (4 * u + k))) 1 need) 2 (k : Int)) 3 (V 0 10)) 4 (sp_hired V (u : Int))))) rfl ?_
  refine mv_tt' (by first | omega | decide) ?_
  refine mv_go' 7 (pc' := if 0 ≤ (u : Int) ∧ (u : Int) < 6 then 101 else mv_bad) (ls' := [mv_R 50, mv_I (p : Int), mv_I (u : Int), mv_I (k : Int), mv_I need, mv_R 16, mv_U]) (st' := [mv_I (M 55 u), mv_I 5, mv_R 56]) (M1 := (mv_st (mv_st (mv_st (mv_st (mv_st M 56 (mv_up (M 56) 0 (V 3 (4 * u + k)))) 56 (mv_up (mv_up (M 56) 0 (V 3 (4 * u + k))) 1 need)) 56 (mv_up (mv_up (mv_up (M 56) 0 (V 3 (4 * u + k))) 1 need) 2 (k : Int))) 56 (mv_up (mv_up (mv_up (mv_up (M 56) 0 (V 3 (4 * u + k))) 1 need) 2 (k : Int)) 3 (V 0 10))) 56 (mv_up (mv_up (mv_up (mv_up (mv_up (M 56) 0 (V 3 (4 * u + k))) 1 need) 2 (k : Int)) 3 (V 0 10)) 4 (sp_hired V (u : Int))))) rfl ?_
  refine mv_tt' (by first | omega | decide) ?_
  have hr107 := sp_ok_5 ho u (by omega)
  rw [show M 55 u = V 5 u from by exact sp_c_5 hV u (by omega)]
  refine mv_go' 1 (pc' := if 0 ≤ 5 ∧ 5 < 6 then 102 else mv_bad) (ls' := [mv_R 50, mv_I (p : Int), mv_I (u : Int), mv_I (k : Int), mv_I need, mv_R 16, mv_U]) (st' := []) (M1 := (mv_st (mv_st (mv_st (mv_st (mv_st (mv_st M 56 (mv_up (M 56) 0 (V 3 (4 * u + k)))) 56 (mv_up (mv_up (M 56) 0 (V 3 (4 * u + k))) 1 need)) 56 (mv_up (mv_up (mv_up (M 56) 0 (V 3 (4 * u + k))) 1 need) 2 (k : Int))) 56 (mv_up (mv_up (mv_up (mv_up (M 56) 0 (V 3 (4 * u + k))) 1 need) 2 (k : Int)) 3 (V 0 10))) 56 (mv_up (mv_up (mv_up (mv_up (mv_up (M 56) 0 (V 3 (4 * u + k))) 1 need) 2 (k : Int)) 3 (V 0 10)) 4 (sp_hired V (u : Int)))) 56 (mv_up (mv_up (mv_up (mv_up (mv_up (mv_up (M 56) 0 (V 3 (4 * u + k))) 1 need) 2 (k : Int)) 3 (V 0 10)) 4 (sp_hired V (u : Int))) 5 (V 5 u)))) rfl ?_
  refine mv_tt' (by first | omega | decide) ?_
  refine mv_go' 6 (pc' := 113) (ls' := [mv_R 50, mv_I (p : Int), mv_I (u : Int), mv_I (k : Int), mv_I need, mv_R 16, mv_U]) (st' := [mv_R 57, mv_R 56, mv_I (p : Int), mv_R 16]) (M1 := (mv_st (mv_st (mv_st (mv_st (mv_st (mv_st M 56 (mv_up (M 56) 0 (V 3 (4 * u + k)))) 56 (mv_up (mv_up (M 56) 0 (V 3 (4 * u + k))) 1 need)) 56 (mv_up (mv_up (mv_up (M 56) 0 (V 3 (4 * u + k))) 1 need) 2 (k : Int))) 56 (mv_up (mv_up (mv_up (mv_up (M 56) 0 (V 3 (4 * u + k))) 1 need) 2 (k : Int)) 3 (V 0 10))) 56 (mv_up (mv_up (mv_up (mv_up (mv_up (M 56) 0 (V 3 (4 * u + k))) 1 need) 2 (k : Int)) 3 (V 0 10)) 4 (sp_hired V (u : Int)))) 56 (mv_up (mv_up (mv_up (mv_up (mv_up (mv_up (M 56) 0 (V 3 (4 * u + k))) 1 need) 2 (k : Int)) 3 (V 0 10)) 4 (sp_hired V (u : Int))) 5 (V 5 u)))) rfl ?_
  have ha : mv_ag [56] M (mv_st (mv_st (mv_st (mv_st (mv_st (mv_st M 56 (mv_up (M 56) 0 (V 3 (4 * u + k)))) 56 (mv_up (mv_up (M 56) 0 (V 3 (4 * u + k))) 1 need)) 56 (mv_up (mv_up (mv_up (M 56) 0 (V 3 (4 * u + k))) 1 need) 2 (k : Int))) 56 (mv_up (mv_up (mv_up (mv_up (M 56) 0 (V 3 (4 * u + k))) 1 need) 2 (k : Int)) 3 (V 0 10))) 56 (mv_up (mv_up (mv_up (mv_up (mv_up (M 56) 0 (V 3 (4 * u + k))) 1 need) 2 (k : Int)) 3 (V 0 10)) 4 (sp_hired V (u : Int)))) 56 (mv_up (mv_up (mv_up (mv_up (mv_up (mv_up (M 56) 0 (V 3 (4 * u + k))) 1 need) 2 (k : Int)) 3 (V 0 10)) 4 (sp_hired V (u : Int))) 5 (V 5 u))) := by repeat (first | exact mv_ag.rf | refine mv_ag.st ?_ (by decide))
  have hn : ∀ i, i < 6 → (mv_st (mv_st (mv_st (mv_st (mv_st (mv_st M 56 (mv_up (M 56) 0 (V 3 (4 * u + k)))) 56 (mv_up (mv_up (M 56) 0 (V 3 (4 * u + k))) 1 need)) 56 (mv_up (mv_up (mv_up (M 56) 0 (V 3 (4 * u + k))) 1 need) 2 (k : Int))) 56 (mv_up (mv_up (mv_up (mv_up (M 56) 0 (V 3 (4 * u + k))) 1 need) 2 (k : Int)) 3 (V 0 10))) 56 (mv_up (mv_up (mv_up (mv_up (mv_up (M 56) 0 (V 3 (4 * u + k))) 1 need) 2 (k : Int)) 3 (V 0 10)) 4 (sp_hired V (u : Int)))) 56 (mv_up (mv_up (mv_up (mv_up (mv_up (mv_up (M 56) 0 (V 3 (4 * u + k))) 1 need) 2 (k : Int)) 3 (V 0 10)) 4 (sp_hired V (u : Int))) 5 (V 5 u))) 56 i = sp_nm V u k need i := fun i hi => match i, hi with
    | 0, _ => rfl
    | 1, _ => rfl
    | 2, _ => rfl
    | 3, _ => rfl
    | 4, _ => rfl
    | 5, _ => rfl
  refine mv_call (st2 := [mv_I (sp_top (sp_run (sp_nm V u k need) (P 2 p) []))]) rfl (Or.inl rfl) rfl rfl rfl ((sp_value_16_56 hp (sp_ct_ag hP ha (by decide))).val (congrArg mv_I (congrArg sp_top (sp_run_nm hn (P 2 p) 0 [] (sp_ct_wf hP hp) rfl)))) (by first | decide | omega) (fun M1 h1 => ?_)
  have h2 : mv_ag [56, 57] M M1 := (ha.wd (by decide)).tr (h1.wd (by decide))
  refine mv_go' 4 (pc' := if (p : Int) = 2 then 123 else 134) (ls' := [mv_R 50, mv_I (p : Int), mv_I (u : Int), mv_I (k : Int), mv_I need, mv_R 16, mv_I (sp_top (sp_run (sp_nm V u k need) (P 2 p) []))]) (st' := []) (M1 := M1) rfl ?_
  refine mv_sp' (fun c => ?_) (fun c => ?_)
  · refine mv_go' 3 (pc' := 128) (ls' := [mv_R 50, mv_I (p : Int), mv_I (u : Int), mv_I (k : Int), mv_I need, mv_R 16, mv_I (sp_top (sp_run (sp_nm V u k need) (P 2 p) []))]) (st' := [mv_I 9, mv_I 0, mv_I (sp_top (sp_run (sp_nm V u k need) (P 2 p) []))]) (M1 := M1) rfl ?_
    refine mv_callP (st2 := [mv_I (sp_cl (sp_top (sp_run (sp_nm V u k need) (P 2 p) [])) 0 9)]) rfl (Or.inr rfl) rfl rfl rfl (sp_cwithin (by decide)) (by first | decide | omega) ?_
    refine mv_go' 1 (pc' := 143) (ls' := [mv_R 50, mv_I (p : Int), mv_I (u : Int), mv_I (k : Int), mv_I need, mv_R 16, mv_I (sp_top (sp_run (sp_nm V u k need) (P 2 p) []))]) (st' := [mv_I (sp_cl (sp_top (sp_run (sp_nm V u k need) (P 2 p) [])) 0 9)]) (M1 := M1) rfl ?_
    exact mv_Ru.val (mv_ret (fun n => rfl) (h2)) (congrArg mv_I (by (have c2 : p = 2 := by omega); simp only [sp_says, hl, if_pos c2]; rfl))
  · refine mv_go' 3 (pc' := 140) (ls' := [mv_R 50, mv_I (p : Int), mv_I (u : Int), mv_I (k : Int), mv_I need, mv_R 16, mv_I (sp_top (sp_run (sp_nm V u k need) (P 2 p) []))]) (st' := [mv_I 99, mv_I (-99), mv_I (sp_top (sp_run (sp_nm V u k need) (P 2 p) []))]) (M1 := M1) rfl ?_
    refine mv_callP (st2 := [mv_I (sp_cl (sp_top (sp_run (sp_nm V u k need) (P 2 p) [])) (-99) 99)]) rfl (Or.inr rfl) rfl rfl rfl (sp_cwithin (by decide)) (by first | decide | omega) ?_
    exact mv_Ru.val (mv_ret (fun n => rfl) (h2)) (congrArg mv_I (by (have c2 : ¬ p = 2 := by omega); simp only [sp_says, hl, if_neg c2]; rfl))
theorem sp_csays_50_3 {V M : mv_M} {P : Nat → Nat → List Int} {p u k : Nat} {need : Int} (hV : sp_c 50 M V) (ho : sp_ok V) (hl : V 0 11 = 3) (hP : sp_ct (10 + 3 * 3) M (P 3)) (hp : p < 3) (hu : (u : Int) < V 0 9) (hk : k < 4) :
    mv_Ru 2 49 0 [mv_R 50, mv_I (p : Int), mv_I (u : Int), mv_I (k : Int), mv_I need, mv_U, mv_U] [] M (mv_I (sp_says V P p u k need)) (fun M1 => mv_ag [56, 57] M M1) := by
  have h9 := sp_ok_s9 ho
  refine mv_go' 2 (pc' := 4) (ls' := [mv_R 50, mv_I (p : Int), mv_I (u : Int), mv_I (k : Int), mv_I need, mv_U, mv_U]) (st' := [mv_I (M 50 11)]) (M1 := M) rfl ?_
  have hr109 := sp_ok_s11 ho
  rw [show M 50 11 = V 0 11 from by exact sp_c_s11 hV]
  rw [show V 0 11 = 3 from by exact hl]
  refine mv_go' 1 (pc' := if 3 < 0 then 16 else 7) (ls' := [mv_R 50, mv_I (p : Int), mv_I (u : Int), mv_I (k : Int), mv_I need, mv_U, mv_U]) (st' := []) (M1 := M) rfl ?_
  refine mv_ff' (by decide) ?_
  refine mv_go' 2 (pc' := 11) (ls' := [mv_R 50, mv_I (p : Int), mv_I (u : Int), mv_I (k : Int), mv_I need, mv_U, mv_U]) (st' := [mv_I (M 50 11)]) (M1 := M) rfl ?_
  have hr111 := sp_ok_s11 ho
  rw [show M 50 11 = V 0 11 from by exact sp_c_s11 hV]
  rw [show V 0 11 = 3 from by exact hl]
  refine mv_go' 2 (pc' := if 3 < 6 then 20 else 16) (ls' := [mv_R 50, mv_I (p : Int), mv_I (u : Int), mv_I (k : Int), mv_I need, mv_U, mv_U]) (st' := []) (M1 := M) rfl ?_
  refine mv_tt' (by decide) ?_
  refine mv_go' 4 (pc' := 28) (ls' := [mv_R 50, mv_I (p : Int), mv_I (u : Int), mv_I (k : Int), mv_I need, mv_U, mv_U]) (st' := [mv_I (M 50 11), mv_R 1]) (M1 := M) rfl ?_
  have hr113 := sp_ok_s11 ho
  rw [show M 50 11 = V 0 11 from by exact sp_c_s11 hV]
  rw [show V 0 11 = 3 from by exact hl]
  refine mv_go' 1 (pc' := if 0 ≤ 3 ∧ 3 < 6 then 29 else mv_bad) (ls' := [mv_R 50, mv_I (p : Int), mv_I (u : Int), mv_I (k : Int), mv_I need, mv_U, mv_U]) (st' := [mv_R 19]) (M1 := M) rfl ?_
  refine mv_tt' (by first | omega | decide) ?_
  refine mv_go' 13 (pc' := 52) (ls' := [mv_R 50, mv_I (p : Int), mv_I (u : Int), mv_I (k : Int), mv_I need, mv_R 19, mv_U]) (st' := [mv_I (mv_w ((mv_w ((u : Int) * 4)) + (k : Int))), mv_R 53, mv_I 0, mv_R 56]) (M1 := M) rfl ?_
  rw [show mv_w ((mv_w ((u : Int) * 4)) + (k : Int)) = ((4 * u + k : Nat) : Int) from by (rw [show mv_w ((u : Int) * 4) = (u : Int) * 4 from mv_w_id (by omega) (by omega), show mv_w (((u : Int) * 4) + (k : Int)) = ((u : Int) * 4) + (k : Int) from mv_w_id (by omega) (by omega)]) <;> omega]
  refine mv_go' 1 (pc' := if 0 ≤ ((4 * u + k : Nat) : Int) ∧ ((4 * u + k : Nat) : Int) < 24 then 53 else mv_bad) (ls' := [mv_R 50, mv_I (p : Int), mv_I (u : Int), mv_I (k : Int), mv_I need, mv_R 19, mv_U]) (st' := [mv_I (M 53 (4 * u + k)), mv_I 0, mv_R 56]) (M1 := M) rfl ?_
  refine mv_tt' (by first | omega | decide) ?_
  have hr115 := sp_ok_3 ho (4 * u + k) (by omega)
  rw [show M 53 (4 * u + k) = V 3 (4 * u + k) from by exact sp_c_3 hV (4 * u + k) (by omega)]
  refine mv_go' 1 (pc' := if 0 ≤ 0 ∧ 0 < 6 then 54 else mv_bad) (ls' := [mv_R 50, mv_I (p : Int), mv_I (u : Int), mv_I (k : Int), mv_I need, mv_R 19, mv_U]) (st' := []) (M1 := (mv_st M 56 (mv_up (M 56) 0 (V 3 (4 * u + k))))) rfl ?_
  refine mv_tt' (by first | omega | decide) ?_
  refine mv_go' 5 (pc' := if 0 ≤ 1 ∧ 1 < 6 then 62 else mv_bad) (ls' := [mv_R 50, mv_I (p : Int), mv_I (u : Int), mv_I (k : Int), mv_I need, mv_R 19, mv_U]) (st' := []) (M1 := (mv_st (mv_st M 56 (mv_up (M 56) 0 (V 3 (4 * u + k)))) 56 (mv_up (mv_up (M 56) 0 (V 3 (4 * u + k))) 1 need))) rfl ?_
  refine mv_tt' (by first | omega | decide) ?_
  refine mv_go' 5 (pc' := if 0 ≤ 2 ∧ 2 < 6 then 69 else mv_bad) (ls' := [mv_R 50, mv_I (p : Int), mv_I (u : Int), mv_I (k : Int), mv_I need, mv_R 19, mv_U]) (st' := []) (M1 := (mv_st (mv_st (mv_st M 56 (mv_up (M 56) 0 (V 3 (4 * u + k)))) 56 (mv_up (mv_up (M 56) 0 (V 3 (4 * u + k))) 1 need)) 56 (mv_up (mv_up (mv_up (M 56) 0 (V 3 (4 * u + k))) 1 need) 2 (k : Int)))) rfl ?_
  refine mv_tt' (by first | omega | decide) ?_
  refine mv_go' 5 (pc' := 78) (ls' := [mv_R 50, mv_I (p : Int), mv_I (u : Int), mv_I (k : Int), mv_I need, mv_R 19, mv_U]) (st' := [mv_I (M 50 10), mv_I 3, mv_R 56]) (M1 := (mv_st (mv_st (mv_st M 56 (mv_up (M 56) 0 (V 3 (4 * u + k)))) 56 (mv_up (mv_up (M 56) 0 (V 3 (4 * u + k))) 1 need)) 56 (mv_up (mv_up (mv_up (M 56) 0 (V 3 (4 * u + k))) 1 need) 2 (k : Int)))) rfl ?_
  have hr117 := sp_ok_s10 ho
  rw [show M 50 10 = V 0 10 from by exact sp_c_s10 hV]
  refine mv_go' 1 (pc' := if 0 ≤ 3 ∧ 3 < 6 then 79 else mv_bad) (ls' := [mv_R 50, mv_I (p : Int), mv_I (u : Int), mv_I (k : Int), mv_I need, mv_R 19, mv_U]) (st' := []) (M1 := (mv_st (mv_st (mv_st (mv_st M 56 (mv_up (M 56) 0 (V 3 (4 * u + k)))) 56 (mv_up (mv_up (M 56) 0 (V 3 (4 * u + k))) 1 need)) 56 (mv_up (mv_up (mv_up (M 56) 0 (V 3 (4 * u + k))) 1 need) 2 (k : Int))) 56 (mv_up (mv_up (mv_up (mv_up (M 56) 0 (V 3 (4 * u + k))) 1 need) 2 (k : Int)) 3 (V 0 10)))) rfl ?_
  refine mv_tt' (by first | omega | decide) ?_
  refine mv_go' 5 (pc' := 86) (ls' := [mv_R 50, mv_I (p : Int), mv_I (u : Int), mv_I (k : Int), mv_I need, mv_R 19, mv_U]) (st' := [mv_I (u : Int), mv_R 50, mv_I 4, mv_R 56]) (M1 := (mv_st (mv_st (mv_st (mv_st M 56 (mv_up (M 56) 0 (V 3 (4 * u + k)))) 56 (mv_up (mv_up (M 56) 0 (V 3 (4 * u + k))) 1 need)) 56 (mv_up (mv_up (mv_up (M 56) 0 (V 3 (4 * u + k))) 1 need) 2 (k : Int))) 56 (mv_up (mv_up (mv_up (mv_up (M 56) 0 (V 3 (4 * u + k))) 1 need) 2 (k : Int)) 3 (V 0 10)))) rfl ?_
  have ha : mv_ag [56] M (mv_st (mv_st (mv_st (mv_st M 56 (mv_up (M 56) 0 (V 3 (4 * u + k)))) 56 (mv_up (mv_up (M 56) 0 (V 3 (4 * u + k))) 1 need)) 56 (mv_up (mv_up (mv_up (M 56) 0 (V 3 (4 * u + k))) 1 need) 2 (k : Int))) 56 (mv_up (mv_up (mv_up (mv_up (M 56) 0 (V 3 (4 * u + k))) 1 need) 2 (k : Int)) 3 (V 0 10))) := by repeat (first | exact mv_ag.rf | refine mv_ag.st ?_ (by decide))
  refine mv_callP (st2 := [mv_I (sp_hired V (u : Int)), mv_I 4, mv_R 56]) rfl (Or.inl rfl) rfl rfl rfl (sp_hired_50 (sp_c_ag hV ha (by decide)) ho) (by first | decide | omega) ?_
  refine mv_go' 1 (pc' := if 0 ≤ 4 ∧ 4 < 6 then 90 else mv_bad) (ls' := [mv_R 50, mv_I (p : Int), mv_I (u : Int), mv_I (k : Int), mv_I need, mv_R 19, mv_U]) (st' := []) (M1 := (mv_st (mv_st (mv_st (mv_st (mv_st M 56 (mv_up (M 56) 0 (V 3 (4 * u + k)))) 56 (mv_up (mv_up (M 56) 0 (V 3 (4 * u + k))) 1 need)) 56 (mv_up (mv_up (mv_up (M 56) 0 (V 3 (4 * u + k))) 1 need) 2 (k : Int))) 56 (mv_up (mv_up (mv_up (mv_up (M 56) 0 (V 3 (4 * u + k))) 1 need) 2 (k : Int)) 3 (V 0 10))) 56 (mv_up (mv_up (mv_up (mv_up (mv_up (M 56) 0 (V 3 (4 * u + k))) 1 need) 2 (k : Int)) 3 (V 0 10)) 4 (sp_hired V (u : Int))))) rfl ?_
  refine mv_tt' (by first | omega | decide) ?_
  refine mv_go' 7 (pc' := if 0 ≤ (u : Int) ∧ (u : Int) < 6 then 101 else mv_bad) (ls' := [mv_R 50, mv_I (p : Int), mv_I (u : Int), mv_I (k : Int), mv_I need, mv_R 19, mv_U]) (st' := [mv_I (M 55 u), mv_I 5, mv_R 56]) (M1 := (mv_st (mv_st (mv_st (mv_st (mv_st M 56 (mv_up (M 56) 0 (V 3 (4 * u + k)))) 56 (mv_up (mv_up (M 56) 0 (V 3 (4 * u + k))) 1 need)) 56 (mv_up (mv_up (mv_up (M 56) 0 (V 3 (4 * u + k))) 1 need) 2 (k : Int))) 56 (mv_up (mv_up (mv_up (mv_up (M 56) 0 (V 3 (4 * u + k))) 1 need) 2 (k : Int)) 3 (V 0 10))) 56 (mv_up (mv_up (mv_up (mv_up (mv_up (M 56) 0 (V 3 (4 * u + k))) 1 need) 2 (k : Int)) 3 (V 0 10)) 4 (sp_hired V (u : Int))))) rfl ?_
  refine mv_tt' (by first | omega | decide) ?_
  have hr119 := sp_ok_5 ho u (by omega)
  rw [show M 55 u = V 5 u from by exact sp_c_5 hV u (by omega)]
  refine mv_go' 1 (pc' := if 0 ≤ 5 ∧ 5 < 6 then 102 else mv_bad) (ls' := [mv_R 50, mv_I (p : Int), mv_I (u : Int), mv_I (k : Int), mv_I need, mv_R 19, mv_U]) (st' := []) (M1 := (mv_st (mv_st (mv_st (mv_st (mv_st (mv_st M 56 (mv_up (M 56) 0 (V 3 (4 * u + k)))) 56 (mv_up (mv_up (M 56) 0 (V 3 (4 * u + k))) 1 need)) 56 (mv_up (mv_up (mv_up (M 56) 0 (V 3 (4 * u + k))) 1 need) 2 (k : Int))) 56 (mv_up (mv_up (mv_up (mv_up (M 56) 0 (V 3 (4 * u + k))) 1 need) 2 (k : Int)) 3 (V 0 10))) 56 (mv_up (mv_up (mv_up (mv_up (mv_up (M 56) 0 (V 3 (4 * u + k))) 1 need) 2 (k : Int)) 3 (V 0 10)) 4 (sp_hired V (u : Int)))) 56 (mv_up (mv_up (mv_up (mv_up (mv_up (mv_up (M 56) 0 (V 3 (4 * u + k))) 1 need) 2 (k : Int)) 3 (V 0 10)) 4 (sp_hired V (u : Int))) 5 (V 5 u)))) rfl ?_
  refine mv_tt' (by first | omega | decide) ?_
  refine mv_go' 6 (pc' := 113) (ls' := [mv_R 50, mv_I (p : Int), mv_I (u : Int), mv_I (k : Int), mv_I need, mv_R 19, mv_U]) (st' := [mv_R 57, mv_R 56, mv_I (p : Int), mv_R 19]) (M1 := (mv_st (mv_st (mv_st (mv_st (mv_st (mv_st M 56 (mv_up (M 56) 0 (V 3 (4 * u + k)))) 56 (mv_up (mv_up (M 56) 0 (V 3 (4 * u + k))) 1 need)) 56 (mv_up (mv_up (mv_up (M 56) 0 (V 3 (4 * u + k))) 1 need) 2 (k : Int))) 56 (mv_up (mv_up (mv_up (mv_up (M 56) 0 (V 3 (4 * u + k))) 1 need) 2 (k : Int)) 3 (V 0 10))) 56 (mv_up (mv_up (mv_up (mv_up (mv_up (M 56) 0 (V 3 (4 * u + k))) 1 need) 2 (k : Int)) 3 (V 0 10)) 4 (sp_hired V (u : Int)))) 56 (mv_up (mv_up (mv_up (mv_up (mv_up (mv_up (M 56) 0 (V 3 (4 * u + k))) 1 need) 2 (k : Int)) 3 (V 0 10)) 4 (sp_hired V (u : Int))) 5 (V 5 u)))) rfl ?_
  have ha : mv_ag [56] M (mv_st (mv_st (mv_st (mv_st (mv_st (mv_st M 56 (mv_up (M 56) 0 (V 3 (4 * u + k)))) 56 (mv_up (mv_up (M 56) 0 (V 3 (4 * u + k))) 1 need)) 56 (mv_up (mv_up (mv_up (M 56) 0 (V 3 (4 * u + k))) 1 need) 2 (k : Int))) 56 (mv_up (mv_up (mv_up (mv_up (M 56) 0 (V 3 (4 * u + k))) 1 need) 2 (k : Int)) 3 (V 0 10))) 56 (mv_up (mv_up (mv_up (mv_up (mv_up (M 56) 0 (V 3 (4 * u + k))) 1 need) 2 (k : Int)) 3 (V 0 10)) 4 (sp_hired V (u : Int)))) 56 (mv_up (mv_up (mv_up (mv_up (mv_up (mv_up (M 56) 0 (V 3 (4 * u + k))) 1 need) 2 (k : Int)) 3 (V 0 10)) 4 (sp_hired V (u : Int))) 5 (V 5 u))) := by repeat (first | exact mv_ag.rf | refine mv_ag.st ?_ (by decide))
  have hn : ∀ i, i < 6 → (mv_st (mv_st (mv_st (mv_st (mv_st (mv_st M 56 (mv_up (M 56) 0 (V 3 (4 * u + k)))) 56 (mv_up (mv_up (M 56) 0 (V 3 (4 * u + k))) 1 need)) 56 (mv_up (mv_up (mv_up (M 56) 0 (V 3 (4 * u + k))) 1 need) 2 (k : Int))) 56 (mv_up (mv_up (mv_up (mv_up (M 56) 0 (V 3 (4 * u + k))) 1 need) 2 (k : Int)) 3 (V 0 10))) 56 (mv_up (mv_up (mv_up (mv_up (mv_up (M 56) 0 (V 3 (4 * u + k))) 1 need) 2 (k : Int)) 3 (V 0 10)) 4 (sp_hired V (u : Int)))) 56 (mv_up (mv_up (mv_up (mv_up (mv_up (mv_up (M 56) 0 (V 3 (4 * u + k))) 1 need) 2 (k : Int)) 3 (V 0 10)) 4 (sp_hired V (u : Int))) 5 (V 5 u))) 56 i = sp_nm V u k need i := fun i hi => match i, hi with
    | 0, _ => rfl
    | 1, _ => rfl
    | 2, _ => rfl
    | 3, _ => rfl
    | 4, _ => rfl
    | 5, _ => rfl
  refine mv_call (st2 := [mv_I (sp_top (sp_run (sp_nm V u k need) (P 3 p) []))]) rfl (Or.inl rfl) rfl rfl rfl ((sp_value_19_56 hp (sp_ct_ag hP ha (by decide))).val (congrArg mv_I (congrArg sp_top (sp_run_nm hn (P 3 p) 0 [] (sp_ct_wf hP hp) rfl)))) (by first | decide | omega) (fun M1 h1 => ?_)
  have h2 : mv_ag [56, 57] M M1 := (ha.wd (by decide)).tr (h1.wd (by decide))
  refine mv_go' 4 (pc' := if (p : Int) = 2 then 123 else 134) (ls' := [mv_R 50, mv_I (p : Int), mv_I (u : Int), mv_I (k : Int), mv_I need, mv_R 19, mv_I (sp_top (sp_run (sp_nm V u k need) (P 3 p) []))]) (st' := []) (M1 := M1) rfl ?_
  refine mv_sp' (fun c => ?_) (fun c => ?_)
  · refine mv_go' 3 (pc' := 128) (ls' := [mv_R 50, mv_I (p : Int), mv_I (u : Int), mv_I (k : Int), mv_I need, mv_R 19, mv_I (sp_top (sp_run (sp_nm V u k need) (P 3 p) []))]) (st' := [mv_I 9, mv_I 0, mv_I (sp_top (sp_run (sp_nm V u k need) (P 3 p) []))]) (M1 := M1) rfl ?_
    refine mv_callP (st2 := [mv_I (sp_cl (sp_top (sp_run (sp_nm V u k need) (P 3 p) [])) 0 9)]) rfl (Or.inr rfl) rfl rfl rfl (sp_cwithin (by decide)) (by first | decide | omega) ?_
    refine mv_go' 1 (pc' := 143) (ls' := [mv_R 50, mv_I (p : Int), mv_I (u : Int), mv_I (k : Int), mv_I need, mv_R 19, mv_I (sp_top (sp_run (sp_nm V u k need) (P 3 p) []))]) (st' := [mv_I (sp_cl (sp_top (sp_run (sp_nm V u k need) (P 3 p) [])) 0 9)]) (M1 := M1) rfl ?_
    exact mv_Ru.val (mv_ret (fun n => rfl) (h2)) (congrArg mv_I (by (have c2 : p = 2 := by omega); simp only [sp_says, hl, if_pos c2]; rfl))
  · refine mv_go' 3 (pc' := 140) (ls' := [mv_R 50, mv_I (p : Int), mv_I (u : Int), mv_I (k : Int), mv_I need, mv_R 19, mv_I (sp_top (sp_run (sp_nm V u k need) (P 3 p) []))]) (st' := [mv_I 99, mv_I (-99), mv_I (sp_top (sp_run (sp_nm V u k need) (P 3 p) []))]) (M1 := M1) rfl ?_
    refine mv_callP (st2 := [mv_I (sp_cl (sp_top (sp_run (sp_nm V u k need) (P 3 p) [])) (-99) 99)]) rfl (Or.inr rfl) rfl rfl rfl (sp_cwithin (by decide)) (by first | decide | omega) ?_
    exact mv_Ru.val (mv_ret (fun n => rfl) (h2)) (congrArg mv_I (by (have c2 : ¬ p = 2 := by omega); simp only [sp_says, hl, if_neg c2]; rfl))
theorem sp_csays_50_4 {V M : mv_M} {P : Nat → Nat → List Int} {p u k : Nat} {need : Int} (hV : sp_c 50 M V) (ho : sp_ok V) (hl : V 0 11 = 4) (hP : sp_ct (10 + 3 * 4) M (P 4)) (hp : p < 3) (hu : (u : Int) < V 0 9) (hk : k < 4) :
    mv_Ru 2 49 0 [mv_R 50, mv_I (p : Int), mv_I (u : Int), mv_I (k : Int), mv_I need, mv_U, mv_U] [] M (mv_I (sp_says V P p u k need)) (fun M1 => mv_ag [56, 57] M M1) := by
  have h9 := sp_ok_s9 ho
  refine mv_go' 2 (pc' := 4) (ls' := [mv_R 50, mv_I (p : Int), mv_I (u : Int), mv_I (k : Int), mv_I need, mv_U, mv_U]) (st' := [mv_I (M 50 11)]) (M1 := M) rfl ?_
  have hr121 := sp_ok_s11 ho
  rw [show M 50 11 = V 0 11 from by exact sp_c_s11 hV]
  rw [show V 0 11 = 4 from by exact hl]
  refine mv_go' 1 (pc' := if 4 < 0 then 16 else 7) (ls' := [mv_R 50, mv_I (p : Int), mv_I (u : Int), mv_I (k : Int), mv_I need, mv_U, mv_U]) (st' := []) (M1 := M) rfl ?_
  refine mv_ff' (by decide) ?_
  refine mv_go' 2 (pc' := 11) (ls' := [mv_R 50, mv_I (p : Int), mv_I (u : Int), mv_I (k : Int), mv_I need, mv_U, mv_U]) (st' := [mv_I (M 50 11)]) (M1 := M) rfl ?_
  have hr123 := sp_ok_s11 ho
  rw [show M 50 11 = V 0 11 from by exact sp_c_s11 hV]
  rw [show V 0 11 = 4 from by exact hl]
  refine mv_go' 2 (pc' := if 4 < 6 then 20 else 16) (ls' := [mv_R 50, mv_I (p : Int), mv_I (u : Int), mv_I (k : Int), mv_I need, mv_U, mv_U]) (st' := []) (M1 := M) rfl ?_
  refine mv_tt' (by decide) ?_
  refine mv_go' 4 (pc' := 28) (ls' := [mv_R 50, mv_I (p : Int), mv_I (u : Int), mv_I (k : Int), mv_I need, mv_U, mv_U]) (st' := [mv_I (M 50 11), mv_R 1]) (M1 := M) rfl ?_
  have hr125 := sp_ok_s11 ho
  rw [show M 50 11 = V 0 11 from by exact sp_c_s11 hV]
  rw [show V 0 11 = 4 from by exact hl]
  refine mv_go' 1 (pc' := if 0 ≤ 4 ∧ 4 < 6 then 29 else mv_bad) (ls' := [mv_R 50, mv_I (p : Int), mv_I (u : Int), mv_I (k : Int), mv_I need, mv_U, mv_U]) (st' := [mv_R 22]) (M1 := M) rfl ?_
  refine mv_tt' (by first | omega | decide) ?_
  refine mv_go' 13 (pc' := 52) (ls' := [mv_R 50, mv_I (p : Int), mv_I (u : Int), mv_I (k : Int), mv_I need, mv_R 22, mv_U]) (st' := [mv_I (mv_w ((mv_w ((u : Int) * 4)) + (k : Int))), mv_R 53, mv_I 0, mv_R 56]) (M1 := M) rfl ?_
  rw [show mv_w ((mv_w ((u : Int) * 4)) + (k : Int)) = ((4 * u + k : Nat) : Int) from by (rw [show mv_w ((u : Int) * 4) = (u : Int) * 4 from mv_w_id (by omega) (by omega), show mv_w (((u : Int) * 4) + (k : Int)) = ((u : Int) * 4) + (k : Int) from mv_w_id (by omega) (by omega)]) <;> omega]
  refine mv_go' 1 (pc' := if 0 ≤ ((4 * u + k : Nat) : Int) ∧ ((4 * u + k : Nat) : Int) < 24 then 53 else mv_bad) (ls' := [mv_R 50, mv_I (p : Int), mv_I (u : Int), mv_I (k : Int), mv_I need, mv_R 22, mv_U]) (st' := [mv_I (M 53 (4 * u + k)), mv_I 0, mv_R 56]) (M1 := M) rfl ?_
  refine mv_tt' (by first | omega | decide) ?_
  have hr127 := sp_ok_3 ho (4 * u + k) (by omega)
  rw [show M 53 (4 * u + k) = V 3 (4 * u + k) from by exact sp_c_3 hV (4 * u + k) (by omega)]
  refine mv_go' 1 (pc' := if 0 ≤ 0 ∧ 0 < 6 then 54 else mv_bad) (ls' := [mv_R 50, mv_I (p : Int), mv_I (u : Int), mv_I (k : Int), mv_I need, mv_R 22, mv_U]) (st' := []) (M1 := (mv_st M 56 (mv_up (M 56) 0 (V 3 (4 * u + k))))) rfl ?_
  refine mv_tt' (by first | omega | decide) ?_
  refine mv_go' 5 (pc' := if 0 ≤ 1 ∧ 1 < 6 then 62 else mv_bad) (ls' := [mv_R 50, mv_I (p : Int), mv_I (u : Int), mv_I (k : Int), mv_I need, mv_R 22, mv_U]) (st' := []) (M1 := (mv_st (mv_st M 56 (mv_up (M 56) 0 (V 3 (4 * u + k)))) 56 (mv_up (mv_up (M 56) 0 (V 3 (4 * u + k))) 1 need))) rfl ?_
  refine mv_tt' (by first | omega | decide) ?_
  refine mv_go' 5 (pc' := if 0 ≤ 2 ∧ 2 < 6 then 69 else mv_bad) (ls' := [mv_R 50, mv_I (p : Int), mv_I (u : Int), mv_I (k : Int), mv_I need, mv_R 22, mv_U]) (st' := []) (M1 := (mv_st (mv_st (mv_st M 56 (mv_up (M 56) 0 (V 3 (4 * u + k)))) 56 (mv_up (mv_up (M 56) 0 (V 3 (4 * u + k))) 1 need)) 56 (mv_up (mv_up (mv_up (M 56) 0 (V 3 (4 * u + k))) 1 need) 2 (k : Int)))) rfl ?_
  refine mv_tt' (by first | omega | decide) ?_
  refine mv_go' 5 (pc' := 78) (ls' := [mv_R 50, mv_I (p : Int), mv_I (u : Int), mv_I (k : Int), mv_I need, mv_R 22, mv_U]) (st' := [mv_I (M 50 10), mv_I 3, mv_R 56]) (M1 := (mv_st (mv_st (mv_st M 56 (mv_up (M 56) 0 (V 3 (4 * u + k)))) 56 (mv_up (mv_up (M 56) 0 (V 3 (4 * u + k))) 1 need)) 56 (mv_up (mv_up (mv_up (M 56) 0 (V 3 (4 * u + k))) 1 need) 2 (k : Int)))) rfl ?_
  have hr129 := sp_ok_s10 ho
  rw [show M 50 10 = V 0 10 from by exact sp_c_s10 hV]
  refine mv_go' 1 (pc' := if 0 ≤ 3 ∧ 3 < 6 then 79 else mv_bad) (ls' := [mv_R 50, mv_I (p : Int), mv_I (u : Int), mv_I (k : Int), mv_I need, mv_R 22, mv_U]) (st' := []) (M1 := (mv_st (mv_st (mv_st (mv_st M 56 (mv_up (M 56) 0 (V 3 (4 * u + k)))) 56 (mv_up (mv_up (M 56) 0 (V 3 (4 * u + k))) 1 need)) 56 (mv_up (mv_up (mv_up (M 56) 0 (V 3 (4 * u + k))) 1 need) 2 (k : Int))) 56 (mv_up (mv_up (mv_up (mv_up (M 56) 0 (V 3 (4 * u + k))) 1 need) 2 (k : Int)) 3 (V 0 10)))) rfl ?_
  refine mv_tt' (by first | omega | decide) ?_
  refine mv_go' 5 (pc' := 86) (ls' := [mv_R 50, mv_I (p : Int), mv_I (u : Int), mv_I (k : Int), mv_I need, mv_R 22, mv_U]) (st' := [mv_I (u : Int), mv_R 50, mv_I 4, mv_R 56]) (M1 := (mv_st (mv_st (mv_st (mv_st M 56 (mv_up (M 56) 0 (V 3 (4 * u + k)))) 56 (mv_up (mv_up (M 56) 0 (V 3 (4 * u + k))) 1 need)) 56 (mv_up (mv_up (mv_up (M 56) 0 (V 3 (4 * u + k))) 1 need) 2 (k : Int))) 56 (mv_up (mv_up (mv_up (mv_up (M 56) 0 (V 3 (4 * u + k))) 1 need) 2 (k : Int)) 3 (V 0 10)))) rfl ?_
  have ha : mv_ag [56] M (mv_st (mv_st (mv_st (mv_st M 56 (mv_up (M 56) 0 (V 3 (4 * u + k)))) 56 (mv_up (mv_up (M 56) 0 (V 3 (4 * u + k))) 1 need)) 56 (mv_up (mv_up (mv_up (M 56) 0 (V 3 (4 * u + k))) 1 need) 2 (k : Int))) 56 (mv_up (mv_up (mv_up (mv_up (M 56) 0 (V 3 (4 * u + k))) 1 need) 2 (k : Int)) 3 (V 0 10))) := by repeat (first | exact mv_ag.rf | refine mv_ag.st ?_ (by decide))
  refine mv_callP (st2 := [mv_I (sp_hired V (u : Int)), mv_I 4, mv_R 56]) rfl (Or.inl rfl) rfl rfl rfl (sp_hired_50 (sp_c_ag hV ha (by decide)) ho) (by first | decide | omega) ?_
  refine mv_go' 1 (pc' := if 0 ≤ 4 ∧ 4 < 6 then 90 else mv_bad) (ls' := [mv_R 50, mv_I (p : Int), mv_I (u : Int), mv_I (k : Int), mv_I need, mv_R 22, mv_U]) (st' := []) (M1 := (mv_st (mv_st (mv_st (mv_st (mv_st M 56 (mv_up (M 56) 0 (V 3 (4 * u + k)))) 56 (mv_up (mv_up (M 56) 0 (V 3 (4 * u + k))) 1 need)) 56 (mv_up (mv_up (mv_up (M 56) 0 (V 3 (4 * u + k))) 1 need) 2 (k : Int))) 56 (mv_up (mv_up (mv_up (mv_up (M 56) 0 (V 3 (4 * u + k))) 1 need) 2 (k : Int)) 3 (V 0 10))) 56 (mv_up (mv_up (mv_up (mv_up (mv_up (M 56) 0 (V 3 (4 * u + k))) 1 need) 2 (k : Int)) 3 (V 0 10)) 4 (sp_hired V (u : Int))))) rfl ?_
  refine mv_tt' (by first | omega | decide) ?_
  refine mv_go' 7 (pc' := if 0 ≤ (u : Int) ∧ (u : Int) < 6 then 101 else mv_bad) (ls' := [mv_R 50, mv_I (p : Int), mv_I (u : Int), mv_I (k : Int), mv_I need, mv_R 22, mv_U]) (st' := [mv_I (M 55 u), mv_I 5, mv_R 56]) (M1 := (mv_st (mv_st (mv_st (mv_st (mv_st M 56 (mv_up (M 56) 0 (V 3 (4 * u + k)))) 56 (mv_up (mv_up (M 56) 0 (V 3 (4 * u + k))) 1 need)) 56 (mv_up (mv_up (mv_up (M 56) 0 (V 3 (4 * u + k))) 1 need) 2 (k : Int))) 56 (mv_up (mv_up (mv_up (mv_up (M 56) 0 (V 3 (4 * u + k))) 1 need) 2 (k : Int)) 3 (V 0 10))) 56 (mv_up (mv_up (mv_up (mv_up (mv_up (M 56) 0 (V 3 (4 * u + k))) 1 need) 2 (k : Int)) 3 (V 0 10)) 4 (sp_hired V (u : Int))))) rfl ?_
  refine mv_tt' (by first | omega | decide) ?_
  have hr131 := sp_ok_5 ho u (by omega)
  rw [show M 55 u = V 5 u from by exact sp_c_5 hV u (by omega)]
  refine mv_go' 1 (pc' := if 0 ≤ 5 ∧ 5 < 6 then 102 else mv_bad) (ls' := [mv_R 50, mv_I (p : Int), mv_I (u : Int), mv_I (k : Int), mv_I need, mv_R 22, mv_U]) (st' := []) (M1 := (mv_st (mv_st (mv_st (mv_st (mv_st (mv_st M 56 (mv_up (M 56) 0 (V 3 (4 * u + k)))) 56 (mv_up (mv_up (M 56) 0 (V 3 (4 * u + k))) 1 need)) 56 (mv_up (mv_up (mv_up (M 56) 0 (V 3 (4 * u + k))) 1 need) 2 (k : Int))) 56 (mv_up (mv_up (mv_up (mv_up (M 56) 0 (V 3 (4 * u + k))) 1 need) 2 (k : Int)) 3 (V 0 10))) 56 (mv_up (mv_up (mv_up (mv_up (mv_up (M 56) 0 (V 3 (4 * u + k))) 1 need) 2 (k : Int)) 3 (V 0 10)) 4 (sp_hired V (u : Int)))) 56 (mv_up (mv_up (mv_up (mv_up (mv_up (mv_up (M 56) 0 (V 3 (4 * u + k))) 1 need) 2 (k : Int)) 3 (V 0 10)) 4 (sp_hired V (u : Int))) 5 (V 5 u)))) rfl ?_
  refine mv_tt' (by first | omega | decide) ?_
  refine mv_go' 6 (pc' := 113) (ls' := [mv_R 50, mv_I (p : Int), mv_I (u : Int), mv_I (k : Int), mv_I need, mv_R 22, mv_U]) (st' := [mv_R 57, mv_R 56, mv_I (p : Int), mv_R 22]) (M1 := (mv_st (mv_st (mv_st (mv_st (mv_st (mv_st M 56 (mv_up (M 56) 0 (V 3 (4 * u + k)))) 56 (mv_up (mv_up (M 56) 0 (V 3 (4 * u + k))) 1 need)) 56 (mv_up (mv_up (mv_up (M 56) 0 (V 3 (4 * u + k))) 1 need) 2 (k : Int))) 56 (mv_up (mv_up (mv_up (mv_up (M 56) 0 (V 3 (4 * u + k))) 1 need) 2 (k : Int)) 3 (V 0 10))) 56 (mv_up (mv_up (mv_up (mv_up (mv_up (M 56) 0 (V 3 (4 * u + k))) 1 need) 2 (k : Int)) 3 (V 0 10)) 4 (sp_hired V (u : Int)))) 56 (mv_up (mv_up (mv_up (mv_up (mv_up (mv_up (M 56) 0 (V 3 (4 * u + k))) 1 need) 2 (k : Int)) 3 (V 0 10)) 4 (sp_hired V (u : Int))) 5 (V 5 u)))) rfl ?_
  have ha : mv_ag [56] M (mv_st (mv_st (mv_st (mv_st (mv_st (mv_st M 56 (mv_up (M 56) 0 (V 3 (4 * u + k)))) 56 (mv_up (mv_up (M 56) 0 (V 3 (4 * u + k))) 1 need)) 56 (mv_up (mv_up (mv_up (M 56) 0 (V 3 (4 * u + k))) 1 need) 2 (k : Int))) 56 (mv_up (mv_up (mv_up (mv_up (M 56) 0 (V 3 (4 * u + k))) 1 need) 2 (k : Int)) 3 (V 0 10))) 56 (mv_up (mv_up (mv_up (mv_up (mv_up (M 56) 0 (V 3 (4 * u + k))) 1 need) 2 (k : Int)) 3 (V 0 10)) 4 (sp_hired V (u : Int)))) 56 (mv_up (mv_up (mv_up (mv_up (mv_up (mv_up (M 56) 0 (V 3 (4 * u + k))) 1 need) 2 (k : Int)) 3 (V 0 10)) 4 (sp_hired V (u : Int))) 5 (V 5 u))) := by repeat (first | exact mv_ag.rf | refine mv_ag.st ?_ (by decide))
  have hn : ∀ i, i < 6 → (mv_st (mv_st (mv_st (mv_st (mv_st (mv_st M 56 (mv_up (M 56) 0 (V 3 (4 * u + k)))) 56 (mv_up (mv_up (M 56) 0 (V 3 (4 * u + k))) 1 need)) 56 (mv_up (mv_up (mv_up (M 56) 0 (V 3 (4 * u + k))) 1 need) 2 (k : Int))) 56 (mv_up (mv_up (mv_up (mv_up (M 56) 0 (V 3 (4 * u + k))) 1 need) 2 (k : Int)) 3 (V 0 10))) 56 (mv_up (mv_up (mv_up (mv_up (mv_up (M 56) 0 (V 3 (4 * u + k))) 1 need) 2 (k : Int)) 3 (V 0 10)) 4 (sp_hired V (u : Int)))) 56 (mv_up (mv_up (mv_up (mv_up (mv_up (mv_up (M 56) 0 (V 3 (4 * u + k))) 1 need) 2 (k : Int)) 3 (V 0 10)) 4 (sp_hired V (u : Int))) 5 (V 5 u))) 56 i = sp_nm V u k need i := fun i hi => match i, hi with
    | 0, _ => rfl
    | 1, _ => rfl
    | 2, _ => rfl
    | 3, _ => rfl
    | 4, _ => rfl
    | 5, _ => rfl
  refine mv_call (st2 := [mv_I (sp_top (sp_run (sp_nm V u k need) (P 4 p) []))]) rfl (Or.inl rfl) rfl rfl rfl ((sp_value_22_56 hp (sp_ct_ag hP ha (by decide))).val (congrArg mv_I (congrArg sp_top (sp_run_nm hn (P 4 p) 0 [] (sp_ct_wf hP hp) rfl)))) (by first | decide | omega) (fun M1 h1 => ?_)
  have h2 : mv_ag [56, 57] M M1 := (ha.wd (by decide)).tr (h1.wd (by decide))
  refine mv_go' 4 (pc' := if (p : Int) = 2 then 123 else 134) (ls' := [mv_R 50, mv_I (p : Int), mv_I (u : Int), mv_I (k : Int), mv_I need, mv_R 22, mv_I (sp_top (sp_run (sp_nm V u k need) (P 4 p) []))]) (st' := []) (M1 := M1) rfl ?_
  refine mv_sp' (fun c => ?_) (fun c => ?_)
  · refine mv_go' 3 (pc' := 128) (ls' := [mv_R 50, mv_I (p : Int), mv_I (u : Int), mv_I (k : Int), mv_I need, mv_R 22, mv_I (sp_top (sp_run (sp_nm V u k need) (P 4 p) []))]) (st' := [mv_I 9, mv_I 0, mv_I (sp_top (sp_run (sp_nm V u k need) (P 4 p) []))]) (M1 := M1) rfl ?_
    refine mv_callP (st2 := [mv_I (sp_cl (sp_top (sp_run (sp_nm V u k need) (P 4 p) [])) 0 9)]) rfl (Or.inr rfl) rfl rfl rfl (sp_cwithin (by decide)) (by first | decide | omega) ?_
    refine mv_go' 1 (pc' := 143) (ls' := [mv_R 50, mv_I (p : Int), mv_I (u : Int), mv_I (k : Int), mv_I need, mv_R 22, mv_I (sp_top (sp_run (sp_nm V u k need) (P 4 p) []))]) (st' := [mv_I (sp_cl (sp_top (sp_run (sp_nm V u k need) (P 4 p) [])) 0 9)]) (M1 := M1) rfl ?_
    exact mv_Ru.val (mv_ret (fun n => rfl) (h2)) (congrArg mv_I (by (have c2 : p = 2 := by omega); simp only [sp_says, hl, if_pos c2]; rfl))
  · refine mv_go' 3 (pc' := 140) (ls' := [mv_R 50, mv_I (p : Int), mv_I (u : Int), mv_I (k : Int), mv_I need, mv_R 22, mv_I (sp_top (sp_run (sp_nm V u k need) (P 4 p) []))]) (st' := [mv_I 99, mv_I (-99), mv_I (sp_top (sp_run (sp_nm V u k need) (P 4 p) []))]) (M1 := M1) rfl ?_
    refine mv_callP (st2 := [mv_I (sp_cl (sp_top (sp_run (sp_nm V u k need) (P 4 p) [])) (-99) 99)]) rfl (Or.inr rfl) rfl rfl rfl (sp_cwithin (by decide)) (by first | decide | omega) ?_
    exact mv_Ru.val (mv_ret (fun n => rfl) (h2)) (congrArg mv_I (by (have c2 : ¬ p = 2 := by omega); simp only [sp_says, hl, if_neg c2]; rfl))
theorem sp_csays_50_5 {V M : mv_M} {P : Nat → Nat → List Int} {p u k : Nat} {need : Int} (hV : sp_c 50 M V) (ho : sp_ok V) (hl : V 0 11 = 5) (hP : sp_ct (10 + 3 * 5) M (P 5)) (hp : p < 3) (hu : (u : Int) < V 0 9) (hk : k < 4) :
    mv_Ru 2 49 0 [mv_R 50, mv_I (p : Int), mv_I (u : Int), mv_I (k : Int), mv_I need, mv_U, mv_U] [] M (mv_I (sp_says V P p u k need)) (fun M1 => mv_ag [56, 57] M M1) := by
  have h9 := sp_ok_s9 ho
  refine mv_go' 2 (pc' := 4) (ls' := [mv_R 50, mv_I (p : Int), mv_I (u : Int), mv_I (k : Int), mv_I need, mv_U, mv_U]) (st' := [mv_I (M 50 11)]) (M1 := M) rfl ?_
  have hr133 := sp_ok_s11 ho
  rw [show M 50 11 = V 0 11 from by exact sp_c_s11 hV]
  rw [show V 0 11 = 5 from by exact hl]
  refine mv_go' 1 (pc' := if 5 < 0 then 16 else 7) (ls' := [mv_R 50, mv_I (p : Int), mv_I (u : Int), mv_I (k : Int), mv_I need, mv_U, mv_U]) (st' := []) (M1 := M) rfl ?_
  refine mv_ff' (by decide) ?_
  refine mv_go' 2 (pc' := 11) (ls' := [mv_R 50, mv_I (p : Int), mv_I (u : Int), mv_I (k : Int), mv_I need, mv_U, mv_U]) (st' := [mv_I (M 50 11)]) (M1 := M) rfl ?_
  have hr135 := sp_ok_s11 ho
  rw [show M 50 11 = V 0 11 from by exact sp_c_s11 hV]
  rw [show V 0 11 = 5 from by exact hl]
  refine mv_go' 2 (pc' := if 5 < 6 then 20 else 16) (ls' := [mv_R 50, mv_I (p : Int), mv_I (u : Int), mv_I (k : Int), mv_I need, mv_U, mv_U]) (st' := []) (M1 := M) rfl ?_
  refine mv_tt' (by decide) ?_
  refine mv_go' 4 (pc' := 28) (ls' := [mv_R 50, mv_I (p : Int), mv_I (u : Int), mv_I (k : Int), mv_I need, mv_U, mv_U]) (st' := [mv_I (M 50 11), mv_R 1]) (M1 := M) rfl ?_
  have hr137 := sp_ok_s11 ho
  rw [show M 50 11 = V 0 11 from by exact sp_c_s11 hV]
  rw [show V 0 11 = 5 from by exact hl]
  refine mv_go' 1 (pc' := if 0 ≤ 5 ∧ 5 < 6 then 29 else mv_bad) (ls' := [mv_R 50, mv_I (p : Int), mv_I (u : Int), mv_I (k : Int), mv_I need, mv_U, mv_U]) (st' := [mv_R 25]) (M1 := M) rfl ?_
  refine mv_tt' (by first | omega | decide) ?_
  refine mv_go' 13 (pc' := 52) (ls' := [mv_R 50, mv_I (p : Int), mv_I (u : Int), mv_I (k : Int), mv_I need, mv_R 25, mv_U]) (st' := [mv_I (mv_w ((mv_w ((u : Int) * 4)) + (k : Int))), mv_R 53, mv_I 0, mv_R 56]) (M1 := M) rfl ?_
  rw [show mv_w ((mv_w ((u : Int) * 4)) + (k : Int)) = ((4 * u + k : Nat) : Int) from by (rw [show mv_w ((u : Int) * 4) = (u : Int) * 4 from mv_w_id (by omega) (by omega), show mv_w (((u : Int) * 4) + (k : Int)) = ((u : Int) * 4) + (k : Int) from mv_w_id (by omega) (by omega)]) <;> omega]
  refine mv_go' 1 (pc' := if 0 ≤ ((4 * u + k : Nat) : Int) ∧ ((4 * u + k : Nat) : Int) < 24 then 53 else mv_bad) (ls' := [mv_R 50, mv_I (p : Int), mv_I (u : Int), mv_I (k : Int), mv_I need, mv_R 25, mv_U]) (st' := [mv_I (M 53 (4 * u + k)), mv_I 0, mv_R 56]) (M1 := M) rfl ?_
  refine mv_tt' (by first | omega | decide) ?_
  have hr139 := sp_ok_3 ho (4 * u + k) (by omega)
  rw [show M 53 (4 * u + k) = V 3 (4 * u + k) from by exact sp_c_3 hV (4 * u + k) (by omega)]
  refine mv_go' 1 (pc' := if 0 ≤ 0 ∧ 0 < 6 then 54 else mv_bad) (ls' := [mv_R 50, mv_I (p : Int), mv_I (u : Int), mv_I (k : Int), mv_I need, mv_R 25, mv_U]) (st' := []) (M1 := (mv_st M 56 (mv_up (M 56) 0 (V 3 (4 * u + k))))) rfl ?_
  refine mv_tt' (by first | omega | decide) ?_
  refine mv_go' 5 (pc' := if 0 ≤ 1 ∧ 1 < 6 then 62 else mv_bad) (ls' := [mv_R 50, mv_I (p : Int), mv_I (u : Int), mv_I (k : Int), mv_I need, mv_R 25, mv_U]) (st' := []) (M1 := (mv_st (mv_st M 56 (mv_up (M 56) 0 (V 3 (4 * u + k)))) 56 (mv_up (mv_up (M 56) 0 (V 3 (4 * u + k))) 1 need))) rfl ?_
  refine mv_tt' (by first | omega | decide) ?_
  refine mv_go' 5 (pc' := if 0 ≤ 2 ∧ 2 < 6 then 69 else mv_bad) (ls' := [mv_R 50, mv_I (p : Int), mv_I (u : Int), mv_I (k : Int), mv_I need, mv_R 25, mv_U]) (st' := []) (M1 := (mv_st (mv_st (mv_st M 56 (mv_up (M 56) 0 (V 3 (4 * u + k)))) 56 (mv_up (mv_up (M 56) 0 (V 3 (4 * u + k))) 1 need)) 56 (mv_up (mv_up (mv_up (M 56) 0 (V 3 (4 * u + k))) 1 need) 2 (k : Int)))) rfl ?_
  refine mv_tt' (by first | omega | decide) ?_
  refine mv_go' 5 (pc' := 78) (ls' := [mv_R 50, mv_I (p : Int), mv_I (u : Int), mv_I (k : Int), mv_I need, mv_R 25, mv_U]) (st' := [mv_I (M 50 10), mv_I 3, mv_R 56]) (M1 := (mv_st (mv_st (mv_st M 56 (mv_up (M 56) 0 (V 3 (4 * u + k)))) 56 (mv_up (mv_up (M 56) 0 (V 3 (4 * u + k))) 1 need)) 56 (mv_up (mv_up (mv_up (M 56) 0 (V 3 (4 * u + k))) 1 need) 2 (k : Int)))) rfl ?_
  have hr141 := sp_ok_s10 ho
  rw [show M 50 10 = V 0 10 from by exact sp_c_s10 hV]
  refine mv_go' 1 (pc' := if 0 ≤ 3 ∧ 3 < 6 then 79 else mv_bad) (ls' := [mv_R 50, mv_I (p : Int), mv_I (u : Int), mv_I (k : Int), mv_I need, mv_R 25, mv_U]) (st' := []) (M1 := (mv_st (mv_st (mv_st (mv_st M 56 (mv_up (M 56) 0 (V 3 (4 * u + k)))) 56 (mv_up (mv_up (M 56) 0 (V 3 (4 * u + k))) 1 need)) 56 (mv_up (mv_up (mv_up (M 56) 0 (V 3 (4 * u + k))) 1 need) 2 (k : Int))) 56 (mv_up (mv_up (mv_up (mv_up (M 56) 0 (V 3 (4 * u + k))) 1 need) 2 (k : Int)) 3 (V 0 10)))) rfl ?_
  refine mv_tt' (by first | omega | decide) ?_
  refine mv_go' 5 (pc' := 86) (ls' := [mv_R 50, mv_I (p : Int), mv_I (u : Int), mv_I (k : Int), mv_I need, mv_R 25, mv_U]) (st' := [mv_I (u : Int), mv_R 50, mv_I 4, mv_R 56]) (M1 := (mv_st (mv_st (mv_st (mv_st M 56 (mv_up (M 56) 0 (V 3 (4 * u + k)))) 56 (mv_up (mv_up (M 56) 0 (V 3 (4 * u + k))) 1 need)) 56 (mv_up (mv_up (mv_up (M 56) 0 (V 3 (4 * u + k))) 1 need) 2 (k : Int))) 56 (mv_up (mv_up (mv_up (mv_up (M 56) 0 (V 3 (4 * u + k))) 1 need) 2 (k : Int)) 3 (V 0 10)))) rfl ?_
  have ha : mv_ag [56] M (mv_st (mv_st (mv_st (mv_st M 56 (mv_up (M 56) 0 (V 3 (4 * u + k)))) 56 (mv_up (mv_up (M 56) 0 (V 3 (4 * u + k))) 1 need)) 56 (mv_up (mv_up (mv_up (M 56) 0 (V 3 (4 * u + k))) 1 need) 2 (k : Int))) 56 (mv_up (mv_up (mv_up (mv_up (M 56) 0 (V 3 (4 * u + k))) 1 need) 2 (k : Int)) 3 (V 0 10))) := by repeat (first | exact mv_ag.rf | refine mv_ag.st ?_ (by decide))
  refine mv_callP (st2 := [mv_I (sp_hired V (u : Int)), mv_I 4, mv_R 56]) rfl (Or.inl rfl) rfl rfl rfl (sp_hired_50 (sp_c_ag hV ha (by decide)) ho) (by first | decide | omega) ?_
  refine mv_go' 1 (pc' := if 0 ≤ 4 ∧ 4 < 6 then 90 else mv_bad) (ls' := [mv_R 50, mv_I (p : Int), mv_I (u : Int), mv_I (k : Int), mv_I need, mv_R 25, mv_U]) (st' := []) (M1 := (mv_st (mv_st (mv_st (mv_st (mv_st M 56 (mv_up (M 56) 0 (V 3 (4 * u + k)))) 56 (mv_up (mv_up (M 56) 0 (V 3 (4 * u + k))) 1 need)) 56 (mv_up (mv_up (mv_up (M 56) 0 (V 3 (4 * u + k))) 1 need) 2 (k : Int))) 56 (mv_up (mv_up (mv_up (mv_up (M 56) 0 (V 3 (4 * u + k))) 1 need) 2 (k : Int)) 3 (V 0 10))) 56 (mv_up (mv_up (mv_up (mv_up (mv_up (M 56) 0 (V 3 (4 * u + k))) 1 need) 2 (k : Int)) 3 (V 0 10)) 4 (sp_hired V (u : Int))))) rfl ?_
  refine mv_tt' (by first | omega | decide) ?_
  refine mv_go' 7 (pc' := if 0 ≤ (u : Int) ∧ (u : Int) < 6 then 101 else mv_bad) (ls' := [mv_R 50, mv_I (p : Int), mv_I (u : Int), mv_I (k : Int), mv_I need, mv_R 25, mv_U]) (st' := [mv_I (M 55 u), mv_I 5, mv_R 56]) (M1 := (mv_st (mv_st (mv_st (mv_st (mv_st M 56 (mv_up (M 56) 0 (V 3 (4 * u + k)))) 56 (mv_up (mv_up (M 56) 0 (V 3 (4 * u + k))) 1 need)) 56 (mv_up (mv_up (mv_up (M 56) 0 (V 3 (4 * u + k))) 1 need) 2 (k : Int))) 56 (mv_up (mv_up (mv_up (mv_up (M 56) 0 (V 3 (4 * u + k))) 1 need) 2 (k : Int)) 3 (V 0 10))) 56 (mv_up (mv_up (mv_up (mv_up (mv_up (M 56) 0 (V 3 (4 * u + k))) 1 need) 2 (k : Int)) 3 (V 0 10)) 4 (sp_hired V (u : Int))))) rfl ?_
  refine mv_tt' (by first | omega | decide) ?_
  have hr143 := sp_ok_5 ho u (by omega)
  rw [show M 55 u = V 5 u from by exact sp_c_5 hV u (by omega)]
  refine mv_go' 1 (pc' := if 0 ≤ 5 ∧ 5 < 6 then 102 else mv_bad) (ls' := [mv_R 50, mv_I (p : Int), mv_I (u : Int), mv_I (k : Int), mv_I need, mv_R 25, mv_U]) (st' := []) (M1 := (mv_st (mv_st (mv_st (mv_st (mv_st (mv_st M 56 (mv_up (M 56) 0 (V 3 (4 * u + k)))) 56 (mv_up (mv_up (M 56) 0 (V 3 (4 * u + k))) 1 need)) 56 (mv_up (mv_up (mv_up (M 56) 0 (V 3 (4 * u + k))) 1 need) 2 (k : Int))) 56 (mv_up (mv_up (mv_up (mv_up (M 56) 0 (V 3 (4 * u + k))) 1 need) 2 (k : Int)) 3 (V 0 10))) 56 (mv_up (mv_up (mv_up (mv_up (mv_up (M 56) 0 (V 3 (4 * u + k))) 1 need) 2 (k : Int)) 3 (V 0 10)) 4 (sp_hired V (u : Int)))) 56 (mv_up (mv_up (mv_up (mv_up (mv_up (mv_up (M 56) 0 (V 3 (4 * u + k))) 1 need) 2 (k : Int)) 3 (V 0 10)) 4 (sp_hired V (u : Int))) 5 (V 5 u)))) rfl ?_
  refine mv_tt' (by first | omega | decide) ?_
  refine mv_go' 6 (pc' := 113) (ls' := [mv_R 50, mv_I (p : Int), mv_I (u : Int), mv_I (k : Int), mv_I need, mv_R 25, mv_U]) (st' := [mv_R 57, mv_R 56, mv_I (p : Int), mv_R 25]) (M1 := (mv_st (mv_st (mv_st (mv_st (mv_st (mv_st M 56 (mv_up (M 56) 0 (V 3 (4 * u + k)))) 56 (mv_up (mv_up (M 56) 0 (V 3 (4 * u + k))) 1 need)) 56 (mv_up (mv_up (mv_up (M 56) 0 (V 3 (4 * u + k))) 1 need) 2 (k : Int))) 56 (mv_up (mv_up (mv_up (mv_up (M 56) 0 (V 3 (4 * u + k))) 1 need) 2 (k : Int)) 3 (V 0 10))) 56 (mv_up (mv_up (mv_up (mv_up (mv_up (M 56) 0 (V 3 (4 * u + k))) 1 need) 2 (k : Int)) 3 (V 0 10)) 4 (sp_hired V (u : Int)))) 56 (mv_up (mv_up (mv_up (mv_up (mv_up (mv_up (M 56) 0 (V 3 (4 * u + k))) 1 need) 2 (k : Int)) 3 (V 0 10)) 4 (sp_hired V (u : Int))) 5 (V 5 u)))) rfl ?_
  have ha : mv_ag [56] M (mv_st (mv_st (mv_st (mv_st (mv_st (mv_st M 56 (mv_up (M 56) 0 (V 3 (4 * u + k)))) 56 (mv_up (mv_up (M 56) 0 (V 3 (4 * u + k))) 1 need)) 56 (mv_up (mv_up (mv_up (M 56) 0 (V 3 (4 * u + k))) 1 need) 2 (k : Int))) 56 (mv_up (mv_up (mv_up (mv_up (M 56) 0 (V 3 (4 * u + k))) 1 need) 2 (k : Int)) 3 (V 0 10))) 56 (mv_up (mv_up (mv_up (mv_up (mv_up (M 56) 0 (V 3 (4 * u + k))) 1 need) 2 (k : Int)) 3 (V 0 10)) 4 (sp_hired V (u : Int)))) 56 (mv_up (mv_up (mv_up (mv_up (mv_up (mv_up (M 56) 0 (V 3 (4 * u + k))) 1 need) 2 (k : Int)) 3 (V 0 10)) 4 (sp_hired V (u : Int))) 5 (V 5 u))) := by repeat (first | exact mv_ag.rf | refine mv_ag.st ?_ (by decide))
  have hn : ∀ i, i < 6 → (mv_st (mv_st (mv_st (mv_st (mv_st (mv_st M 56 (mv_up (M 56) 0 (V 3 (4 * u + k)))) 56 (mv_up (mv_up (M 56) 0 (V 3 (4 * u + k))) 1 need)) 56 (mv_up (mv_up (mv_up (M 56) 0 (V 3 (4 * u + k))) 1 need) 2 (k : Int))) 56 (mv_up (mv_up (mv_up (mv_up (M 56) 0 (V 3 (4 * u + k))) 1 need) 2 (k : Int)) 3 (V 0 10))) 56 (mv_up (mv_up (mv_up (mv_up (mv_up (M 56) 0 (V 3 (4 * u + k))) 1 need) 2 (k : Int)) 3 (V 0 10)) 4 (sp_hired V (u : Int)))) 56 (mv_up (mv_up (mv_up (mv_up (mv_up (mv_up (M 56) 0 (V 3 (4 * u + k))) 1 need) 2 (k : Int)) 3 (V 0 10)) 4 (sp_hired V (u : Int))) 5 (V 5 u))) 56 i = sp_nm V u k need i := fun i hi => match i, hi with
    | 0, _ => rfl
    | 1, _ => rfl
    | 2, _ => rfl
    | 3, _ => rfl
    | 4, _ => rfl
    | 5, _ => rfl
  refine mv_call (st2 := [mv_I (sp_top (sp_run (sp_nm V u k need) (P 5 p) []))]) rfl (Or.inl rfl) rfl rfl rfl ((sp_value_25_56 hp (sp_ct_ag hP ha (by decide))).val (congrArg mv_I (congrArg sp_top (sp_run_nm hn (P 5 p) 0 [] (sp_ct_wf hP hp) rfl)))) (by first | decide | omega) (fun M1 h1 => ?_)
  have h2 : mv_ag [56, 57] M M1 := (ha.wd (by decide)).tr (h1.wd (by decide))
  refine mv_go' 4 (pc' := if (p : Int) = 2 then 123 else 134) (ls' := [mv_R 50, mv_I (p : Int), mv_I (u : Int), mv_I (k : Int), mv_I need, mv_R 25, mv_I (sp_top (sp_run (sp_nm V u k need) (P 5 p) []))]) (st' := []) (M1 := M1) rfl ?_
  refine mv_sp' (fun c => ?_) (fun c => ?_)
  · refine mv_go' 3 (pc' := 128) (ls' := [mv_R 50, mv_I (p : Int), mv_I (u : Int), mv_I (k : Int), mv_I need, mv_R 25, mv_I (sp_top (sp_run (sp_nm V u k need) (P 5 p) []))]) (st' := [mv_I 9, mv_I 0, mv_I (sp_top (sp_run (sp_nm V u k need) (P 5 p) []))]) (M1 := M1) rfl ?_
    refine mv_callP (st2 := [mv_I (sp_cl (sp_top (sp_run (sp_nm V u k need) (P 5 p) [])) 0 9)]) rfl (Or.inr rfl) rfl rfl rfl (sp_cwithin (by decide)) (by first | decide | omega) ?_
    refine mv_go' 1 (pc' := 143) (ls' := [mv_R 50, mv_I (p : Int), mv_I (u : Int), mv_I (k : Int), mv_I need, mv_R 25, mv_I (sp_top (sp_run (sp_nm V u k need) (P 5 p) []))]) (st' := [mv_I (sp_cl (sp_top (sp_run (sp_nm V u k need) (P 5 p) [])) 0 9)]) (M1 := M1) rfl ?_
    exact mv_Ru.val (mv_ret (fun n => rfl) (h2)) (congrArg mv_I (by (have c2 : p = 2 := by omega); simp only [sp_says, hl, if_pos c2]; rfl))
  · refine mv_go' 3 (pc' := 140) (ls' := [mv_R 50, mv_I (p : Int), mv_I (u : Int), mv_I (k : Int), mv_I need, mv_R 25, mv_I (sp_top (sp_run (sp_nm V u k need) (P 5 p) []))]) (st' := [mv_I 99, mv_I (-99), mv_I (sp_top (sp_run (sp_nm V u k need) (P 5 p) []))]) (M1 := M1) rfl ?_
    refine mv_callP (st2 := [mv_I (sp_cl (sp_top (sp_run (sp_nm V u k need) (P 5 p) [])) (-99) 99)]) rfl (Or.inr rfl) rfl rfl rfl (sp_cwithin (by decide)) (by first | decide | omega) ?_
    exact mv_Ru.val (mv_ret (fun n => rfl) (h2)) (congrArg mv_I (by (have c2 : ¬ p = 2 := by omega); simp only [sp_says, hl, if_neg c2]; rfl))
def sp_cts (M : mv_M) (P : Nat → Nat → List Int) (n : Int) : Prop := ∀ t : Nat, (t : Int) < n → sp_ct (10 + 3 * t) M (P t)
theorem sp_cts_ag {S : List Nat} {M M1 : mv_M} {P : Nat → Nat → List Int} {n : Int} (h : sp_cts M P n) (ha : mv_ag S M M1) (hn : n ≤ 6) (hs : ∀ i, 10 ≤ i → i < 28 → i ∉ S) : sp_cts M1 P n := fun t ht => sp_ct_ag (h t ht) ha ⟨hs _ (by omega) (by omega), hs _ (by omega) (by omega)⟩
theorem sp_csays_30 {V M : mv_M} {P : Nat → Nat → List Int} {n : Int} {p u k : Nat} {need : Int} (hV : sp_c 30 M V) (ho : sp_ok V) (hl : V 0 11 < n) (hP : sp_cts M P n) (hp : p < 3) (hu : (u : Int) < V 0 9) (hk : k < 4) :
    mv_Ru 2 49 0 [mv_R 30, mv_I (p : Int), mv_I (u : Int), mv_I (k : Int), mv_I need, mv_U, mv_U] [] M (mv_I (sp_says V P p u k need)) (fun M1 => mv_ag [36, 37] M M1) := by
  have h11 := sp_ok_s11 ho
  have h : V 0 11 = 0 ∨ V 0 11 = 1 ∨ V 0 11 = 2 ∨ V 0 11 = 3 ∨ V 0 11 = 4 ∨ V 0 11 = 5 := by omega
  rcases h with h | h | h | h | h | h
  · exact sp_csays_30_0 hV ho h (hP 0 (by rw [h] at hl; exact hl)) hp hu hk
  · exact sp_csays_30_1 hV ho h (hP 1 (by rw [h] at hl; exact hl)) hp hu hk
  · exact sp_csays_30_2 hV ho h (hP 2 (by rw [h] at hl; exact hl)) hp hu hk
  · exact sp_csays_30_3 hV ho h (hP 3 (by rw [h] at hl; exact hl)) hp hu hk
  · exact sp_csays_30_4 hV ho h (hP 4 (by rw [h] at hl; exact hl)) hp hu hk
  · exact sp_csays_30_5 hV ho h (hP 5 (by rw [h] at hl; exact hl)) hp hu hk
theorem sp_csays_50 {V M : mv_M} {P : Nat → Nat → List Int} {n : Int} {p u k : Nat} {need : Int} (hV : sp_c 50 M V) (ho : sp_ok V) (hl : V 0 11 < n) (hP : sp_cts M P n) (hp : p < 3) (hu : (u : Int) < V 0 9) (hk : k < 4) :
    mv_Ru 2 49 0 [mv_R 50, mv_I (p : Int), mv_I (u : Int), mv_I (k : Int), mv_I need, mv_U, mv_U] [] M (mv_I (sp_says V P p u k need)) (fun M1 => mv_ag [56, 57] M M1) := by
  have h11 := sp_ok_s11 ho
  have h : V 0 11 = 0 ∨ V 0 11 = 1 ∨ V 0 11 = 2 ∨ V 0 11 = 3 ∨ V 0 11 = 4 ∨ V 0 11 = 5 := by omega
  rcases h with h | h | h | h | h | h
  · exact sp_csays_50_0 hV ho h (hP 0 (by rw [h] at hl; exact hl)) hp hu hk
  · exact sp_csays_50_1 hV ho h (hP 1 (by rw [h] at hl; exact hl)) hp hu hk
  · exact sp_csays_50_2 hV ho h (hP 2 (by rw [h] at hl; exact hl)) hp hu hk
  · exact sp_csays_50_3 hV ho h (hP 3 (by rw [h] at hl; exact hl)) hp hu hk
  · exact sp_csays_50_4 hV ho h (hP 4 (by rw [h] at hl; exact hl)) hp hu hk
  · exact sp_csays_50_5 hV ho h (hP 5 (by rw [h] at hl; exact hl)) hp hu hk
