/-! the ward's own methods -/
theorem sp_hired_lp_30 {V M : mv_M} {u : Int} (hV : sp_c 30 M V) (ho : sp_ok V) : ∀ (k c : Nat), (c : Int) + k = V 0 8 → mv_Ru 0 47 4 [mv_R 30, mv_I u, mv_I (sp_sum (fun c => if V 2 c = u then 1 else 0) c), mv_I (c : Int)] [] M (mv_I (sp_hired V u)) (fun M1 => M1 = M) := by
  intro k
  induction k with
  | zero =>
    intro c hc
    have e : sp_hired V u = sp_sum (fun c => if V 2 c = u then 1 else 0) c := by unfold sp_hired; rw [show (V 0 8).toNat = c from by omega]
    rw [e]
    refine mv_go' 3 (pc' := 9) (ls' := [mv_R 30, mv_I u, mv_I (sp_sum (fun c => if V 2 c = u then 1 else 0) c), mv_I (c : Int)]) (st' := [mv_I (M 30 8), mv_I (c : Int)]) (M1 := M) rfl ?_
    have hr1 := sp_ok_s8 ho
    rw [show M 30 8 = V 0 8 from by exact sp_c_s8 hV]
    refine mv_go' 1 (pc' := if (c : Int) < (V 0 8) then 12 else 36) (ls' := [mv_R 30, mv_I u, mv_I (sp_sum (fun c => if V 2 c = u then 1 else 0) c), mv_I (c : Int)]) (st' := []) (M1 := M) rfl ?_
    refine mv_ff' (by omega) ?_
    refine mv_go' 1 (pc' := 37) (ls' := [mv_R 30, mv_I u, mv_I (sp_sum (fun c => if V 2 c = u then 1 else 0) c), mv_I (c : Int)]) (st' := [mv_I (sp_sum (fun c => if V 2 c = u then 1 else 0) c)]) (M1 := M) rfl ?_
    exact mv_ret (fun n => rfl) (rfl)
  | succ k ih =>
    intro c hc
    have hb := sp_hired_b (V := V) u c
    refine mv_go' 3 (pc' := 9) (ls' := [mv_R 30, mv_I u, mv_I (sp_sum (fun c => if V 2 c = u then 1 else 0) c), mv_I (c : Int)]) (st' := [mv_I (M 30 8), mv_I (c : Int)]) (M1 := M) rfl ?_
    have hr3 := sp_ok_s8 ho
    rw [show M 30 8 = V 0 8 from by exact sp_c_s8 hV]
    refine mv_go' 1 (pc' := if (c : Int) < (V 0 8) then 12 else 36) (ls' := [mv_R 30, mv_I u, mv_I (sp_sum (fun c => if V 2 c = u then 1 else 0) c), mv_I (c : Int)]) (st' := []) (M1 := M) rfl ?_
    refine mv_tt' (by omega) ?_
    refine mv_go' 5 (pc' := if 0 ≤ (c : Int) ∧ (c : Int) < 6 then 19 else mv_bad) (ls' := [mv_R 30, mv_I u, mv_I (sp_sum (fun c => if V 2 c = u then 1 else 0) c), mv_I (c : Int)]) (st' := [mv_I (M 32 c), mv_I (sp_sum (fun c => if V 2 c = u then 1 else 0) c)]) (M1 := M) rfl ?_
    refine mv_tt' (by omega) ?_
    have hr5 := sp_ok_2 ho c (by omega)
    rw [show M 32 c = V 2 c from by exact sp_c_2 hV c (by omega)]
    refine mv_go' 2 (pc' := if (V 2 c) = u then 23 else 27) (ls' := [mv_R 30, mv_I u, mv_I (sp_sum (fun c => if V 2 c = u then 1 else 0) c), mv_I (c : Int)]) (st' := [mv_I (sp_sum (fun c => if V 2 c = u then 1 else 0) c)]) (M1 := M) rfl ?_
    refine mv_sp' (fun h => ?_) (fun h => ?_)
    · refine mv_go' 6 (pc' := 4) (ls' := [mv_R 30, mv_I u, mv_I (mv_w ((sp_sum (fun c => if V 2 c = u then 1 else 0) c) + 1)), mv_I (mv_w ((c : Int) + 1))]) (st' := []) (M1 := M) rfl ?_
      rw [show mv_w ((sp_sum (fun c => if V 2 c = u then 1 else 0) c) + 1) = (sp_sum (fun c => if V 2 c = u then 1 else 0) c) + 1 from mv_w_id (by omega) (by omega)]
      rw [show mv_w ((c : Int) + 1) = (c : Int) + 1 from mv_w_id (by omega) (by omega)]
      rw [show (c : Int) + 1 = ((c + 1 : Nat) : Int) from by omega]
      have e : sp_sum (fun c => if V 2 c = u then 1 else 0) c + 1 = sp_sum (fun c => if V 2 c = u then 1 else 0) (c + 1) := by simp only [sp_sum, if_pos h]
      rw [e]
      exact ih (c + 1) (by omega)
    · refine mv_go' 5 (pc' := 4) (ls' := [mv_R 30, mv_I u, mv_I (mv_w ((sp_sum (fun c => if V 2 c = u then 1 else 0) c) + 0)), mv_I (mv_w ((c : Int) + 1))]) (st' := []) (M1 := M) rfl ?_
      rw [show mv_w ((sp_sum (fun c => if V 2 c = u then 1 else 0) c) + 0) = (sp_sum (fun c => if V 2 c = u then 1 else 0) c) + 0 from mv_w_id (by omega) (by omega)]
      rw [show mv_w ((c : Int) + 1) = (c : Int) + 1 from mv_w_id (by omega) (by omega)]
      rw [show (c : Int) + 1 = ((c + 1 : Nat) : Int) from by omega]
      have e : sp_sum (fun c => if V 2 c = u then 1 else 0) c + 0 = sp_sum (fun c => if V 2 c = u then 1 else 0) (c + 1) := by simp only [sp_sum, if_neg h]
      rw [e]
      exact ih (c + 1) (by omega)
theorem sp_hired_30 {V M : mv_M} {u : Int} (hV : sp_c 30 M V) (ho : sp_ok V) : mv_Ru 0 47 0 [mv_R 30, mv_I u, mv_U, mv_U] [] M (mv_I (sp_hired V u)) (fun M1 => M1 = M) := by
  have hr := sp_ok_s8 ho
  refine mv_go' 4 (pc' := 4) (ls' := [mv_R 30, mv_I u, mv_I 0, mv_I 0]) (st' := []) (M1 := M) rfl ?_
  exact sp_hired_lp_30 hV ho (V 0 8).toNat 0 (by omega)
theorem sp_hired_lp_50 {V M : mv_M} {u : Int} (hV : sp_c 50 M V) (ho : sp_ok V) : ∀ (k c : Nat), (c : Int) + k = V 0 8 → mv_Ru 0 47 4 [mv_R 50, mv_I u, mv_I (sp_sum (fun c => if V 2 c = u then 1 else 0) c), mv_I (c : Int)] [] M (mv_I (sp_hired V u)) (fun M1 => M1 = M) := by
  intro k
  induction k with
  | zero =>
    intro c hc
    have e : sp_hired V u = sp_sum (fun c => if V 2 c = u then 1 else 0) c := by unfold sp_hired; rw [show (V 0 8).toNat = c from by omega]
    rw [e]
    refine mv_go' 3 (pc' := 9) (ls' := [mv_R 50, mv_I u, mv_I (sp_sum (fun c => if V 2 c = u then 1 else 0) c), mv_I (c : Int)]) (st' := [mv_I (M 50 8), mv_I (c : Int)]) (M1 := M) rfl ?_
    have hr7 := sp_ok_s8 ho
    rw [show M 50 8 = V 0 8 from by exact sp_c_s8 hV]
    refine mv_go' 1 (pc' := if (c : Int) < (V 0 8) then 12 else 36) (ls' := [mv_R 50, mv_I u, mv_I (sp_sum (fun c => if V 2 c = u then 1 else 0) c), mv_I (c : Int)]) (st' := []) (M1 := M) rfl ?_
    refine mv_ff' (by omega) ?_
    refine mv_go' 1 (pc' := 37) (ls' := [mv_R 50, mv_I u, mv_I (sp_sum (fun c => if V 2 c = u then 1 else 0) c), mv_I (c : Int)]) (st' := [mv_I (sp_sum (fun c => if V 2 c = u then 1 else 0) c)]) (M1 := M) rfl ?_
    exact mv_ret (fun n => rfl) (rfl)
  | succ k ih =>
    intro c hc
    have hb := sp_hired_b (V := V) u c
    refine mv_go' 3 (pc' := 9) (ls' := [mv_R 50, mv_I u, mv_I (sp_sum (fun c => if V 2 c = u then 1 else 0) c), mv_I (c : Int)]) (st' := [mv_I (M 50 8), mv_I (c : Int)]) (M1 := M) rfl ?_
    have hr9 := sp_ok_s8 ho
    rw [show M 50 8 = V 0 8 from by exact sp_c_s8 hV]
    refine mv_go' 1 (pc' := if (c : Int) < (V 0 8) then 12 else 36) (ls' := [mv_R 50, mv_I u, mv_I (sp_sum (fun c => if V 2 c = u then 1 else 0) c), mv_I (c : Int)]) (st' := []) (M1 := M) rfl ?_
    refine mv_tt' (by omega) ?_
    refine mv_go' 5 (pc' := if 0 ≤ (c : Int) ∧ (c : Int) < 6 then 19 else mv_bad) (ls' := [mv_R 50, mv_I u, mv_I (sp_sum (fun c => if V 2 c = u then 1 else 0) c), mv_I (c : Int)]) (st' := [mv_I (M 52 c), mv_I (sp_sum (fun c => if V 2 c = u then 1 else 0) c)]) (M1 := M) rfl ?_
    refine mv_tt' (by omega) ?_
    have hr11 := sp_ok_2 ho c (by omega)
    rw [show M 52 c = V 2 c from by exact sp_c_2 hV c (by omega)]
    refine mv_go' 2 (pc' := if (V 2 c) = u then 23 else 27) (ls' := [mv_R 50, mv_I u, mv_I (sp_sum (fun c => if V 2 c = u then 1 else 0) c), mv_I (c : Int)]) (st' := [mv_I (sp_sum (fun c => if V 2 c = u then 1 else 0) c)]) (M1 := M) rfl ?_
    refine mv_sp' (fun h => ?_) (fun h => ?_)
    · refine mv_go' 6 (pc' := 4) (ls' := [mv_R 50, mv_I u, mv_I (mv_w ((sp_sum (fun c => if V 2 c = u then 1 else 0) c) + 1)), mv_I (mv_w ((c : Int) + 1))]) (st' := []) (M1 := M) rfl ?_
      rw [show mv_w ((sp_sum (fun c => if V 2 c = u then 1 else 0) c) + 1) = (sp_sum (fun c => if V 2 c = u then 1 else 0) c) + 1 from mv_w_id (by omega) (by omega)]
      rw [show mv_w ((c : Int) + 1) = (c : Int) + 1 from mv_w_id (by omega) (by omega)]
      rw [show (c : Int) + 1 = ((c + 1 : Nat) : Int) from by omega]
      have e : sp_sum (fun c => if V 2 c = u then 1 else 0) c + 1 = sp_sum (fun c => if V 2 c = u then 1 else 0) (c + 1) := by simp only [sp_sum, if_pos h]
      rw [e]
      exact ih (c + 1) (by omega)
    · refine mv_go' 5 (pc' := 4) (ls' := [mv_R 50, mv_I u, mv_I (mv_w ((sp_sum (fun c => if V 2 c = u then 1 else 0) c) + 0)), mv_I (mv_w ((c : Int) + 1))]) (st' := []) (M1 := M) rfl ?_
      rw [show mv_w ((sp_sum (fun c => if V 2 c = u then 1 else 0) c) + 0) = (sp_sum (fun c => if V 2 c = u then 1 else 0) c) + 0 from mv_w_id (by omega) (by omega)]
      rw [show mv_w ((c : Int) + 1) = (c : Int) + 1 from mv_w_id (by omega) (by omega)]
      rw [show (c : Int) + 1 = ((c + 1 : Nat) : Int) from by omega]
      have e : sp_sum (fun c => if V 2 c = u then 1 else 0) c + 0 = sp_sum (fun c => if V 2 c = u then 1 else 0) (c + 1) := by simp only [sp_sum, if_neg h]
      rw [e]
      exact ih (c + 1) (by omega)
theorem sp_hired_50 {V M : mv_M} {u : Int} (hV : sp_c 50 M V) (ho : sp_ok V) : mv_Ru 0 47 0 [mv_R 50, mv_I u, mv_U, mv_U] [] M (mv_I (sp_hired V u)) (fun M1 => M1 = M) := by
  have hr := sp_ok_s8 ho
  refine mv_go' 4 (pc' := 4) (ls' := [mv_R 50, mv_I u, mv_I 0, mv_I 0]) (st' := []) (M1 := M) rfl ?_
  exact sp_hired_lp_50 hV ho (V 0 8).toNat 0 (by omega)
