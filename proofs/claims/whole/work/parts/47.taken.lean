/-! taken -/
theorem sp_isOf_0_t {M : mv_M} {w : Int} (h : w = 0) : mv_Ru 0 105 0 [mv_I 0, mv_I w, mv_U, mv_U] [] M (mv_I 1) (fun M1 => M1 = M) := by
  refine mv_go' 7 (pc' := if 0 < 6 then 10 else 39) (ls' := [mv_I 0, mv_I w, mv_I 0, mv_I 0]) (st' := []) (M1 := M) rfl ?_
  refine mv_tt' (by decide) ?_
  refine mv_go' 2 (pc' := if 0 < 0 then 39 else 14) (ls' := [mv_I 0, mv_I w, mv_I 0, mv_I 0]) (st' := []) (M1 := M) rfl ?_
  refine mv_ff' (by decide) ?_
  refine mv_go' 3 (pc' := if 0 < 6 then 20 else 39) (ls' := [mv_I 0, mv_I w, mv_I 0, mv_I 0]) (st' := []) (M1 := M) rfl ?_
  refine mv_tt' (by decide) ?_
  refine mv_go' 3 (pc' := if 0 = w then 25 else 27) (ls' := [mv_I 0, mv_I w, mv_I 0, mv_I 0]) (st' := []) (M1 := M) rfl ?_
  refine mv_tt' (by omega) ?_
  refine mv_go' 1 (pc' := 26) (ls' := [mv_I 0, mv_I w, mv_I 0, mv_I 0]) (st' := [mv_I 1]) (M1 := M) rfl ?_
  exact mv_ret (fun n => rfl) rfl
theorem sp_isOf_0_f {M : mv_M} {w : Int} (h : ¬ (w = 0)) : mv_Ru 0 105 0 [mv_I 0, mv_I w, mv_U, mv_U] [] M (mv_I 0) (fun M1 => M1 = M) := by
  refine mv_go' 7 (pc' := if 0 < 6 then 10 else 39) (ls' := [mv_I 0, mv_I w, mv_I 0, mv_I 0]) (st' := []) (M1 := M) rfl ?_
  refine mv_tt' (by decide) ?_
  refine mv_go' 2 (pc' := if 0 < 0 then 39 else 14) (ls' := [mv_I 0, mv_I w, mv_I 0, mv_I 0]) (st' := []) (M1 := M) rfl ?_
  refine mv_ff' (by decide) ?_
  refine mv_go' 3 (pc' := if 0 < 6 then 20 else 39) (ls' := [mv_I 0, mv_I w, mv_I 0, mv_I 0]) (st' := []) (M1 := M) rfl ?_
  refine mv_tt' (by decide) ?_
  refine mv_go' 3 (pc' := if 0 = w then 25 else 27) (ls' := [mv_I 0, mv_I w, mv_I 0, mv_I 0]) (st' := []) (M1 := M) rfl ?_
  refine mv_ff' (by omega) ?_
  refine mv_go' 3 (pc' := if 0 ≤ 0 ∧ 0 < 6 then 32 else mv_bad) (ls' := [mv_I 0, mv_I w, mv_I 0, mv_I 0]) (st' := [mv_I (-1)]) (M1 := M) rfl ?_
  refine mv_tt' (by omega) ?_
  refine mv_go' 6 (pc' := if (mv_w (0 + 1)) < 6 then 10 else 39) (ls' := [mv_I 0, mv_I w, mv_I (-1), mv_I (mv_w (0 + 1))]) (st' := []) (M1 := M) rfl ?_
  rw [show mv_w (0 + 1) = 0 + 1 from mv_w_id (by omega) (by omega)]
  refine mv_tt' (by decide) ?_
  refine mv_go' 2 (pc' := if (-1) < 0 then 39 else 14) (ls' := [mv_I 0, mv_I w, mv_I (-1), mv_I (0 + 1)]) (st' := []) (M1 := M) rfl ?_
  refine mv_tt' (by decide) ?_
  refine mv_go' 1 (pc' := 40) (ls' := [mv_I 0, mv_I w, mv_I (-1), mv_I (0 + 1)]) (st' := [mv_I 0]) (M1 := M) rfl ?_
  exact mv_ret (fun n => rfl) rfl
theorem sp_isUn_0_t {M : mv_M} {w : Int} (h : w = 0) : mv_Ru 0 191 0 [mv_I 0, mv_I w] [] M (mv_I 1) (fun M1 => M1 = M) := by
  refine mv_go' 2 (pc' := if w = 0 then 29 else 4) (ls' := [mv_I 0, mv_I w]) (st' := []) (M1 := M) rfl ?_
  refine mv_tt' (by omega) ?_
  refine mv_go' 2 (pc' := 34) (ls' := [mv_I 0, mv_I w]) (st' := [mv_I 1]) (M1 := M) rfl ?_
  exact mv_ret (fun n => rfl) rfl
theorem sp_isUn_0_f {M : mv_M} {w : Int} (h : ¬ (w = 0)) : mv_Ru 0 191 0 [mv_I 0, mv_I w] [] M (mv_I 0) (fun M1 => M1 = M) := by
  refine mv_go' 2 (pc' := if w = 0 then 29 else 4) (ls' := [mv_I 0, mv_I w]) (st' := []) (M1 := M) rfl ?_
  refine mv_ff' (by omega) ?_
  refine mv_go' 3 (pc' := if 0 = w then 29 else 9) (ls' := [mv_I 0, mv_I w]) (st' := []) (M1 := M) rfl ?_
  refine mv_ff' (by omega) ?_
  refine mv_go' 3 (pc' := if w = 1 then 14 else 19) (ls' := [mv_I 0, mv_I w]) (st' := []) (M1 := M) rfl ?_
  refine mv_sp' (fun ha1 => ?_) (fun ha1 => ?_)
  · refine mv_go' 3 (pc' := if 0 = 3 then 29 else 19) (ls' := [mv_I 0, mv_I w]) (st' := []) (M1 := M) rfl ?_
    refine mv_ff' (by decide) ?_
    refine mv_go' 3 (pc' := if w = 2 then 24 else 33) (ls' := [mv_I 0, mv_I w]) (st' := []) (M1 := M) rfl ?_
    refine mv_ff' (by omega) ?_
    refine mv_go' 1 (pc' := 34) (ls' := [mv_I 0, mv_I w]) (st' := [mv_I 0]) (M1 := M) rfl ?_
    exact mv_ret (fun n => rfl) rfl
  · refine mv_go' 3 (pc' := if w = 2 then 24 else 33) (ls' := [mv_I 0, mv_I w]) (st' := []) (M1 := M) rfl ?_
    refine mv_sp' (fun ha2 => ?_) (fun ha2 => ?_)
    · refine mv_go' 3 (pc' := if 0 = 4 then 29 else 33) (ls' := [mv_I 0, mv_I w]) (st' := []) (M1 := M) rfl ?_
      refine mv_ff' (by decide) ?_
      refine mv_go' 1 (pc' := 34) (ls' := [mv_I 0, mv_I w]) (st' := [mv_I 0]) (M1 := M) rfl ?_
      exact mv_ret (fun n => rfl) rfl
    · refine mv_go' 1 (pc' := 34) (ls' := [mv_I 0, mv_I w]) (st' := [mv_I 0]) (M1 := M) rfl ?_
      exact mv_ret (fun n => rfl) rfl
theorem sp_isOf_1_t {M : mv_M} {w : Int} (h : w = 1 ∨ w = 0) : mv_Ru 0 105 0 [mv_I 1, mv_I w, mv_U, mv_U] [] M (mv_I 1) (fun M1 => M1 = M) := by
  refine mv_go' 7 (pc' := if 0 < 6 then 10 else 39) (ls' := [mv_I 1, mv_I w, mv_I 1, mv_I 0]) (st' := []) (M1 := M) rfl ?_
  refine mv_tt' (by decide) ?_
  refine mv_go' 2 (pc' := if 1 < 0 then 39 else 14) (ls' := [mv_I 1, mv_I w, mv_I 1, mv_I 0]) (st' := []) (M1 := M) rfl ?_
  refine mv_ff' (by decide) ?_
  refine mv_go' 3 (pc' := if 1 < 6 then 20 else 39) (ls' := [mv_I 1, mv_I w, mv_I 1, mv_I 0]) (st' := []) (M1 := M) rfl ?_
  refine mv_tt' (by decide) ?_
  refine mv_go' 3 (pc' := if 1 = w then 25 else 27) (ls' := [mv_I 1, mv_I w, mv_I 1, mv_I 0]) (st' := []) (M1 := M) rfl ?_
  refine mv_sp' (fun ha3 => ?_) (fun ha3 => ?_)
  · refine mv_go' 1 (pc' := 26) (ls' := [mv_I 1, mv_I w, mv_I 1, mv_I 0]) (st' := [mv_I 1]) (M1 := M) rfl ?_
    exact mv_ret (fun n => rfl) rfl
  · refine mv_go' 3 (pc' := if 0 ≤ 1 ∧ 1 < 6 then 32 else mv_bad) (ls' := [mv_I 1, mv_I w, mv_I 1, mv_I 0]) (st' := [mv_I 0]) (M1 := M) rfl ?_
    refine mv_tt' (by omega) ?_
    refine mv_go' 6 (pc' := if (mv_w (0 + 1)) < 6 then 10 else 39) (ls' := [mv_I 1, mv_I w, mv_I 0, mv_I (mv_w (0 + 1))]) (st' := []) (M1 := M) rfl ?_
    rw [show mv_w (0 + 1) = 0 + 1 from mv_w_id (by omega) (by omega)]
    refine mv_tt' (by decide) ?_
    refine mv_go' 2 (pc' := if 0 < 0 then 39 else 14) (ls' := [mv_I 1, mv_I w, mv_I 0, mv_I (0 + 1)]) (st' := []) (M1 := M) rfl ?_
    refine mv_ff' (by decide) ?_
    refine mv_go' 3 (pc' := if 0 < 6 then 20 else 39) (ls' := [mv_I 1, mv_I w, mv_I 0, mv_I (0 + 1)]) (st' := []) (M1 := M) rfl ?_
    refine mv_tt' (by decide) ?_
    refine mv_go' 3 (pc' := if 0 = w then 25 else 27) (ls' := [mv_I 1, mv_I w, mv_I 0, mv_I (0 + 1)]) (st' := []) (M1 := M) rfl ?_
    refine mv_tt' (by omega) ?_
    refine mv_go' 1 (pc' := 26) (ls' := [mv_I 1, mv_I w, mv_I 0, mv_I (0 + 1)]) (st' := [mv_I 1]) (M1 := M) rfl ?_
    exact mv_ret (fun n => rfl) rfl
theorem sp_isOf_1_f {M : mv_M} {w : Int} (h : ¬ (w = 1 ∨ w = 0)) : mv_Ru 0 105 0 [mv_I 1, mv_I w, mv_U, mv_U] [] M (mv_I 0) (fun M1 => M1 = M) := by
  refine mv_go' 7 (pc' := if 0 < 6 then 10 else 39) (ls' := [mv_I 1, mv_I w, mv_I 1, mv_I 0]) (st' := []) (M1 := M) rfl ?_
  refine mv_tt' (by decide) ?_
  refine mv_go' 2 (pc' := if 1 < 0 then 39 else 14) (ls' := [mv_I 1, mv_I w, mv_I 1, mv_I 0]) (st' := []) (M1 := M) rfl ?_
  refine mv_ff' (by decide) ?_
  refine mv_go' 3 (pc' := if 1 < 6 then 20 else 39) (ls' := [mv_I 1, mv_I w, mv_I 1, mv_I 0]) (st' := []) (M1 := M) rfl ?_
  refine mv_tt' (by decide) ?_
  refine mv_go' 3 (pc' := if 1 = w then 25 else 27) (ls' := [mv_I 1, mv_I w, mv_I 1, mv_I 0]) (st' := []) (M1 := M) rfl ?_
  refine mv_ff' (by omega) ?_
  refine mv_go' 3 (pc' := if 0 ≤ 1 ∧ 1 < 6 then 32 else mv_bad) (ls' := [mv_I 1, mv_I w, mv_I 1, mv_I 0]) (st' := [mv_I 0]) (M1 := M) rfl ?_
  refine mv_tt' (by omega) ?_
  refine mv_go' 6 (pc' := if (mv_w (0 + 1)) < 6 then 10 else 39) (ls' := [mv_I 1, mv_I w, mv_I 0, mv_I (mv_w (0 + 1))]) (st' := []) (M1 := M) rfl ?_
  rw [show mv_w (0 + 1) = 0 + 1 from mv_w_id (by omega) (by omega)]
  refine mv_tt' (by decide) ?_
  refine mv_go' 2 (pc' := if 0 < 0 then 39 else 14) (ls' := [mv_I 1, mv_I w, mv_I 0, mv_I (0 + 1)]) (st' := []) (M1 := M) rfl ?_
  refine mv_ff' (by decide) ?_
  refine mv_go' 3 (pc' := if 0 < 6 then 20 else 39) (ls' := [mv_I 1, mv_I w, mv_I 0, mv_I (0 + 1)]) (st' := []) (M1 := M) rfl ?_
  refine mv_tt' (by decide) ?_
  refine mv_go' 3 (pc' := if 0 = w then 25 else 27) (ls' := [mv_I 1, mv_I w, mv_I 0, mv_I (0 + 1)]) (st' := []) (M1 := M) rfl ?_
  refine mv_ff' (by omega) ?_
  refine mv_go' 3 (pc' := if 0 ≤ 0 ∧ 0 < 6 then 32 else mv_bad) (ls' := [mv_I 1, mv_I w, mv_I 0, mv_I (0 + 1)]) (st' := [mv_I (-1)]) (M1 := M) rfl ?_
  refine mv_tt' (by omega) ?_
  refine mv_go' 6 (pc' := if (mv_w ((0 + 1) + 1)) < 6 then 10 else 39) (ls' := [mv_I 1, mv_I w, mv_I (-1), mv_I (mv_w ((0 + 1) + 1))]) (st' := []) (M1 := M) rfl ?_
  rw [show mv_w ((0 + 1) + 1) = (0 + 1) + 1 from mv_w_id (by omega) (by omega)]
  refine mv_tt' (by decide) ?_
  refine mv_go' 2 (pc' := if (-1) < 0 then 39 else 14) (ls' := [mv_I 1, mv_I w, mv_I (-1), mv_I ((0 + 1) + 1)]) (st' := []) (M1 := M) rfl ?_
  refine mv_tt' (by decide) ?_
  refine mv_go' 1 (pc' := 40) (ls' := [mv_I 1, mv_I w, mv_I (-1), mv_I ((0 + 1) + 1)]) (st' := [mv_I 0]) (M1 := M) rfl ?_
  exact mv_ret (fun n => rfl) rfl
theorem sp_isUn_1_t {M : mv_M} {w : Int} (h : w = 1 ∨ w = 0) : mv_Ru 0 191 0 [mv_I 1, mv_I w] [] M (mv_I 1) (fun M1 => M1 = M) := by
  refine mv_go' 2 (pc' := if w = 0 then 29 else 4) (ls' := [mv_I 1, mv_I w]) (st' := []) (M1 := M) rfl ?_
  refine mv_sp' (fun ha4 => ?_) (fun ha4 => ?_)
  · refine mv_go' 2 (pc' := 34) (ls' := [mv_I 1, mv_I w]) (st' := [mv_I 1]) (M1 := M) rfl ?_
    exact mv_ret (fun n => rfl) rfl
  · refine mv_go' 3 (pc' := if 1 = w then 29 else 9) (ls' := [mv_I 1, mv_I w]) (st' := []) (M1 := M) rfl ?_
    refine mv_tt' (by omega) ?_
    refine mv_go' 2 (pc' := 34) (ls' := [mv_I 1, mv_I w]) (st' := [mv_I 1]) (M1 := M) rfl ?_
    exact mv_ret (fun n => rfl) rfl
theorem sp_isUn_1_f {M : mv_M} {w : Int} (h : ¬ (w = 1 ∨ w = 0)) : mv_Ru 0 191 0 [mv_I 1, mv_I w] [] M (mv_I 0) (fun M1 => M1 = M) := by
  refine mv_go' 2 (pc' := if w = 0 then 29 else 4) (ls' := [mv_I 1, mv_I w]) (st' := []) (M1 := M) rfl ?_
  refine mv_ff' (by omega) ?_
  refine mv_go' 3 (pc' := if 1 = w then 29 else 9) (ls' := [mv_I 1, mv_I w]) (st' := []) (M1 := M) rfl ?_
  refine mv_ff' (by omega) ?_
  refine mv_go' 3 (pc' := if w = 1 then 14 else 19) (ls' := [mv_I 1, mv_I w]) (st' := []) (M1 := M) rfl ?_
  refine mv_ff' (by omega) ?_
  refine mv_go' 3 (pc' := if w = 2 then 24 else 33) (ls' := [mv_I 1, mv_I w]) (st' := []) (M1 := M) rfl ?_
  refine mv_sp' (fun ha5 => ?_) (fun ha5 => ?_)
  · refine mv_go' 3 (pc' := if 1 = 4 then 29 else 33) (ls' := [mv_I 1, mv_I w]) (st' := []) (M1 := M) rfl ?_
    refine mv_ff' (by decide) ?_
    refine mv_go' 1 (pc' := 34) (ls' := [mv_I 1, mv_I w]) (st' := [mv_I 0]) (M1 := M) rfl ?_
    exact mv_ret (fun n => rfl) rfl
  · refine mv_go' 1 (pc' := 34) (ls' := [mv_I 1, mv_I w]) (st' := [mv_I 0]) (M1 := M) rfl ?_
    exact mv_ret (fun n => rfl) rfl
theorem sp_isOf_2_t {M : mv_M} {w : Int} (h : w = 2 ∨ w = 0) : mv_Ru 0 105 0 [mv_I 2, mv_I w, mv_U, mv_U] [] M (mv_I 1) (fun M1 => M1 = M) := by
  refine mv_go' 7 (pc' := if 0 < 6 then 10 else 39) (ls' := [mv_I 2, mv_I w, mv_I 2, mv_I 0]) (st' := []) (M1 := M) rfl ?_
  refine mv_tt' (by decide) ?_
  refine mv_go' 2 (pc' := if 2 < 0 then 39 else 14) (ls' := [mv_I 2, mv_I w, mv_I 2, mv_I 0]) (st' := []) (M1 := M) rfl ?_
  refine mv_ff' (by decide) ?_
  refine mv_go' 3 (pc' := if 2 < 6 then 20 else 39) (ls' := [mv_I 2, mv_I w, mv_I 2, mv_I 0]) (st' := []) (M1 := M) rfl ?_
  refine mv_tt' (by decide) ?_
  refine mv_go' 3 (pc' := if 2 = w then 25 else 27) (ls' := [mv_I 2, mv_I w, mv_I 2, mv_I 0]) (st' := []) (M1 := M) rfl ?_
  refine mv_sp' (fun ha6 => ?_) (fun ha6 => ?_)
  · refine mv_go' 1 (pc' := 26) (ls' := [mv_I 2, mv_I w, mv_I 2, mv_I 0]) (st' := [mv_I 1]) (M1 := M) rfl ?_
    exact mv_ret (fun n => rfl) rfl
  · refine mv_go' 3 (pc' := if 0 ≤ 2 ∧ 2 < 6 then 32 else mv_bad) (ls' := [mv_I 2, mv_I w, mv_I 2, mv_I 0]) (st' := [mv_I 0]) (M1 := M) rfl ?_
    refine mv_tt' (by omega) ?_
    refine mv_go' 6 (pc' := if (mv_w (0 + 1)) < 6 then 10 else 39) (ls' := [mv_I 2, mv_I w, mv_I 0, mv_I (mv_w (0 + 1))]) (st' := []) (M1 := M) rfl ?_
    rw [show mv_w (0 + 1) = 0 + 1 from mv_w_id (by omega) (by omega)]
    refine mv_tt' (by decide) ?_
    refine mv_go' 2 (pc' := if 0 < 0 then 39 else 14) (ls' := [mv_I 2, mv_I w, mv_I 0, mv_I (0 + 1)]) (st' := []) (M1 := M) rfl ?_
    refine mv_ff' (by decide) ?_
    refine mv_go' 3 (pc' := if 0 < 6 then 20 else 39) (ls' := [mv_I 2, mv_I w, mv_I 0, mv_I (0 + 1)]) (st' := []) (M1 := M) rfl ?_
    refine mv_tt' (by decide) ?_
    refine mv_go' 3 (pc' := if 0 = w then 25 else 27) (ls' := [mv_I 2, mv_I w, mv_I 0, mv_I (0 + 1)]) (st' := []) (M1 := M) rfl ?_
    refine mv_tt' (by omega) ?_
    refine mv_go' 1 (pc' := 26) (ls' := [mv_I 2, mv_I w, mv_I 0, mv_I (0 + 1)]) (st' := [mv_I 1]) (M1 := M) rfl ?_
    exact mv_ret (fun n => rfl) rfl
theorem sp_isOf_2_f {M : mv_M} {w : Int} (h : ¬ (w = 2 ∨ w = 0)) : mv_Ru 0 105 0 [mv_I 2, mv_I w, mv_U, mv_U] [] M (mv_I 0) (fun M1 => M1 = M) := by
  refine mv_go' 7 (pc' := if 0 < 6 then 10 else 39) (ls' := [mv_I 2, mv_I w, mv_I 2, mv_I 0]) (st' := []) (M1 := M) rfl ?_
  refine mv_tt' (by decide) ?_
  refine mv_go' 2 (pc' := if 2 < 0 then 39 else 14) (ls' := [mv_I 2, mv_I w, mv_I 2, mv_I 0]) (st' := []) (M1 := M) rfl ?_
  refine mv_ff' (by decide) ?_
  refine mv_go' 3 (pc' := if 2 < 6 then 20 else 39) (ls' := [mv_I 2, mv_I w, mv_I 2, mv_I 0]) (st' := []) (M1 := M) rfl ?_
  refine mv_tt' (by decide) ?_
  refine mv_go' 3 (pc' := if 2 = w then 25 else 27) (ls' := [mv_I 2, mv_I w, mv_I 2, mv_I 0]) (st' := []) (M1 := M) rfl ?_
  refine mv_ff' (by omega) ?_
  refine mv_go' 3 (pc' := if 0 ≤ 2 ∧ 2 < 6 then 32 else mv_bad) (ls' := [mv_I 2, mv_I w, mv_I 2, mv_I 0]) (st' := [mv_I 0]) (M1 := M) rfl ?_
  refine mv_tt' (by omega) ?_
  refine mv_go' 6 (pc' := if (mv_w (0 + 1)) < 6 then 10 else 39) (ls' := [mv_I 2, mv_I w, mv_I 0, mv_I (mv_w (0 + 1))]) (st' := []) (M1 := M) rfl ?_
  rw [show mv_w (0 + 1) = 0 + 1 from mv_w_id (by omega) (by omega)]
  refine mv_tt' (by decide) ?_
  refine mv_go' 2 (pc' := if 0 < 0 then 39 else 14) (ls' := [mv_I 2, mv_I w, mv_I 0, mv_I (0 + 1)]) (st' := []) (M1 := M) rfl ?_
  refine mv_ff' (by decide) ?_
  refine mv_go' 3 (pc' := if 0 < 6 then 20 else 39) (ls' := [mv_I 2, mv_I w, mv_I 0, mv_I (0 + 1)]) (st' := []) (M1 := M) rfl ?_
  refine mv_tt' (by decide) ?_
  refine mv_go' 3 (pc' := if 0 = w then 25 else 27) (ls' := [mv_I 2, mv_I w, mv_I 0, mv_I (0 + 1)]) (st' := []) (M1 := M) rfl ?_
  refine mv_ff' (by omega) ?_
  refine mv_go' 3 (pc' := if 0 ≤ 0 ∧ 0 < 6 then 32 else mv_bad) (ls' := [mv_I 2, mv_I w, mv_I 0, mv_I (0 + 1)]) (st' := [mv_I (-1)]) (M1 := M) rfl ?_
  refine mv_tt' (by omega) ?_
  refine mv_go' 6 (pc' := if (mv_w ((0 + 1) + 1)) < 6 then 10 else 39) (ls' := [mv_I 2, mv_I w, mv_I (-1), mv_I (mv_w ((0 + 1) + 1))]) (st' := []) (M1 := M) rfl ?_
  rw [show mv_w ((0 + 1) + 1) = (0 + 1) + 1 from mv_w_id (by omega) (by omega)]
  refine mv_tt' (by decide) ?_
  refine mv_go' 2 (pc' := if (-1) < 0 then 39 else 14) (ls' := [mv_I 2, mv_I w, mv_I (-1), mv_I ((0 + 1) + 1)]) (st' := []) (M1 := M) rfl ?_
  refine mv_tt' (by decide) ?_
  refine mv_go' 1 (pc' := 40) (ls' := [mv_I 2, mv_I w, mv_I (-1), mv_I ((0 + 1) + 1)]) (st' := [mv_I 0]) (M1 := M) rfl ?_
  exact mv_ret (fun n => rfl) rfl
theorem sp_isUn_2_t {M : mv_M} {w : Int} (h : w = 2 ∨ w = 0) : mv_Ru 0 191 0 [mv_I 2, mv_I w] [] M (mv_I 1) (fun M1 => M1 = M) := by
  refine mv_go' 2 (pc' := if w = 0 then 29 else 4) (ls' := [mv_I 2, mv_I w]) (st' := []) (M1 := M) rfl ?_
  refine mv_sp' (fun ha7 => ?_) (fun ha7 => ?_)
  · refine mv_go' 2 (pc' := 34) (ls' := [mv_I 2, mv_I w]) (st' := [mv_I 1]) (M1 := M) rfl ?_
    exact mv_ret (fun n => rfl) rfl
  · refine mv_go' 3 (pc' := if 2 = w then 29 else 9) (ls' := [mv_I 2, mv_I w]) (st' := []) (M1 := M) rfl ?_
    refine mv_tt' (by omega) ?_
    refine mv_go' 2 (pc' := 34) (ls' := [mv_I 2, mv_I w]) (st' := [mv_I 1]) (M1 := M) rfl ?_
    exact mv_ret (fun n => rfl) rfl
theorem sp_isUn_2_f {M : mv_M} {w : Int} (h : ¬ (w = 2 ∨ w = 0)) : mv_Ru 0 191 0 [mv_I 2, mv_I w] [] M (mv_I 0) (fun M1 => M1 = M) := by
  refine mv_go' 2 (pc' := if w = 0 then 29 else 4) (ls' := [mv_I 2, mv_I w]) (st' := []) (M1 := M) rfl ?_
  refine mv_ff' (by omega) ?_
  refine mv_go' 3 (pc' := if 2 = w then 29 else 9) (ls' := [mv_I 2, mv_I w]) (st' := []) (M1 := M) rfl ?_
  refine mv_ff' (by omega) ?_
  refine mv_go' 3 (pc' := if w = 1 then 14 else 19) (ls' := [mv_I 2, mv_I w]) (st' := []) (M1 := M) rfl ?_
  refine mv_sp' (fun ha8 => ?_) (fun ha8 => ?_)
  · refine mv_go' 3 (pc' := if 2 = 3 then 29 else 19) (ls' := [mv_I 2, mv_I w]) (st' := []) (M1 := M) rfl ?_
    refine mv_ff' (by decide) ?_
    refine mv_go' 3 (pc' := if w = 2 then 24 else 33) (ls' := [mv_I 2, mv_I w]) (st' := []) (M1 := M) rfl ?_
    refine mv_ff' (by omega) ?_
    refine mv_go' 1 (pc' := 34) (ls' := [mv_I 2, mv_I w]) (st' := [mv_I 0]) (M1 := M) rfl ?_
    exact mv_ret (fun n => rfl) rfl
  · refine mv_go' 3 (pc' := if w = 2 then 24 else 33) (ls' := [mv_I 2, mv_I w]) (st' := []) (M1 := M) rfl ?_
    refine mv_ff' (by omega) ?_
    refine mv_go' 1 (pc' := 34) (ls' := [mv_I 2, mv_I w]) (st' := [mv_I 0]) (M1 := M) rfl ?_
    exact mv_ret (fun n => rfl) rfl
theorem sp_isOf_3_t {M : mv_M} {w : Int} (h : w = 3 ∨ w = 1 ∨ w = 0) : mv_Ru 0 105 0 [mv_I 3, mv_I w, mv_U, mv_U] [] M (mv_I 1) (fun M1 => M1 = M) := by
  refine mv_go' 7 (pc' := if 0 < 6 then 10 else 39) (ls' := [mv_I 3, mv_I w, mv_I 3, mv_I 0]) (st' := []) (M1 := M) rfl ?_
  refine mv_tt' (by decide) ?_
  refine mv_go' 2 (pc' := if 3 < 0 then 39 else 14) (ls' := [mv_I 3, mv_I w, mv_I 3, mv_I 0]) (st' := []) (M1 := M) rfl ?_
  refine mv_ff' (by decide) ?_
  refine mv_go' 3 (pc' := if 3 < 6 then 20 else 39) (ls' := [mv_I 3, mv_I w, mv_I 3, mv_I 0]) (st' := []) (M1 := M) rfl ?_
  refine mv_tt' (by decide) ?_
  refine mv_go' 3 (pc' := if 3 = w then 25 else 27) (ls' := [mv_I 3, mv_I w, mv_I 3, mv_I 0]) (st' := []) (M1 := M) rfl ?_
  refine mv_sp' (fun ha9 => ?_) (fun ha9 => ?_)
  · refine mv_go' 1 (pc' := 26) (ls' := [mv_I 3, mv_I w, mv_I 3, mv_I 0]) (st' := [mv_I 1]) (M1 := M) rfl ?_
    exact mv_ret (fun n => rfl) rfl
  · refine mv_go' 3 (pc' := if 0 ≤ 3 ∧ 3 < 6 then 32 else mv_bad) (ls' := [mv_I 3, mv_I w, mv_I 3, mv_I 0]) (st' := [mv_I 1]) (M1 := M) rfl ?_
    refine mv_tt' (by omega) ?_
    refine mv_go' 6 (pc' := if (mv_w (0 + 1)) < 6 then 10 else 39) (ls' := [mv_I 3, mv_I w, mv_I 1, mv_I (mv_w (0 + 1))]) (st' := []) (M1 := M) rfl ?_
    rw [show mv_w (0 + 1) = 0 + 1 from mv_w_id (by omega) (by omega)]
    refine mv_tt' (by decide) ?_
    refine mv_go' 2 (pc' := if 1 < 0 then 39 else 14) (ls' := [mv_I 3, mv_I w, mv_I 1, mv_I (0 + 1)]) (st' := []) (M1 := M) rfl ?_
    refine mv_ff' (by decide) ?_
    refine mv_go' 3 (pc' := if 1 < 6 then 20 else 39) (ls' := [mv_I 3, mv_I w, mv_I 1, mv_I (0 + 1)]) (st' := []) (M1 := M) rfl ?_
    refine mv_tt' (by decide) ?_
    refine mv_go' 3 (pc' := if 1 = w then 25 else 27) (ls' := [mv_I 3, mv_I w, mv_I 1, mv_I (0 + 1)]) (st' := []) (M1 := M) rfl ?_
    refine mv_sp' (fun ha10 => ?_) (fun ha10 => ?_)
    · refine mv_go' 1 (pc' := 26) (ls' := [mv_I 3, mv_I w, mv_I 1, mv_I (0 + 1)]) (st' := [mv_I 1]) (M1 := M) rfl ?_
      exact mv_ret (fun n => rfl) rfl
    · refine mv_go' 3 (pc' := if 0 ≤ 1 ∧ 1 < 6 then 32 else mv_bad) (ls' := [mv_I 3, mv_I w, mv_I 1, mv_I (0 + 1)]) (st' := [mv_I 0]) (M1 := M) rfl ?_
      refine mv_tt' (by omega) ?_
      refine mv_go' 6 (pc' := if (mv_w ((0 + 1) + 1)) < 6 then 10 else 39) (ls' := [mv_I 3, mv_I w, mv_I 0, mv_I (mv_w ((0 + 1) + 1))]) (st' := []) (M1 := M) rfl ?_
      rw [show mv_w ((0 + 1) + 1) = (0 + 1) + 1 from mv_w_id (by omega) (by omega)]
      refine mv_tt' (by decide) ?_
      refine mv_go' 2 (pc' := if 0 < 0 then 39 else 14) (ls' := [mv_I 3, mv_I w, mv_I 0, mv_I ((0 + 1) + 1)]) (st' := []) (M1 := M) rfl ?_
      refine mv_ff' (by decide) ?_
      refine mv_go' 3 (pc' := if 0 < 6 then 20 else 39) (ls' := [mv_I 3, mv_I w, mv_I 0, mv_I ((0 + 1) + 1)]) (st' := []) (M1 := M) rfl ?_
      refine mv_tt' (by decide) ?_
      refine mv_go' 3 (pc' := if 0 = w then 25 else 27) (ls' := [mv_I 3, mv_I w, mv_I 0, mv_I ((0 + 1) + 1)]) (st' := []) (M1 := M) rfl ?_
      refine mv_tt' (by omega) ?_
      refine mv_go' 1 (pc' := 26) (ls' := [mv_I 3, mv_I w, mv_I 0, mv_I ((0 + 1) + 1)]) (st' := [mv_I 1]) (M1 := M) rfl ?_
      exact mv_ret (fun n => rfl) rfl
theorem sp_isOf_3_f {M : mv_M} {w : Int} (h : ¬ (w = 3 ∨ w = 1 ∨ w = 0)) : mv_Ru 0 105 0 [mv_I 3, mv_I w, mv_U, mv_U] [] M (mv_I 0) (fun M1 => M1 = M) := by
  refine mv_go' 7 (pc' := if 0 < 6 then 10 else 39) (ls' := [mv_I 3, mv_I w, mv_I 3, mv_I 0]) (st' := []) (M1 := M) rfl ?_
  refine mv_tt' (by decide) ?_
  refine mv_go' 2 (pc' := if 3 < 0 then 39 else 14) (ls' := [mv_I 3, mv_I w, mv_I 3, mv_I 0]) (st' := []) (M1 := M) rfl ?_
  refine mv_ff' (by decide) ?_
  refine mv_go' 3 (pc' := if 3 < 6 then 20 else 39) (ls' := [mv_I 3, mv_I w, mv_I 3, mv_I 0]) (st' := []) (M1 := M) rfl ?_
  refine mv_tt' (by decide) ?_
  refine mv_go' 3 (pc' := if 3 = w then 25 else 27) (ls' := [mv_I 3, mv_I w, mv_I 3, mv_I 0]) (st' := []) (M1 := M) rfl ?_
  refine mv_ff' (by omega) ?_
  refine mv_go' 3 (pc' := if 0 ≤ 3 ∧ 3 < 6 then 32 else mv_bad) (ls' := [mv_I 3, mv_I w, mv_I 3, mv_I 0]) (st' := [mv_I 1]) (M1 := M) rfl ?_
  refine mv_tt' (by omega) ?_
  refine mv_go' 6 (pc' := if (mv_w (0 + 1)) < 6 then 10 else 39) (ls' := [mv_I 3, mv_I w, mv_I 1, mv_I (mv_w (0 + 1))]) (st' := []) (M1 := M) rfl ?_
  rw [show mv_w (0 + 1) = 0 + 1 from mv_w_id (by omega) (by omega)]
  refine mv_tt' (by decide) ?_
  refine mv_go' 2 (pc' := if 1 < 0 then 39 else 14) (ls' := [mv_I 3, mv_I w, mv_I 1, mv_I (0 + 1)]) (st' := []) (M1 := M) rfl ?_
  refine mv_ff' (by decide) ?_
  refine mv_go' 3 (pc' := if 1 < 6 then 20 else 39) (ls' := [mv_I 3, mv_I w, mv_I 1, mv_I (0 + 1)]) (st' := []) (M1 := M) rfl ?_
  refine mv_tt' (by decide) ?_
  refine mv_go' 3 (pc' := if 1 = w then 25 else 27) (ls' := [mv_I 3, mv_I w, mv_I 1, mv_I (0 + 1)]) (st' := []) (M1 := M) rfl ?_
  refine mv_ff' (by omega) ?_
  refine mv_go' 3 (pc' := if 0 ≤ 1 ∧ 1 < 6 then 32 else mv_bad) (ls' := [mv_I 3, mv_I w, mv_I 1, mv_I (0 + 1)]) (st' := [mv_I 0]) (M1 := M) rfl ?_
  refine mv_tt' (by omega) ?_
  refine mv_go' 6 (pc' := if (mv_w ((0 + 1) + 1)) < 6 then 10 else 39) (ls' := [mv_I 3, mv_I w, mv_I 0, mv_I (mv_w ((0 + 1) + 1))]) (st' := []) (M1 := M) rfl ?_
  rw [show mv_w ((0 + 1) + 1) = (0 + 1) + 1 from mv_w_id (by omega) (by omega)]
  refine mv_tt' (by decide) ?_
  refine mv_go' 2 (pc' := if 0 < 0 then 39 else 14) (ls' := [mv_I 3, mv_I w, mv_I 0, mv_I ((0 + 1) + 1)]) (st' := []) (M1 := M) rfl ?_
  refine mv_ff' (by decide) ?_
  refine mv_go' 3 (pc' := if 0 < 6 then 20 else 39) (ls' := [mv_I 3, mv_I w, mv_I 0, mv_I ((0 + 1) + 1)]) (st' := []) (M1 := M) rfl ?_
  refine mv_tt' (by decide) ?_
  refine mv_go' 3 (pc' := if 0 = w then 25 else 27) (ls' := [mv_I 3, mv_I w, mv_I 0, mv_I ((0 + 1) + 1)]) (st' := []) (M1 := M) rfl ?_
  refine mv_ff' (by omega) ?_
  refine mv_go' 3 (pc' := if 0 ≤ 0 ∧ 0 < 6 then 32 else mv_bad) (ls' := [mv_I 3, mv_I w, mv_I 0, mv_I ((0 + 1) + 1)]) (st' := [mv_I (-1)]) (M1 := M) rfl ?_
  refine mv_tt' (by omega) ?_
  refine mv_go' 6 (pc' := if (mv_w (((0 + 1) + 1) + 1)) < 6 then 10 else 39) (ls' := [mv_I 3, mv_I w, mv_I (-1), mv_I (mv_w (((0 + 1) + 1) + 1))]) (st' := []) (M1 := M) rfl ?_
  rw [show mv_w (((0 + 1) + 1) + 1) = ((0 + 1) + 1) + 1 from mv_w_id (by omega) (by omega)]
  refine mv_tt' (by decide) ?_
  refine mv_go' 2 (pc' := if (-1) < 0 then 39 else 14) (ls' := [mv_I 3, mv_I w, mv_I (-1), mv_I (((0 + 1) + 1) + 1)]) (st' := []) (M1 := M) rfl ?_
  refine mv_tt' (by decide) ?_
  refine mv_go' 1 (pc' := 40) (ls' := [mv_I 3, mv_I w, mv_I (-1), mv_I (((0 + 1) + 1) + 1)]) (st' := [mv_I 0]) (M1 := M) rfl ?_
  exact mv_ret (fun n => rfl) rfl
theorem sp_isUn_3_t {M : mv_M} {w : Int} (h : w = 3 ∨ w = 1 ∨ w = 0) : mv_Ru 0 191 0 [mv_I 3, mv_I w] [] M (mv_I 1) (fun M1 => M1 = M) := by
  refine mv_go' 2 (pc' := if w = 0 then 29 else 4) (ls' := [mv_I 3, mv_I w]) (st' := []) (M1 := M) rfl ?_
  refine mv_sp' (fun ha11 => ?_) (fun ha11 => ?_)
  · refine mv_go' 2 (pc' := 34) (ls' := [mv_I 3, mv_I w]) (st' := [mv_I 1]) (M1 := M) rfl ?_
    exact mv_ret (fun n => rfl) rfl
  · refine mv_go' 3 (pc' := if 3 = w then 29 else 9) (ls' := [mv_I 3, mv_I w]) (st' := []) (M1 := M) rfl ?_
    refine mv_sp' (fun ha12 => ?_) (fun ha12 => ?_)
    · refine mv_go' 2 (pc' := 34) (ls' := [mv_I 3, mv_I w]) (st' := [mv_I 1]) (M1 := M) rfl ?_
      exact mv_ret (fun n => rfl) rfl
    · refine mv_go' 3 (pc' := if w = 1 then 14 else 19) (ls' := [mv_I 3, mv_I w]) (st' := []) (M1 := M) rfl ?_
      refine mv_tt' (by omega) ?_
      refine mv_go' 3 (pc' := if 3 = 3 then 29 else 19) (ls' := [mv_I 3, mv_I w]) (st' := []) (M1 := M) rfl ?_
      refine mv_tt' (by decide) ?_
      refine mv_go' 2 (pc' := 34) (ls' := [mv_I 3, mv_I w]) (st' := [mv_I 1]) (M1 := M) rfl ?_
      exact mv_ret (fun n => rfl) rfl
theorem sp_isUn_3_f {M : mv_M} {w : Int} (h : ¬ (w = 3 ∨ w = 1 ∨ w = 0)) : mv_Ru 0 191 0 [mv_I 3, mv_I w] [] M (mv_I 0) (fun M1 => M1 = M) := by
  refine mv_go' 2 (pc' := if w = 0 then 29 else 4) (ls' := [mv_I 3, mv_I w]) (st' := []) (M1 := M) rfl ?_
  refine mv_ff' (by omega) ?_
  refine mv_go' 3 (pc' := if 3 = w then 29 else 9) (ls' := [mv_I 3, mv_I w]) (st' := []) (M1 := M) rfl ?_
  refine mv_ff' (by omega) ?_
  refine mv_go' 3 (pc' := if w = 1 then 14 else 19) (ls' := [mv_I 3, mv_I w]) (st' := []) (M1 := M) rfl ?_
  refine mv_ff' (by omega) ?_
  refine mv_go' 3 (pc' := if w = 2 then 24 else 33) (ls' := [mv_I 3, mv_I w]) (st' := []) (M1 := M) rfl ?_
  refine mv_sp' (fun ha13 => ?_) (fun ha13 => ?_)
  · refine mv_go' 3 (pc' := if 3 = 4 then 29 else 33) (ls' := [mv_I 3, mv_I w]) (st' := []) (M1 := M) rfl ?_
    refine mv_ff' (by decide) ?_
    refine mv_go' 1 (pc' := 34) (ls' := [mv_I 3, mv_I w]) (st' := [mv_I 0]) (M1 := M) rfl ?_
    exact mv_ret (fun n => rfl) rfl
  · refine mv_go' 1 (pc' := 34) (ls' := [mv_I 3, mv_I w]) (st' := [mv_I 0]) (M1 := M) rfl ?_
    exact mv_ret (fun n => rfl) rfl
theorem sp_isOf_4_t {M : mv_M} {w : Int} (h : w = 4 ∨ w = 2 ∨ w = 0) : mv_Ru 0 105 0 [mv_I 4, mv_I w, mv_U, mv_U] [] M (mv_I 1) (fun M1 => M1 = M) := by
  refine mv_go' 7 (pc' := if 0 < 6 then 10 else 39) (ls' := [mv_I 4, mv_I w, mv_I 4, mv_I 0]) (st' := []) (M1 := M) rfl ?_
  refine mv_tt' (by decide) ?_
  refine mv_go' 2 (pc' := if 4 < 0 then 39 else 14) (ls' := [mv_I 4, mv_I w, mv_I 4, mv_I 0]) (st' := []) (M1 := M) rfl ?_
  refine mv_ff' (by decide) ?_
  refine mv_go' 3 (pc' := if 4 < 6 then 20 else 39) (ls' := [mv_I 4, mv_I w, mv_I 4, mv_I 0]) (st' := []) (M1 := M) rfl ?_
  refine mv_tt' (by decide) ?_
  refine mv_go' 3 (pc' := if 4 = w then 25 else 27) (ls' := [mv_I 4, mv_I w, mv_I 4, mv_I 0]) (st' := []) (M1 := M) rfl ?_
  refine mv_sp' (fun ha14 => ?_) (fun ha14 => ?_)
  · refine mv_go' 1 (pc' := 26) (ls' := [mv_I 4, mv_I w, mv_I 4, mv_I 0]) (st' := [mv_I 1]) (M1 := M) rfl ?_
    exact mv_ret (fun n => rfl) rfl
  · refine mv_go' 3 (pc' := if 0 ≤ 4 ∧ 4 < 6 then 32 else mv_bad) (ls' := [mv_I 4, mv_I w, mv_I 4, mv_I 0]) (st' := [mv_I 2]) (M1 := M) rfl ?_
    refine mv_tt' (by omega) ?_
    refine mv_go' 6 (pc' := if (mv_w (0 + 1)) < 6 then 10 else 39) (ls' := [mv_I 4, mv_I w, mv_I 2, mv_I (mv_w (0 + 1))]) (st' := []) (M1 := M) rfl ?_
    rw [show mv_w (0 + 1) = 0 + 1 from mv_w_id (by omega) (by omega)]
    refine mv_tt' (by decide) ?_
    refine mv_go' 2 (pc' := if 2 < 0 then 39 else 14) (ls' := [mv_I 4, mv_I w, mv_I 2, mv_I (0 + 1)]) (st' := []) (M1 := M) rfl ?_
    refine mv_ff' (by decide) ?_
    refine mv_go' 3 (pc' := if 2 < 6 then 20 else 39) (ls' := [mv_I 4, mv_I w, mv_I 2, mv_I (0 + 1)]) (st' := []) (M1 := M) rfl ?_
    refine mv_tt' (by decide) ?_
    refine mv_go' 3 (pc' := if 2 = w then 25 else 27) (ls' := [mv_I 4, mv_I w, mv_I 2, mv_I (0 + 1)]) (st' := []) (M1 := M) rfl ?_
    refine mv_sp' (fun ha15 => ?_) (fun ha15 => ?_)
    · refine mv_go' 1 (pc' := 26) (ls' := [mv_I 4, mv_I w, mv_I 2, mv_I (0 + 1)]) (st' := [mv_I 1]) (M1 := M) rfl ?_
      exact mv_ret (fun n => rfl) rfl
    · refine mv_go' 3 (pc' := if 0 ≤ 2 ∧ 2 < 6 then 32 else mv_bad) (ls' := [mv_I 4, mv_I w, mv_I 2, mv_I (0 + 1)]) (st' := [mv_I 0]) (M1 := M) rfl ?_
      refine mv_tt' (by omega) ?_
      refine mv_go' 6 (pc' := if (mv_w ((0 + 1) + 1)) < 6 then 10 else 39) (ls' := [mv_I 4, mv_I w, mv_I 0, mv_I (mv_w ((0 + 1) + 1))]) (st' := []) (M1 := M) rfl ?_
      rw [show mv_w ((0 + 1) + 1) = (0 + 1) + 1 from mv_w_id (by omega) (by omega)]
      refine mv_tt' (by decide) ?_
      refine mv_go' 2 (pc' := if 0 < 0 then 39 else 14) (ls' := [mv_I 4, mv_I w, mv_I 0, mv_I ((0 + 1) + 1)]) (st' := []) (M1 := M) rfl ?_
      refine mv_ff' (by decide) ?_
      refine mv_go' 3 (pc' := if 0 < 6 then 20 else 39) (ls' := [mv_I 4, mv_I w, mv_I 0, mv_I ((0 + 1) + 1)]) (st' := []) (M1 := M) rfl ?_
      refine mv_tt' (by decide) ?_
      refine mv_go' 3 (pc' := if 0 = w then 25 else 27) (ls' := [mv_I 4, mv_I w, mv_I 0, mv_I ((0 + 1) + 1)]) (st' := []) (M1 := M) rfl ?_
      refine mv_tt' (by omega) ?_
      refine mv_go' 1 (pc' := 26) (ls' := [mv_I 4, mv_I w, mv_I 0, mv_I ((0 + 1) + 1)]) (st' := [mv_I 1]) (M1 := M) rfl ?_
      exact mv_ret (fun n => rfl) rfl
theorem sp_isOf_4_f {M : mv_M} {w : Int} (h : ¬ (w = 4 ∨ w = 2 ∨ w = 0)) : mv_Ru 0 105 0 [mv_I 4, mv_I w, mv_U, mv_U] [] M (mv_I 0) (fun M1 => M1 = M) := by
  refine mv_go' 7 (pc' := if 0 < 6 then 10 else 39) (ls' := [mv_I 4, mv_I w, mv_I 4, mv_I 0]) (st' := []) (M1 := M) rfl ?_
  refine mv_tt' (by decide) ?_
  refine mv_go' 2 (pc' := if 4 < 0 then 39 else 14) (ls' := [mv_I 4, mv_I w, mv_I 4, mv_I 0]) (st' := []) (M1 := M) rfl ?_
  refine mv_ff' (by decide) ?_
  refine mv_go' 3 (pc' := if 4 < 6 then 20 else 39) (ls' := [mv_I 4, mv_I w, mv_I 4, mv_I 0]) (st' := []) (M1 := M) rfl ?_
  refine mv_tt' (by decide) ?_
  refine mv_go' 3 (pc' := if 4 = w then 25 else 27) (ls' := [mv_I 4, mv_I w, mv_I 4, mv_I 0]) (st' := []) (M1 := M) rfl ?_
  refine mv_ff' (by omega) ?_
  refine mv_go' 3 (pc' := if 0 ≤ 4 ∧ 4 < 6 then 32 else mv_bad) (ls' := [mv_I 4, mv_I w, mv_I 4, mv_I 0]) (st' := [mv_I 2]) (M1 := M) rfl ?_
  refine mv_tt' (by omega) ?_
  refine mv_go' 6 (pc' := if (mv_w (0 + 1)) < 6 then 10 else 39) (ls' := [mv_I 4, mv_I w, mv_I 2, mv_I (mv_w (0 + 1))]) (st' := []) (M1 := M) rfl ?_
  rw [show mv_w (0 + 1) = 0 + 1 from mv_w_id (by omega) (by omega)]
  refine mv_tt' (by decide) ?_
  refine mv_go' 2 (pc' := if 2 < 0 then 39 else 14) (ls' := [mv_I 4, mv_I w, mv_I 2, mv_I (0 + 1)]) (st' := []) (M1 := M) rfl ?_
  refine mv_ff' (by decide) ?_
  refine mv_go' 3 (pc' := if 2 < 6 then 20 else 39) (ls' := [mv_I 4, mv_I w, mv_I 2, mv_I (0 + 1)]) (st' := []) (M1 := M) rfl ?_
  refine mv_tt' (by decide) ?_
  refine mv_go' 3 (pc' := if 2 = w then 25 else 27) (ls' := [mv_I 4, mv_I w, mv_I 2, mv_I (0 + 1)]) (st' := []) (M1 := M) rfl ?_
  refine mv_ff' (by omega) ?_
  refine mv_go' 3 (pc' := if 0 ≤ 2 ∧ 2 < 6 then 32 else mv_bad) (ls' := [mv_I 4, mv_I w, mv_I 2, mv_I (0 + 1)]) (st' := [mv_I 0]) (M1 := M) rfl ?_
  refine mv_tt' (by omega) ?_
  refine mv_go' 6 (pc' := if (mv_w ((0 + 1) + 1)) < 6 then 10 else 39) (ls' := [mv_I 4, mv_I w, mv_I 0, mv_I (mv_w ((0 + 1) + 1))]) (st' := []) (M1 := M) rfl ?_
  rw [show mv_w ((0 + 1) + 1) = (0 + 1) + 1 from mv_w_id (by omega) (by omega)]
  refine mv_tt' (by decide) ?_
  refine mv_go' 2 (pc' := if 0 < 0 then 39 else 14) (ls' := [mv_I 4, mv_I w, mv_I 0, mv_I ((0 + 1) + 1)]) (st' := []) (M1 := M) rfl ?_
  refine mv_ff' (by decide) ?_
  refine mv_go' 3 (pc' := if 0 < 6 then 20 else 39) (ls' := [mv_I 4, mv_I w, mv_I 0, mv_I ((0 + 1) + 1)]) (st' := []) (M1 := M) rfl ?_
  refine mv_tt' (by decide) ?_
  refine mv_go' 3 (pc' := if 0 = w then 25 else 27) (ls' := [mv_I 4, mv_I w, mv_I 0, mv_I ((0 + 1) + 1)]) (st' := []) (M1 := M) rfl ?_
  refine mv_ff' (by omega) ?_
  refine mv_go' 3 (pc' := if 0 ≤ 0 ∧ 0 < 6 then 32 else mv_bad) (ls' := [mv_I 4, mv_I w, mv_I 0, mv_I ((0 + 1) + 1)]) (st' := [mv_I (-1)]) (M1 := M) rfl ?_
  refine mv_tt' (by omega) ?_
  refine mv_go' 6 (pc' := if (mv_w (((0 + 1) + 1) + 1)) < 6 then 10 else 39) (ls' := [mv_I 4, mv_I w, mv_I (-1), mv_I (mv_w (((0 + 1) + 1) + 1))]) (st' := []) (M1 := M) rfl ?_
  rw [show mv_w (((0 + 1) + 1) + 1) = ((0 + 1) + 1) + 1 from mv_w_id (by omega) (by omega)]
  refine mv_tt' (by decide) ?_
  refine mv_go' 2 (pc' := if (-1) < 0 then 39 else 14) (ls' := [mv_I 4, mv_I w, mv_I (-1), mv_I (((0 + 1) + 1) + 1)]) (st' := []) (M1 := M) rfl ?_
  refine mv_tt' (by decide) ?_
  refine mv_go' 1 (pc' := 40) (ls' := [mv_I 4, mv_I w, mv_I (-1), mv_I (((0 + 1) + 1) + 1)]) (st' := [mv_I 0]) (M1 := M) rfl ?_
  exact mv_ret (fun n => rfl) rfl
theorem sp_isUn_4_t {M : mv_M} {w : Int} (h : w = 4 ∨ w = 2 ∨ w = 0) : mv_Ru 0 191 0 [mv_I 4, mv_I w] [] M (mv_I 1) (fun M1 => M1 = M) := by
  refine mv_go' 2 (pc' := if w = 0 then 29 else 4) (ls' := [mv_I 4, mv_I w]) (st' := []) (M1 := M) rfl ?_
  refine mv_sp' (fun ha16 => ?_) (fun ha16 => ?_)
  · refine mv_go' 2 (pc' := 34) (ls' := [mv_I 4, mv_I w]) (st' := [mv_I 1]) (M1 := M) rfl ?_
    exact mv_ret (fun n => rfl) rfl
  · refine mv_go' 3 (pc' := if 4 = w then 29 else 9) (ls' := [mv_I 4, mv_I w]) (st' := []) (M1 := M) rfl ?_
    refine mv_sp' (fun ha17 => ?_) (fun ha17 => ?_)
    · refine mv_go' 2 (pc' := 34) (ls' := [mv_I 4, mv_I w]) (st' := [mv_I 1]) (M1 := M) rfl ?_
      exact mv_ret (fun n => rfl) rfl
    · refine mv_go' 3 (pc' := if w = 1 then 14 else 19) (ls' := [mv_I 4, mv_I w]) (st' := []) (M1 := M) rfl ?_
      refine mv_ff' (by omega) ?_
      refine mv_go' 3 (pc' := if w = 2 then 24 else 33) (ls' := [mv_I 4, mv_I w]) (st' := []) (M1 := M) rfl ?_
      refine mv_tt' (by omega) ?_
      refine mv_go' 3 (pc' := if 4 = 4 then 29 else 33) (ls' := [mv_I 4, mv_I w]) (st' := []) (M1 := M) rfl ?_
      refine mv_tt' (by decide) ?_
      refine mv_go' 2 (pc' := 34) (ls' := [mv_I 4, mv_I w]) (st' := [mv_I 1]) (M1 := M) rfl ?_
      exact mv_ret (fun n => rfl) rfl
theorem sp_isUn_4_f {M : mv_M} {w : Int} (h : ¬ (w = 4 ∨ w = 2 ∨ w = 0)) : mv_Ru 0 191 0 [mv_I 4, mv_I w] [] M (mv_I 0) (fun M1 => M1 = M) := by
  refine mv_go' 2 (pc' := if w = 0 then 29 else 4) (ls' := [mv_I 4, mv_I w]) (st' := []) (M1 := M) rfl ?_
  refine mv_ff' (by omega) ?_
  refine mv_go' 3 (pc' := if 4 = w then 29 else 9) (ls' := [mv_I 4, mv_I w]) (st' := []) (M1 := M) rfl ?_
  refine mv_ff' (by omega) ?_
  refine mv_go' 3 (pc' := if w = 1 then 14 else 19) (ls' := [mv_I 4, mv_I w]) (st' := []) (M1 := M) rfl ?_
  refine mv_sp' (fun ha18 => ?_) (fun ha18 => ?_)
  · refine mv_go' 3 (pc' := if 4 = 3 then 29 else 19) (ls' := [mv_I 4, mv_I w]) (st' := []) (M1 := M) rfl ?_
    refine mv_ff' (by decide) ?_
    refine mv_go' 3 (pc' := if w = 2 then 24 else 33) (ls' := [mv_I 4, mv_I w]) (st' := []) (M1 := M) rfl ?_
    refine mv_ff' (by omega) ?_
    refine mv_go' 1 (pc' := 34) (ls' := [mv_I 4, mv_I w]) (st' := [mv_I 0]) (M1 := M) rfl ?_
    exact mv_ret (fun n => rfl) rfl
  · refine mv_go' 3 (pc' := if w = 2 then 24 else 33) (ls' := [mv_I 4, mv_I w]) (st' := []) (M1 := M) rfl ?_
    refine mv_ff' (by omega) ?_
    refine mv_go' 1 (pc' := 34) (ls' := [mv_I 4, mv_I w]) (st' := [mv_I 0]) (M1 := M) rfl ?_
    exact mv_ret (fun n => rfl) rfl
theorem sp_isOf_5_t {M : mv_M} {w : Int} (h : w = 5 ∨ w = 0) : mv_Ru 0 105 0 [mv_I 5, mv_I w, mv_U, mv_U] [] M (mv_I 1) (fun M1 => M1 = M) := by
  refine mv_go' 7 (pc' := if 0 < 6 then 10 else 39) (ls' := [mv_I 5, mv_I w, mv_I 5, mv_I 0]) (st' := []) (M1 := M) rfl ?_
  refine mv_tt' (by decide) ?_
  refine mv_go' 2 (pc' := if 5 < 0 then 39 else 14) (ls' := [mv_I 5, mv_I w, mv_I 5, mv_I 0]) (st' := []) (M1 := M) rfl ?_
  refine mv_ff' (by decide) ?_
  refine mv_go' 3 (pc' := if 5 < 6 then 20 else 39) (ls' := [mv_I 5, mv_I w, mv_I 5, mv_I 0]) (st' := []) (M1 := M) rfl ?_
  refine mv_tt' (by decide) ?_
  refine mv_go' 3 (pc' := if 5 = w then 25 else 27) (ls' := [mv_I 5, mv_I w, mv_I 5, mv_I 0]) (st' := []) (M1 := M) rfl ?_
  refine mv_sp' (fun ha19 => ?_) (fun ha19 => ?_)
  · refine mv_go' 1 (pc' := 26) (ls' := [mv_I 5, mv_I w, mv_I 5, mv_I 0]) (st' := [mv_I 1]) (M1 := M) rfl ?_
    exact mv_ret (fun n => rfl) rfl
  · refine mv_go' 3 (pc' := if 0 ≤ 5 ∧ 5 < 6 then 32 else mv_bad) (ls' := [mv_I 5, mv_I w, mv_I 5, mv_I 0]) (st' := [mv_I 0]) (M1 := M) rfl ?_
    refine mv_tt' (by omega) ?_
    refine mv_go' 6 (pc' := if (mv_w (0 + 1)) < 6 then 10 else 39) (ls' := [mv_I 5, mv_I w, mv_I 0, mv_I (mv_w (0 + 1))]) (st' := []) (M1 := M) rfl ?_
    rw [show mv_w (0 + 1) = 0 + 1 from mv_w_id (by omega) (by omega)]
    refine mv_tt' (by decide) ?_
    refine mv_go' 2 (pc' := if 0 < 0 then 39 else 14) (ls' := [mv_I 5, mv_I w, mv_I 0, mv_I (0 + 1)]) (st' := []) (M1 := M) rfl ?_
    refine mv_ff' (by decide) ?_
    refine mv_go' 3 (pc' := if 0 < 6 then 20 else 39) (ls' := [mv_I 5, mv_I w, mv_I 0, mv_I (0 + 1)]) (st' := []) (M1 := M) rfl ?_
    refine mv_tt' (by decide) ?_
    refine mv_go' 3 (pc' := if 0 = w then 25 else 27) (ls' := [mv_I 5, mv_I w, mv_I 0, mv_I (0 + 1)]) (st' := []) (M1 := M) rfl ?_
    refine mv_tt' (by omega) ?_
    refine mv_go' 1 (pc' := 26) (ls' := [mv_I 5, mv_I w, mv_I 0, mv_I (0 + 1)]) (st' := [mv_I 1]) (M1 := M) rfl ?_
    exact mv_ret (fun n => rfl) rfl
theorem sp_isOf_5_f {M : mv_M} {w : Int} (h : ¬ (w = 5 ∨ w = 0)) : mv_Ru 0 105 0 [mv_I 5, mv_I w, mv_U, mv_U] [] M (mv_I 0) (fun M1 => M1 = M) := by
  refine mv_go' 7 (pc' := if 0 < 6 then 10 else 39) (ls' := [mv_I 5, mv_I w, mv_I 5, mv_I 0]) (st' := []) (M1 := M) rfl ?_
  refine mv_tt' (by decide) ?_
  refine mv_go' 2 (pc' := if 5 < 0 then 39 else 14) (ls' := [mv_I 5, mv_I w, mv_I 5, mv_I 0]) (st' := []) (M1 := M) rfl ?_
  refine mv_ff' (by decide) ?_
  refine mv_go' 3 (pc' := if 5 < 6 then 20 else 39) (ls' := [mv_I 5, mv_I w, mv_I 5, mv_I 0]) (st' := []) (M1 := M) rfl ?_
  refine mv_tt' (by decide) ?_
  refine mv_go' 3 (pc' := if 5 = w then 25 else 27) (ls' := [mv_I 5, mv_I w, mv_I 5, mv_I 0]) (st' := []) (M1 := M) rfl ?_
  refine mv_ff' (by omega) ?_
  refine mv_go' 3 (pc' := if 0 ≤ 5 ∧ 5 < 6 then 32 else mv_bad) (ls' := [mv_I 5, mv_I w, mv_I 5, mv_I 0]) (st' := [mv_I 0]) (M1 := M) rfl ?_
  refine mv_tt' (by omega) ?_
  refine mv_go' 6 (pc' := if (mv_w (0 + 1)) < 6 then 10 else 39) (ls' := [mv_I 5, mv_I w, mv_I 0, mv_I (mv_w (0 + 1))]) (st' := []) (M1 := M) rfl ?_
  rw [show mv_w (0 + 1) = 0 + 1 from mv_w_id (by omega) (by omega)]
  refine mv_tt' (by decide) ?_
  refine mv_go' 2 (pc' := if 0 < 0 then 39 else 14) (ls' := [mv_I 5, mv_I w, mv_I 0, mv_I (0 + 1)]) (st' := []) (M1 := M) rfl ?_
  refine mv_ff' (by decide) ?_
  refine mv_go' 3 (pc' := if 0 < 6 then 20 else 39) (ls' := [mv_I 5, mv_I w, mv_I 0, mv_I (0 + 1)]) (st' := []) (M1 := M) rfl ?_
  refine mv_tt' (by decide) ?_
  refine mv_go' 3 (pc' := if 0 = w then 25 else 27) (ls' := [mv_I 5, mv_I w, mv_I 0, mv_I (0 + 1)]) (st' := []) (M1 := M) rfl ?_
  refine mv_ff' (by omega) ?_
  refine mv_go' 3 (pc' := if 0 ≤ 0 ∧ 0 < 6 then 32 else mv_bad) (ls' := [mv_I 5, mv_I w, mv_I 0, mv_I (0 + 1)]) (st' := [mv_I (-1)]) (M1 := M) rfl ?_
  refine mv_tt' (by omega) ?_
  refine mv_go' 6 (pc' := if (mv_w ((0 + 1) + 1)) < 6 then 10 else 39) (ls' := [mv_I 5, mv_I w, mv_I (-1), mv_I (mv_w ((0 + 1) + 1))]) (st' := []) (M1 := M) rfl ?_
  rw [show mv_w ((0 + 1) + 1) = (0 + 1) + 1 from mv_w_id (by omega) (by omega)]
  refine mv_tt' (by decide) ?_
  refine mv_go' 2 (pc' := if (-1) < 0 then 39 else 14) (ls' := [mv_I 5, mv_I w, mv_I (-1), mv_I ((0 + 1) + 1)]) (st' := []) (M1 := M) rfl ?_
  refine mv_tt' (by decide) ?_
  refine mv_go' 1 (pc' := 40) (ls' := [mv_I 5, mv_I w, mv_I (-1), mv_I ((0 + 1) + 1)]) (st' := [mv_I 0]) (M1 := M) rfl ?_
  exact mv_ret (fun n => rfl) rfl
theorem sp_isUn_5_t {M : mv_M} {w : Int} (h : w = 5 ∨ w = 0) : mv_Ru 0 191 0 [mv_I 5, mv_I w] [] M (mv_I 1) (fun M1 => M1 = M) := by
  refine mv_go' 2 (pc' := if w = 0 then 29 else 4) (ls' := [mv_I 5, mv_I w]) (st' := []) (M1 := M) rfl ?_
  refine mv_sp' (fun ha20 => ?_) (fun ha20 => ?_)
  · refine mv_go' 2 (pc' := 34) (ls' := [mv_I 5, mv_I w]) (st' := [mv_I 1]) (M1 := M) rfl ?_
    exact mv_ret (fun n => rfl) rfl
  · refine mv_go' 3 (pc' := if 5 = w then 29 else 9) (ls' := [mv_I 5, mv_I w]) (st' := []) (M1 := M) rfl ?_
    refine mv_tt' (by omega) ?_
    refine mv_go' 2 (pc' := 34) (ls' := [mv_I 5, mv_I w]) (st' := [mv_I 1]) (M1 := M) rfl ?_
    exact mv_ret (fun n => rfl) rfl
theorem sp_isUn_5_f {M : mv_M} {w : Int} (h : ¬ (w = 5 ∨ w = 0)) : mv_Ru 0 191 0 [mv_I 5, mv_I w] [] M (mv_I 0) (fun M1 => M1 = M) := by
  refine mv_go' 2 (pc' := if w = 0 then 29 else 4) (ls' := [mv_I 5, mv_I w]) (st' := []) (M1 := M) rfl ?_
  refine mv_ff' (by omega) ?_
  refine mv_go' 3 (pc' := if 5 = w then 29 else 9) (ls' := [mv_I 5, mv_I w]) (st' := []) (M1 := M) rfl ?_
  refine mv_ff' (by omega) ?_
  refine mv_go' 3 (pc' := if w = 1 then 14 else 19) (ls' := [mv_I 5, mv_I w]) (st' := []) (M1 := M) rfl ?_
  refine mv_sp' (fun ha21 => ?_) (fun ha21 => ?_)
  · refine mv_go' 3 (pc' := if 5 = 3 then 29 else 19) (ls' := [mv_I 5, mv_I w]) (st' := []) (M1 := M) rfl ?_
    refine mv_ff' (by decide) ?_
    refine mv_go' 3 (pc' := if w = 2 then 24 else 33) (ls' := [mv_I 5, mv_I w]) (st' := []) (M1 := M) rfl ?_
    refine mv_ff' (by omega) ?_
    refine mv_go' 1 (pc' := 34) (ls' := [mv_I 5, mv_I w]) (st' := [mv_I 0]) (M1 := M) rfl ?_
    exact mv_ret (fun n => rfl) rfl
  · refine mv_go' 3 (pc' := if w = 2 then 24 else 33) (ls' := [mv_I 5, mv_I w]) (st' := []) (M1 := M) rfl ?_
    refine mv_sp' (fun ha22 => ?_) (fun ha22 => ?_)
    · refine mv_go' 3 (pc' := if 5 = 4 then 29 else 33) (ls' := [mv_I 5, mv_I w]) (st' := []) (M1 := M) rfl ?_
      refine mv_ff' (by decide) ?_
      refine mv_go' 1 (pc' := 34) (ls' := [mv_I 5, mv_I w]) (st' := [mv_I 0]) (M1 := M) rfl ?_
      exact mv_ret (fun n => rfl) rfl
    · refine mv_go' 1 (pc' := 34) (ls' := [mv_I 5, mv_I w]) (st' := [mv_I 0]) (M1 := M) rfl ?_
      exact mv_ret (fun n => rfl) rfl
theorem sp_tm6a {u : Nat} (h : u < 6) : mv_w ((u : Int).tmod 6) = (u : Int) := by
  rw [Int.tmod_eq_emod_of_nonneg (by omega)]
  unfold mv_w
  omega
theorem sp_tm6b {u : Nat} (h : u < 6) : mv_w (((u + 6 : Nat) : Int).tmod 6) = (u : Int) := by
  rw [Int.tmod_eq_emod_of_nonneg (by omega)]
  unfold mv_w
  omega
theorem sp_k35o (a k : Int) (ha : ¬ (0 ≤ a ∧ a ≤ 11)) : sp_call 96 192 [mv_I a, mv_I k] [mv_I a, mv_I k] := by
  refine sp_mkW (lc := [mv_R 0, mv_I a, mv_I k, mv_U]) (lm := [mv_R 100, mv_I a, mv_I k, mv_U]) rfl rfl (fun M hI => ?_)
  refine mv_goW 2 (pc' := if k < 0 then 10 else 4) (ls' := [mv_R 0, mv_I a, mv_I k, mv_U]) (st' := []) (M1 := M) rfl ?_
  refine mv_spW (fun ha23 => ?_) (fun ha23 => ?_)
  · refine mv_goW 1 (pc' := 12) (ls' := [mv_R 0, mv_I a, mv_I k, mv_U]) (st' := [mv_I (-2)]) (M1 := M) rfl ?_
    refine mv_retW (fun n => rfl) ⟨_, rfl, ?_⟩
    refine mv_goW 3 (pc' := 4) (ls' := [mv_R 100, mv_I a, mv_I k, mv_U]) (st' := [mv_I 6, mv_I 0, mv_I k]) (M1 := M) rfl ?_
    have ha24 : ¬ ((0 : Int) ≤ k ∧ k ≤ (6 : Int)) := by omega
    refine mv_callPW (st2 := [mv_I 0]) rfl (Or.inr rfl) rfl rfl rfl (sp_min_f ha24) (by first | decide | omega) ?_
    refine mv_goW 1 (pc' := if 0 = 0 then 10 else 13) (ls' := [mv_R 100, mv_I a, mv_I k, mv_U]) (st' := []) (M1 := M) rfl ?_
    refine mv_ttW (by decide) ?_
    refine mv_goW 1 (pc' := 12) (ls' := [mv_R 100, mv_I a, mv_I k, mv_U]) (st' := [mv_I (-2)]) (M1 := M) rfl ?_
    exact mv_retW (fun n => rfl) ⟨congrArg mv_I (by first | with_reducible rfl | omega), hI⟩
  · refine mv_goW 3 (pc' := if 6 < k then 10 else 13) (ls' := [mv_R 0, mv_I a, mv_I k, mv_U]) (st' := []) (M1 := M) rfl ?_
    refine mv_spW (fun ha25 => ?_) (fun ha25 => ?_)
    · refine mv_goW 1 (pc' := 12) (ls' := [mv_R 0, mv_I a, mv_I k, mv_U]) (st' := [mv_I (-2)]) (M1 := M) rfl ?_
      refine mv_retW (fun n => rfl) ⟨_, rfl, ?_⟩
      refine mv_goW 3 (pc' := 4) (ls' := [mv_R 100, mv_I a, mv_I k, mv_U]) (st' := [mv_I 6, mv_I 0, mv_I k]) (M1 := M) rfl ?_
      have ha26 : ¬ ((0 : Int) ≤ k ∧ k ≤ (6 : Int)) := by omega
      refine mv_callPW (st2 := [mv_I 0]) rfl (Or.inr rfl) rfl rfl rfl (sp_min_f ha26) (by first | decide | omega) ?_
      refine mv_goW 1 (pc' := if 0 = 0 then 10 else 13) (ls' := [mv_R 100, mv_I a, mv_I k, mv_U]) (st' := []) (M1 := M) rfl ?_
      refine mv_ttW (by decide) ?_
      refine mv_goW 1 (pc' := 12) (ls' := [mv_R 100, mv_I a, mv_I k, mv_U]) (st' := [mv_I (-2)]) (M1 := M) rfl ?_
      exact mv_retW (fun n => rfl) ⟨congrArg mv_I (by first | with_reducible rfl | omega), hI⟩
    · refine mv_goW 2 (pc' := if a < 0 then 23 else 17) (ls' := [mv_R 0, mv_I a, mv_I k, mv_U]) (st' := []) (M1 := M) rfl ?_
      refine mv_spW (fun ha27 => ?_) (fun ha27 => ?_)
      · refine mv_goW 1 (pc' := 25) (ls' := [mv_R 0, mv_I a, mv_I k, mv_U]) (st' := [mv_I (-12)]) (M1 := M) rfl ?_
        refine mv_retW (fun n => rfl) ⟨_, rfl, ?_⟩
        refine mv_goW 3 (pc' := 4) (ls' := [mv_R 100, mv_I a, mv_I k, mv_U]) (st' := [mv_I 6, mv_I 0, mv_I k]) (M1 := M) rfl ?_
        have ha28 : (0 : Int) ≤ k ∧ k ≤ (6 : Int) := by omega
        refine mv_callPW (st2 := [mv_I 1]) rfl (Or.inr rfl) rfl rfl rfl (sp_min_t ha28) (by first | decide | omega) ?_
        refine mv_goW 1 (pc' := if 1 = 0 then 10 else 13) (ls' := [mv_R 100, mv_I a, mv_I k, mv_U]) (st' := []) (M1 := M) rfl ?_
        refine mv_ffW (by decide) ?_
        refine mv_goW 3 (pc' := 17) (ls' := [mv_R 100, mv_I a, mv_I k, mv_U]) (st' := [mv_I 11, mv_I 0, mv_I a]) (M1 := M) rfl ?_
        have ha29 : ¬ ((0 : Int) ≤ a ∧ a ≤ (11 : Int)) := by omega
        refine mv_callPW (st2 := [mv_I 0]) rfl (Or.inr rfl) rfl rfl rfl (sp_min_f ha29) (by first | decide | omega) ?_
        refine mv_goW 1 (pc' := if 0 = 0 then 23 else 26) (ls' := [mv_R 100, mv_I a, mv_I k, mv_U]) (st' := []) (M1 := M) rfl ?_
        refine mv_ttW (by decide) ?_
        refine mv_goW 1 (pc' := 25) (ls' := [mv_R 100, mv_I a, mv_I k, mv_U]) (st' := [mv_I (-12)]) (M1 := M) rfl ?_
        exact mv_retW (fun n => rfl) ⟨congrArg mv_I (by first | with_reducible rfl | omega), hI⟩
      · refine mv_goW 3 (pc' := if a < 12 then 26 else 23) (ls' := [mv_R 0, mv_I a, mv_I k, mv_U]) (st' := []) (M1 := M) rfl ?_
        refine mv_ffW (by omega) ?_
        refine mv_goW 1 (pc' := 25) (ls' := [mv_R 0, mv_I a, mv_I k, mv_U]) (st' := [mv_I (-12)]) (M1 := M) rfl ?_
        refine mv_retW (fun n => rfl) ⟨_, rfl, ?_⟩
        refine mv_goW 3 (pc' := 4) (ls' := [mv_R 100, mv_I a, mv_I k, mv_U]) (st' := [mv_I 6, mv_I 0, mv_I k]) (M1 := M) rfl ?_
        have ha30 : (0 : Int) ≤ k ∧ k ≤ (6 : Int) := by omega
        refine mv_callPW (st2 := [mv_I 1]) rfl (Or.inr rfl) rfl rfl rfl (sp_min_t ha30) (by first | decide | omega) ?_
        refine mv_goW 1 (pc' := if 1 = 0 then 10 else 13) (ls' := [mv_R 100, mv_I a, mv_I k, mv_U]) (st' := []) (M1 := M) rfl ?_
        refine mv_ffW (by decide) ?_
        refine mv_goW 3 (pc' := 17) (ls' := [mv_R 100, mv_I a, mv_I k, mv_U]) (st' := [mv_I 11, mv_I 0, mv_I a]) (M1 := M) rfl ?_
        have ha31 : ¬ ((0 : Int) ≤ a ∧ a ≤ (11 : Int)) := by omega
        refine mv_callPW (st2 := [mv_I 0]) rfl (Or.inr rfl) rfl rfl rfl (sp_min_f ha31) (by first | decide | omega) ?_
        refine mv_goW 1 (pc' := if 0 = 0 then 23 else 26) (ls' := [mv_R 100, mv_I a, mv_I k, mv_U]) (st' := []) (M1 := M) rfl ?_
        refine mv_ttW (by decide) ?_
        refine mv_goW 1 (pc' := 25) (ls' := [mv_R 100, mv_I a, mv_I k, mv_U]) (st' := [mv_I (-12)]) (M1 := M) rfl ?_
        exact mv_retW (fun n => rfl) ⟨congrArg mv_I (by first | with_reducible rfl | omega), hI⟩
theorem sp_k35n (u x : Nat) (k : Int) (hx : x = 0 ∨ x = 6) (hu : u < 6) : ∀ V P n B K t M, sp_R V P n B K t M → ¬ ((u : Int) < V 0 9) → mv_W 20 96 0 [mv_R 0, mv_I ((u + x : Nat) : Int), mv_I k, mv_U] [] M (fun v M1 => ∃ z, v = mv_I z ∧ mv_W 20 192 0 [mv_R 100, mv_I ((u + x : Nat) : Int), mv_I k, mv_U] [] M1 (fun w M2 => w = mv_I z ∧ sp_Inv M2)) := by
  intro V P n B K t M h hn
  have h' := h
  obtain ⟨⟨hc, hm, ho⟩, _⟩ := h'
  have h9 := sp_ok_s9 ho
  rcases hx with q | q
  · subst q
    rw [Nat.add_zero]
    refine mv_goW 2 (pc' := if k < 0 then 10 else 4) (ls' := [mv_R 0, mv_I (u : Int), mv_I k, mv_U]) (st' := []) (M1 := M) rfl ?_
    refine mv_spW (fun ha32 => ?_) (fun ha32 => ?_)
    · refine mv_goW 1 (pc' := 12) (ls' := [mv_R 0, mv_I (u : Int), mv_I k, mv_U]) (st' := [mv_I (-2)]) (M1 := M) rfl ?_
      refine mv_retW (fun n => rfl) ⟨_, rfl, ?_⟩
      refine mv_goW 3 (pc' := 4) (ls' := [mv_R 100, mv_I (u : Int), mv_I k, mv_U]) (st' := [mv_I 6, mv_I 0, mv_I k]) (M1 := M) rfl ?_
      have ha33 : ¬ ((0 : Int) ≤ k ∧ k ≤ (6 : Int)) := by omega
      refine mv_callPW (st2 := [mv_I 0]) rfl (Or.inr rfl) rfl rfl rfl (sp_min_f ha33) (by first | decide | omega) ?_
      refine mv_goW 1 (pc' := if 0 = 0 then 10 else 13) (ls' := [mv_R 100, mv_I (u : Int), mv_I k, mv_U]) (st' := []) (M1 := M) rfl ?_
      refine mv_ttW (by decide) ?_
      refine mv_goW 1 (pc' := 12) (ls' := [mv_R 100, mv_I (u : Int), mv_I k, mv_U]) (st' := [mv_I (-2)]) (M1 := M) rfl ?_
      exact mv_retW (fun n => rfl) ⟨congrArg mv_I (by first | with_reducible rfl | omega), ⟨V, P, n, B, K, t, h⟩⟩
    · refine mv_goW 3 (pc' := if 6 < k then 10 else 13) (ls' := [mv_R 0, mv_I (u : Int), mv_I k, mv_U]) (st' := []) (M1 := M) rfl ?_
      refine mv_spW (fun ha34 => ?_) (fun ha34 => ?_)
      · refine mv_goW 1 (pc' := 12) (ls' := [mv_R 0, mv_I (u : Int), mv_I k, mv_U]) (st' := [mv_I (-2)]) (M1 := M) rfl ?_
        refine mv_retW (fun n => rfl) ⟨_, rfl, ?_⟩
        refine mv_goW 3 (pc' := 4) (ls' := [mv_R 100, mv_I (u : Int), mv_I k, mv_U]) (st' := [mv_I 6, mv_I 0, mv_I k]) (M1 := M) rfl ?_
        have ha35 : ¬ ((0 : Int) ≤ k ∧ k ≤ (6 : Int)) := by omega
        refine mv_callPW (st2 := [mv_I 0]) rfl (Or.inr rfl) rfl rfl rfl (sp_min_f ha35) (by first | decide | omega) ?_
        refine mv_goW 1 (pc' := if 0 = 0 then 10 else 13) (ls' := [mv_R 100, mv_I (u : Int), mv_I k, mv_U]) (st' := []) (M1 := M) rfl ?_
        refine mv_ttW (by decide) ?_
        refine mv_goW 1 (pc' := 12) (ls' := [mv_R 100, mv_I (u : Int), mv_I k, mv_U]) (st' := [mv_I (-2)]) (M1 := M) rfl ?_
        exact mv_retW (fun n => rfl) ⟨congrArg mv_I (by first | with_reducible rfl | omega), ⟨V, P, n, B, K, t, h⟩⟩
      · refine mv_goW 2 (pc' := if (u : Int) < 0 then 23 else 17) (ls' := [mv_R 0, mv_I (u : Int), mv_I k, mv_U]) (st' := []) (M1 := M) rfl ?_
        refine mv_ffW (by omega) ?_
        refine mv_goW 3 (pc' := if (u : Int) < 12 then 26 else 23) (ls' := [mv_R 0, mv_I (u : Int), mv_I k, mv_U]) (st' := []) (M1 := M) rfl ?_
        refine mv_ttW (by omega) ?_
        refine mv_goW 3 (pc' := if 6 = 0 then mv_bad else 30) (ls' := [mv_R 0, mv_I (u : Int), mv_I k, mv_U]) (st' := [mv_I (mv_w ((u : Int).tmod 6))]) (M1 := M) rfl ?_
        refine mv_ffW (by omega) ?_
        rw [show mv_w ((u : Int).tmod 6) = (u : Int) from by exact sp_tm6a hu]
        refine mv_goW 4 (pc' := 36) (ls' := [mv_R 0, mv_I (u : Int), mv_I k, mv_I (u : Int)]) (st' := [mv_I (u : Int), mv_R 30]) (M1 := M) rfl ?_
        have ha36 : ¬ (0 ≤ (u : Int) ∧ (u : Int) < V 0 9) := by omega
        refine mv_callPW (st2 := [mv_I 0]) rfl (Or.inl rfl) rfl rfl rfl (sp_cisUncle_f_30 hc ho ha36) (by first | decide | omega) ?_
        refine mv_goW 1 (pc' := if 0 = 0 then 42 else 45) (ls' := [mv_R 0, mv_I (u : Int), mv_I k, mv_I (u : Int)]) (st' := []) (M1 := M) rfl ?_
        refine mv_ttW (by decide) ?_
        refine mv_goW 1 (pc' := 44) (ls' := [mv_R 0, mv_I (u : Int), mv_I k, mv_I (u : Int)]) (st' := [mv_I (-11)]) (M1 := M) rfl ?_
        refine mv_retW (fun n => rfl) ⟨_, rfl, ?_⟩
        refine mv_goW 3 (pc' := 4) (ls' := [mv_R 100, mv_I (u : Int), mv_I k, mv_U]) (st' := [mv_I 6, mv_I 0, mv_I k]) (M1 := M) rfl ?_
        have ha37 : (0 : Int) ≤ k ∧ k ≤ (6 : Int) := by omega
        refine mv_callPW (st2 := [mv_I 1]) rfl (Or.inr rfl) rfl rfl rfl (sp_min_t ha37) (by first | decide | omega) ?_
        refine mv_goW 1 (pc' := if 1 = 0 then 10 else 13) (ls' := [mv_R 100, mv_I (u : Int), mv_I k, mv_U]) (st' := []) (M1 := M) rfl ?_
        refine mv_ffW (by decide) ?_
        refine mv_goW 3 (pc' := 17) (ls' := [mv_R 100, mv_I (u : Int), mv_I k, mv_U]) (st' := [mv_I 11, mv_I 0, mv_I (u : Int)]) (M1 := M) rfl ?_
        have ha38 : (0 : Int) ≤ (u : Int) ∧ (u : Int) ≤ (11 : Int) := by omega
        refine mv_callPW (st2 := [mv_I 1]) rfl (Or.inr rfl) rfl rfl rfl (sp_min_t ha38) (by first | decide | omega) ?_
        refine mv_goW 1 (pc' := if 1 = 0 then 23 else 26) (ls' := [mv_R 100, mv_I (u : Int), mv_I k, mv_U]) (st' := []) (M1 := M) rfl ?_
        refine mv_ffW (by decide) ?_
        refine mv_goW 3 (pc' := if 6 = 0 then mv_bad else 30) (ls' := [mv_R 100, mv_I (u : Int), mv_I k, mv_U]) (st' := [mv_I (mv_w ((u : Int).tmod 6))]) (M1 := M) rfl ?_
        refine mv_ffW (by omega) ?_
        rw [show mv_w ((u : Int).tmod 6) = (u : Int) from by exact sp_tm6a hu]
        refine mv_goW 2 (pc' := 34) (ls' := [mv_R 100, mv_I (u : Int), mv_I k, mv_U]) (st' := [mv_I (M 100 1), mv_I (u : Int)]) (M1 := M) rfl ?_
        have hr1 := sp_ok_s9 ho
        rw [show M 100 1 = V 0 9 from by exact sp_m_s9 hm]
        refine mv_goW 1 (pc' := if (u : Int) < (V 0 9) then 40 else 37) (ls' := [mv_R 100, mv_I (u : Int), mv_I k, mv_U]) (st' := []) (M1 := M) rfl ?_
        refine mv_ffW (by omega) ?_
        refine mv_goW 1 (pc' := 39) (ls' := [mv_R 100, mv_I (u : Int), mv_I k, mv_U]) (st' := [mv_I (-11)]) (M1 := M) rfl ?_
        exact mv_retW (fun n => rfl) ⟨congrArg mv_I (by first | with_reducible rfl | omega), ⟨V, P, n, B, K, t, h⟩⟩
  · subst q
    refine mv_goW 2 (pc' := if k < 0 then 10 else 4) (ls' := [mv_R 0, mv_I ((u + 6 : Nat) : Int), mv_I k, mv_U]) (st' := []) (M1 := M) rfl ?_
    refine mv_spW (fun ha39 => ?_) (fun ha39 => ?_)
    · refine mv_goW 1 (pc' := 12) (ls' := [mv_R 0, mv_I ((u + 6 : Nat) : Int), mv_I k, mv_U]) (st' := [mv_I (-2)]) (M1 := M) rfl ?_
      refine mv_retW (fun n => rfl) ⟨_, rfl, ?_⟩
      refine mv_goW 3 (pc' := 4) (ls' := [mv_R 100, mv_I ((u + 6 : Nat) : Int), mv_I k, mv_U]) (st' := [mv_I 6, mv_I 0, mv_I k]) (M1 := M) rfl ?_
      have ha40 : ¬ ((0 : Int) ≤ k ∧ k ≤ (6 : Int)) := by omega
      refine mv_callPW (st2 := [mv_I 0]) rfl (Or.inr rfl) rfl rfl rfl (sp_min_f ha40) (by first | decide | omega) ?_
      refine mv_goW 1 (pc' := if 0 = 0 then 10 else 13) (ls' := [mv_R 100, mv_I ((u + 6 : Nat) : Int), mv_I k, mv_U]) (st' := []) (M1 := M) rfl ?_
      refine mv_ttW (by decide) ?_
      refine mv_goW 1 (pc' := 12) (ls' := [mv_R 100, mv_I ((u + 6 : Nat) : Int), mv_I k, mv_U]) (st' := [mv_I (-2)]) (M1 := M) rfl ?_
      exact mv_retW (fun n => rfl) ⟨congrArg mv_I (by first | with_reducible rfl | omega), ⟨V, P, n, B, K, t, h⟩⟩
    · refine mv_goW 3 (pc' := if 6 < k then 10 else 13) (ls' := [mv_R 0, mv_I ((u + 6 : Nat) : Int), mv_I k, mv_U]) (st' := []) (M1 := M) rfl ?_
      refine mv_spW (fun ha41 => ?_) (fun ha41 => ?_)
      · refine mv_goW 1 (pc' := 12) (ls' := [mv_R 0, mv_I ((u + 6 : Nat) : Int), mv_I k, mv_U]) (st' := [mv_I (-2)]) (M1 := M) rfl ?_
        refine mv_retW (fun n => rfl) ⟨_, rfl, ?_⟩
        refine mv_goW 3 (pc' := 4) (ls' := [mv_R 100, mv_I ((u + 6 : Nat) : Int), mv_I k, mv_U]) (st' := [mv_I 6, mv_I 0, mv_I k]) (M1 := M) rfl ?_
        have ha42 : ¬ ((0 : Int) ≤ k ∧ k ≤ (6 : Int)) := by omega
        refine mv_callPW (st2 := [mv_I 0]) rfl (Or.inr rfl) rfl rfl rfl (sp_min_f ha42) (by first | decide | omega) ?_
        refine mv_goW 1 (pc' := if 0 = 0 then 10 else 13) (ls' := [mv_R 100, mv_I ((u + 6 : Nat) : Int), mv_I k, mv_U]) (st' := []) (M1 := M) rfl ?_
        refine mv_ttW (by decide) ?_
        refine mv_goW 1 (pc' := 12) (ls' := [mv_R 100, mv_I ((u + 6 : Nat) : Int), mv_I k, mv_U]) (st' := [mv_I (-2)]) (M1 := M) rfl ?_
        exact mv_retW (fun n => rfl) ⟨congrArg mv_I (by first | with_reducible rfl | omega), ⟨V, P, n, B, K, t, h⟩⟩
      · refine mv_goW 2 (pc' := if ((u + 6 : Nat) : Int) < 0 then 23 else 17) (ls' := [mv_R 0, mv_I ((u + 6 : Nat) : Int), mv_I k, mv_U]) (st' := []) (M1 := M) rfl ?_
        refine mv_ffW (by omega) ?_
        refine mv_goW 3 (pc' := if ((u + 6 : Nat) : Int) < 12 then 26 else 23) (ls' := [mv_R 0, mv_I ((u + 6 : Nat) : Int), mv_I k, mv_U]) (st' := []) (M1 := M) rfl ?_
        refine mv_ttW (by omega) ?_
        refine mv_goW 3 (pc' := if 6 = 0 then mv_bad else 30) (ls' := [mv_R 0, mv_I ((u + 6 : Nat) : Int), mv_I k, mv_U]) (st' := [mv_I (mv_w (((u + 6 : Nat) : Int).tmod 6))]) (M1 := M) rfl ?_
        refine mv_ffW (by omega) ?_
        rw [show mv_w (((u + 6 : Nat) : Int).tmod 6) = (u : Int) from by exact sp_tm6b hu]
        refine mv_goW 4 (pc' := 36) (ls' := [mv_R 0, mv_I ((u + 6 : Nat) : Int), mv_I k, mv_I (u : Int)]) (st' := [mv_I (u : Int), mv_R 30]) (M1 := M) rfl ?_
        have ha43 : ¬ (0 ≤ (u : Int) ∧ (u : Int) < V 0 9) := by omega
        refine mv_callPW (st2 := [mv_I 0]) rfl (Or.inl rfl) rfl rfl rfl (sp_cisUncle_f_30 hc ho ha43) (by first | decide | omega) ?_
        refine mv_goW 1 (pc' := if 0 = 0 then 42 else 45) (ls' := [mv_R 0, mv_I ((u + 6 : Nat) : Int), mv_I k, mv_I (u : Int)]) (st' := []) (M1 := M) rfl ?_
        refine mv_ttW (by decide) ?_
        refine mv_goW 1 (pc' := 44) (ls' := [mv_R 0, mv_I ((u + 6 : Nat) : Int), mv_I k, mv_I (u : Int)]) (st' := [mv_I (-11)]) (M1 := M) rfl ?_
        refine mv_retW (fun n => rfl) ⟨_, rfl, ?_⟩
        refine mv_goW 3 (pc' := 4) (ls' := [mv_R 100, mv_I ((u + 6 : Nat) : Int), mv_I k, mv_U]) (st' := [mv_I 6, mv_I 0, mv_I k]) (M1 := M) rfl ?_
        have ha44 : (0 : Int) ≤ k ∧ k ≤ (6 : Int) := by omega
        refine mv_callPW (st2 := [mv_I 1]) rfl (Or.inr rfl) rfl rfl rfl (sp_min_t ha44) (by first | decide | omega) ?_
        refine mv_goW 1 (pc' := if 1 = 0 then 10 else 13) (ls' := [mv_R 100, mv_I ((u + 6 : Nat) : Int), mv_I k, mv_U]) (st' := []) (M1 := M) rfl ?_
        refine mv_ffW (by decide) ?_
        refine mv_goW 3 (pc' := 17) (ls' := [mv_R 100, mv_I ((u + 6 : Nat) : Int), mv_I k, mv_U]) (st' := [mv_I 11, mv_I 0, mv_I ((u + 6 : Nat) : Int)]) (M1 := M) rfl ?_
        have ha45 : (0 : Int) ≤ ((u + 6 : Nat) : Int) ∧ ((u + 6 : Nat) : Int) ≤ (11 : Int) := by omega
        refine mv_callPW (st2 := [mv_I 1]) rfl (Or.inr rfl) rfl rfl rfl (sp_min_t ha45) (by first | decide | omega) ?_
        refine mv_goW 1 (pc' := if 1 = 0 then 23 else 26) (ls' := [mv_R 100, mv_I ((u + 6 : Nat) : Int), mv_I k, mv_U]) (st' := []) (M1 := M) rfl ?_
        refine mv_ffW (by decide) ?_
        refine mv_goW 3 (pc' := if 6 = 0 then mv_bad else 30) (ls' := [mv_R 100, mv_I ((u + 6 : Nat) : Int), mv_I k, mv_U]) (st' := [mv_I (mv_w (((u + 6 : Nat) : Int).tmod 6))]) (M1 := M) rfl ?_
        refine mv_ffW (by omega) ?_
        rw [show mv_w (((u + 6 : Nat) : Int).tmod 6) = (u : Int) from by exact sp_tm6b hu]
        refine mv_goW 2 (pc' := 34) (ls' := [mv_R 100, mv_I ((u + 6 : Nat) : Int), mv_I k, mv_U]) (st' := [mv_I (M 100 1), mv_I (u : Int)]) (M1 := M) rfl ?_
        have hr3 := sp_ok_s9 ho
        rw [show M 100 1 = V 0 9 from by exact sp_m_s9 hm]
        refine mv_goW 1 (pc' := if (u : Int) < (V 0 9) then 40 else 37) (ls' := [mv_R 100, mv_I ((u + 6 : Nat) : Int), mv_I k, mv_U]) (st' := []) (M1 := M) rfl ?_
        refine mv_ffW (by omega) ?_
        refine mv_goW 1 (pc' := 39) (ls' := [mv_R 100, mv_I ((u + 6 : Nat) : Int), mv_I k, mv_U]) (st' := [mv_I (-11)]) (M1 := M) rfl ?_
        exact mv_retW (fun n => rfl) ⟨congrArg mv_I (by first | with_reducible rfl | omega), ⟨V, P, n, B, K, t, h⟩⟩
theorem sp_k35_0 (u x : Nat) (k : Int) (hx : x = 0 ∨ x = 6) (hu : u < 6) : ∀ V P n B K t M, sp_R V P n B K t M → (u : Int) < V 0 9 → V 4 u = 0 → mv_W 20 96 0 [mv_R 0, mv_I ((u + x : Nat) : Int), mv_I k, mv_U] [] M (fun v M1 => ∃ z, v = mv_I z ∧ mv_W 20 192 0 [mv_R 100, mv_I ((u + x : Nat) : Int), mv_I k, mv_U] [] M1 (fun w M2 => w = mv_I z ∧ sp_Inv M2)) := by
  intro V P n B K t M h hn hk
  have h' := h
  obtain ⟨⟨hc, hm, ho⟩, _⟩ := h'
  have h9 := sp_ok_s9 ho
  rcases hx with q | q
  · subst q
    rw [Nat.add_zero]
    refine mv_goW 2 (pc' := if k < 0 then 10 else 4) (ls' := [mv_R 0, mv_I (u : Int), mv_I k, mv_U]) (st' := []) (M1 := M) rfl ?_
    refine mv_spW (fun ha46 => ?_) (fun ha46 => ?_)
    · refine mv_goW 1 (pc' := 12) (ls' := [mv_R 0, mv_I (u : Int), mv_I k, mv_U]) (st' := [mv_I (-2)]) (M1 := M) rfl ?_
      refine mv_retW (fun n => rfl) ⟨_, rfl, ?_⟩
      refine mv_goW 3 (pc' := 4) (ls' := [mv_R 100, mv_I (u : Int), mv_I k, mv_U]) (st' := [mv_I 6, mv_I 0, mv_I k]) (M1 := M) rfl ?_
      have ha47 : ¬ ((0 : Int) ≤ k ∧ k ≤ (6 : Int)) := by omega
      refine mv_callPW (st2 := [mv_I 0]) rfl (Or.inr rfl) rfl rfl rfl (sp_min_f ha47) (by first | decide | omega) ?_
      refine mv_goW 1 (pc' := if 0 = 0 then 10 else 13) (ls' := [mv_R 100, mv_I (u : Int), mv_I k, mv_U]) (st' := []) (M1 := M) rfl ?_
      refine mv_ttW (by decide) ?_
      refine mv_goW 1 (pc' := 12) (ls' := [mv_R 100, mv_I (u : Int), mv_I k, mv_U]) (st' := [mv_I (-2)]) (M1 := M) rfl ?_
      exact mv_retW (fun n => rfl) ⟨congrArg mv_I (by first | with_reducible rfl | omega), ⟨V, P, n, B, K, t, h⟩⟩
    · refine mv_goW 3 (pc' := if 6 < k then 10 else 13) (ls' := [mv_R 0, mv_I (u : Int), mv_I k, mv_U]) (st' := []) (M1 := M) rfl ?_
      refine mv_spW (fun ha48 => ?_) (fun ha48 => ?_)
      · refine mv_goW 1 (pc' := 12) (ls' := [mv_R 0, mv_I (u : Int), mv_I k, mv_U]) (st' := [mv_I (-2)]) (M1 := M) rfl ?_
        refine mv_retW (fun n => rfl) ⟨_, rfl, ?_⟩
        refine mv_goW 3 (pc' := 4) (ls' := [mv_R 100, mv_I (u : Int), mv_I k, mv_U]) (st' := [mv_I 6, mv_I 0, mv_I k]) (M1 := M) rfl ?_
        have ha49 : ¬ ((0 : Int) ≤ k ∧ k ≤ (6 : Int)) := by omega
        refine mv_callPW (st2 := [mv_I 0]) rfl (Or.inr rfl) rfl rfl rfl (sp_min_f ha49) (by first | decide | omega) ?_
        refine mv_goW 1 (pc' := if 0 = 0 then 10 else 13) (ls' := [mv_R 100, mv_I (u : Int), mv_I k, mv_U]) (st' := []) (M1 := M) rfl ?_
        refine mv_ttW (by decide) ?_
        refine mv_goW 1 (pc' := 12) (ls' := [mv_R 100, mv_I (u : Int), mv_I k, mv_U]) (st' := [mv_I (-2)]) (M1 := M) rfl ?_
        exact mv_retW (fun n => rfl) ⟨congrArg mv_I (by first | with_reducible rfl | omega), ⟨V, P, n, B, K, t, h⟩⟩
      · refine mv_goW 2 (pc' := if (u : Int) < 0 then 23 else 17) (ls' := [mv_R 0, mv_I (u : Int), mv_I k, mv_U]) (st' := []) (M1 := M) rfl ?_
        refine mv_ffW (by omega) ?_
        refine mv_goW 3 (pc' := if (u : Int) < 12 then 26 else 23) (ls' := [mv_R 0, mv_I (u : Int), mv_I k, mv_U]) (st' := []) (M1 := M) rfl ?_
        refine mv_ttW (by omega) ?_
        refine mv_goW 3 (pc' := if 6 = 0 then mv_bad else 30) (ls' := [mv_R 0, mv_I (u : Int), mv_I k, mv_U]) (st' := [mv_I (mv_w ((u : Int).tmod 6))]) (M1 := M) rfl ?_
        refine mv_ffW (by omega) ?_
        rw [show mv_w ((u : Int).tmod 6) = (u : Int) from by exact sp_tm6a hu]
        refine mv_goW 4 (pc' := 36) (ls' := [mv_R 0, mv_I (u : Int), mv_I k, mv_I (u : Int)]) (st' := [mv_I (u : Int), mv_R 30]) (M1 := M) rfl ?_
        have ha50 : 0 ≤ (u : Int) ∧ (u : Int) < V 0 9 := by omega
        refine mv_callPW (st2 := [mv_I 1]) rfl (Or.inl rfl) rfl rfl rfl (sp_cisUncle_t_30 hc ho ha50) (by first | decide | omega) ?_
        refine mv_goW 1 (pc' := if 1 = 0 then 42 else 45) (ls' := [mv_R 0, mv_I (u : Int), mv_I k, mv_I (u : Int)]) (st' := []) (M1 := M) rfl ?_
        refine mv_ffW (by decide) ?_
        refine mv_goW 3 (pc' := if (u : Int) < 6 then 87 else 51) (ls' := [mv_R 0, mv_I (u : Int), mv_I k, mv_I (u : Int)]) (st' := []) (M1 := M) rfl ?_
        refine mv_ttW (by omega) ?_
        refine mv_goW 5 (pc' := if 0 ≤ (u : Int) ∧ (u : Int) < 6 then 96 else mv_bad) (ls' := [mv_R 0, mv_I (u : Int), mv_I k, mv_I (u : Int)]) (st' := [mv_I (M 34 u)]) (M1 := M) rfl ?_
        refine mv_ttW (by omega) ?_
        have hr5 := sp_ok_4 ho u (by omega)
        rw [show M 34 u = V 4 u from by exact sp_c_4 hc u (by omega)]
        rw [show V 4 u = 0 from by exact hk]
        refine mv_goW 1 (pc' := 97) (ls' := [mv_R 0, mv_I (u : Int), mv_I k, mv_I (u : Int)]) (st' := [mv_I k, mv_I 0]) (M1 := M) rfl ?_
        by_cases ha51 : k = 0
        · refine mv_callPW (st2 := [mv_I 1]) rfl (Or.inr rfl) rfl rfl rfl (sp_isOf_0_t ha51) (by first | decide | omega) ?_
          refine mv_goW 1 (pc' := if 1 = 0 then 107 else 103) (ls' := [mv_R 0, mv_I (u : Int), mv_I k, mv_I (u : Int)]) (st' := []) (M1 := M) rfl ?_
          refine mv_ffW (by decide) ?_
          refine mv_goW 2 (pc' := 109) (ls' := [mv_R 0, mv_I (u : Int), mv_I k, mv_I (u : Int)]) (st' := [mv_I (u : Int)]) (M1 := M) rfl ?_
          refine mv_retW (fun n => rfl) ⟨_, rfl, ?_⟩
          refine mv_goW 3 (pc' := 4) (ls' := [mv_R 100, mv_I (u : Int), mv_I k, mv_U]) (st' := [mv_I 6, mv_I 0, mv_I k]) (M1 := M) rfl ?_
          have ha52 : (0 : Int) ≤ k ∧ k ≤ (6 : Int) := by omega
          refine mv_callPW (st2 := [mv_I 1]) rfl (Or.inr rfl) rfl rfl rfl (sp_min_t ha52) (by first | decide | omega) ?_
          refine mv_goW 1 (pc' := if 1 = 0 then 10 else 13) (ls' := [mv_R 100, mv_I (u : Int), mv_I k, mv_U]) (st' := []) (M1 := M) rfl ?_
          refine mv_ffW (by decide) ?_
          refine mv_goW 3 (pc' := 17) (ls' := [mv_R 100, mv_I (u : Int), mv_I k, mv_U]) (st' := [mv_I 11, mv_I 0, mv_I (u : Int)]) (M1 := M) rfl ?_
          have ha53 : (0 : Int) ≤ (u : Int) ∧ (u : Int) ≤ (11 : Int) := by omega
          refine mv_callPW (st2 := [mv_I 1]) rfl (Or.inr rfl) rfl rfl rfl (sp_min_t ha53) (by first | decide | omega) ?_
          refine mv_goW 1 (pc' := if 1 = 0 then 23 else 26) (ls' := [mv_R 100, mv_I (u : Int), mv_I k, mv_U]) (st' := []) (M1 := M) rfl ?_
          refine mv_ffW (by decide) ?_
          refine mv_goW 3 (pc' := if 6 = 0 then mv_bad else 30) (ls' := [mv_R 100, mv_I (u : Int), mv_I k, mv_U]) (st' := [mv_I (mv_w ((u : Int).tmod 6))]) (M1 := M) rfl ?_
          refine mv_ffW (by omega) ?_
          rw [show mv_w ((u : Int).tmod 6) = (u : Int) from by exact sp_tm6a hu]
          refine mv_goW 2 (pc' := 34) (ls' := [mv_R 100, mv_I (u : Int), mv_I k, mv_U]) (st' := [mv_I (M 100 1), mv_I (u : Int)]) (M1 := M) rfl ?_
          have hr7 := sp_ok_s9 ho
          rw [show M 100 1 = V 0 9 from by exact sp_m_s9 hm]
          refine mv_goW 1 (pc' := if (u : Int) < (V 0 9) then 40 else 37) (ls' := [mv_R 100, mv_I (u : Int), mv_I k, mv_U]) (st' := []) (M1 := M) rfl ?_
          refine mv_ttW (by omega) ?_
          refine mv_goW 3 (pc' := if (u : Int) < 6 then 81 else 46) (ls' := [mv_R 100, mv_I (u : Int), mv_I k, mv_U]) (st' := []) (M1 := M) rfl ?_
          refine mv_ttW (by omega) ?_
          refine mv_goW 3 (pc' := if k < 6 then 87 else 104) (ls' := [mv_R 100, mv_I (u : Int), mv_I k, mv_U]) (st' := []) (M1 := M) rfl ?_
          refine mv_ttW (by omega) ?_
          refine mv_goW 4 (pc' := if 0 ≤ (u : Int) ∧ (u : Int) < 6 then 93 else mv_bad) (ls' := [mv_R 100, mv_I (u : Int), mv_I k, mv_U]) (st' := [mv_I (M 102 u)]) (M1 := M) rfl ?_
          refine mv_ttW (by omega) ?_
          have hr9 := sp_ok_4 ho u (by omega)
          rw [show M 102 u = V 4 u from by exact sp_m_4 hm u (by omega)]
          rw [show V 4 u = 0 from by exact hk]
          refine mv_goW 1 (pc' := 94) (ls' := [mv_R 100, mv_I (u : Int), mv_I k, mv_U]) (st' := [mv_I k, mv_I 0]) (M1 := M) rfl ?_
          have ha54 : k = 0 := by omega
          refine mv_callPW (st2 := [mv_I 1]) rfl (Or.inr rfl) rfl rfl rfl (sp_isUn_0_t ha54) (by first | decide | omega) ?_
          refine mv_goW 1 (pc' := if 1 = 0 then 104 else 100) (ls' := [mv_R 100, mv_I (u : Int), mv_I k, mv_U]) (st' := []) (M1 := M) rfl ?_
          refine mv_ffW (by decide) ?_
          refine mv_goW 2 (pc' := 106) (ls' := [mv_R 100, mv_I (u : Int), mv_I k, mv_U]) (st' := [mv_I (u : Int)]) (M1 := M) rfl ?_
          exact mv_retW (fun n => rfl) ⟨congrArg mv_I (by first | with_reducible rfl | omega), ⟨V, P, n, B, K, t, h⟩⟩
        · refine mv_callPW (st2 := [mv_I 0]) rfl (Or.inr rfl) rfl rfl rfl (sp_isOf_0_f ha51) (by first | decide | omega) ?_
          refine mv_goW 1 (pc' := if 0 = 0 then 107 else 103) (ls' := [mv_R 0, mv_I (u : Int), mv_I k, mv_I (u : Int)]) (st' := []) (M1 := M) rfl ?_
          refine mv_ttW (by decide) ?_
          refine mv_goW 1 (pc' := 109) (ls' := [mv_R 0, mv_I (u : Int), mv_I k, mv_I (u : Int)]) (st' := [mv_I (-13)]) (M1 := M) rfl ?_
          refine mv_retW (fun n => rfl) ⟨_, rfl, ?_⟩
          refine mv_goW 3 (pc' := 4) (ls' := [mv_R 100, mv_I (u : Int), mv_I k, mv_U]) (st' := [mv_I 6, mv_I 0, mv_I k]) (M1 := M) rfl ?_
          have ha55 : (0 : Int) ≤ k ∧ k ≤ (6 : Int) := by omega
          refine mv_callPW (st2 := [mv_I 1]) rfl (Or.inr rfl) rfl rfl rfl (sp_min_t ha55) (by first | decide | omega) ?_
          refine mv_goW 1 (pc' := if 1 = 0 then 10 else 13) (ls' := [mv_R 100, mv_I (u : Int), mv_I k, mv_U]) (st' := []) (M1 := M) rfl ?_
          refine mv_ffW (by decide) ?_
          refine mv_goW 3 (pc' := 17) (ls' := [mv_R 100, mv_I (u : Int), mv_I k, mv_U]) (st' := [mv_I 11, mv_I 0, mv_I (u : Int)]) (M1 := M) rfl ?_
          have ha56 : (0 : Int) ≤ (u : Int) ∧ (u : Int) ≤ (11 : Int) := by omega
          refine mv_callPW (st2 := [mv_I 1]) rfl (Or.inr rfl) rfl rfl rfl (sp_min_t ha56) (by first | decide | omega) ?_
          refine mv_goW 1 (pc' := if 1 = 0 then 23 else 26) (ls' := [mv_R 100, mv_I (u : Int), mv_I k, mv_U]) (st' := []) (M1 := M) rfl ?_
          refine mv_ffW (by decide) ?_
          refine mv_goW 3 (pc' := if 6 = 0 then mv_bad else 30) (ls' := [mv_R 100, mv_I (u : Int), mv_I k, mv_U]) (st' := [mv_I (mv_w ((u : Int).tmod 6))]) (M1 := M) rfl ?_
          refine mv_ffW (by omega) ?_
          rw [show mv_w ((u : Int).tmod 6) = (u : Int) from by exact sp_tm6a hu]
          refine mv_goW 2 (pc' := 34) (ls' := [mv_R 100, mv_I (u : Int), mv_I k, mv_U]) (st' := [mv_I (M 100 1), mv_I (u : Int)]) (M1 := M) rfl ?_
          have hr11 := sp_ok_s9 ho
          rw [show M 100 1 = V 0 9 from by exact sp_m_s9 hm]
          refine mv_goW 1 (pc' := if (u : Int) < (V 0 9) then 40 else 37) (ls' := [mv_R 100, mv_I (u : Int), mv_I k, mv_U]) (st' := []) (M1 := M) rfl ?_
          refine mv_ttW (by omega) ?_
          refine mv_goW 3 (pc' := if (u : Int) < 6 then 81 else 46) (ls' := [mv_R 100, mv_I (u : Int), mv_I k, mv_U]) (st' := []) (M1 := M) rfl ?_
          refine mv_ttW (by omega) ?_
          refine mv_goW 3 (pc' := if k < 6 then 87 else 104) (ls' := [mv_R 100, mv_I (u : Int), mv_I k, mv_U]) (st' := []) (M1 := M) rfl ?_
          refine mv_spW (fun ha57 => ?_) (fun ha57 => ?_)
          · refine mv_goW 4 (pc' := if 0 ≤ (u : Int) ∧ (u : Int) < 6 then 93 else mv_bad) (ls' := [mv_R 100, mv_I (u : Int), mv_I k, mv_U]) (st' := [mv_I (M 102 u)]) (M1 := M) rfl ?_
            refine mv_ttW (by omega) ?_
            have hr13 := sp_ok_4 ho u (by omega)
            rw [show M 102 u = V 4 u from by exact sp_m_4 hm u (by omega)]
            rw [show V 4 u = 0 from by exact hk]
            refine mv_goW 1 (pc' := 94) (ls' := [mv_R 100, mv_I (u : Int), mv_I k, mv_U]) (st' := [mv_I k, mv_I 0]) (M1 := M) rfl ?_
            have ha58 : ¬ (k = 0) := by omega
            refine mv_callPW (st2 := [mv_I 0]) rfl (Or.inr rfl) rfl rfl rfl (sp_isUn_0_f ha58) (by first | decide | omega) ?_
            refine mv_goW 1 (pc' := if 0 = 0 then 104 else 100) (ls' := [mv_R 100, mv_I (u : Int), mv_I k, mv_U]) (st' := []) (M1 := M) rfl ?_
            refine mv_ttW (by decide) ?_
            refine mv_goW 1 (pc' := 106) (ls' := [mv_R 100, mv_I (u : Int), mv_I k, mv_U]) (st' := [mv_I (-13)]) (M1 := M) rfl ?_
            exact mv_retW (fun n => rfl) ⟨congrArg mv_I (by first | with_reducible rfl | omega), ⟨V, P, n, B, K, t, h⟩⟩
          · refine mv_goW 1 (pc' := 106) (ls' := [mv_R 100, mv_I (u : Int), mv_I k, mv_U]) (st' := [mv_I (-13)]) (M1 := M) rfl ?_
            exact mv_retW (fun n => rfl) ⟨congrArg mv_I (by first | with_reducible rfl | omega), ⟨V, P, n, B, K, t, h⟩⟩
  · subst q
    refine mv_goW 2 (pc' := if k < 0 then 10 else 4) (ls' := [mv_R 0, mv_I ((u + 6 : Nat) : Int), mv_I k, mv_U]) (st' := []) (M1 := M) rfl ?_
    refine mv_spW (fun ha59 => ?_) (fun ha59 => ?_)
    · refine mv_goW 1 (pc' := 12) (ls' := [mv_R 0, mv_I ((u + 6 : Nat) : Int), mv_I k, mv_U]) (st' := [mv_I (-2)]) (M1 := M) rfl ?_
      refine mv_retW (fun n => rfl) ⟨_, rfl, ?_⟩
      refine mv_goW 3 (pc' := 4) (ls' := [mv_R 100, mv_I ((u + 6 : Nat) : Int), mv_I k, mv_U]) (st' := [mv_I 6, mv_I 0, mv_I k]) (M1 := M) rfl ?_
      have ha60 : ¬ ((0 : Int) ≤ k ∧ k ≤ (6 : Int)) := by omega
      refine mv_callPW (st2 := [mv_I 0]) rfl (Or.inr rfl) rfl rfl rfl (sp_min_f ha60) (by first | decide | omega) ?_
      refine mv_goW 1 (pc' := if 0 = 0 then 10 else 13) (ls' := [mv_R 100, mv_I ((u + 6 : Nat) : Int), mv_I k, mv_U]) (st' := []) (M1 := M) rfl ?_
      refine mv_ttW (by decide) ?_
      refine mv_goW 1 (pc' := 12) (ls' := [mv_R 100, mv_I ((u + 6 : Nat) : Int), mv_I k, mv_U]) (st' := [mv_I (-2)]) (M1 := M) rfl ?_
      exact mv_retW (fun n => rfl) ⟨congrArg mv_I (by first | with_reducible rfl | omega), ⟨V, P, n, B, K, t, h⟩⟩
    · refine mv_goW 3 (pc' := if 6 < k then 10 else 13) (ls' := [mv_R 0, mv_I ((u + 6 : Nat) : Int), mv_I k, mv_U]) (st' := []) (M1 := M) rfl ?_
      refine mv_spW (fun ha61 => ?_) (fun ha61 => ?_)
      · refine mv_goW 1 (pc' := 12) (ls' := [mv_R 0, mv_I ((u + 6 : Nat) : Int), mv_I k, mv_U]) (st' := [mv_I (-2)]) (M1 := M) rfl ?_
        refine mv_retW (fun n => rfl) ⟨_, rfl, ?_⟩
        refine mv_goW 3 (pc' := 4) (ls' := [mv_R 100, mv_I ((u + 6 : Nat) : Int), mv_I k, mv_U]) (st' := [mv_I 6, mv_I 0, mv_I k]) (M1 := M) rfl ?_
        have ha62 : ¬ ((0 : Int) ≤ k ∧ k ≤ (6 : Int)) := by omega
        refine mv_callPW (st2 := [mv_I 0]) rfl (Or.inr rfl) rfl rfl rfl (sp_min_f ha62) (by first | decide | omega) ?_
        refine mv_goW 1 (pc' := if 0 = 0 then 10 else 13) (ls' := [mv_R 100, mv_I ((u + 6 : Nat) : Int), mv_I k, mv_U]) (st' := []) (M1 := M) rfl ?_
        refine mv_ttW (by decide) ?_
        refine mv_goW 1 (pc' := 12) (ls' := [mv_R 100, mv_I ((u + 6 : Nat) : Int), mv_I k, mv_U]) (st' := [mv_I (-2)]) (M1 := M) rfl ?_
        exact mv_retW (fun n => rfl) ⟨congrArg mv_I (by first | with_reducible rfl | omega), ⟨V, P, n, B, K, t, h⟩⟩
      · refine mv_goW 2 (pc' := if ((u + 6 : Nat) : Int) < 0 then 23 else 17) (ls' := [mv_R 0, mv_I ((u + 6 : Nat) : Int), mv_I k, mv_U]) (st' := []) (M1 := M) rfl ?_
        refine mv_ffW (by omega) ?_
        refine mv_goW 3 (pc' := if ((u + 6 : Nat) : Int) < 12 then 26 else 23) (ls' := [mv_R 0, mv_I ((u + 6 : Nat) : Int), mv_I k, mv_U]) (st' := []) (M1 := M) rfl ?_
        refine mv_ttW (by omega) ?_
        refine mv_goW 3 (pc' := if 6 = 0 then mv_bad else 30) (ls' := [mv_R 0, mv_I ((u + 6 : Nat) : Int), mv_I k, mv_U]) (st' := [mv_I (mv_w (((u + 6 : Nat) : Int).tmod 6))]) (M1 := M) rfl ?_
        refine mv_ffW (by omega) ?_
        rw [show mv_w (((u + 6 : Nat) : Int).tmod 6) = (u : Int) from by exact sp_tm6b hu]
        refine mv_goW 4 (pc' := 36) (ls' := [mv_R 0, mv_I ((u + 6 : Nat) : Int), mv_I k, mv_I (u : Int)]) (st' := [mv_I (u : Int), mv_R 30]) (M1 := M) rfl ?_
        have ha63 : 0 ≤ (u : Int) ∧ (u : Int) < V 0 9 := by omega
        refine mv_callPW (st2 := [mv_I 1]) rfl (Or.inl rfl) rfl rfl rfl (sp_cisUncle_t_30 hc ho ha63) (by first | decide | omega) ?_
        refine mv_goW 1 (pc' := if 1 = 0 then 42 else 45) (ls' := [mv_R 0, mv_I ((u + 6 : Nat) : Int), mv_I k, mv_I (u : Int)]) (st' := []) (M1 := M) rfl ?_
        refine mv_ffW (by decide) ?_
        refine mv_goW 3 (pc' := if ((u + 6 : Nat) : Int) < 6 then 87 else 51) (ls' := [mv_R 0, mv_I ((u + 6 : Nat) : Int), mv_I k, mv_I (u : Int)]) (st' := []) (M1 := M) rfl ?_
        refine mv_ffW (by omega) ?_
        refine mv_goW 3 (pc' := if k = 6 then 62 else 57) (ls' := [mv_R 0, mv_I ((u + 6 : Nat) : Int), mv_I k, mv_I (u : Int)]) (st' := []) (M1 := M) rfl ?_
        refine mv_spW (fun ha64 => ?_) (fun ha64 => ?_)
        · refine mv_goW 3 (pc' := 67) (ls' := [mv_R 0, mv_I ((u + 6 : Nat) : Int), mv_I k, mv_I (u : Int)]) (st' := [mv_I (u : Int), mv_R 30]) (M1 := M) rfl ?_
          refine mv_callPW (st2 := [mv_I (sp_hired V (u : Int))]) rfl (Or.inl rfl) rfl rfl rfl (sp_hired_30 hc ho) (by first | decide | omega) ?_
          refine mv_goW 3 (pc' := 75) (ls' := [mv_R 0, mv_I ((u + 6 : Nat) : Int), mv_I k, mv_I (u : Int)]) (st' := [mv_I (u : Int), mv_R 30, mv_I (sp_hired V (u : Int))]) (M1 := M) rfl ?_
          refine mv_callPW (st2 := [mv_I (sp_room V u), mv_I (sp_hired V (u : Int))]) rfl (Or.inl rfl) rfl rfl rfl (sp_croom hc ho (by omega)) (by first | decide | omega) ?_
          refine mv_goW 1 (pc' := if (sp_hired V (u : Int)) < (sp_room V u) then 81 else 85) (ls' := [mv_R 0, mv_I ((u + 6 : Nat) : Int), mv_I k, mv_I (u : Int)]) (st' := []) (M1 := M) rfl ?_
          refine mv_spW (fun ha65 => ?_) (fun ha65 => ?_)
          · refine mv_goW 2 (pc' := 86) (ls' := [mv_R 0, mv_I ((u + 6 : Nat) : Int), mv_I k, mv_I (u : Int)]) (st' := [mv_I 1]) (M1 := M) rfl ?_
            refine mv_retW (fun n => rfl) ⟨_, rfl, ?_⟩
            refine mv_goW 3 (pc' := 4) (ls' := [mv_R 100, mv_I ((u + 6 : Nat) : Int), mv_I k, mv_U]) (st' := [mv_I 6, mv_I 0, mv_I k]) (M1 := M) rfl ?_
            have ha66 : (0 : Int) ≤ k ∧ k ≤ (6 : Int) := by omega
            refine mv_callPW (st2 := [mv_I 1]) rfl (Or.inr rfl) rfl rfl rfl (sp_min_t ha66) (by first | decide | omega) ?_
            refine mv_goW 1 (pc' := if 1 = 0 then 10 else 13) (ls' := [mv_R 100, mv_I ((u + 6 : Nat) : Int), mv_I k, mv_U]) (st' := []) (M1 := M) rfl ?_
            refine mv_ffW (by decide) ?_
            refine mv_goW 3 (pc' := 17) (ls' := [mv_R 100, mv_I ((u + 6 : Nat) : Int), mv_I k, mv_U]) (st' := [mv_I 11, mv_I 0, mv_I ((u + 6 : Nat) : Int)]) (M1 := M) rfl ?_
            have ha67 : (0 : Int) ≤ ((u + 6 : Nat) : Int) ∧ ((u + 6 : Nat) : Int) ≤ (11 : Int) := by omega
            refine mv_callPW (st2 := [mv_I 1]) rfl (Or.inr rfl) rfl rfl rfl (sp_min_t ha67) (by first | decide | omega) ?_
            refine mv_goW 1 (pc' := if 1 = 0 then 23 else 26) (ls' := [mv_R 100, mv_I ((u + 6 : Nat) : Int), mv_I k, mv_U]) (st' := []) (M1 := M) rfl ?_
            refine mv_ffW (by decide) ?_
            refine mv_goW 3 (pc' := if 6 = 0 then mv_bad else 30) (ls' := [mv_R 100, mv_I ((u + 6 : Nat) : Int), mv_I k, mv_U]) (st' := [mv_I (mv_w (((u + 6 : Nat) : Int).tmod 6))]) (M1 := M) rfl ?_
            refine mv_ffW (by omega) ?_
            rw [show mv_w (((u + 6 : Nat) : Int).tmod 6) = (u : Int) from by exact sp_tm6b hu]
            refine mv_goW 2 (pc' := 34) (ls' := [mv_R 100, mv_I ((u + 6 : Nat) : Int), mv_I k, mv_U]) (st' := [mv_I (M 100 1), mv_I (u : Int)]) (M1 := M) rfl ?_
            have hr15 := sp_ok_s9 ho
            rw [show M 100 1 = V 0 9 from by exact sp_m_s9 hm]
            refine mv_goW 1 (pc' := if (u : Int) < (V 0 9) then 40 else 37) (ls' := [mv_R 100, mv_I ((u + 6 : Nat) : Int), mv_I k, mv_U]) (st' := []) (M1 := M) rfl ?_
            refine mv_ttW (by omega) ?_
            refine mv_goW 3 (pc' := if ((u + 6 : Nat) : Int) < 6 then 81 else 46) (ls' := [mv_R 100, mv_I ((u + 6 : Nat) : Int), mv_I k, mv_U]) (st' := []) (M1 := M) rfl ?_
            refine mv_ffW (by omega) ?_
            refine mv_goW 7 (pc' := if k = 6 then 62 else 57) (ls' := [mv_R 100, mv_I ((u + 6 : Nat) : Int), mv_I k, mv_I (mv_w (((u + 6 : Nat) : Int) - 6))]) (st' := []) (M1 := M) rfl ?_
            rw [show mv_w (((u + 6 : Nat) : Int) - 6) = ((u + 6 : Nat) : Int) - 6 from mv_w_id (by omega) (by omega)]
            rw [show ((u + 6 : Nat) : Int) - 6 = (u : Int) from by omega]
            refine mv_ttW (by omega) ?_
            refine mv_goW 2 (pc' := 64) (ls' := [mv_R 100, mv_I ((u + 6 : Nat) : Int), mv_I k, mv_I (u : Int)]) (st' := [mv_I (u : Int), mv_R 100]) (M1 := M) rfl ?_
            refine mv_callPW (st2 := [mv_I (sp_hired V (u : Int))]) rfl (Or.inl rfl) rfl rfl rfl (sp_mhired hm ho) (by first | decide | omega) ?_
            refine mv_goW 2 (pc' := 69) (ls' := [mv_R 100, mv_I ((u + 6 : Nat) : Int), mv_I k, mv_I (u : Int)]) (st' := [mv_I (u : Int), mv_R 100, mv_I (sp_hired V (u : Int))]) (M1 := M) rfl ?_
            refine mv_callPW (st2 := [mv_I (sp_room V u), mv_I (sp_hired V (u : Int))]) rfl (Or.inl rfl) rfl rfl rfl (sp_mroom hm ho (by omega)) (by first | decide | omega) ?_
            refine mv_goW 1 (pc' := if (sp_hired V (u : Int)) < (sp_room V u) then 75 else 79) (ls' := [mv_R 100, mv_I ((u + 6 : Nat) : Int), mv_I k, mv_I (u : Int)]) (st' := []) (M1 := M) rfl ?_
            refine mv_ttW (by omega) ?_
            refine mv_goW 2 (pc' := 80) (ls' := [mv_R 100, mv_I ((u + 6 : Nat) : Int), mv_I k, mv_I (u : Int)]) (st' := [mv_I 1]) (M1 := M) rfl ?_
            exact mv_retW (fun n => rfl) ⟨congrArg mv_I (by first | with_reducible rfl | omega), ⟨V, P, n, B, K, t, h⟩⟩
          · refine mv_goW 1 (pc' := 86) (ls' := [mv_R 0, mv_I ((u + 6 : Nat) : Int), mv_I k, mv_I (u : Int)]) (st' := [mv_I 0]) (M1 := M) rfl ?_
            refine mv_retW (fun n => rfl) ⟨_, rfl, ?_⟩
            refine mv_goW 3 (pc' := 4) (ls' := [mv_R 100, mv_I ((u + 6 : Nat) : Int), mv_I k, mv_U]) (st' := [mv_I 6, mv_I 0, mv_I k]) (M1 := M) rfl ?_
            have ha68 : (0 : Int) ≤ k ∧ k ≤ (6 : Int) := by omega
            refine mv_callPW (st2 := [mv_I 1]) rfl (Or.inr rfl) rfl rfl rfl (sp_min_t ha68) (by first | decide | omega) ?_
            refine mv_goW 1 (pc' := if 1 = 0 then 10 else 13) (ls' := [mv_R 100, mv_I ((u + 6 : Nat) : Int), mv_I k, mv_U]) (st' := []) (M1 := M) rfl ?_
            refine mv_ffW (by decide) ?_
            refine mv_goW 3 (pc' := 17) (ls' := [mv_R 100, mv_I ((u + 6 : Nat) : Int), mv_I k, mv_U]) (st' := [mv_I 11, mv_I 0, mv_I ((u + 6 : Nat) : Int)]) (M1 := M) rfl ?_
            have ha69 : (0 : Int) ≤ ((u + 6 : Nat) : Int) ∧ ((u + 6 : Nat) : Int) ≤ (11 : Int) := by omega
            refine mv_callPW (st2 := [mv_I 1]) rfl (Or.inr rfl) rfl rfl rfl (sp_min_t ha69) (by first | decide | omega) ?_
            refine mv_goW 1 (pc' := if 1 = 0 then 23 else 26) (ls' := [mv_R 100, mv_I ((u + 6 : Nat) : Int), mv_I k, mv_U]) (st' := []) (M1 := M) rfl ?_
            refine mv_ffW (by decide) ?_
            refine mv_goW 3 (pc' := if 6 = 0 then mv_bad else 30) (ls' := [mv_R 100, mv_I ((u + 6 : Nat) : Int), mv_I k, mv_U]) (st' := [mv_I (mv_w (((u + 6 : Nat) : Int).tmod 6))]) (M1 := M) rfl ?_
            refine mv_ffW (by omega) ?_
            rw [show mv_w (((u + 6 : Nat) : Int).tmod 6) = (u : Int) from by exact sp_tm6b hu]
            refine mv_goW 2 (pc' := 34) (ls' := [mv_R 100, mv_I ((u + 6 : Nat) : Int), mv_I k, mv_U]) (st' := [mv_I (M 100 1), mv_I (u : Int)]) (M1 := M) rfl ?_
            have hr17 := sp_ok_s9 ho
            rw [show M 100 1 = V 0 9 from by exact sp_m_s9 hm]
            refine mv_goW 1 (pc' := if (u : Int) < (V 0 9) then 40 else 37) (ls' := [mv_R 100, mv_I ((u + 6 : Nat) : Int), mv_I k, mv_U]) (st' := []) (M1 := M) rfl ?_
            refine mv_ttW (by omega) ?_
            refine mv_goW 3 (pc' := if ((u + 6 : Nat) : Int) < 6 then 81 else 46) (ls' := [mv_R 100, mv_I ((u + 6 : Nat) : Int), mv_I k, mv_U]) (st' := []) (M1 := M) rfl ?_
            refine mv_ffW (by omega) ?_
            refine mv_goW 7 (pc' := if k = 6 then 62 else 57) (ls' := [mv_R 100, mv_I ((u + 6 : Nat) : Int), mv_I k, mv_I (mv_w (((u + 6 : Nat) : Int) - 6))]) (st' := []) (M1 := M) rfl ?_
            rw [show mv_w (((u + 6 : Nat) : Int) - 6) = ((u + 6 : Nat) : Int) - 6 from mv_w_id (by omega) (by omega)]
            rw [show ((u + 6 : Nat) : Int) - 6 = (u : Int) from by omega]
            refine mv_ttW (by omega) ?_
            refine mv_goW 2 (pc' := 64) (ls' := [mv_R 100, mv_I ((u + 6 : Nat) : Int), mv_I k, mv_I (u : Int)]) (st' := [mv_I (u : Int), mv_R 100]) (M1 := M) rfl ?_
            refine mv_callPW (st2 := [mv_I (sp_hired V (u : Int))]) rfl (Or.inl rfl) rfl rfl rfl (sp_mhired hm ho) (by first | decide | omega) ?_
            refine mv_goW 2 (pc' := 69) (ls' := [mv_R 100, mv_I ((u + 6 : Nat) : Int), mv_I k, mv_I (u : Int)]) (st' := [mv_I (u : Int), mv_R 100, mv_I (sp_hired V (u : Int))]) (M1 := M) rfl ?_
            refine mv_callPW (st2 := [mv_I (sp_room V u), mv_I (sp_hired V (u : Int))]) rfl (Or.inl rfl) rfl rfl rfl (sp_mroom hm ho (by omega)) (by first | decide | omega) ?_
            refine mv_goW 1 (pc' := if (sp_hired V (u : Int)) < (sp_room V u) then 75 else 79) (ls' := [mv_R 100, mv_I ((u + 6 : Nat) : Int), mv_I k, mv_I (u : Int)]) (st' := []) (M1 := M) rfl ?_
            refine mv_ffW (by omega) ?_
            refine mv_goW 1 (pc' := 80) (ls' := [mv_R 100, mv_I ((u + 6 : Nat) : Int), mv_I k, mv_I (u : Int)]) (st' := [mv_I 0]) (M1 := M) rfl ?_
            exact mv_retW (fun n => rfl) ⟨congrArg mv_I (by first | with_reducible rfl | omega), ⟨V, P, n, B, K, t, h⟩⟩
        · refine mv_goW 2 (pc' := 86) (ls' := [mv_R 0, mv_I ((u + 6 : Nat) : Int), mv_I k, mv_I (u : Int)]) (st' := [mv_I (-13)]) (M1 := M) rfl ?_
          refine mv_retW (fun n => rfl) ⟨_, rfl, ?_⟩
          refine mv_goW 3 (pc' := 4) (ls' := [mv_R 100, mv_I ((u + 6 : Nat) : Int), mv_I k, mv_U]) (st' := [mv_I 6, mv_I 0, mv_I k]) (M1 := M) rfl ?_
          have ha70 : (0 : Int) ≤ k ∧ k ≤ (6 : Int) := by omega
          refine mv_callPW (st2 := [mv_I 1]) rfl (Or.inr rfl) rfl rfl rfl (sp_min_t ha70) (by first | decide | omega) ?_
          refine mv_goW 1 (pc' := if 1 = 0 then 10 else 13) (ls' := [mv_R 100, mv_I ((u + 6 : Nat) : Int), mv_I k, mv_U]) (st' := []) (M1 := M) rfl ?_
          refine mv_ffW (by decide) ?_
          refine mv_goW 3 (pc' := 17) (ls' := [mv_R 100, mv_I ((u + 6 : Nat) : Int), mv_I k, mv_U]) (st' := [mv_I 11, mv_I 0, mv_I ((u + 6 : Nat) : Int)]) (M1 := M) rfl ?_
          have ha71 : (0 : Int) ≤ ((u + 6 : Nat) : Int) ∧ ((u + 6 : Nat) : Int) ≤ (11 : Int) := by omega
          refine mv_callPW (st2 := [mv_I 1]) rfl (Or.inr rfl) rfl rfl rfl (sp_min_t ha71) (by first | decide | omega) ?_
          refine mv_goW 1 (pc' := if 1 = 0 then 23 else 26) (ls' := [mv_R 100, mv_I ((u + 6 : Nat) : Int), mv_I k, mv_U]) (st' := []) (M1 := M) rfl ?_
          refine mv_ffW (by decide) ?_
          refine mv_goW 3 (pc' := if 6 = 0 then mv_bad else 30) (ls' := [mv_R 100, mv_I ((u + 6 : Nat) : Int), mv_I k, mv_U]) (st' := [mv_I (mv_w (((u + 6 : Nat) : Int).tmod 6))]) (M1 := M) rfl ?_
          refine mv_ffW (by omega) ?_
          rw [show mv_w (((u + 6 : Nat) : Int).tmod 6) = (u : Int) from by exact sp_tm6b hu]
          refine mv_goW 2 (pc' := 34) (ls' := [mv_R 100, mv_I ((u + 6 : Nat) : Int), mv_I k, mv_U]) (st' := [mv_I (M 100 1), mv_I (u : Int)]) (M1 := M) rfl ?_
          have hr19 := sp_ok_s9 ho
          rw [show M 100 1 = V 0 9 from by exact sp_m_s9 hm]
          refine mv_goW 1 (pc' := if (u : Int) < (V 0 9) then 40 else 37) (ls' := [mv_R 100, mv_I ((u + 6 : Nat) : Int), mv_I k, mv_U]) (st' := []) (M1 := M) rfl ?_
          refine mv_ttW (by omega) ?_
          refine mv_goW 3 (pc' := if ((u + 6 : Nat) : Int) < 6 then 81 else 46) (ls' := [mv_R 100, mv_I ((u + 6 : Nat) : Int), mv_I k, mv_U]) (st' := []) (M1 := M) rfl ?_
          refine mv_ffW (by omega) ?_
          refine mv_goW 7 (pc' := if k = 6 then 62 else 57) (ls' := [mv_R 100, mv_I ((u + 6 : Nat) : Int), mv_I k, mv_I (mv_w (((u + 6 : Nat) : Int) - 6))]) (st' := []) (M1 := M) rfl ?_
          rw [show mv_w (((u + 6 : Nat) : Int) - 6) = ((u + 6 : Nat) : Int) - 6 from mv_w_id (by omega) (by omega)]
          rw [show ((u + 6 : Nat) : Int) - 6 = (u : Int) from by omega]
          refine mv_ffW (by omega) ?_
          refine mv_goW 2 (pc' := 80) (ls' := [mv_R 100, mv_I ((u + 6 : Nat) : Int), mv_I k, mv_I (u : Int)]) (st' := [mv_I (-13)]) (M1 := M) rfl ?_
          exact mv_retW (fun n => rfl) ⟨congrArg mv_I (by first | with_reducible rfl | omega), ⟨V, P, n, B, K, t, h⟩⟩
theorem sp_k35_1 (u x : Nat) (k : Int) (hx : x = 0 ∨ x = 6) (hu : u < 6) : ∀ V P n B K t M, sp_R V P n B K t M → (u : Int) < V 0 9 → V 4 u = 1 → mv_W 20 96 0 [mv_R 0, mv_I ((u + x : Nat) : Int), mv_I k, mv_U] [] M (fun v M1 => ∃ z, v = mv_I z ∧ mv_W 20 192 0 [mv_R 100, mv_I ((u + x : Nat) : Int), mv_I k, mv_U] [] M1 (fun w M2 => w = mv_I z ∧ sp_Inv M2)) := by
  intro V P n B K t M h hn hk
  have h' := h
  obtain ⟨⟨hc, hm, ho⟩, _⟩ := h'
  have h9 := sp_ok_s9 ho
  rcases hx with q | q
  · subst q
    rw [Nat.add_zero]
    refine mv_goW 2 (pc' := if k < 0 then 10 else 4) (ls' := [mv_R 0, mv_I (u : Int), mv_I k, mv_U]) (st' := []) (M1 := M) rfl ?_
    refine mv_spW (fun ha72 => ?_) (fun ha72 => ?_)
    · refine mv_goW 1 (pc' := 12) (ls' := [mv_R 0, mv_I (u : Int), mv_I k, mv_U]) (st' := [mv_I (-2)]) (M1 := M) rfl ?_
      refine mv_retW (fun n => rfl) ⟨_, rfl, ?_⟩
      refine mv_goW 3 (pc' := 4) (ls' := [mv_R 100, mv_I (u : Int), mv_I k, mv_U]) (st' := [mv_I 6, mv_I 0, mv_I k]) (M1 := M) rfl ?_
      have ha73 : ¬ ((0 : Int) ≤ k ∧ k ≤ (6 : Int)) := by omega
      refine mv_callPW (st2 := [mv_I 0]) rfl (Or.inr rfl) rfl rfl rfl (sp_min_f ha73) (by first | decide | omega) ?_
      refine mv_goW 1 (pc' := if 0 = 0 then 10 else 13) (ls' := [mv_R 100, mv_I (u : Int), mv_I k, mv_U]) (st' := []) (M1 := M) rfl ?_
      refine mv_ttW (by decide) ?_
      refine mv_goW 1 (pc' := 12) (ls' := [mv_R 100, mv_I (u : Int), mv_I k, mv_U]) (st' := [mv_I (-2)]) (M1 := M) rfl ?_
      exact mv_retW (fun n => rfl) ⟨congrArg mv_I (by first | with_reducible rfl | omega), ⟨V, P, n, B, K, t, h⟩⟩
    · refine mv_goW 3 (pc' := if 6 < k then 10 else 13) (ls' := [mv_R 0, mv_I (u : Int), mv_I k, mv_U]) (st' := []) (M1 := M) rfl ?_
      refine mv_spW (fun ha74 => ?_) (fun ha74 => ?_)
      · refine mv_goW 1 (pc' := 12) (ls' := [mv_R 0, mv_I (u : Int), mv_I k, mv_U]) (st' := [mv_I (-2)]) (M1 := M) rfl ?_
        refine mv_retW (fun n => rfl) ⟨_, rfl, ?_⟩
        refine mv_goW 3 (pc' := 4) (ls' := [mv_R 100, mv_I (u : Int), mv_I k, mv_U]) (st' := [mv_I 6, mv_I 0, mv_I k]) (M1 := M) rfl ?_
        have ha75 : ¬ ((0 : Int) ≤ k ∧ k ≤ (6 : Int)) := by omega
        refine mv_callPW (st2 := [mv_I 0]) rfl (Or.inr rfl) rfl rfl rfl (sp_min_f ha75) (by first | decide | omega) ?_
        refine mv_goW 1 (pc' := if 0 = 0 then 10 else 13) (ls' := [mv_R 100, mv_I (u : Int), mv_I k, mv_U]) (st' := []) (M1 := M) rfl ?_
        refine mv_ttW (by decide) ?_
        refine mv_goW 1 (pc' := 12) (ls' := [mv_R 100, mv_I (u : Int), mv_I k, mv_U]) (st' := [mv_I (-2)]) (M1 := M) rfl ?_
        exact mv_retW (fun n => rfl) ⟨congrArg mv_I (by first | with_reducible rfl | omega), ⟨V, P, n, B, K, t, h⟩⟩
      · refine mv_goW 2 (pc' := if (u : Int) < 0 then 23 else 17) (ls' := [mv_R 0, mv_I (u : Int), mv_I k, mv_U]) (st' := []) (M1 := M) rfl ?_
        refine mv_ffW (by omega) ?_
        refine mv_goW 3 (pc' := if (u : Int) < 12 then 26 else 23) (ls' := [mv_R 0, mv_I (u : Int), mv_I k, mv_U]) (st' := []) (M1 := M) rfl ?_
        refine mv_ttW (by omega) ?_
        refine mv_goW 3 (pc' := if 6 = 0 then mv_bad else 30) (ls' := [mv_R 0, mv_I (u : Int), mv_I k, mv_U]) (st' := [mv_I (mv_w ((u : Int).tmod 6))]) (M1 := M) rfl ?_
        refine mv_ffW (by omega) ?_
        rw [show mv_w ((u : Int).tmod 6) = (u : Int) from by exact sp_tm6a hu]
        refine mv_goW 4 (pc' := 36) (ls' := [mv_R 0, mv_I (u : Int), mv_I k, mv_I (u : Int)]) (st' := [mv_I (u : Int), mv_R 30]) (M1 := M) rfl ?_
        have ha76 : 0 ≤ (u : Int) ∧ (u : Int) < V 0 9 := by omega
        refine mv_callPW (st2 := [mv_I 1]) rfl (Or.inl rfl) rfl rfl rfl (sp_cisUncle_t_30 hc ho ha76) (by first | decide | omega) ?_
        refine mv_goW 1 (pc' := if 1 = 0 then 42 else 45) (ls' := [mv_R 0, mv_I (u : Int), mv_I k, mv_I (u : Int)]) (st' := []) (M1 := M) rfl ?_
        refine mv_ffW (by decide) ?_
        refine mv_goW 3 (pc' := if (u : Int) < 6 then 87 else 51) (ls' := [mv_R 0, mv_I (u : Int), mv_I k, mv_I (u : Int)]) (st' := []) (M1 := M) rfl ?_
        refine mv_ttW (by omega) ?_
        refine mv_goW 5 (pc' := if 0 ≤ (u : Int) ∧ (u : Int) < 6 then 96 else mv_bad) (ls' := [mv_R 0, mv_I (u : Int), mv_I k, mv_I (u : Int)]) (st' := [mv_I (M 34 u)]) (M1 := M) rfl ?_
        refine mv_ttW (by omega) ?_
        have hr21 := sp_ok_4 ho u (by omega)
        rw [show M 34 u = V 4 u from by exact sp_c_4 hc u (by omega)]
        rw [show V 4 u = 1 from by exact hk]
        refine mv_goW 1 (pc' := 97) (ls' := [mv_R 0, mv_I (u : Int), mv_I k, mv_I (u : Int)]) (st' := [mv_I k, mv_I 1]) (M1 := M) rfl ?_
        by_cases ha77 : k = 1 ∨ k = 0
        · refine mv_callPW (st2 := [mv_I 1]) rfl (Or.inr rfl) rfl rfl rfl (sp_isOf_1_t ha77) (by first | decide | omega) ?_
          refine mv_goW 1 (pc' := if 1 = 0 then 107 else 103) (ls' := [mv_R 0, mv_I (u : Int), mv_I k, mv_I (u : Int)]) (st' := []) (M1 := M) rfl ?_
          refine mv_ffW (by decide) ?_
          refine mv_goW 2 (pc' := 109) (ls' := [mv_R 0, mv_I (u : Int), mv_I k, mv_I (u : Int)]) (st' := [mv_I (u : Int)]) (M1 := M) rfl ?_
          refine mv_retW (fun n => rfl) ⟨_, rfl, ?_⟩
          refine mv_goW 3 (pc' := 4) (ls' := [mv_R 100, mv_I (u : Int), mv_I k, mv_U]) (st' := [mv_I 6, mv_I 0, mv_I k]) (M1 := M) rfl ?_
          have ha78 : (0 : Int) ≤ k ∧ k ≤ (6 : Int) := by omega
          refine mv_callPW (st2 := [mv_I 1]) rfl (Or.inr rfl) rfl rfl rfl (sp_min_t ha78) (by first | decide | omega) ?_
          refine mv_goW 1 (pc' := if 1 = 0 then 10 else 13) (ls' := [mv_R 100, mv_I (u : Int), mv_I k, mv_U]) (st' := []) (M1 := M) rfl ?_
          refine mv_ffW (by decide) ?_
          refine mv_goW 3 (pc' := 17) (ls' := [mv_R 100, mv_I (u : Int), mv_I k, mv_U]) (st' := [mv_I 11, mv_I 0, mv_I (u : Int)]) (M1 := M) rfl ?_
          have ha79 : (0 : Int) ≤ (u : Int) ∧ (u : Int) ≤ (11 : Int) := by omega
          refine mv_callPW (st2 := [mv_I 1]) rfl (Or.inr rfl) rfl rfl rfl (sp_min_t ha79) (by first | decide | omega) ?_
          refine mv_goW 1 (pc' := if 1 = 0 then 23 else 26) (ls' := [mv_R 100, mv_I (u : Int), mv_I k, mv_U]) (st' := []) (M1 := M) rfl ?_
          refine mv_ffW (by decide) ?_
          refine mv_goW 3 (pc' := if 6 = 0 then mv_bad else 30) (ls' := [mv_R 100, mv_I (u : Int), mv_I k, mv_U]) (st' := [mv_I (mv_w ((u : Int).tmod 6))]) (M1 := M) rfl ?_
          refine mv_ffW (by omega) ?_
          rw [show mv_w ((u : Int).tmod 6) = (u : Int) from by exact sp_tm6a hu]
          refine mv_goW 2 (pc' := 34) (ls' := [mv_R 100, mv_I (u : Int), mv_I k, mv_U]) (st' := [mv_I (M 100 1), mv_I (u : Int)]) (M1 := M) rfl ?_
          have hr23 := sp_ok_s9 ho
          rw [show M 100 1 = V 0 9 from by exact sp_m_s9 hm]
          refine mv_goW 1 (pc' := if (u : Int) < (V 0 9) then 40 else 37) (ls' := [mv_R 100, mv_I (u : Int), mv_I k, mv_U]) (st' := []) (M1 := M) rfl ?_
          refine mv_ttW (by omega) ?_
          refine mv_goW 3 (pc' := if (u : Int) < 6 then 81 else 46) (ls' := [mv_R 100, mv_I (u : Int), mv_I k, mv_U]) (st' := []) (M1 := M) rfl ?_
          refine mv_ttW (by omega) ?_
          refine mv_goW 3 (pc' := if k < 6 then 87 else 104) (ls' := [mv_R 100, mv_I (u : Int), mv_I k, mv_U]) (st' := []) (M1 := M) rfl ?_
          refine mv_ttW (by omega) ?_
          refine mv_goW 4 (pc' := if 0 ≤ (u : Int) ∧ (u : Int) < 6 then 93 else mv_bad) (ls' := [mv_R 100, mv_I (u : Int), mv_I k, mv_U]) (st' := [mv_I (M 102 u)]) (M1 := M) rfl ?_
          refine mv_ttW (by omega) ?_
          have hr25 := sp_ok_4 ho u (by omega)
          rw [show M 102 u = V 4 u from by exact sp_m_4 hm u (by omega)]
          rw [show V 4 u = 1 from by exact hk]
          refine mv_goW 1 (pc' := 94) (ls' := [mv_R 100, mv_I (u : Int), mv_I k, mv_U]) (st' := [mv_I k, mv_I 1]) (M1 := M) rfl ?_
          have ha80 : k = 1 ∨ k = 0 := by omega
          refine mv_callPW (st2 := [mv_I 1]) rfl (Or.inr rfl) rfl rfl rfl (sp_isUn_1_t ha80) (by first | decide | omega) ?_
          refine mv_goW 1 (pc' := if 1 = 0 then 104 else 100) (ls' := [mv_R 100, mv_I (u : Int), mv_I k, mv_U]) (st' := []) (M1 := M) rfl ?_
          refine mv_ffW (by decide) ?_
          refine mv_goW 2 (pc' := 106) (ls' := [mv_R 100, mv_I (u : Int), mv_I k, mv_U]) (st' := [mv_I (u : Int)]) (M1 := M) rfl ?_
          exact mv_retW (fun n => rfl) ⟨congrArg mv_I (by first | with_reducible rfl | omega), ⟨V, P, n, B, K, t, h⟩⟩
        · refine mv_callPW (st2 := [mv_I 0]) rfl (Or.inr rfl) rfl rfl rfl (sp_isOf_1_f ha77) (by first | decide | omega) ?_
          refine mv_goW 1 (pc' := if 0 = 0 then 107 else 103) (ls' := [mv_R 0, mv_I (u : Int), mv_I k, mv_I (u : Int)]) (st' := []) (M1 := M) rfl ?_
          refine mv_ttW (by decide) ?_
          refine mv_goW 1 (pc' := 109) (ls' := [mv_R 0, mv_I (u : Int), mv_I k, mv_I (u : Int)]) (st' := [mv_I (-13)]) (M1 := M) rfl ?_
          refine mv_retW (fun n => rfl) ⟨_, rfl, ?_⟩
          refine mv_goW 3 (pc' := 4) (ls' := [mv_R 100, mv_I (u : Int), mv_I k, mv_U]) (st' := [mv_I 6, mv_I 0, mv_I k]) (M1 := M) rfl ?_
          have ha81 : (0 : Int) ≤ k ∧ k ≤ (6 : Int) := by omega
          refine mv_callPW (st2 := [mv_I 1]) rfl (Or.inr rfl) rfl rfl rfl (sp_min_t ha81) (by first | decide | omega) ?_
          refine mv_goW 1 (pc' := if 1 = 0 then 10 else 13) (ls' := [mv_R 100, mv_I (u : Int), mv_I k, mv_U]) (st' := []) (M1 := M) rfl ?_
          refine mv_ffW (by decide) ?_
          refine mv_goW 3 (pc' := 17) (ls' := [mv_R 100, mv_I (u : Int), mv_I k, mv_U]) (st' := [mv_I 11, mv_I 0, mv_I (u : Int)]) (M1 := M) rfl ?_
          have ha82 : (0 : Int) ≤ (u : Int) ∧ (u : Int) ≤ (11 : Int) := by omega
          refine mv_callPW (st2 := [mv_I 1]) rfl (Or.inr rfl) rfl rfl rfl (sp_min_t ha82) (by first | decide | omega) ?_
          refine mv_goW 1 (pc' := if 1 = 0 then 23 else 26) (ls' := [mv_R 100, mv_I (u : Int), mv_I k, mv_U]) (st' := []) (M1 := M) rfl ?_
          refine mv_ffW (by decide) ?_
          refine mv_goW 3 (pc' := if 6 = 0 then mv_bad else 30) (ls' := [mv_R 100, mv_I (u : Int), mv_I k, mv_U]) (st' := [mv_I (mv_w ((u : Int).tmod 6))]) (M1 := M) rfl ?_
          refine mv_ffW (by omega) ?_
          rw [show mv_w ((u : Int).tmod 6) = (u : Int) from by exact sp_tm6a hu]
          refine mv_goW 2 (pc' := 34) (ls' := [mv_R 100, mv_I (u : Int), mv_I k, mv_U]) (st' := [mv_I (M 100 1), mv_I (u : Int)]) (M1 := M) rfl ?_
          have hr27 := sp_ok_s9 ho
          rw [show M 100 1 = V 0 9 from by exact sp_m_s9 hm]
          refine mv_goW 1 (pc' := if (u : Int) < (V 0 9) then 40 else 37) (ls' := [mv_R 100, mv_I (u : Int), mv_I k, mv_U]) (st' := []) (M1 := M) rfl ?_
          refine mv_ttW (by omega) ?_
          refine mv_goW 3 (pc' := if (u : Int) < 6 then 81 else 46) (ls' := [mv_R 100, mv_I (u : Int), mv_I k, mv_U]) (st' := []) (M1 := M) rfl ?_
          refine mv_ttW (by omega) ?_
          refine mv_goW 3 (pc' := if k < 6 then 87 else 104) (ls' := [mv_R 100, mv_I (u : Int), mv_I k, mv_U]) (st' := []) (M1 := M) rfl ?_
          refine mv_spW (fun ha83 => ?_) (fun ha83 => ?_)
          · refine mv_goW 4 (pc' := if 0 ≤ (u : Int) ∧ (u : Int) < 6 then 93 else mv_bad) (ls' := [mv_R 100, mv_I (u : Int), mv_I k, mv_U]) (st' := [mv_I (M 102 u)]) (M1 := M) rfl ?_
            refine mv_ttW (by omega) ?_
            have hr29 := sp_ok_4 ho u (by omega)
            rw [show M 102 u = V 4 u from by exact sp_m_4 hm u (by omega)]
            rw [show V 4 u = 1 from by exact hk]
            refine mv_goW 1 (pc' := 94) (ls' := [mv_R 100, mv_I (u : Int), mv_I k, mv_U]) (st' := [mv_I k, mv_I 1]) (M1 := M) rfl ?_
            have ha84 : ¬ (k = 1 ∨ k = 0) := by omega
            refine mv_callPW (st2 := [mv_I 0]) rfl (Or.inr rfl) rfl rfl rfl (sp_isUn_1_f ha84) (by first | decide | omega) ?_
            refine mv_goW 1 (pc' := if 0 = 0 then 104 else 100) (ls' := [mv_R 100, mv_I (u : Int), mv_I k, mv_U]) (st' := []) (M1 := M) rfl ?_
            refine mv_ttW (by decide) ?_
            refine mv_goW 1 (pc' := 106) (ls' := [mv_R 100, mv_I (u : Int), mv_I k, mv_U]) (st' := [mv_I (-13)]) (M1 := M) rfl ?_
            exact mv_retW (fun n => rfl) ⟨congrArg mv_I (by first | with_reducible rfl | omega), ⟨V, P, n, B, K, t, h⟩⟩
          · refine mv_goW 1 (pc' := 106) (ls' := [mv_R 100, mv_I (u : Int), mv_I k, mv_U]) (st' := [mv_I (-13)]) (M1 := M) rfl ?_
            exact mv_retW (fun n => rfl) ⟨congrArg mv_I (by first | with_reducible rfl | omega), ⟨V, P, n, B, K, t, h⟩⟩
  · subst q
    refine mv_goW 2 (pc' := if k < 0 then 10 else 4) (ls' := [mv_R 0, mv_I ((u + 6 : Nat) : Int), mv_I k, mv_U]) (st' := []) (M1 := M) rfl ?_
    refine mv_spW (fun ha85 => ?_) (fun ha85 => ?_)
    · refine mv_goW 1 (pc' := 12) (ls' := [mv_R 0, mv_I ((u + 6 : Nat) : Int), mv_I k, mv_U]) (st' := [mv_I (-2)]) (M1 := M) rfl ?_
      refine mv_retW (fun n => rfl) ⟨_, rfl, ?_⟩
      refine mv_goW 3 (pc' := 4) (ls' := [mv_R 100, mv_I ((u + 6 : Nat) : Int), mv_I k, mv_U]) (st' := [mv_I 6, mv_I 0, mv_I k]) (M1 := M) rfl ?_
      have ha86 : ¬ ((0 : Int) ≤ k ∧ k ≤ (6 : Int)) := by omega
      refine mv_callPW (st2 := [mv_I 0]) rfl (Or.inr rfl) rfl rfl rfl (sp_min_f ha86) (by first | decide | omega) ?_
      refine mv_goW 1 (pc' := if 0 = 0 then 10 else 13) (ls' := [mv_R 100, mv_I ((u + 6 : Nat) : Int), mv_I k, mv_U]) (st' := []) (M1 := M) rfl ?_
      refine mv_ttW (by decide) ?_
      refine mv_goW 1 (pc' := 12) (ls' := [mv_R 100, mv_I ((u + 6 : Nat) : Int), mv_I k, mv_U]) (st' := [mv_I (-2)]) (M1 := M) rfl ?_
      exact mv_retW (fun n => rfl) ⟨congrArg mv_I (by first | with_reducible rfl | omega), ⟨V, P, n, B, K, t, h⟩⟩
    · refine mv_goW 3 (pc' := if 6 < k then 10 else 13) (ls' := [mv_R 0, mv_I ((u + 6 : Nat) : Int), mv_I k, mv_U]) (st' := []) (M1 := M) rfl ?_
      refine mv_spW (fun ha87 => ?_) (fun ha87 => ?_)
      · refine mv_goW 1 (pc' := 12) (ls' := [mv_R 0, mv_I ((u + 6 : Nat) : Int), mv_I k, mv_U]) (st' := [mv_I (-2)]) (M1 := M) rfl ?_
        refine mv_retW (fun n => rfl) ⟨_, rfl, ?_⟩
        refine mv_goW 3 (pc' := 4) (ls' := [mv_R 100, mv_I ((u + 6 : Nat) : Int), mv_I k, mv_U]) (st' := [mv_I 6, mv_I 0, mv_I k]) (M1 := M) rfl ?_
        have ha88 : ¬ ((0 : Int) ≤ k ∧ k ≤ (6 : Int)) := by omega
        refine mv_callPW (st2 := [mv_I 0]) rfl (Or.inr rfl) rfl rfl rfl (sp_min_f ha88) (by first | decide | omega) ?_
        refine mv_goW 1 (pc' := if 0 = 0 then 10 else 13) (ls' := [mv_R 100, mv_I ((u + 6 : Nat) : Int), mv_I k, mv_U]) (st' := []) (M1 := M) rfl ?_
        refine mv_ttW (by decide) ?_
        refine mv_goW 1 (pc' := 12) (ls' := [mv_R 100, mv_I ((u + 6 : Nat) : Int), mv_I k, mv_U]) (st' := [mv_I (-2)]) (M1 := M) rfl ?_
        exact mv_retW (fun n => rfl) ⟨congrArg mv_I (by first | with_reducible rfl | omega), ⟨V, P, n, B, K, t, h⟩⟩
      · refine mv_goW 2 (pc' := if ((u + 6 : Nat) : Int) < 0 then 23 else 17) (ls' := [mv_R 0, mv_I ((u + 6 : Nat) : Int), mv_I k, mv_U]) (st' := []) (M1 := M) rfl ?_
        refine mv_ffW (by omega) ?_
        refine mv_goW 3 (pc' := if ((u + 6 : Nat) : Int) < 12 then 26 else 23) (ls' := [mv_R 0, mv_I ((u + 6 : Nat) : Int), mv_I k, mv_U]) (st' := []) (M1 := M) rfl ?_
        refine mv_ttW (by omega) ?_
        refine mv_goW 3 (pc' := if 6 = 0 then mv_bad else 30) (ls' := [mv_R 0, mv_I ((u + 6 : Nat) : Int), mv_I k, mv_U]) (st' := [mv_I (mv_w (((u + 6 : Nat) : Int).tmod 6))]) (M1 := M) rfl ?_
        refine mv_ffW (by omega) ?_
        rw [show mv_w (((u + 6 : Nat) : Int).tmod 6) = (u : Int) from by exact sp_tm6b hu]
        refine mv_goW 4 (pc' := 36) (ls' := [mv_R 0, mv_I ((u + 6 : Nat) : Int), mv_I k, mv_I (u : Int)]) (st' := [mv_I (u : Int), mv_R 30]) (M1 := M) rfl ?_
        have ha89 : 0 ≤ (u : Int) ∧ (u : Int) < V 0 9 := by omega
        refine mv_callPW (st2 := [mv_I 1]) rfl (Or.inl rfl) rfl rfl rfl (sp_cisUncle_t_30 hc ho ha89) (by first | decide | omega) ?_
        refine mv_goW 1 (pc' := if 1 = 0 then 42 else 45) (ls' := [mv_R 0, mv_I ((u + 6 : Nat) : Int), mv_I k, mv_I (u : Int)]) (st' := []) (M1 := M) rfl ?_
        refine mv_ffW (by decide) ?_
        refine mv_goW 3 (pc' := if ((u + 6 : Nat) : Int) < 6 then 87 else 51) (ls' := [mv_R 0, mv_I ((u + 6 : Nat) : Int), mv_I k, mv_I (u : Int)]) (st' := []) (M1 := M) rfl ?_
        refine mv_ffW (by omega) ?_
        refine mv_goW 3 (pc' := if k = 6 then 62 else 57) (ls' := [mv_R 0, mv_I ((u + 6 : Nat) : Int), mv_I k, mv_I (u : Int)]) (st' := []) (M1 := M) rfl ?_
        refine mv_spW (fun ha90 => ?_) (fun ha90 => ?_)
        · refine mv_goW 3 (pc' := 67) (ls' := [mv_R 0, mv_I ((u + 6 : Nat) : Int), mv_I k, mv_I (u : Int)]) (st' := [mv_I (u : Int), mv_R 30]) (M1 := M) rfl ?_
          refine mv_callPW (st2 := [mv_I (sp_hired V (u : Int))]) rfl (Or.inl rfl) rfl rfl rfl (sp_hired_30 hc ho) (by first | decide | omega) ?_
          refine mv_goW 3 (pc' := 75) (ls' := [mv_R 0, mv_I ((u + 6 : Nat) : Int), mv_I k, mv_I (u : Int)]) (st' := [mv_I (u : Int), mv_R 30, mv_I (sp_hired V (u : Int))]) (M1 := M) rfl ?_
          refine mv_callPW (st2 := [mv_I (sp_room V u), mv_I (sp_hired V (u : Int))]) rfl (Or.inl rfl) rfl rfl rfl (sp_croom hc ho (by omega)) (by first | decide | omega) ?_
          refine mv_goW 1 (pc' := if (sp_hired V (u : Int)) < (sp_room V u) then 81 else 85) (ls' := [mv_R 0, mv_I ((u + 6 : Nat) : Int), mv_I k, mv_I (u : Int)]) (st' := []) (M1 := M) rfl ?_
          refine mv_spW (fun ha91 => ?_) (fun ha91 => ?_)
          · refine mv_goW 2 (pc' := 86) (ls' := [mv_R 0, mv_I ((u + 6 : Nat) : Int), mv_I k, mv_I (u : Int)]) (st' := [mv_I 1]) (M1 := M) rfl ?_
            refine mv_retW (fun n => rfl) ⟨_, rfl, ?_⟩
            refine mv_goW 3 (pc' := 4) (ls' := [mv_R 100, mv_I ((u + 6 : Nat) : Int), mv_I k, mv_U]) (st' := [mv_I 6, mv_I 0, mv_I k]) (M1 := M) rfl ?_
            have ha92 : (0 : Int) ≤ k ∧ k ≤ (6 : Int) := by omega
            refine mv_callPW (st2 := [mv_I 1]) rfl (Or.inr rfl) rfl rfl rfl (sp_min_t ha92) (by first | decide | omega) ?_
            refine mv_goW 1 (pc' := if 1 = 0 then 10 else 13) (ls' := [mv_R 100, mv_I ((u + 6 : Nat) : Int), mv_I k, mv_U]) (st' := []) (M1 := M) rfl ?_
            refine mv_ffW (by decide) ?_
            refine mv_goW 3 (pc' := 17) (ls' := [mv_R 100, mv_I ((u + 6 : Nat) : Int), mv_I k, mv_U]) (st' := [mv_I 11, mv_I 0, mv_I ((u + 6 : Nat) : Int)]) (M1 := M) rfl ?_
            have ha93 : (0 : Int) ≤ ((u + 6 : Nat) : Int) ∧ ((u + 6 : Nat) : Int) ≤ (11 : Int) := by omega
            refine mv_callPW (st2 := [mv_I 1]) rfl (Or.inr rfl) rfl rfl rfl (sp_min_t ha93) (by first | decide | omega) ?_
            refine mv_goW 1 (pc' := if 1 = 0 then 23 else 26) (ls' := [mv_R 100, mv_I ((u + 6 : Nat) : Int), mv_I k, mv_U]) (st' := []) (M1 := M) rfl ?_
            refine mv_ffW (by decide) ?_
            refine mv_goW 3 (pc' := if 6 = 0 then mv_bad else 30) (ls' := [mv_R 100, mv_I ((u + 6 : Nat) : Int), mv_I k, mv_U]) (st' := [mv_I (mv_w (((u + 6 : Nat) : Int).tmod 6))]) (M1 := M) rfl ?_
            refine mv_ffW (by omega) ?_
            rw [show mv_w (((u + 6 : Nat) : Int).tmod 6) = (u : Int) from by exact sp_tm6b hu]
            refine mv_goW 2 (pc' := 34) (ls' := [mv_R 100, mv_I ((u + 6 : Nat) : Int), mv_I k, mv_U]) (st' := [mv_I (M 100 1), mv_I (u : Int)]) (M1 := M) rfl ?_
            have hr31 := sp_ok_s9 ho
            rw [show M 100 1 = V 0 9 from by exact sp_m_s9 hm]
            refine mv_goW 1 (pc' := if (u : Int) < (V 0 9) then 40 else 37) (ls' := [mv_R 100, mv_I ((u + 6 : Nat) : Int), mv_I k, mv_U]) (st' := []) (M1 := M) rfl ?_
            refine mv_ttW (by omega) ?_
            refine mv_goW 3 (pc' := if ((u + 6 : Nat) : Int) < 6 then 81 else 46) (ls' := [mv_R 100, mv_I ((u + 6 : Nat) : Int), mv_I k, mv_U]) (st' := []) (M1 := M) rfl ?_
            refine mv_ffW (by omega) ?_
            refine mv_goW 7 (pc' := if k = 6 then 62 else 57) (ls' := [mv_R 100, mv_I ((u + 6 : Nat) : Int), mv_I k, mv_I (mv_w (((u + 6 : Nat) : Int) - 6))]) (st' := []) (M1 := M) rfl ?_
            rw [show mv_w (((u + 6 : Nat) : Int) - 6) = ((u + 6 : Nat) : Int) - 6 from mv_w_id (by omega) (by omega)]
            rw [show ((u + 6 : Nat) : Int) - 6 = (u : Int) from by omega]
            refine mv_ttW (by omega) ?_
            refine mv_goW 2 (pc' := 64) (ls' := [mv_R 100, mv_I ((u + 6 : Nat) : Int), mv_I k, mv_I (u : Int)]) (st' := [mv_I (u : Int), mv_R 100]) (M1 := M) rfl ?_
            refine mv_callPW (st2 := [mv_I (sp_hired V (u : Int))]) rfl (Or.inl rfl) rfl rfl rfl (sp_mhired hm ho) (by first | decide | omega) ?_
            refine mv_goW 2 (pc' := 69) (ls' := [mv_R 100, mv_I ((u + 6 : Nat) : Int), mv_I k, mv_I (u : Int)]) (st' := [mv_I (u : Int), mv_R 100, mv_I (sp_hired V (u : Int))]) (M1 := M) rfl ?_
            refine mv_callPW (st2 := [mv_I (sp_room V u), mv_I (sp_hired V (u : Int))]) rfl (Or.inl rfl) rfl rfl rfl (sp_mroom hm ho (by omega)) (by first | decide | omega) ?_
            refine mv_goW 1 (pc' := if (sp_hired V (u : Int)) < (sp_room V u) then 75 else 79) (ls' := [mv_R 100, mv_I ((u + 6 : Nat) : Int), mv_I k, mv_I (u : Int)]) (st' := []) (M1 := M) rfl ?_
            refine mv_ttW (by omega) ?_
            refine mv_goW 2 (pc' := 80) (ls' := [mv_R 100, mv_I ((u + 6 : Nat) : Int), mv_I k, mv_I (u : Int)]) (st' := [mv_I 1]) (M1 := M) rfl ?_
            exact mv_retW (fun n => rfl) ⟨congrArg mv_I (by first | with_reducible rfl | omega), ⟨V, P, n, B, K, t, h⟩⟩
          · refine mv_goW 1 (pc' := 86) (ls' := [mv_R 0, mv_I ((u + 6 : Nat) : Int), mv_I k, mv_I (u : Int)]) (st' := [mv_I 0]) (M1 := M) rfl ?_
            refine mv_retW (fun n => rfl) ⟨_, rfl, ?_⟩
            refine mv_goW 3 (pc' := 4) (ls' := [mv_R 100, mv_I ((u + 6 : Nat) : Int), mv_I k, mv_U]) (st' := [mv_I 6, mv_I 0, mv_I k]) (M1 := M) rfl ?_
            have ha94 : (0 : Int) ≤ k ∧ k ≤ (6 : Int) := by omega
            refine mv_callPW (st2 := [mv_I 1]) rfl (Or.inr rfl) rfl rfl rfl (sp_min_t ha94) (by first | decide | omega) ?_
            refine mv_goW 1 (pc' := if 1 = 0 then 10 else 13) (ls' := [mv_R 100, mv_I ((u + 6 : Nat) : Int), mv_I k, mv_U]) (st' := []) (M1 := M) rfl ?_
            refine mv_ffW (by decide) ?_
            refine mv_goW 3 (pc' := 17) (ls' := [mv_R 100, mv_I ((u + 6 : Nat) : Int), mv_I k, mv_U]) (st' := [mv_I 11, mv_I 0, mv_I ((u + 6 : Nat) : Int)]) (M1 := M) rfl ?_
            have ha95 : (0 : Int) ≤ ((u + 6 : Nat) : Int) ∧ ((u + 6 : Nat) : Int) ≤ (11 : Int) := by omega
            refine mv_callPW (st2 := [mv_I 1]) rfl (Or.inr rfl) rfl rfl rfl (sp_min_t ha95) (by first | decide | omega) ?_
            refine mv_goW 1 (pc' := if 1 = 0 then 23 else 26) (ls' := [mv_R 100, mv_I ((u + 6 : Nat) : Int), mv_I k, mv_U]) (st' := []) (M1 := M) rfl ?_
            refine mv_ffW (by decide) ?_
            refine mv_goW 3 (pc' := if 6 = 0 then mv_bad else 30) (ls' := [mv_R 100, mv_I ((u + 6 : Nat) : Int), mv_I k, mv_U]) (st' := [mv_I (mv_w (((u + 6 : Nat) : Int).tmod 6))]) (M1 := M) rfl ?_
            refine mv_ffW (by omega) ?_
            rw [show mv_w (((u + 6 : Nat) : Int).tmod 6) = (u : Int) from by exact sp_tm6b hu]
            refine mv_goW 2 (pc' := 34) (ls' := [mv_R 100, mv_I ((u + 6 : Nat) : Int), mv_I k, mv_U]) (st' := [mv_I (M 100 1), mv_I (u : Int)]) (M1 := M) rfl ?_
            have hr33 := sp_ok_s9 ho
            rw [show M 100 1 = V 0 9 from by exact sp_m_s9 hm]
            refine mv_goW 1 (pc' := if (u : Int) < (V 0 9) then 40 else 37) (ls' := [mv_R 100, mv_I ((u + 6 : Nat) : Int), mv_I k, mv_U]) (st' := []) (M1 := M) rfl ?_
            refine mv_ttW (by omega) ?_
            refine mv_goW 3 (pc' := if ((u + 6 : Nat) : Int) < 6 then 81 else 46) (ls' := [mv_R 100, mv_I ((u + 6 : Nat) : Int), mv_I k, mv_U]) (st' := []) (M1 := M) rfl ?_
            refine mv_ffW (by omega) ?_
            refine mv_goW 7 (pc' := if k = 6 then 62 else 57) (ls' := [mv_R 100, mv_I ((u + 6 : Nat) : Int), mv_I k, mv_I (mv_w (((u + 6 : Nat) : Int) - 6))]) (st' := []) (M1 := M) rfl ?_
            rw [show mv_w (((u + 6 : Nat) : Int) - 6) = ((u + 6 : Nat) : Int) - 6 from mv_w_id (by omega) (by omega)]
            rw [show ((u + 6 : Nat) : Int) - 6 = (u : Int) from by omega]
            refine mv_ttW (by omega) ?_
            refine mv_goW 2 (pc' := 64) (ls' := [mv_R 100, mv_I ((u + 6 : Nat) : Int), mv_I k, mv_I (u : Int)]) (st' := [mv_I (u : Int), mv_R 100]) (M1 := M) rfl ?_
            refine mv_callPW (st2 := [mv_I (sp_hired V (u : Int))]) rfl (Or.inl rfl) rfl rfl rfl (sp_mhired hm ho) (by first | decide | omega) ?_
            refine mv_goW 2 (pc' := 69) (ls' := [mv_R 100, mv_I ((u + 6 : Nat) : Int), mv_I k, mv_I (u : Int)]) (st' := [mv_I (u : Int), mv_R 100, mv_I (sp_hired V (u : Int))]) (M1 := M) rfl ?_
            refine mv_callPW (st2 := [mv_I (sp_room V u), mv_I (sp_hired V (u : Int))]) rfl (Or.inl rfl) rfl rfl rfl (sp_mroom hm ho (by omega)) (by first | decide | omega) ?_
            refine mv_goW 1 (pc' := if (sp_hired V (u : Int)) < (sp_room V u) then 75 else 79) (ls' := [mv_R 100, mv_I ((u + 6 : Nat) : Int), mv_I k, mv_I (u : Int)]) (st' := []) (M1 := M) rfl ?_
            refine mv_ffW (by omega) ?_
            refine mv_goW 1 (pc' := 80) (ls' := [mv_R 100, mv_I ((u + 6 : Nat) : Int), mv_I k, mv_I (u : Int)]) (st' := [mv_I 0]) (M1 := M) rfl ?_
            exact mv_retW (fun n => rfl) ⟨congrArg mv_I (by first | with_reducible rfl | omega), ⟨V, P, n, B, K, t, h⟩⟩
        · refine mv_goW 2 (pc' := 86) (ls' := [mv_R 0, mv_I ((u + 6 : Nat) : Int), mv_I k, mv_I (u : Int)]) (st' := [mv_I (-13)]) (M1 := M) rfl ?_
          refine mv_retW (fun n => rfl) ⟨_, rfl, ?_⟩
          refine mv_goW 3 (pc' := 4) (ls' := [mv_R 100, mv_I ((u + 6 : Nat) : Int), mv_I k, mv_U]) (st' := [mv_I 6, mv_I 0, mv_I k]) (M1 := M) rfl ?_
          have ha96 : (0 : Int) ≤ k ∧ k ≤ (6 : Int) := by omega
          refine mv_callPW (st2 := [mv_I 1]) rfl (Or.inr rfl) rfl rfl rfl (sp_min_t ha96) (by first | decide | omega) ?_
          refine mv_goW 1 (pc' := if 1 = 0 then 10 else 13) (ls' := [mv_R 100, mv_I ((u + 6 : Nat) : Int), mv_I k, mv_U]) (st' := []) (M1 := M) rfl ?_
          refine mv_ffW (by decide) ?_
          refine mv_goW 3 (pc' := 17) (ls' := [mv_R 100, mv_I ((u + 6 : Nat) : Int), mv_I k, mv_U]) (st' := [mv_I 11, mv_I 0, mv_I ((u + 6 : Nat) : Int)]) (M1 := M) rfl ?_
          have ha97 : (0 : Int) ≤ ((u + 6 : Nat) : Int) ∧ ((u + 6 : Nat) : Int) ≤ (11 : Int) := by omega
          refine mv_callPW (st2 := [mv_I 1]) rfl (Or.inr rfl) rfl rfl rfl (sp_min_t ha97) (by first | decide | omega) ?_
          refine mv_goW 1 (pc' := if 1 = 0 then 23 else 26) (ls' := [mv_R 100, mv_I ((u + 6 : Nat) : Int), mv_I k, mv_U]) (st' := []) (M1 := M) rfl ?_
          refine mv_ffW (by decide) ?_
          refine mv_goW 3 (pc' := if 6 = 0 then mv_bad else 30) (ls' := [mv_R 100, mv_I ((u + 6 : Nat) : Int), mv_I k, mv_U]) (st' := [mv_I (mv_w (((u + 6 : Nat) : Int).tmod 6))]) (M1 := M) rfl ?_
          refine mv_ffW (by omega) ?_
          rw [show mv_w (((u + 6 : Nat) : Int).tmod 6) = (u : Int) from by exact sp_tm6b hu]
          refine mv_goW 2 (pc' := 34) (ls' := [mv_R 100, mv_I ((u + 6 : Nat) : Int), mv_I k, mv_U]) (st' := [mv_I (M 100 1), mv_I (u : Int)]) (M1 := M) rfl ?_
          have hr35 := sp_ok_s9 ho
          rw [show M 100 1 = V 0 9 from by exact sp_m_s9 hm]
          refine mv_goW 1 (pc' := if (u : Int) < (V 0 9) then 40 else 37) (ls' := [mv_R 100, mv_I ((u + 6 : Nat) : Int), mv_I k, mv_U]) (st' := []) (M1 := M) rfl ?_
          refine mv_ttW (by omega) ?_
          refine mv_goW 3 (pc' := if ((u + 6 : Nat) : Int) < 6 then 81 else 46) (ls' := [mv_R 100, mv_I ((u + 6 : Nat) : Int), mv_I k, mv_U]) (st' := []) (M1 := M) rfl ?_
          refine mv_ffW (by omega) ?_
          refine mv_goW 7 (pc' := if k = 6 then 62 else 57) (ls' := [mv_R 100, mv_I ((u + 6 : Nat) : Int), mv_I k, mv_I (mv_w (((u + 6 : Nat) : Int) - 6))]) (st' := []) (M1 := M) rfl ?_
          rw [show mv_w (((u + 6 : Nat) : Int) - 6) = ((u + 6 : Nat) : Int) - 6 from mv_w_id (by omega) (by omega)]
          rw [show ((u + 6 : Nat) : Int) - 6 = (u : Int) from by omega]
          refine mv_ffW (by omega) ?_
          refine mv_goW 2 (pc' := 80) (ls' := [mv_R 100, mv_I ((u + 6 : Nat) : Int), mv_I k, mv_I (u : Int)]) (st' := [mv_I (-13)]) (M1 := M) rfl ?_
          exact mv_retW (fun n => rfl) ⟨congrArg mv_I (by first | with_reducible rfl | omega), ⟨V, P, n, B, K, t, h⟩⟩
theorem sp_k35_2 (u x : Nat) (k : Int) (hx : x = 0 ∨ x = 6) (hu : u < 6) : ∀ V P n B K t M, sp_R V P n B K t M → (u : Int) < V 0 9 → V 4 u = 2 → mv_W 20 96 0 [mv_R 0, mv_I ((u + x : Nat) : Int), mv_I k, mv_U] [] M (fun v M1 => ∃ z, v = mv_I z ∧ mv_W 20 192 0 [mv_R 100, mv_I ((u + x : Nat) : Int), mv_I k, mv_U] [] M1 (fun w M2 => w = mv_I z ∧ sp_Inv M2)) := by
  intro V P n B K t M h hn hk
  have h' := h
  obtain ⟨⟨hc, hm, ho⟩, _⟩ := h'
  have h9 := sp_ok_s9 ho
  rcases hx with q | q
  · subst q
    rw [Nat.add_zero]
    refine mv_goW 2 (pc' := if k < 0 then 10 else 4) (ls' := [mv_R 0, mv_I (u : Int), mv_I k, mv_U]) (st' := []) (M1 := M) rfl ?_
    refine mv_spW (fun ha98 => ?_) (fun ha98 => ?_)
    · refine mv_goW 1 (pc' := 12) (ls' := [mv_R 0, mv_I (u : Int), mv_I k, mv_U]) (st' := [mv_I (-2)]) (M1 := M) rfl ?_
      refine mv_retW (fun n => rfl) ⟨_, rfl, ?_⟩
      refine mv_goW 3 (pc' := 4) (ls' := [mv_R 100, mv_I (u : Int), mv_I k, mv_U]) (st' := [mv_I 6, mv_I 0, mv_I k]) (M1 := M) rfl ?_
      have ha99 : ¬ ((0 : Int) ≤ k ∧ k ≤ (6 : Int)) := by omega
      refine mv_callPW (st2 := [mv_I 0]) rfl (Or.inr rfl) rfl rfl rfl (sp_min_f ha99) (by first | decide | omega) ?_
      refine mv_goW 1 (pc' := if 0 = 0 then 10 else 13) (ls' := [mv_R 100, mv_I (u : Int), mv_I k, mv_U]) (st' := []) (M1 := M) rfl ?_
      refine mv_ttW (by decide) ?_
      refine mv_goW 1 (pc' := 12) (ls' := [mv_R 100, mv_I (u : Int), mv_I k, mv_U]) (st' := [mv_I (-2)]) (M1 := M) rfl ?_
      exact mv_retW (fun n => rfl) ⟨congrArg mv_I (by first | with_reducible rfl | omega), ⟨V, P, n, B, K, t, h⟩⟩
    · refine mv_goW 3 (pc' := if 6 < k then 10 else 13) (ls' := [mv_R 0, mv_I (u : Int), mv_I k, mv_U]) (st' := []) (M1 := M) rfl ?_
      refine mv_spW (fun ha100 => ?_) (fun ha100 => ?_)
      · refine mv_goW 1 (pc' := 12) (ls' := [mv_R 0, mv_I (u : Int), mv_I k, mv_U]) (st' := [mv_I (-2)]) (M1 := M) rfl ?_
        refine mv_retW (fun n => rfl) ⟨_, rfl, ?_⟩
        refine mv_goW 3 (pc' := 4) (ls' := [mv_R 100, mv_I (u : Int), mv_I k, mv_U]) (st' := [mv_I 6, mv_I 0, mv_I k]) (M1 := M) rfl ?_
        have ha101 : ¬ ((0 : Int) ≤ k ∧ k ≤ (6 : Int)) := by omega
        refine mv_callPW (st2 := [mv_I 0]) rfl (Or.inr rfl) rfl rfl rfl (sp_min_f ha101) (by first | decide | omega) ?_
        refine mv_goW 1 (pc' := if 0 = 0 then 10 else 13) (ls' := [mv_R 100, mv_I (u : Int), mv_I k, mv_U]) (st' := []) (M1 := M) rfl ?_
        refine mv_ttW (by decide) ?_
        refine mv_goW 1 (pc' := 12) (ls' := [mv_R 100, mv_I (u : Int), mv_I k, mv_U]) (st' := [mv_I (-2)]) (M1 := M) rfl ?_
        exact mv_retW (fun n => rfl) ⟨congrArg mv_I (by first | with_reducible rfl | omega), ⟨V, P, n, B, K, t, h⟩⟩
      · refine mv_goW 2 (pc' := if (u : Int) < 0 then 23 else 17) (ls' := [mv_R 0, mv_I (u : Int), mv_I k, mv_U]) (st' := []) (M1 := M) rfl ?_
        refine mv_ffW (by omega) ?_
        refine mv_goW 3 (pc' := if (u : Int) < 12 then 26 else 23) (ls' := [mv_R 0, mv_I (u : Int), mv_I k, mv_U]) (st' := []) (M1 := M) rfl ?_
        refine mv_ttW (by omega) ?_
        refine mv_goW 3 (pc' := if 6 = 0 then mv_bad else 30) (ls' := [mv_R 0, mv_I (u : Int), mv_I k, mv_U]) (st' := [mv_I (mv_w ((u : Int).tmod 6))]) (M1 := M) rfl ?_
        refine mv_ffW (by omega) ?_
        rw [show mv_w ((u : Int).tmod 6) = (u : Int) from by exact sp_tm6a hu]
        refine mv_goW 4 (pc' := 36) (ls' := [mv_R 0, mv_I (u : Int), mv_I k, mv_I (u : Int)]) (st' := [mv_I (u : Int), mv_R 30]) (M1 := M) rfl ?_
        have ha102 : 0 ≤ (u : Int) ∧ (u : Int) < V 0 9 := by omega
        refine mv_callPW (st2 := [mv_I 1]) rfl (Or.inl rfl) rfl rfl rfl (sp_cisUncle_t_30 hc ho ha102) (by first | decide | omega) ?_
        refine mv_goW 1 (pc' := if 1 = 0 then 42 else 45) (ls' := [mv_R 0, mv_I (u : Int), mv_I k, mv_I (u : Int)]) (st' := []) (M1 := M) rfl ?_
        refine mv_ffW (by decide) ?_
        refine mv_goW 3 (pc' := if (u : Int) < 6 then 87 else 51) (ls' := [mv_R 0, mv_I (u : Int), mv_I k, mv_I (u : Int)]) (st' := []) (M1 := M) rfl ?_
        refine mv_ttW (by omega) ?_
        refine mv_goW 5 (pc' := if 0 ≤ (u : Int) ∧ (u : Int) < 6 then 96 else mv_bad) (ls' := [mv_R 0, mv_I (u : Int), mv_I k, mv_I (u : Int)]) (st' := [mv_I (M 34 u)]) (M1 := M) rfl ?_
        refine mv_ttW (by omega) ?_
        have hr37 := sp_ok_4 ho u (by omega)
        rw [show M 34 u = V 4 u from by exact sp_c_4 hc u (by omega)]
        rw [show V 4 u = 2 from by exact hk]
        refine mv_goW 1 (pc' := 97) (ls' := [mv_R 0, mv_I (u : Int), mv_I k, mv_I (u : Int)]) (st' := [mv_I k, mv_I 2]) (M1 := M) rfl ?_
        by_cases ha103 : k = 2 ∨ k = 0
        · refine mv_callPW (st2 := [mv_I 1]) rfl (Or.inr rfl) rfl rfl rfl (sp_isOf_2_t ha103) (by first | decide | omega) ?_
          refine mv_goW 1 (pc' := if 1 = 0 then 107 else 103) (ls' := [mv_R 0, mv_I (u : Int), mv_I k, mv_I (u : Int)]) (st' := []) (M1 := M) rfl ?_
          refine mv_ffW (by decide) ?_
          refine mv_goW 2 (pc' := 109) (ls' := [mv_R 0, mv_I (u : Int), mv_I k, mv_I (u : Int)]) (st' := [mv_I (u : Int)]) (M1 := M) rfl ?_
          refine mv_retW (fun n => rfl) ⟨_, rfl, ?_⟩
          refine mv_goW 3 (pc' := 4) (ls' := [mv_R 100, mv_I (u : Int), mv_I k, mv_U]) (st' := [mv_I 6, mv_I 0, mv_I k]) (M1 := M) rfl ?_
          have ha104 : (0 : Int) ≤ k ∧ k ≤ (6 : Int) := by omega
          refine mv_callPW (st2 := [mv_I 1]) rfl (Or.inr rfl) rfl rfl rfl (sp_min_t ha104) (by first | decide | omega) ?_
          refine mv_goW 1 (pc' := if 1 = 0 then 10 else 13) (ls' := [mv_R 100, mv_I (u : Int), mv_I k, mv_U]) (st' := []) (M1 := M) rfl ?_
          refine mv_ffW (by decide) ?_
          refine mv_goW 3 (pc' := 17) (ls' := [mv_R 100, mv_I (u : Int), mv_I k, mv_U]) (st' := [mv_I 11, mv_I 0, mv_I (u : Int)]) (M1 := M) rfl ?_
          have ha105 : (0 : Int) ≤ (u : Int) ∧ (u : Int) ≤ (11 : Int) := by omega
          refine mv_callPW (st2 := [mv_I 1]) rfl (Or.inr rfl) rfl rfl rfl (sp_min_t ha105) (by first | decide | omega) ?_
          refine mv_goW 1 (pc' := if 1 = 0 then 23 else 26) (ls' := [mv_R 100, mv_I (u : Int), mv_I k, mv_U]) (st' := []) (M1 := M) rfl ?_
          refine mv_ffW (by decide) ?_
          refine mv_goW 3 (pc' := if 6 = 0 then mv_bad else 30) (ls' := [mv_R 100, mv_I (u : Int), mv_I k, mv_U]) (st' := [mv_I (mv_w ((u : Int).tmod 6))]) (M1 := M) rfl ?_
          refine mv_ffW (by omega) ?_
          rw [show mv_w ((u : Int).tmod 6) = (u : Int) from by exact sp_tm6a hu]
          refine mv_goW 2 (pc' := 34) (ls' := [mv_R 100, mv_I (u : Int), mv_I k, mv_U]) (st' := [mv_I (M 100 1), mv_I (u : Int)]) (M1 := M) rfl ?_
          have hr39 := sp_ok_s9 ho
          rw [show M 100 1 = V 0 9 from by exact sp_m_s9 hm]
          refine mv_goW 1 (pc' := if (u : Int) < (V 0 9) then 40 else 37) (ls' := [mv_R 100, mv_I (u : Int), mv_I k, mv_U]) (st' := []) (M1 := M) rfl ?_
          refine mv_ttW (by omega) ?_
          refine mv_goW 3 (pc' := if (u : Int) < 6 then 81 else 46) (ls' := [mv_R 100, mv_I (u : Int), mv_I k, mv_U]) (st' := []) (M1 := M) rfl ?_
          refine mv_ttW (by omega) ?_
          refine mv_goW 3 (pc' := if k < 6 then 87 else 104) (ls' := [mv_R 100, mv_I (u : Int), mv_I k, mv_U]) (st' := []) (M1 := M) rfl ?_
          refine mv_ttW (by omega) ?_
          refine mv_goW 4 (pc' := if 0 ≤ (u : Int) ∧ (u : Int) < 6 then 93 else mv_bad) (ls' := [mv_R 100, mv_I (u : Int), mv_I k, mv_U]) (st' := [mv_I (M 102 u)]) (M1 := M) rfl ?_
          refine mv_ttW (by omega) ?_
          have hr41 := sp_ok_4 ho u (by omega)
          rw [show M 102 u = V 4 u from by exact sp_m_4 hm u (by omega)]
          rw [show V 4 u = 2 from by exact hk]
          refine mv_goW 1 (pc' := 94) (ls' := [mv_R 100, mv_I (u : Int), mv_I k, mv_U]) (st' := [mv_I k, mv_I 2]) (M1 := M) rfl ?_
          have ha106 : k = 2 ∨ k = 0 := by omega
          refine mv_callPW (st2 := [mv_I 1]) rfl (Or.inr rfl) rfl rfl rfl (sp_isUn_2_t ha106) (by first | decide | omega) ?_
          refine mv_goW 1 (pc' := if 1 = 0 then 104 else 100) (ls' := [mv_R 100, mv_I (u : Int), mv_I k, mv_U]) (st' := []) (M1 := M) rfl ?_
          refine mv_ffW (by decide) ?_
          refine mv_goW 2 (pc' := 106) (ls' := [mv_R 100, mv_I (u : Int), mv_I k, mv_U]) (st' := [mv_I (u : Int)]) (M1 := M) rfl ?_
          exact mv_retW (fun n => rfl) ⟨congrArg mv_I (by first | with_reducible rfl | omega), ⟨V, P, n, B, K, t, h⟩⟩
        · refine mv_callPW (st2 := [mv_I 0]) rfl (Or.inr rfl) rfl rfl rfl (sp_isOf_2_f ha103) (by first | decide | omega) ?_
          refine mv_goW 1 (pc' := if 0 = 0 then 107 else 103) (ls' := [mv_R 0, mv_I (u : Int), mv_I k, mv_I (u : Int)]) (st' := []) (M1 := M) rfl ?_
          refine mv_ttW (by decide) ?_
          refine mv_goW 1 (pc' := 109) (ls' := [mv_R 0, mv_I (u : Int), mv_I k, mv_I (u : Int)]) (st' := [mv_I (-13)]) (M1 := M) rfl ?_
          refine mv_retW (fun n => rfl) ⟨_, rfl, ?_⟩
          refine mv_goW 3 (pc' := 4) (ls' := [mv_R 100, mv_I (u : Int), mv_I k, mv_U]) (st' := [mv_I 6, mv_I 0, mv_I k]) (M1 := M) rfl ?_
          have ha107 : (0 : Int) ≤ k ∧ k ≤ (6 : Int) := by omega
          refine mv_callPW (st2 := [mv_I 1]) rfl (Or.inr rfl) rfl rfl rfl (sp_min_t ha107) (by first | decide | omega) ?_
          refine mv_goW 1 (pc' := if 1 = 0 then 10 else 13) (ls' := [mv_R 100, mv_I (u : Int), mv_I k, mv_U]) (st' := []) (M1 := M) rfl ?_
          refine mv_ffW (by decide) ?_
          refine mv_goW 3 (pc' := 17) (ls' := [mv_R 100, mv_I (u : Int), mv_I k, mv_U]) (st' := [mv_I 11, mv_I 0, mv_I (u : Int)]) (M1 := M) rfl ?_
          have ha108 : (0 : Int) ≤ (u : Int) ∧ (u : Int) ≤ (11 : Int) := by omega
          refine mv_callPW (st2 := [mv_I 1]) rfl (Or.inr rfl) rfl rfl rfl (sp_min_t ha108) (by first | decide | omega) ?_
          refine mv_goW 1 (pc' := if 1 = 0 then 23 else 26) (ls' := [mv_R 100, mv_I (u : Int), mv_I k, mv_U]) (st' := []) (M1 := M) rfl ?_
          refine mv_ffW (by decide) ?_
          refine mv_goW 3 (pc' := if 6 = 0 then mv_bad else 30) (ls' := [mv_R 100, mv_I (u : Int), mv_I k, mv_U]) (st' := [mv_I (mv_w ((u : Int).tmod 6))]) (M1 := M) rfl ?_
          refine mv_ffW (by omega) ?_
          rw [show mv_w ((u : Int).tmod 6) = (u : Int) from by exact sp_tm6a hu]
          refine mv_goW 2 (pc' := 34) (ls' := [mv_R 100, mv_I (u : Int), mv_I k, mv_U]) (st' := [mv_I (M 100 1), mv_I (u : Int)]) (M1 := M) rfl ?_
          have hr43 := sp_ok_s9 ho
          rw [show M 100 1 = V 0 9 from by exact sp_m_s9 hm]
          refine mv_goW 1 (pc' := if (u : Int) < (V 0 9) then 40 else 37) (ls' := [mv_R 100, mv_I (u : Int), mv_I k, mv_U]) (st' := []) (M1 := M) rfl ?_
          refine mv_ttW (by omega) ?_
          refine mv_goW 3 (pc' := if (u : Int) < 6 then 81 else 46) (ls' := [mv_R 100, mv_I (u : Int), mv_I k, mv_U]) (st' := []) (M1 := M) rfl ?_
          refine mv_ttW (by omega) ?_
          refine mv_goW 3 (pc' := if k < 6 then 87 else 104) (ls' := [mv_R 100, mv_I (u : Int), mv_I k, mv_U]) (st' := []) (M1 := M) rfl ?_
          refine mv_spW (fun ha109 => ?_) (fun ha109 => ?_)
          · refine mv_goW 4 (pc' := if 0 ≤ (u : Int) ∧ (u : Int) < 6 then 93 else mv_bad) (ls' := [mv_R 100, mv_I (u : Int), mv_I k, mv_U]) (st' := [mv_I (M 102 u)]) (M1 := M) rfl ?_
            refine mv_ttW (by omega) ?_
            have hr45 := sp_ok_4 ho u (by omega)
            rw [show M 102 u = V 4 u from by exact sp_m_4 hm u (by omega)]
            rw [show V 4 u = 2 from by exact hk]
            refine mv_goW 1 (pc' := 94) (ls' := [mv_R 100, mv_I (u : Int), mv_I k, mv_U]) (st' := [mv_I k, mv_I 2]) (M1 := M) rfl ?_
            have ha110 : ¬ (k = 2 ∨ k = 0) := by omega
            refine mv_callPW (st2 := [mv_I 0]) rfl (Or.inr rfl) rfl rfl rfl (sp_isUn_2_f ha110) (by first | decide | omega) ?_
            refine mv_goW 1 (pc' := if 0 = 0 then 104 else 100) (ls' := [mv_R 100, mv_I (u : Int), mv_I k, mv_U]) (st' := []) (M1 := M) rfl ?_
            refine mv_ttW (by decide) ?_
            refine mv_goW 1 (pc' := 106) (ls' := [mv_R 100, mv_I (u : Int), mv_I k, mv_U]) (st' := [mv_I (-13)]) (M1 := M) rfl ?_
            exact mv_retW (fun n => rfl) ⟨congrArg mv_I (by first | with_reducible rfl | omega), ⟨V, P, n, B, K, t, h⟩⟩
          · refine mv_goW 1 (pc' := 106) (ls' := [mv_R 100, mv_I (u : Int), mv_I k, mv_U]) (st' := [mv_I (-13)]) (M1 := M) rfl ?_
            exact mv_retW (fun n => rfl) ⟨congrArg mv_I (by first | with_reducible rfl | omega), ⟨V, P, n, B, K, t, h⟩⟩
  · subst q
    refine mv_goW 2 (pc' := if k < 0 then 10 else 4) (ls' := [mv_R 0, mv_I ((u + 6 : Nat) : Int), mv_I k, mv_U]) (st' := []) (M1 := M) rfl ?_
    refine mv_spW (fun ha111 => ?_) (fun ha111 => ?_)
    · refine mv_goW 1 (pc' := 12) (ls' := [mv_R 0, mv_I ((u + 6 : Nat) : Int), mv_I k, mv_U]) (st' := [mv_I (-2)]) (M1 := M) rfl ?_
      refine mv_retW (fun n => rfl) ⟨_, rfl, ?_⟩
      refine mv_goW 3 (pc' := 4) (ls' := [mv_R 100, mv_I ((u + 6 : Nat) : Int), mv_I k, mv_U]) (st' := [mv_I 6, mv_I 0, mv_I k]) (M1 := M) rfl ?_
      have ha112 : ¬ ((0 : Int) ≤ k ∧ k ≤ (6 : Int)) := by omega
      refine mv_callPW (st2 := [mv_I 0]) rfl (Or.inr rfl) rfl rfl rfl (sp_min_f ha112) (by first | decide | omega) ?_
      refine mv_goW 1 (pc' := if 0 = 0 then 10 else 13) (ls' := [mv_R 100, mv_I ((u + 6 : Nat) : Int), mv_I k, mv_U]) (st' := []) (M1 := M) rfl ?_
      refine mv_ttW (by decide) ?_
      refine mv_goW 1 (pc' := 12) (ls' := [mv_R 100, mv_I ((u + 6 : Nat) : Int), mv_I k, mv_U]) (st' := [mv_I (-2)]) (M1 := M) rfl ?_
      exact mv_retW (fun n => rfl) ⟨congrArg mv_I (by first | with_reducible rfl | omega), ⟨V, P, n, B, K, t, h⟩⟩
    · refine mv_goW 3 (pc' := if 6 < k then 10 else 13) (ls' := [mv_R 0, mv_I ((u + 6 : Nat) : Int), mv_I k, mv_U]) (st' := []) (M1 := M) rfl ?_
      refine mv_spW (fun ha113 => ?_) (fun ha113 => ?_)
      · refine mv_goW 1 (pc' := 12) (ls' := [mv_R 0, mv_I ((u + 6 : Nat) : Int), mv_I k, mv_U]) (st' := [mv_I (-2)]) (M1 := M) rfl ?_
        refine mv_retW (fun n => rfl) ⟨_, rfl, ?_⟩
        refine mv_goW 3 (pc' := 4) (ls' := [mv_R 100, mv_I ((u + 6 : Nat) : Int), mv_I k, mv_U]) (st' := [mv_I 6, mv_I 0, mv_I k]) (M1 := M) rfl ?_
        have ha114 : ¬ ((0 : Int) ≤ k ∧ k ≤ (6 : Int)) := by omega
        refine mv_callPW (st2 := [mv_I 0]) rfl (Or.inr rfl) rfl rfl rfl (sp_min_f ha114) (by first | decide | omega) ?_
        refine mv_goW 1 (pc' := if 0 = 0 then 10 else 13) (ls' := [mv_R 100, mv_I ((u + 6 : Nat) : Int), mv_I k, mv_U]) (st' := []) (M1 := M) rfl ?_
        refine mv_ttW (by decide) ?_
        refine mv_goW 1 (pc' := 12) (ls' := [mv_R 100, mv_I ((u + 6 : Nat) : Int), mv_I k, mv_U]) (st' := [mv_I (-2)]) (M1 := M) rfl ?_
        exact mv_retW (fun n => rfl) ⟨congrArg mv_I (by first | with_reducible rfl | omega), ⟨V, P, n, B, K, t, h⟩⟩
      · refine mv_goW 2 (pc' := if ((u + 6 : Nat) : Int) < 0 then 23 else 17) (ls' := [mv_R 0, mv_I ((u + 6 : Nat) : Int), mv_I k, mv_U]) (st' := []) (M1 := M) rfl ?_
        refine mv_ffW (by omega) ?_
        refine mv_goW 3 (pc' := if ((u + 6 : Nat) : Int) < 12 then 26 else 23) (ls' := [mv_R 0, mv_I ((u + 6 : Nat) : Int), mv_I k, mv_U]) (st' := []) (M1 := M) rfl ?_
        refine mv_ttW (by omega) ?_
        refine mv_goW 3 (pc' := if 6 = 0 then mv_bad else 30) (ls' := [mv_R 0, mv_I ((u + 6 : Nat) : Int), mv_I k, mv_U]) (st' := [mv_I (mv_w (((u + 6 : Nat) : Int).tmod 6))]) (M1 := M) rfl ?_
        refine mv_ffW (by omega) ?_
        rw [show mv_w (((u + 6 : Nat) : Int).tmod 6) = (u : Int) from by exact sp_tm6b hu]
        refine mv_goW 4 (pc' := 36) (ls' := [mv_R 0, mv_I ((u + 6 : Nat) : Int), mv_I k, mv_I (u : Int)]) (st' := [mv_I (u : Int), mv_R 30]) (M1 := M) rfl ?_
        have ha115 : 0 ≤ (u : Int) ∧ (u : Int) < V 0 9 := by omega
        refine mv_callPW (st2 := [mv_I 1]) rfl (Or.inl rfl) rfl rfl rfl (sp_cisUncle_t_30 hc ho ha115) (by first | decide | omega) ?_
        refine mv_goW 1 (pc' := if 1 = 0 then 42 else 45) (ls' := [mv_R 0, mv_I ((u + 6 : Nat) : Int), mv_I k, mv_I (u : Int)]) (st' := []) (M1 := M) rfl ?_
        refine mv_ffW (by decide) ?_
        refine mv_goW 3 (pc' := if ((u + 6 : Nat) : Int) < 6 then 87 else 51) (ls' := [mv_R 0, mv_I ((u + 6 : Nat) : Int), mv_I k, mv_I (u : Int)]) (st' := []) (M1 := M) rfl ?_
        refine mv_ffW (by omega) ?_
        refine mv_goW 3 (pc' := if k = 6 then 62 else 57) (ls' := [mv_R 0, mv_I ((u + 6 : Nat) : Int), mv_I k, mv_I (u : Int)]) (st' := []) (M1 := M) rfl ?_
        refine mv_spW (fun ha116 => ?_) (fun ha116 => ?_)
        · refine mv_goW 3 (pc' := 67) (ls' := [mv_R 0, mv_I ((u + 6 : Nat) : Int), mv_I k, mv_I (u : Int)]) (st' := [mv_I (u : Int), mv_R 30]) (M1 := M) rfl ?_
          refine mv_callPW (st2 := [mv_I (sp_hired V (u : Int))]) rfl (Or.inl rfl) rfl rfl rfl (sp_hired_30 hc ho) (by first | decide | omega) ?_
          refine mv_goW 3 (pc' := 75) (ls' := [mv_R 0, mv_I ((u + 6 : Nat) : Int), mv_I k, mv_I (u : Int)]) (st' := [mv_I (u : Int), mv_R 30, mv_I (sp_hired V (u : Int))]) (M1 := M) rfl ?_
          refine mv_callPW (st2 := [mv_I (sp_room V u), mv_I (sp_hired V (u : Int))]) rfl (Or.inl rfl) rfl rfl rfl (sp_croom hc ho (by omega)) (by first | decide | omega) ?_
          refine mv_goW 1 (pc' := if (sp_hired V (u : Int)) < (sp_room V u) then 81 else 85) (ls' := [mv_R 0, mv_I ((u + 6 : Nat) : Int), mv_I k, mv_I (u : Int)]) (st' := []) (M1 := M) rfl ?_
          refine mv_spW (fun ha117 => ?_) (fun ha117 => ?_)
          · refine mv_goW 2 (pc' := 86) (ls' := [mv_R 0, mv_I ((u + 6 : Nat) : Int), mv_I k, mv_I (u : Int)]) (st' := [mv_I 1]) (M1 := M) rfl ?_
            refine mv_retW (fun n => rfl) ⟨_, rfl, ?_⟩
            refine mv_goW 3 (pc' := 4) (ls' := [mv_R 100, mv_I ((u + 6 : Nat) : Int), mv_I k, mv_U]) (st' := [mv_I 6, mv_I 0, mv_I k]) (M1 := M) rfl ?_
            have ha118 : (0 : Int) ≤ k ∧ k ≤ (6 : Int) := by omega
            refine mv_callPW (st2 := [mv_I 1]) rfl (Or.inr rfl) rfl rfl rfl (sp_min_t ha118) (by first | decide | omega) ?_
            refine mv_goW 1 (pc' := if 1 = 0 then 10 else 13) (ls' := [mv_R 100, mv_I ((u + 6 : Nat) : Int), mv_I k, mv_U]) (st' := []) (M1 := M) rfl ?_
            refine mv_ffW (by decide) ?_
            refine mv_goW 3 (pc' := 17) (ls' := [mv_R 100, mv_I ((u + 6 : Nat) : Int), mv_I k, mv_U]) (st' := [mv_I 11, mv_I 0, mv_I ((u + 6 : Nat) : Int)]) (M1 := M) rfl ?_
            have ha119 : (0 : Int) ≤ ((u + 6 : Nat) : Int) ∧ ((u + 6 : Nat) : Int) ≤ (11 : Int) := by omega
            refine mv_callPW (st2 := [mv_I 1]) rfl (Or.inr rfl) rfl rfl rfl (sp_min_t ha119) (by first | decide | omega) ?_
            refine mv_goW 1 (pc' := if 1 = 0 then 23 else 26) (ls' := [mv_R 100, mv_I ((u + 6 : Nat) : Int), mv_I k, mv_U]) (st' := []) (M1 := M) rfl ?_
            refine mv_ffW (by decide) ?_
            refine mv_goW 3 (pc' := if 6 = 0 then mv_bad else 30) (ls' := [mv_R 100, mv_I ((u + 6 : Nat) : Int), mv_I k, mv_U]) (st' := [mv_I (mv_w (((u + 6 : Nat) : Int).tmod 6))]) (M1 := M) rfl ?_
            refine mv_ffW (by omega) ?_
            rw [show mv_w (((u + 6 : Nat) : Int).tmod 6) = (u : Int) from by exact sp_tm6b hu]
            refine mv_goW 2 (pc' := 34) (ls' := [mv_R 100, mv_I ((u + 6 : Nat) : Int), mv_I k, mv_U]) (st' := [mv_I (M 100 1), mv_I (u : Int)]) (M1 := M) rfl ?_
            have hr47 := sp_ok_s9 ho
            rw [show M 100 1 = V 0 9 from by exact sp_m_s9 hm]
            refine mv_goW 1 (pc' := if (u : Int) < (V 0 9) then 40 else 37) (ls' := [mv_R 100, mv_I ((u + 6 : Nat) : Int), mv_I k, mv_U]) (st' := []) (M1 := M) rfl ?_
            refine mv_ttW (by omega) ?_
            refine mv_goW 3 (pc' := if ((u + 6 : Nat) : Int) < 6 then 81 else 46) (ls' := [mv_R 100, mv_I ((u + 6 : Nat) : Int), mv_I k, mv_U]) (st' := []) (M1 := M) rfl ?_
            refine mv_ffW (by omega) ?_
            refine mv_goW 7 (pc' := if k = 6 then 62 else 57) (ls' := [mv_R 100, mv_I ((u + 6 : Nat) : Int), mv_I k, mv_I (mv_w (((u + 6 : Nat) : Int) - 6))]) (st' := []) (M1 := M) rfl ?_
            rw [show mv_w (((u + 6 : Nat) : Int) - 6) = ((u + 6 : Nat) : Int) - 6 from mv_w_id (by omega) (by omega)]
            rw [show ((u + 6 : Nat) : Int) - 6 = (u : Int) from by omega]
            refine mv_ttW (by omega) ?_
            refine mv_goW 2 (pc' := 64) (ls' := [mv_R 100, mv_I ((u + 6 : Nat) : Int), mv_I k, mv_I (u : Int)]) (st' := [mv_I (u : Int), mv_R 100]) (M1 := M) rfl ?_
            refine mv_callPW (st2 := [mv_I (sp_hired V (u : Int))]) rfl (Or.inl rfl) rfl rfl rfl (sp_mhired hm ho) (by first | decide | omega) ?_
            refine mv_goW 2 (pc' := 69) (ls' := [mv_R 100, mv_I ((u + 6 : Nat) : Int), mv_I k, mv_I (u : Int)]) (st' := [mv_I (u : Int), mv_R 100, mv_I (sp_hired V (u : Int))]) (M1 := M) rfl ?_
            refine mv_callPW (st2 := [mv_I (sp_room V u), mv_I (sp_hired V (u : Int))]) rfl (Or.inl rfl) rfl rfl rfl (sp_mroom hm ho (by omega)) (by first | decide | omega) ?_
            refine mv_goW 1 (pc' := if (sp_hired V (u : Int)) < (sp_room V u) then 75 else 79) (ls' := [mv_R 100, mv_I ((u + 6 : Nat) : Int), mv_I k, mv_I (u : Int)]) (st' := []) (M1 := M) rfl ?_
            refine mv_ttW (by omega) ?_
            refine mv_goW 2 (pc' := 80) (ls' := [mv_R 100, mv_I ((u + 6 : Nat) : Int), mv_I k, mv_I (u : Int)]) (st' := [mv_I 1]) (M1 := M) rfl ?_
            exact mv_retW (fun n => rfl) ⟨congrArg mv_I (by first | with_reducible rfl | omega), ⟨V, P, n, B, K, t, h⟩⟩
          · refine mv_goW 1 (pc' := 86) (ls' := [mv_R 0, mv_I ((u + 6 : Nat) : Int), mv_I k, mv_I (u : Int)]) (st' := [mv_I 0]) (M1 := M) rfl ?_
            refine mv_retW (fun n => rfl) ⟨_, rfl, ?_⟩
            refine mv_goW 3 (pc' := 4) (ls' := [mv_R 100, mv_I ((u + 6 : Nat) : Int), mv_I k, mv_U]) (st' := [mv_I 6, mv_I 0, mv_I k]) (M1 := M) rfl ?_
            have ha120 : (0 : Int) ≤ k ∧ k ≤ (6 : Int) := by omega
            refine mv_callPW (st2 := [mv_I 1]) rfl (Or.inr rfl) rfl rfl rfl (sp_min_t ha120) (by first | decide | omega) ?_
            refine mv_goW 1 (pc' := if 1 = 0 then 10 else 13) (ls' := [mv_R 100, mv_I ((u + 6 : Nat) : Int), mv_I k, mv_U]) (st' := []) (M1 := M) rfl ?_
            refine mv_ffW (by decide) ?_
            refine mv_goW 3 (pc' := 17) (ls' := [mv_R 100, mv_I ((u + 6 : Nat) : Int), mv_I k, mv_U]) (st' := [mv_I 11, mv_I 0, mv_I ((u + 6 : Nat) : Int)]) (M1 := M) rfl ?_
            have ha121 : (0 : Int) ≤ ((u + 6 : Nat) : Int) ∧ ((u + 6 : Nat) : Int) ≤ (11 : Int) := by omega
            refine mv_callPW (st2 := [mv_I 1]) rfl (Or.inr rfl) rfl rfl rfl (sp_min_t ha121) (by first | decide | omega) ?_
            refine mv_goW 1 (pc' := if 1 = 0 then 23 else 26) (ls' := [mv_R 100, mv_I ((u + 6 : Nat) : Int), mv_I k, mv_U]) (st' := []) (M1 := M) rfl ?_
            refine mv_ffW (by decide) ?_
            refine mv_goW 3 (pc' := if 6 = 0 then mv_bad else 30) (ls' := [mv_R 100, mv_I ((u + 6 : Nat) : Int), mv_I k, mv_U]) (st' := [mv_I (mv_w (((u + 6 : Nat) : Int).tmod 6))]) (M1 := M) rfl ?_
            refine mv_ffW (by omega) ?_
            rw [show mv_w (((u + 6 : Nat) : Int).tmod 6) = (u : Int) from by exact sp_tm6b hu]
            refine mv_goW 2 (pc' := 34) (ls' := [mv_R 100, mv_I ((u + 6 : Nat) : Int), mv_I k, mv_U]) (st' := [mv_I (M 100 1), mv_I (u : Int)]) (M1 := M) rfl ?_
            have hr49 := sp_ok_s9 ho
            rw [show M 100 1 = V 0 9 from by exact sp_m_s9 hm]
            refine mv_goW 1 (pc' := if (u : Int) < (V 0 9) then 40 else 37) (ls' := [mv_R 100, mv_I ((u + 6 : Nat) : Int), mv_I k, mv_U]) (st' := []) (M1 := M) rfl ?_
            refine mv_ttW (by omega) ?_
            refine mv_goW 3 (pc' := if ((u + 6 : Nat) : Int) < 6 then 81 else 46) (ls' := [mv_R 100, mv_I ((u + 6 : Nat) : Int), mv_I k, mv_U]) (st' := []) (M1 := M) rfl ?_
            refine mv_ffW (by omega) ?_
            refine mv_goW 7 (pc' := if k = 6 then 62 else 57) (ls' := [mv_R 100, mv_I ((u + 6 : Nat) : Int), mv_I k, mv_I (mv_w (((u + 6 : Nat) : Int) - 6))]) (st' := []) (M1 := M) rfl ?_
            rw [show mv_w (((u + 6 : Nat) : Int) - 6) = ((u + 6 : Nat) : Int) - 6 from mv_w_id (by omega) (by omega)]
            rw [show ((u + 6 : Nat) : Int) - 6 = (u : Int) from by omega]
            refine mv_ttW (by omega) ?_
            refine mv_goW 2 (pc' := 64) (ls' := [mv_R 100, mv_I ((u + 6 : Nat) : Int), mv_I k, mv_I (u : Int)]) (st' := [mv_I (u : Int), mv_R 100]) (M1 := M) rfl ?_
            refine mv_callPW (st2 := [mv_I (sp_hired V (u : Int))]) rfl (Or.inl rfl) rfl rfl rfl (sp_mhired hm ho) (by first | decide | omega) ?_
            refine mv_goW 2 (pc' := 69) (ls' := [mv_R 100, mv_I ((u + 6 : Nat) : Int), mv_I k, mv_I (u : Int)]) (st' := [mv_I (u : Int), mv_R 100, mv_I (sp_hired V (u : Int))]) (M1 := M) rfl ?_
            refine mv_callPW (st2 := [mv_I (sp_room V u), mv_I (sp_hired V (u : Int))]) rfl (Or.inl rfl) rfl rfl rfl (sp_mroom hm ho (by omega)) (by first | decide | omega) ?_
            refine mv_goW 1 (pc' := if (sp_hired V (u : Int)) < (sp_room V u) then 75 else 79) (ls' := [mv_R 100, mv_I ((u + 6 : Nat) : Int), mv_I k, mv_I (u : Int)]) (st' := []) (M1 := M) rfl ?_
            refine mv_ffW (by omega) ?_
            refine mv_goW 1 (pc' := 80) (ls' := [mv_R 100, mv_I ((u + 6 : Nat) : Int), mv_I k, mv_I (u : Int)]) (st' := [mv_I 0]) (M1 := M) rfl ?_
            exact mv_retW (fun n => rfl) ⟨congrArg mv_I (by first | with_reducible rfl | omega), ⟨V, P, n, B, K, t, h⟩⟩
        · refine mv_goW 2 (pc' := 86) (ls' := [mv_R 0, mv_I ((u + 6 : Nat) : Int), mv_I k, mv_I (u : Int)]) (st' := [mv_I (-13)]) (M1 := M) rfl ?_
          refine mv_retW (fun n => rfl) ⟨_, rfl, ?_⟩
          refine mv_goW 3 (pc' := 4) (ls' := [mv_R 100, mv_I ((u + 6 : Nat) : Int), mv_I k, mv_U]) (st' := [mv_I 6, mv_I 0, mv_I k]) (M1 := M) rfl ?_
          have ha122 : (0 : Int) ≤ k ∧ k ≤ (6 : Int) := by omega
          refine mv_callPW (st2 := [mv_I 1]) rfl (Or.inr rfl) rfl rfl rfl (sp_min_t ha122) (by first | decide | omega) ?_
          refine mv_goW 1 (pc' := if 1 = 0 then 10 else 13) (ls' := [mv_R 100, mv_I ((u + 6 : Nat) : Int), mv_I k, mv_U]) (st' := []) (M1 := M) rfl ?_
          refine mv_ffW (by decide) ?_
          refine mv_goW 3 (pc' := 17) (ls' := [mv_R 100, mv_I ((u + 6 : Nat) : Int), mv_I k, mv_U]) (st' := [mv_I 11, mv_I 0, mv_I ((u + 6 : Nat) : Int)]) (M1 := M) rfl ?_
          have ha123 : (0 : Int) ≤ ((u + 6 : Nat) : Int) ∧ ((u + 6 : Nat) : Int) ≤ (11 : Int) := by omega
          refine mv_callPW (st2 := [mv_I 1]) rfl (Or.inr rfl) rfl rfl rfl (sp_min_t ha123) (by first | decide | omega) ?_
          refine mv_goW 1 (pc' := if 1 = 0 then 23 else 26) (ls' := [mv_R 100, mv_I ((u + 6 : Nat) : Int), mv_I k, mv_U]) (st' := []) (M1 := M) rfl ?_
          refine mv_ffW (by decide) ?_
          refine mv_goW 3 (pc' := if 6 = 0 then mv_bad else 30) (ls' := [mv_R 100, mv_I ((u + 6 : Nat) : Int), mv_I k, mv_U]) (st' := [mv_I (mv_w (((u + 6 : Nat) : Int).tmod 6))]) (M1 := M) rfl ?_
          refine mv_ffW (by omega) ?_
          rw [show mv_w (((u + 6 : Nat) : Int).tmod 6) = (u : Int) from by exact sp_tm6b hu]
          refine mv_goW 2 (pc' := 34) (ls' := [mv_R 100, mv_I ((u + 6 : Nat) : Int), mv_I k, mv_U]) (st' := [mv_I (M 100 1), mv_I (u : Int)]) (M1 := M) rfl ?_
          have hr51 := sp_ok_s9 ho
          rw [show M 100 1 = V 0 9 from by exact sp_m_s9 hm]
          refine mv_goW 1 (pc' := if (u : Int) < (V 0 9) then 40 else 37) (ls' := [mv_R 100, mv_I ((u + 6 : Nat) : Int), mv_I k, mv_U]) (st' := []) (M1 := M) rfl ?_
          refine mv_ttW (by omega) ?_
          refine mv_goW 3 (pc' := if ((u + 6 : Nat) : Int) < 6 then 81 else 46) (ls' := [mv_R 100, mv_I ((u + 6 : Nat) : Int), mv_I k, mv_U]) (st' := []) (M1 := M) rfl ?_
          refine mv_ffW (by omega) ?_
          refine mv_goW 7 (pc' := if k = 6 then 62 else 57) (ls' := [mv_R 100, mv_I ((u + 6 : Nat) : Int), mv_I k, mv_I (mv_w (((u + 6 : Nat) : Int) - 6))]) (st' := []) (M1 := M) rfl ?_
          rw [show mv_w (((u + 6 : Nat) : Int) - 6) = ((u + 6 : Nat) : Int) - 6 from mv_w_id (by omega) (by omega)]
          rw [show ((u + 6 : Nat) : Int) - 6 = (u : Int) from by omega]
          refine mv_ffW (by omega) ?_
          refine mv_goW 2 (pc' := 80) (ls' := [mv_R 100, mv_I ((u + 6 : Nat) : Int), mv_I k, mv_I (u : Int)]) (st' := [mv_I (-13)]) (M1 := M) rfl ?_
          exact mv_retW (fun n => rfl) ⟨congrArg mv_I (by first | with_reducible rfl | omega), ⟨V, P, n, B, K, t, h⟩⟩
theorem sp_k35_3 (u x : Nat) (k : Int) (hx : x = 0 ∨ x = 6) (hu : u < 6) : ∀ V P n B K t M, sp_R V P n B K t M → (u : Int) < V 0 9 → V 4 u = 3 → mv_W 20 96 0 [mv_R 0, mv_I ((u + x : Nat) : Int), mv_I k, mv_U] [] M (fun v M1 => ∃ z, v = mv_I z ∧ mv_W 20 192 0 [mv_R 100, mv_I ((u + x : Nat) : Int), mv_I k, mv_U] [] M1 (fun w M2 => w = mv_I z ∧ sp_Inv M2)) := by
  intro V P n B K t M h hn hk
  have h' := h
  obtain ⟨⟨hc, hm, ho⟩, _⟩ := h'
  have h9 := sp_ok_s9 ho
  rcases hx with q | q
  · subst q
    rw [Nat.add_zero]
    refine mv_goW 2 (pc' := if k < 0 then 10 else 4) (ls' := [mv_R 0, mv_I (u : Int), mv_I k, mv_U]) (st' := []) (M1 := M) rfl ?_
    refine mv_spW (fun ha124 => ?_) (fun ha124 => ?_)
    · refine mv_goW 1 (pc' := 12) (ls' := [mv_R 0, mv_I (u : Int), mv_I k, mv_U]) (st' := [mv_I (-2)]) (M1 := M) rfl ?_
      refine mv_retW (fun n => rfl) ⟨_, rfl, ?_⟩
      refine mv_goW 3 (pc' := 4) (ls' := [mv_R 100, mv_I (u : Int), mv_I k, mv_U]) (st' := [mv_I 6, mv_I 0, mv_I k]) (M1 := M) rfl ?_
      have ha125 : ¬ ((0 : Int) ≤ k ∧ k ≤ (6 : Int)) := by omega
      refine mv_callPW (st2 := [mv_I 0]) rfl (Or.inr rfl) rfl rfl rfl (sp_min_f ha125) (by first | decide | omega) ?_
      refine mv_goW 1 (pc' := if 0 = 0 then 10 else 13) (ls' := [mv_R 100, mv_I (u : Int), mv_I k, mv_U]) (st' := []) (M1 := M) rfl ?_
      refine mv_ttW (by decide) ?_
      refine mv_goW 1 (pc' := 12) (ls' := [mv_R 100, mv_I (u : Int), mv_I k, mv_U]) (st' := [mv_I (-2)]) (M1 := M) rfl ?_
      exact mv_retW (fun n => rfl) ⟨congrArg mv_I (by first | with_reducible rfl | omega), ⟨V, P, n, B, K, t, h⟩⟩
    · refine mv_goW 3 (pc' := if 6 < k then 10 else 13) (ls' := [mv_R 0, mv_I (u : Int), mv_I k, mv_U]) (st' := []) (M1 := M) rfl ?_
      refine mv_spW (fun ha126 => ?_) (fun ha126 => ?_)
      · refine mv_goW 1 (pc' := 12) (ls' := [mv_R 0, mv_I (u : Int), mv_I k, mv_U]) (st' := [mv_I (-2)]) (M1 := M) rfl ?_
        refine mv_retW (fun n => rfl) ⟨_, rfl, ?_⟩
        refine mv_goW 3 (pc' := 4) (ls' := [mv_R 100, mv_I (u : Int), mv_I k, mv_U]) (st' := [mv_I 6, mv_I 0, mv_I k]) (M1 := M) rfl ?_
        have ha127 : ¬ ((0 : Int) ≤ k ∧ k ≤ (6 : Int)) := by omega
        refine mv_callPW (st2 := [mv_I 0]) rfl (Or.inr rfl) rfl rfl rfl (sp_min_f ha127) (by first | decide | omega) ?_
        refine mv_goW 1 (pc' := if 0 = 0 then 10 else 13) (ls' := [mv_R 100, mv_I (u : Int), mv_I k, mv_U]) (st' := []) (M1 := M) rfl ?_
        refine mv_ttW (by decide) ?_
        refine mv_goW 1 (pc' := 12) (ls' := [mv_R 100, mv_I (u : Int), mv_I k, mv_U]) (st' := [mv_I (-2)]) (M1 := M) rfl ?_
        exact mv_retW (fun n => rfl) ⟨congrArg mv_I (by first | with_reducible rfl | omega), ⟨V, P, n, B, K, t, h⟩⟩
      · refine mv_goW 2 (pc' := if (u : Int) < 0 then 23 else 17) (ls' := [mv_R 0, mv_I (u : Int), mv_I k, mv_U]) (st' := []) (M1 := M) rfl ?_
        refine mv_ffW (by omega) ?_
        refine mv_goW 3 (pc' := if (u : Int) < 12 then 26 else 23) (ls' := [mv_R 0, mv_I (u : Int), mv_I k, mv_U]) (st' := []) (M1 := M) rfl ?_
        refine mv_ttW (by omega) ?_
        refine mv_goW 3 (pc' := if 6 = 0 then mv_bad else 30) (ls' := [mv_R 0, mv_I (u : Int), mv_I k, mv_U]) (st' := [mv_I (mv_w ((u : Int).tmod 6))]) (M1 := M) rfl ?_
        refine mv_ffW (by omega) ?_
        rw [show mv_w ((u : Int).tmod 6) = (u : Int) from by exact sp_tm6a hu]
        refine mv_goW 4 (pc' := 36) (ls' := [mv_R 0, mv_I (u : Int), mv_I k, mv_I (u : Int)]) (st' := [mv_I (u : Int), mv_R 30]) (M1 := M) rfl ?_
        have ha128 : 0 ≤ (u : Int) ∧ (u : Int) < V 0 9 := by omega
        refine mv_callPW (st2 := [mv_I 1]) rfl (Or.inl rfl) rfl rfl rfl (sp_cisUncle_t_30 hc ho ha128) (by first | decide | omega) ?_
        refine mv_goW 1 (pc' := if 1 = 0 then 42 else 45) (ls' := [mv_R 0, mv_I (u : Int), mv_I k, mv_I (u : Int)]) (st' := []) (M1 := M) rfl ?_
        refine mv_ffW (by decide) ?_
        refine mv_goW 3 (pc' := if (u : Int) < 6 then 87 else 51) (ls' := [mv_R 0, mv_I (u : Int), mv_I k, mv_I (u : Int)]) (st' := []) (M1 := M) rfl ?_
        refine mv_ttW (by omega) ?_
        refine mv_goW 5 (pc' := if 0 ≤ (u : Int) ∧ (u : Int) < 6 then 96 else mv_bad) (ls' := [mv_R 0, mv_I (u : Int), mv_I k, mv_I (u : Int)]) (st' := [mv_I (M 34 u)]) (M1 := M) rfl ?_
        refine mv_ttW (by omega) ?_
        have hr53 := sp_ok_4 ho u (by omega)
        rw [show M 34 u = V 4 u from by exact sp_c_4 hc u (by omega)]
        rw [show V 4 u = 3 from by exact hk]
        refine mv_goW 1 (pc' := 97) (ls' := [mv_R 0, mv_I (u : Int), mv_I k, mv_I (u : Int)]) (st' := [mv_I k, mv_I 3]) (M1 := M) rfl ?_
        by_cases ha129 : k = 3 ∨ k = 1 ∨ k = 0
        · refine mv_callPW (st2 := [mv_I 1]) rfl (Or.inr rfl) rfl rfl rfl (sp_isOf_3_t ha129) (by first | decide | omega) ?_
          refine mv_goW 1 (pc' := if 1 = 0 then 107 else 103) (ls' := [mv_R 0, mv_I (u : Int), mv_I k, mv_I (u : Int)]) (st' := []) (M1 := M) rfl ?_
          refine mv_ffW (by decide) ?_
          refine mv_goW 2 (pc' := 109) (ls' := [mv_R 0, mv_I (u : Int), mv_I k, mv_I (u : Int)]) (st' := [mv_I (u : Int)]) (M1 := M) rfl ?_
          refine mv_retW (fun n => rfl) ⟨_, rfl, ?_⟩
          refine mv_goW 3 (pc' := 4) (ls' := [mv_R 100, mv_I (u : Int), mv_I k, mv_U]) (st' := [mv_I 6, mv_I 0, mv_I k]) (M1 := M) rfl ?_
          have ha130 : (0 : Int) ≤ k ∧ k ≤ (6 : Int) := by omega
          refine mv_callPW (st2 := [mv_I 1]) rfl (Or.inr rfl) rfl rfl rfl (sp_min_t ha130) (by first | decide | omega) ?_
          refine mv_goW 1 (pc' := if 1 = 0 then 10 else 13) (ls' := [mv_R 100, mv_I (u : Int), mv_I k, mv_U]) (st' := []) (M1 := M) rfl ?_
          refine mv_ffW (by decide) ?_
          refine mv_goW 3 (pc' := 17) (ls' := [mv_R 100, mv_I (u : Int), mv_I k, mv_U]) (st' := [mv_I 11, mv_I 0, mv_I (u : Int)]) (M1 := M) rfl ?_
          have ha131 : (0 : Int) ≤ (u : Int) ∧ (u : Int) ≤ (11 : Int) := by omega
          refine mv_callPW (st2 := [mv_I 1]) rfl (Or.inr rfl) rfl rfl rfl (sp_min_t ha131) (by first | decide | omega) ?_
          refine mv_goW 1 (pc' := if 1 = 0 then 23 else 26) (ls' := [mv_R 100, mv_I (u : Int), mv_I k, mv_U]) (st' := []) (M1 := M) rfl ?_
          refine mv_ffW (by decide) ?_
          refine mv_goW 3 (pc' := if 6 = 0 then mv_bad else 30) (ls' := [mv_R 100, mv_I (u : Int), mv_I k, mv_U]) (st' := [mv_I (mv_w ((u : Int).tmod 6))]) (M1 := M) rfl ?_
          refine mv_ffW (by omega) ?_
          rw [show mv_w ((u : Int).tmod 6) = (u : Int) from by exact sp_tm6a hu]
          refine mv_goW 2 (pc' := 34) (ls' := [mv_R 100, mv_I (u : Int), mv_I k, mv_U]) (st' := [mv_I (M 100 1), mv_I (u : Int)]) (M1 := M) rfl ?_
          have hr55 := sp_ok_s9 ho
          rw [show M 100 1 = V 0 9 from by exact sp_m_s9 hm]
          refine mv_goW 1 (pc' := if (u : Int) < (V 0 9) then 40 else 37) (ls' := [mv_R 100, mv_I (u : Int), mv_I k, mv_U]) (st' := []) (M1 := M) rfl ?_
          refine mv_ttW (by omega) ?_
          refine mv_goW 3 (pc' := if (u : Int) < 6 then 81 else 46) (ls' := [mv_R 100, mv_I (u : Int), mv_I k, mv_U]) (st' := []) (M1 := M) rfl ?_
          refine mv_ttW (by omega) ?_
          refine mv_goW 3 (pc' := if k < 6 then 87 else 104) (ls' := [mv_R 100, mv_I (u : Int), mv_I k, mv_U]) (st' := []) (M1 := M) rfl ?_
          refine mv_ttW (by omega) ?_
          refine mv_goW 4 (pc' := if 0 ≤ (u : Int) ∧ (u : Int) < 6 then 93 else mv_bad) (ls' := [mv_R 100, mv_I (u : Int), mv_I k, mv_U]) (st' := [mv_I (M 102 u)]) (M1 := M) rfl ?_
          refine mv_ttW (by omega) ?_
          have hr57 := sp_ok_4 ho u (by omega)
          rw [show M 102 u = V 4 u from by exact sp_m_4 hm u (by omega)]
          rw [show V 4 u = 3 from by exact hk]
          refine mv_goW 1 (pc' := 94) (ls' := [mv_R 100, mv_I (u : Int), mv_I k, mv_U]) (st' := [mv_I k, mv_I 3]) (M1 := M) rfl ?_
          have ha132 : k = 3 ∨ k = 1 ∨ k = 0 := by omega
          refine mv_callPW (st2 := [mv_I 1]) rfl (Or.inr rfl) rfl rfl rfl (sp_isUn_3_t ha132) (by first | decide | omega) ?_
          refine mv_goW 1 (pc' := if 1 = 0 then 104 else 100) (ls' := [mv_R 100, mv_I (u : Int), mv_I k, mv_U]) (st' := []) (M1 := M) rfl ?_
          refine mv_ffW (by decide) ?_
          refine mv_goW 2 (pc' := 106) (ls' := [mv_R 100, mv_I (u : Int), mv_I k, mv_U]) (st' := [mv_I (u : Int)]) (M1 := M) rfl ?_
          exact mv_retW (fun n => rfl) ⟨congrArg mv_I (by first | with_reducible rfl | omega), ⟨V, P, n, B, K, t, h⟩⟩
        · refine mv_callPW (st2 := [mv_I 0]) rfl (Or.inr rfl) rfl rfl rfl (sp_isOf_3_f ha129) (by first | decide | omega) ?_
          refine mv_goW 1 (pc' := if 0 = 0 then 107 else 103) (ls' := [mv_R 0, mv_I (u : Int), mv_I k, mv_I (u : Int)]) (st' := []) (M1 := M) rfl ?_
          refine mv_ttW (by decide) ?_
          refine mv_goW 1 (pc' := 109) (ls' := [mv_R 0, mv_I (u : Int), mv_I k, mv_I (u : Int)]) (st' := [mv_I (-13)]) (M1 := M) rfl ?_
          refine mv_retW (fun n => rfl) ⟨_, rfl, ?_⟩
          refine mv_goW 3 (pc' := 4) (ls' := [mv_R 100, mv_I (u : Int), mv_I k, mv_U]) (st' := [mv_I 6, mv_I 0, mv_I k]) (M1 := M) rfl ?_
          have ha133 : (0 : Int) ≤ k ∧ k ≤ (6 : Int) := by omega
          refine mv_callPW (st2 := [mv_I 1]) rfl (Or.inr rfl) rfl rfl rfl (sp_min_t ha133) (by first | decide | omega) ?_
          refine mv_goW 1 (pc' := if 1 = 0 then 10 else 13) (ls' := [mv_R 100, mv_I (u : Int), mv_I k, mv_U]) (st' := []) (M1 := M) rfl ?_
          refine mv_ffW (by decide) ?_
          refine mv_goW 3 (pc' := 17) (ls' := [mv_R 100, mv_I (u : Int), mv_I k, mv_U]) (st' := [mv_I 11, mv_I 0, mv_I (u : Int)]) (M1 := M) rfl ?_
          have ha134 : (0 : Int) ≤ (u : Int) ∧ (u : Int) ≤ (11 : Int) := by omega
          refine mv_callPW (st2 := [mv_I 1]) rfl (Or.inr rfl) rfl rfl rfl (sp_min_t ha134) (by first | decide | omega) ?_
          refine mv_goW 1 (pc' := if 1 = 0 then 23 else 26) (ls' := [mv_R 100, mv_I (u : Int), mv_I k, mv_U]) (st' := []) (M1 := M) rfl ?_
          refine mv_ffW (by decide) ?_
          refine mv_goW 3 (pc' := if 6 = 0 then mv_bad else 30) (ls' := [mv_R 100, mv_I (u : Int), mv_I k, mv_U]) (st' := [mv_I (mv_w ((u : Int).tmod 6))]) (M1 := M) rfl ?_
          refine mv_ffW (by omega) ?_
          rw [show mv_w ((u : Int).tmod 6) = (u : Int) from by exact sp_tm6a hu]
          refine mv_goW 2 (pc' := 34) (ls' := [mv_R 100, mv_I (u : Int), mv_I k, mv_U]) (st' := [mv_I (M 100 1), mv_I (u : Int)]) (M1 := M) rfl ?_
          have hr59 := sp_ok_s9 ho
          rw [show M 100 1 = V 0 9 from by exact sp_m_s9 hm]
          refine mv_goW 1 (pc' := if (u : Int) < (V 0 9) then 40 else 37) (ls' := [mv_R 100, mv_I (u : Int), mv_I k, mv_U]) (st' := []) (M1 := M) rfl ?_
          refine mv_ttW (by omega) ?_
          refine mv_goW 3 (pc' := if (u : Int) < 6 then 81 else 46) (ls' := [mv_R 100, mv_I (u : Int), mv_I k, mv_U]) (st' := []) (M1 := M) rfl ?_
          refine mv_ttW (by omega) ?_
          refine mv_goW 3 (pc' := if k < 6 then 87 else 104) (ls' := [mv_R 100, mv_I (u : Int), mv_I k, mv_U]) (st' := []) (M1 := M) rfl ?_
          refine mv_spW (fun ha135 => ?_) (fun ha135 => ?_)
          · refine mv_goW 4 (pc' := if 0 ≤ (u : Int) ∧ (u : Int) < 6 then 93 else mv_bad) (ls' := [mv_R 100, mv_I (u : Int), mv_I k, mv_U]) (st' := [mv_I (M 102 u)]) (M1 := M) rfl ?_
            refine mv_ttW (by omega) ?_
            have hr61 := sp_ok_4 ho u (by omega)
            rw [show M 102 u = V 4 u from by exact sp_m_4 hm u (by omega)]
            rw [show V 4 u = 3 from by exact hk]
            refine mv_goW 1 (pc' := 94) (ls' := [mv_R 100, mv_I (u : Int), mv_I k, mv_U]) (st' := [mv_I k, mv_I 3]) (M1 := M) rfl ?_
            have ha136 : ¬ (k = 3 ∨ k = 1 ∨ k = 0) := by omega
            refine mv_callPW (st2 := [mv_I 0]) rfl (Or.inr rfl) rfl rfl rfl (sp_isUn_3_f ha136) (by first | decide | omega) ?_
            refine mv_goW 1 (pc' := if 0 = 0 then 104 else 100) (ls' := [mv_R 100, mv_I (u : Int), mv_I k, mv_U]) (st' := []) (M1 := M) rfl ?_
            refine mv_ttW (by decide) ?_
            refine mv_goW 1 (pc' := 106) (ls' := [mv_R 100, mv_I (u : Int), mv_I k, mv_U]) (st' := [mv_I (-13)]) (M1 := M) rfl ?_
            exact mv_retW (fun n => rfl) ⟨congrArg mv_I (by first | with_reducible rfl | omega), ⟨V, P, n, B, K, t, h⟩⟩
          · refine mv_goW 1 (pc' := 106) (ls' := [mv_R 100, mv_I (u : Int), mv_I k, mv_U]) (st' := [mv_I (-13)]) (M1 := M) rfl ?_
            exact mv_retW (fun n => rfl) ⟨congrArg mv_I (by first | with_reducible rfl | omega), ⟨V, P, n, B, K, t, h⟩⟩
  · subst q
    refine mv_goW 2 (pc' := if k < 0 then 10 else 4) (ls' := [mv_R 0, mv_I ((u + 6 : Nat) : Int), mv_I k, mv_U]) (st' := []) (M1 := M) rfl ?_
    refine mv_spW (fun ha137 => ?_) (fun ha137 => ?_)
    · refine mv_goW 1 (pc' := 12) (ls' := [mv_R 0, mv_I ((u + 6 : Nat) : Int), mv_I k, mv_U]) (st' := [mv_I (-2)]) (M1 := M) rfl ?_
      refine mv_retW (fun n => rfl) ⟨_, rfl, ?_⟩
      refine mv_goW 3 (pc' := 4) (ls' := [mv_R 100, mv_I ((u + 6 : Nat) : Int), mv_I k, mv_U]) (st' := [mv_I 6, mv_I 0, mv_I k]) (M1 := M) rfl ?_
      have ha138 : ¬ ((0 : Int) ≤ k ∧ k ≤ (6 : Int)) := by omega
      refine mv_callPW (st2 := [mv_I 0]) rfl (Or.inr rfl) rfl rfl rfl (sp_min_f ha138) (by first | decide | omega) ?_
      refine mv_goW 1 (pc' := if 0 = 0 then 10 else 13) (ls' := [mv_R 100, mv_I ((u + 6 : Nat) : Int), mv_I k, mv_U]) (st' := []) (M1 := M) rfl ?_
      refine mv_ttW (by decide) ?_
      refine mv_goW 1 (pc' := 12) (ls' := [mv_R 100, mv_I ((u + 6 : Nat) : Int), mv_I k, mv_U]) (st' := [mv_I (-2)]) (M1 := M) rfl ?_
      exact mv_retW (fun n => rfl) ⟨congrArg mv_I (by first | with_reducible rfl | omega), ⟨V, P, n, B, K, t, h⟩⟩
    · refine mv_goW 3 (pc' := if 6 < k then 10 else 13) (ls' := [mv_R 0, mv_I ((u + 6 : Nat) : Int), mv_I k, mv_U]) (st' := []) (M1 := M) rfl ?_
      refine mv_spW (fun ha139 => ?_) (fun ha139 => ?_)
      · refine mv_goW 1 (pc' := 12) (ls' := [mv_R 0, mv_I ((u + 6 : Nat) : Int), mv_I k, mv_U]) (st' := [mv_I (-2)]) (M1 := M) rfl ?_
        refine mv_retW (fun n => rfl) ⟨_, rfl, ?_⟩
        refine mv_goW 3 (pc' := 4) (ls' := [mv_R 100, mv_I ((u + 6 : Nat) : Int), mv_I k, mv_U]) (st' := [mv_I 6, mv_I 0, mv_I k]) (M1 := M) rfl ?_
        have ha140 : ¬ ((0 : Int) ≤ k ∧ k ≤ (6 : Int)) := by omega
        refine mv_callPW (st2 := [mv_I 0]) rfl (Or.inr rfl) rfl rfl rfl (sp_min_f ha140) (by first | decide | omega) ?_
        refine mv_goW 1 (pc' := if 0 = 0 then 10 else 13) (ls' := [mv_R 100, mv_I ((u + 6 : Nat) : Int), mv_I k, mv_U]) (st' := []) (M1 := M) rfl ?_
        refine mv_ttW (by decide) ?_
        refine mv_goW 1 (pc' := 12) (ls' := [mv_R 100, mv_I ((u + 6 : Nat) : Int), mv_I k, mv_U]) (st' := [mv_I (-2)]) (M1 := M) rfl ?_
        exact mv_retW (fun n => rfl) ⟨congrArg mv_I (by first | with_reducible rfl | omega), ⟨V, P, n, B, K, t, h⟩⟩
      · refine mv_goW 2 (pc' := if ((u + 6 : Nat) : Int) < 0 then 23 else 17) (ls' := [mv_R 0, mv_I ((u + 6 : Nat) : Int), mv_I k, mv_U]) (st' := []) (M1 := M) rfl ?_
        refine mv_ffW (by omega) ?_
        refine mv_goW 3 (pc' := if ((u + 6 : Nat) : Int) < 12 then 26 else 23) (ls' := [mv_R 0, mv_I ((u + 6 : Nat) : Int), mv_I k, mv_U]) (st' := []) (M1 := M) rfl ?_
        refine mv_ttW (by omega) ?_
        refine mv_goW 3 (pc' := if 6 = 0 then mv_bad else 30) (ls' := [mv_R 0, mv_I ((u + 6 : Nat) : Int), mv_I k, mv_U]) (st' := [mv_I (mv_w (((u + 6 : Nat) : Int).tmod 6))]) (M1 := M) rfl ?_
        refine mv_ffW (by omega) ?_
        rw [show mv_w (((u + 6 : Nat) : Int).tmod 6) = (u : Int) from by exact sp_tm6b hu]
        refine mv_goW 4 (pc' := 36) (ls' := [mv_R 0, mv_I ((u + 6 : Nat) : Int), mv_I k, mv_I (u : Int)]) (st' := [mv_I (u : Int), mv_R 30]) (M1 := M) rfl ?_
        have ha141 : 0 ≤ (u : Int) ∧ (u : Int) < V 0 9 := by omega
        refine mv_callPW (st2 := [mv_I 1]) rfl (Or.inl rfl) rfl rfl rfl (sp_cisUncle_t_30 hc ho ha141) (by first | decide | omega) ?_
        refine mv_goW 1 (pc' := if 1 = 0 then 42 else 45) (ls' := [mv_R 0, mv_I ((u + 6 : Nat) : Int), mv_I k, mv_I (u : Int)]) (st' := []) (M1 := M) rfl ?_
        refine mv_ffW (by decide) ?_
        refine mv_goW 3 (pc' := if ((u + 6 : Nat) : Int) < 6 then 87 else 51) (ls' := [mv_R 0, mv_I ((u + 6 : Nat) : Int), mv_I k, mv_I (u : Int)]) (st' := []) (M1 := M) rfl ?_
        refine mv_ffW (by omega) ?_
        refine mv_goW 3 (pc' := if k = 6 then 62 else 57) (ls' := [mv_R 0, mv_I ((u + 6 : Nat) : Int), mv_I k, mv_I (u : Int)]) (st' := []) (M1 := M) rfl ?_
        refine mv_spW (fun ha142 => ?_) (fun ha142 => ?_)
        · refine mv_goW 3 (pc' := 67) (ls' := [mv_R 0, mv_I ((u + 6 : Nat) : Int), mv_I k, mv_I (u : Int)]) (st' := [mv_I (u : Int), mv_R 30]) (M1 := M) rfl ?_
          refine mv_callPW (st2 := [mv_I (sp_hired V (u : Int))]) rfl (Or.inl rfl) rfl rfl rfl (sp_hired_30 hc ho) (by first | decide | omega) ?_
          refine mv_goW 3 (pc' := 75) (ls' := [mv_R 0, mv_I ((u + 6 : Nat) : Int), mv_I k, mv_I (u : Int)]) (st' := [mv_I (u : Int), mv_R 30, mv_I (sp_hired V (u : Int))]) (M1 := M) rfl ?_
          refine mv_callPW (st2 := [mv_I (sp_room V u), mv_I (sp_hired V (u : Int))]) rfl (Or.inl rfl) rfl rfl rfl (sp_croom hc ho (by omega)) (by first | decide | omega) ?_
          refine mv_goW 1 (pc' := if (sp_hired V (u : Int)) < (sp_room V u) then 81 else 85) (ls' := [mv_R 0, mv_I ((u + 6 : Nat) : Int), mv_I k, mv_I (u : Int)]) (st' := []) (M1 := M) rfl ?_
          refine mv_spW (fun ha143 => ?_) (fun ha143 => ?_)
          · refine mv_goW 2 (pc' := 86) (ls' := [mv_R 0, mv_I ((u + 6 : Nat) : Int), mv_I k, mv_I (u : Int)]) (st' := [mv_I 1]) (M1 := M) rfl ?_
            refine mv_retW (fun n => rfl) ⟨_, rfl, ?_⟩
            refine mv_goW 3 (pc' := 4) (ls' := [mv_R 100, mv_I ((u + 6 : Nat) : Int), mv_I k, mv_U]) (st' := [mv_I 6, mv_I 0, mv_I k]) (M1 := M) rfl ?_
            have ha144 : (0 : Int) ≤ k ∧ k ≤ (6 : Int) := by omega
            refine mv_callPW (st2 := [mv_I 1]) rfl (Or.inr rfl) rfl rfl rfl (sp_min_t ha144) (by first | decide | omega) ?_
            refine mv_goW 1 (pc' := if 1 = 0 then 10 else 13) (ls' := [mv_R 100, mv_I ((u + 6 : Nat) : Int), mv_I k, mv_U]) (st' := []) (M1 := M) rfl ?_
            refine mv_ffW (by decide) ?_
            refine mv_goW 3 (pc' := 17) (ls' := [mv_R 100, mv_I ((u + 6 : Nat) : Int), mv_I k, mv_U]) (st' := [mv_I 11, mv_I 0, mv_I ((u + 6 : Nat) : Int)]) (M1 := M) rfl ?_
            have ha145 : (0 : Int) ≤ ((u + 6 : Nat) : Int) ∧ ((u + 6 : Nat) : Int) ≤ (11 : Int) := by omega
            refine mv_callPW (st2 := [mv_I 1]) rfl (Or.inr rfl) rfl rfl rfl (sp_min_t ha145) (by first | decide | omega) ?_
            refine mv_goW 1 (pc' := if 1 = 0 then 23 else 26) (ls' := [mv_R 100, mv_I ((u + 6 : Nat) : Int), mv_I k, mv_U]) (st' := []) (M1 := M) rfl ?_
            refine mv_ffW (by decide) ?_
            refine mv_goW 3 (pc' := if 6 = 0 then mv_bad else 30) (ls' := [mv_R 100, mv_I ((u + 6 : Nat) : Int), mv_I k, mv_U]) (st' := [mv_I (mv_w (((u + 6 : Nat) : Int).tmod 6))]) (M1 := M) rfl ?_
            refine mv_ffW (by omega) ?_
            rw [show mv_w (((u + 6 : Nat) : Int).tmod 6) = (u : Int) from by exact sp_tm6b hu]
            refine mv_goW 2 (pc' := 34) (ls' := [mv_R 100, mv_I ((u + 6 : Nat) : Int), mv_I k, mv_U]) (st' := [mv_I (M 100 1), mv_I (u : Int)]) (M1 := M) rfl ?_
            have hr63 := sp_ok_s9 ho
            rw [show M 100 1 = V 0 9 from by exact sp_m_s9 hm]
            refine mv_goW 1 (pc' := if (u : Int) < (V 0 9) then 40 else 37) (ls' := [mv_R 100, mv_I ((u + 6 : Nat) : Int), mv_I k, mv_U]) (st' := []) (M1 := M) rfl ?_
            refine mv_ttW (by omega) ?_
            refine mv_goW 3 (pc' := if ((u + 6 : Nat) : Int) < 6 then 81 else 46) (ls' := [mv_R 100, mv_I ((u + 6 : Nat) : Int), mv_I k, mv_U]) (st' := []) (M1 := M) rfl ?_
            refine mv_ffW (by omega) ?_
            refine mv_goW 7 (pc' := if k = 6 then 62 else 57) (ls' := [mv_R 100, mv_I ((u + 6 : Nat) : Int), mv_I k, mv_I (mv_w (((u + 6 : Nat) : Int) - 6))]) (st' := []) (M1 := M) rfl ?_
            rw [show mv_w (((u + 6 : Nat) : Int) - 6) = ((u + 6 : Nat) : Int) - 6 from mv_w_id (by omega) (by omega)]
            rw [show ((u + 6 : Nat) : Int) - 6 = (u : Int) from by omega]
            refine mv_ttW (by omega) ?_
            refine mv_goW 2 (pc' := 64) (ls' := [mv_R 100, mv_I ((u + 6 : Nat) : Int), mv_I k, mv_I (u : Int)]) (st' := [mv_I (u : Int), mv_R 100]) (M1 := M) rfl ?_
            refine mv_callPW (st2 := [mv_I (sp_hired V (u : Int))]) rfl (Or.inl rfl) rfl rfl rfl (sp_mhired hm ho) (by first | decide | omega) ?_
            refine mv_goW 2 (pc' := 69) (ls' := [mv_R 100, mv_I ((u + 6 : Nat) : Int), mv_I k, mv_I (u : Int)]) (st' := [mv_I (u : Int), mv_R 100, mv_I (sp_hired V (u : Int))]) (M1 := M) rfl ?_
            refine mv_callPW (st2 := [mv_I (sp_room V u), mv_I (sp_hired V (u : Int))]) rfl (Or.inl rfl) rfl rfl rfl (sp_mroom hm ho (by omega)) (by first | decide | omega) ?_
            refine mv_goW 1 (pc' := if (sp_hired V (u : Int)) < (sp_room V u) then 75 else 79) (ls' := [mv_R 100, mv_I ((u + 6 : Nat) : Int), mv_I k, mv_I (u : Int)]) (st' := []) (M1 := M) rfl ?_
            refine mv_ttW (by omega) ?_
            refine mv_goW 2 (pc' := 80) (ls' := [mv_R 100, mv_I ((u + 6 : Nat) : Int), mv_I k, mv_I (u : Int)]) (st' := [mv_I 1]) (M1 := M) rfl ?_
            exact mv_retW (fun n => rfl) ⟨congrArg mv_I (by first | with_reducible rfl | omega), ⟨V, P, n, B, K, t, h⟩⟩
          · refine mv_goW 1 (pc' := 86) (ls' := [mv_R 0, mv_I ((u + 6 : Nat) : Int), mv_I k, mv_I (u : Int)]) (st' := [mv_I 0]) (M1 := M) rfl ?_
            refine mv_retW (fun n => rfl) ⟨_, rfl, ?_⟩
            refine mv_goW 3 (pc' := 4) (ls' := [mv_R 100, mv_I ((u + 6 : Nat) : Int), mv_I k, mv_U]) (st' := [mv_I 6, mv_I 0, mv_I k]) (M1 := M) rfl ?_
            have ha146 : (0 : Int) ≤ k ∧ k ≤ (6 : Int) := by omega
            refine mv_callPW (st2 := [mv_I 1]) rfl (Or.inr rfl) rfl rfl rfl (sp_min_t ha146) (by first | decide | omega) ?_
            refine mv_goW 1 (pc' := if 1 = 0 then 10 else 13) (ls' := [mv_R 100, mv_I ((u + 6 : Nat) : Int), mv_I k, mv_U]) (st' := []) (M1 := M) rfl ?_
            refine mv_ffW (by decide) ?_
            refine mv_goW 3 (pc' := 17) (ls' := [mv_R 100, mv_I ((u + 6 : Nat) : Int), mv_I k, mv_U]) (st' := [mv_I 11, mv_I 0, mv_I ((u + 6 : Nat) : Int)]) (M1 := M) rfl ?_
            have ha147 : (0 : Int) ≤ ((u + 6 : Nat) : Int) ∧ ((u + 6 : Nat) : Int) ≤ (11 : Int) := by omega
            refine mv_callPW (st2 := [mv_I 1]) rfl (Or.inr rfl) rfl rfl rfl (sp_min_t ha147) (by first | decide | omega) ?_
            refine mv_goW 1 (pc' := if 1 = 0 then 23 else 26) (ls' := [mv_R 100, mv_I ((u + 6 : Nat) : Int), mv_I k, mv_U]) (st' := []) (M1 := M) rfl ?_
            refine mv_ffW (by decide) ?_
            refine mv_goW 3 (pc' := if 6 = 0 then mv_bad else 30) (ls' := [mv_R 100, mv_I ((u + 6 : Nat) : Int), mv_I k, mv_U]) (st' := [mv_I (mv_w (((u + 6 : Nat) : Int).tmod 6))]) (M1 := M) rfl ?_
            refine mv_ffW (by omega) ?_
            rw [show mv_w (((u + 6 : Nat) : Int).tmod 6) = (u : Int) from by exact sp_tm6b hu]
            refine mv_goW 2 (pc' := 34) (ls' := [mv_R 100, mv_I ((u + 6 : Nat) : Int), mv_I k, mv_U]) (st' := [mv_I (M 100 1), mv_I (u : Int)]) (M1 := M) rfl ?_
            have hr65 := sp_ok_s9 ho
            rw [show M 100 1 = V 0 9 from by exact sp_m_s9 hm]
            refine mv_goW 1 (pc' := if (u : Int) < (V 0 9) then 40 else 37) (ls' := [mv_R 100, mv_I ((u + 6 : Nat) : Int), mv_I k, mv_U]) (st' := []) (M1 := M) rfl ?_
            refine mv_ttW (by omega) ?_
            refine mv_goW 3 (pc' := if ((u + 6 : Nat) : Int) < 6 then 81 else 46) (ls' := [mv_R 100, mv_I ((u + 6 : Nat) : Int), mv_I k, mv_U]) (st' := []) (M1 := M) rfl ?_
            refine mv_ffW (by omega) ?_
            refine mv_goW 7 (pc' := if k = 6 then 62 else 57) (ls' := [mv_R 100, mv_I ((u + 6 : Nat) : Int), mv_I k, mv_I (mv_w (((u + 6 : Nat) : Int) - 6))]) (st' := []) (M1 := M) rfl ?_
            rw [show mv_w (((u + 6 : Nat) : Int) - 6) = ((u + 6 : Nat) : Int) - 6 from mv_w_id (by omega) (by omega)]
            rw [show ((u + 6 : Nat) : Int) - 6 = (u : Int) from by omega]
            refine mv_ttW (by omega) ?_
            refine mv_goW 2 (pc' := 64) (ls' := [mv_R 100, mv_I ((u + 6 : Nat) : Int), mv_I k, mv_I (u : Int)]) (st' := [mv_I (u : Int), mv_R 100]) (M1 := M) rfl ?_
            refine mv_callPW (st2 := [mv_I (sp_hired V (u : Int))]) rfl (Or.inl rfl) rfl rfl rfl (sp_mhired hm ho) (by first | decide | omega) ?_
            refine mv_goW 2 (pc' := 69) (ls' := [mv_R 100, mv_I ((u + 6 : Nat) : Int), mv_I k, mv_I (u : Int)]) (st' := [mv_I (u : Int), mv_R 100, mv_I (sp_hired V (u : Int))]) (M1 := M) rfl ?_
            refine mv_callPW (st2 := [mv_I (sp_room V u), mv_I (sp_hired V (u : Int))]) rfl (Or.inl rfl) rfl rfl rfl (sp_mroom hm ho (by omega)) (by first | decide | omega) ?_
            refine mv_goW 1 (pc' := if (sp_hired V (u : Int)) < (sp_room V u) then 75 else 79) (ls' := [mv_R 100, mv_I ((u + 6 : Nat) : Int), mv_I k, mv_I (u : Int)]) (st' := []) (M1 := M) rfl ?_
            refine mv_ffW (by omega) ?_
            refine mv_goW 1 (pc' := 80) (ls' := [mv_R 100, mv_I ((u + 6 : Nat) : Int), mv_I k, mv_I (u : Int)]) (st' := [mv_I 0]) (M1 := M) rfl ?_
            exact mv_retW (fun n => rfl) ⟨congrArg mv_I (by first | with_reducible rfl | omega), ⟨V, P, n, B, K, t, h⟩⟩
        · refine mv_goW 2 (pc' := 86) (ls' := [mv_R 0, mv_I ((u + 6 : Nat) : Int), mv_I k, mv_I (u : Int)]) (st' := [mv_I (-13)]) (M1 := M) rfl ?_
          refine mv_retW (fun n => rfl) ⟨_, rfl, ?_⟩
          refine mv_goW 3 (pc' := 4) (ls' := [mv_R 100, mv_I ((u + 6 : Nat) : Int), mv_I k, mv_U]) (st' := [mv_I 6, mv_I 0, mv_I k]) (M1 := M) rfl ?_
          have ha148 : (0 : Int) ≤ k ∧ k ≤ (6 : Int) := by omega
          refine mv_callPW (st2 := [mv_I 1]) rfl (Or.inr rfl) rfl rfl rfl (sp_min_t ha148) (by first | decide | omega) ?_
          refine mv_goW 1 (pc' := if 1 = 0 then 10 else 13) (ls' := [mv_R 100, mv_I ((u + 6 : Nat) : Int), mv_I k, mv_U]) (st' := []) (M1 := M) rfl ?_
          refine mv_ffW (by decide) ?_
          refine mv_goW 3 (pc' := 17) (ls' := [mv_R 100, mv_I ((u + 6 : Nat) : Int), mv_I k, mv_U]) (st' := [mv_I 11, mv_I 0, mv_I ((u + 6 : Nat) : Int)]) (M1 := M) rfl ?_
          have ha149 : (0 : Int) ≤ ((u + 6 : Nat) : Int) ∧ ((u + 6 : Nat) : Int) ≤ (11 : Int) := by omega
          refine mv_callPW (st2 := [mv_I 1]) rfl (Or.inr rfl) rfl rfl rfl (sp_min_t ha149) (by first | decide | omega) ?_
          refine mv_goW 1 (pc' := if 1 = 0 then 23 else 26) (ls' := [mv_R 100, mv_I ((u + 6 : Nat) : Int), mv_I k, mv_U]) (st' := []) (M1 := M) rfl ?_
          refine mv_ffW (by decide) ?_
          refine mv_goW 3 (pc' := if 6 = 0 then mv_bad else 30) (ls' := [mv_R 100, mv_I ((u + 6 : Nat) : Int), mv_I k, mv_U]) (st' := [mv_I (mv_w (((u + 6 : Nat) : Int).tmod 6))]) (M1 := M) rfl ?_
          refine mv_ffW (by omega) ?_
          rw [show mv_w (((u + 6 : Nat) : Int).tmod 6) = (u : Int) from by exact sp_tm6b hu]
          refine mv_goW 2 (pc' := 34) (ls' := [mv_R 100, mv_I ((u + 6 : Nat) : Int), mv_I k, mv_U]) (st' := [mv_I (M 100 1), mv_I (u : Int)]) (M1 := M) rfl ?_
          have hr67 := sp_ok_s9 ho
          rw [show M 100 1 = V 0 9 from by exact sp_m_s9 hm]
          refine mv_goW 1 (pc' := if (u : Int) < (V 0 9) then 40 else 37) (ls' := [mv_R 100, mv_I ((u + 6 : Nat) : Int), mv_I k, mv_U]) (st' := []) (M1 := M) rfl ?_
          refine mv_ttW (by omega) ?_
          refine mv_goW 3 (pc' := if ((u + 6 : Nat) : Int) < 6 then 81 else 46) (ls' := [mv_R 100, mv_I ((u + 6 : Nat) : Int), mv_I k, mv_U]) (st' := []) (M1 := M) rfl ?_
          refine mv_ffW (by omega) ?_
          refine mv_goW 7 (pc' := if k = 6 then 62 else 57) (ls' := [mv_R 100, mv_I ((u + 6 : Nat) : Int), mv_I k, mv_I (mv_w (((u + 6 : Nat) : Int) - 6))]) (st' := []) (M1 := M) rfl ?_
          rw [show mv_w (((u + 6 : Nat) : Int) - 6) = ((u + 6 : Nat) : Int) - 6 from mv_w_id (by omega) (by omega)]
          rw [show ((u + 6 : Nat) : Int) - 6 = (u : Int) from by omega]
          refine mv_ffW (by omega) ?_
          refine mv_goW 2 (pc' := 80) (ls' := [mv_R 100, mv_I ((u + 6 : Nat) : Int), mv_I k, mv_I (u : Int)]) (st' := [mv_I (-13)]) (M1 := M) rfl ?_
          exact mv_retW (fun n => rfl) ⟨congrArg mv_I (by first | with_reducible rfl | omega), ⟨V, P, n, B, K, t, h⟩⟩
theorem sp_k35_4 (u x : Nat) (k : Int) (hx : x = 0 ∨ x = 6) (hu : u < 6) : ∀ V P n B K t M, sp_R V P n B K t M → (u : Int) < V 0 9 → V 4 u = 4 → mv_W 20 96 0 [mv_R 0, mv_I ((u + x : Nat) : Int), mv_I k, mv_U] [] M (fun v M1 => ∃ z, v = mv_I z ∧ mv_W 20 192 0 [mv_R 100, mv_I ((u + x : Nat) : Int), mv_I k, mv_U] [] M1 (fun w M2 => w = mv_I z ∧ sp_Inv M2)) := by
  intro V P n B K t M h hn hk
  have h' := h
  obtain ⟨⟨hc, hm, ho⟩, _⟩ := h'
  have h9 := sp_ok_s9 ho
  rcases hx with q | q
  · subst q
    rw [Nat.add_zero]
    refine mv_goW 2 (pc' := if k < 0 then 10 else 4) (ls' := [mv_R 0, mv_I (u : Int), mv_I k, mv_U]) (st' := []) (M1 := M) rfl ?_
    refine mv_spW (fun ha150 => ?_) (fun ha150 => ?_)
    · refine mv_goW 1 (pc' := 12) (ls' := [mv_R 0, mv_I (u : Int), mv_I k, mv_U]) (st' := [mv_I (-2)]) (M1 := M) rfl ?_
      refine mv_retW (fun n => rfl) ⟨_, rfl, ?_⟩
      refine mv_goW 3 (pc' := 4) (ls' := [mv_R 100, mv_I (u : Int), mv_I k, mv_U]) (st' := [mv_I 6, mv_I 0, mv_I k]) (M1 := M) rfl ?_
      have ha151 : ¬ ((0 : Int) ≤ k ∧ k ≤ (6 : Int)) := by omega
      refine mv_callPW (st2 := [mv_I 0]) rfl (Or.inr rfl) rfl rfl rfl (sp_min_f ha151) (by first | decide | omega) ?_
      refine mv_goW 1 (pc' := if 0 = 0 then 10 else 13) (ls' := [mv_R 100, mv_I (u : Int), mv_I k, mv_U]) (st' := []) (M1 := M) rfl ?_
      refine mv_ttW (by decide) ?_
      refine mv_goW 1 (pc' := 12) (ls' := [mv_R 100, mv_I (u : Int), mv_I k, mv_U]) (st' := [mv_I (-2)]) (M1 := M) rfl ?_
      exact mv_retW (fun n => rfl) ⟨congrArg mv_I (by first | with_reducible rfl | omega), ⟨V, P, n, B, K, t, h⟩⟩
    · refine mv_goW 3 (pc' := if 6 < k then 10 else 13) (ls' := [mv_R 0, mv_I (u : Int), mv_I k, mv_U]) (st' := []) (M1 := M) rfl ?_
      refine mv_spW (fun ha152 => ?_) (fun ha152 => ?_)
      · refine mv_goW 1 (pc' := 12) (ls' := [mv_R 0, mv_I (u : Int), mv_I k, mv_U]) (st' := [mv_I (-2)]) (M1 := M) rfl ?_
        refine mv_retW (fun n => rfl) ⟨_, rfl, ?_⟩
        refine mv_goW 3 (pc' := 4) (ls' := [mv_R 100, mv_I (u : Int), mv_I k, mv_U]) (st' := [mv_I 6, mv_I 0, mv_I k]) (M1 := M) rfl ?_
        have ha153 : ¬ ((0 : Int) ≤ k ∧ k ≤ (6 : Int)) := by omega
        refine mv_callPW (st2 := [mv_I 0]) rfl (Or.inr rfl) rfl rfl rfl (sp_min_f ha153) (by first | decide | omega) ?_
        refine mv_goW 1 (pc' := if 0 = 0 then 10 else 13) (ls' := [mv_R 100, mv_I (u : Int), mv_I k, mv_U]) (st' := []) (M1 := M) rfl ?_
        refine mv_ttW (by decide) ?_
        refine mv_goW 1 (pc' := 12) (ls' := [mv_R 100, mv_I (u : Int), mv_I k, mv_U]) (st' := [mv_I (-2)]) (M1 := M) rfl ?_
        exact mv_retW (fun n => rfl) ⟨congrArg mv_I (by first | with_reducible rfl | omega), ⟨V, P, n, B, K, t, h⟩⟩
      · refine mv_goW 2 (pc' := if (u : Int) < 0 then 23 else 17) (ls' := [mv_R 0, mv_I (u : Int), mv_I k, mv_U]) (st' := []) (M1 := M) rfl ?_
        refine mv_ffW (by omega) ?_
        refine mv_goW 3 (pc' := if (u : Int) < 12 then 26 else 23) (ls' := [mv_R 0, mv_I (u : Int), mv_I k, mv_U]) (st' := []) (M1 := M) rfl ?_
        refine mv_ttW (by omega) ?_
        refine mv_goW 3 (pc' := if 6 = 0 then mv_bad else 30) (ls' := [mv_R 0, mv_I (u : Int), mv_I k, mv_U]) (st' := [mv_I (mv_w ((u : Int).tmod 6))]) (M1 := M) rfl ?_
        refine mv_ffW (by omega) ?_
        rw [show mv_w ((u : Int).tmod 6) = (u : Int) from by exact sp_tm6a hu]
        refine mv_goW 4 (pc' := 36) (ls' := [mv_R 0, mv_I (u : Int), mv_I k, mv_I (u : Int)]) (st' := [mv_I (u : Int), mv_R 30]) (M1 := M) rfl ?_
        have ha154 : 0 ≤ (u : Int) ∧ (u : Int) < V 0 9 := by omega
        refine mv_callPW (st2 := [mv_I 1]) rfl (Or.inl rfl) rfl rfl rfl (sp_cisUncle_t_30 hc ho ha154) (by first | decide | omega) ?_
        refine mv_goW 1 (pc' := if 1 = 0 then 42 else 45) (ls' := [mv_R 0, mv_I (u : Int), mv_I k, mv_I (u : Int)]) (st' := []) (M1 := M) rfl ?_
        refine mv_ffW (by decide) ?_
        refine mv_goW 3 (pc' := if (u : Int) < 6 then 87 else 51) (ls' := [mv_R 0, mv_I (u : Int), mv_I k, mv_I (u : Int)]) (st' := []) (M1 := M) rfl ?_
        refine mv_ttW (by omega) ?_
        refine mv_goW 5 (pc' := if 0 ≤ (u : Int) ∧ (u : Int) < 6 then 96 else mv_bad) (ls' := [mv_R 0, mv_I (u : Int), mv_I k, mv_I (u : Int)]) (st' := [mv_I (M 34 u)]) (M1 := M) rfl ?_
        refine mv_ttW (by omega) ?_
        have hr69 := sp_ok_4 ho u (by omega)
        rw [show M 34 u = V 4 u from by exact sp_c_4 hc u (by omega)]
        rw [show V 4 u = 4 from by exact hk]
        refine mv_goW 1 (pc' := 97) (ls' := [mv_R 0, mv_I (u : Int), mv_I k, mv_I (u : Int)]) (st' := [mv_I k, mv_I 4]) (M1 := M) rfl ?_
        by_cases ha155 : k = 4 ∨ k = 2 ∨ k = 0
        · refine mv_callPW (st2 := [mv_I 1]) rfl (Or.inr rfl) rfl rfl rfl (sp_isOf_4_t ha155) (by first | decide | omega) ?_
          refine mv_goW 1 (pc' := if 1 = 0 then 107 else 103) (ls' := [mv_R 0, mv_I (u : Int), mv_I k, mv_I (u : Int)]) (st' := []) (M1 := M) rfl ?_
          refine mv_ffW (by decide) ?_
          refine mv_goW 2 (pc' := 109) (ls' := [mv_R 0, mv_I (u : Int), mv_I k, mv_I (u : Int)]) (st' := [mv_I (u : Int)]) (M1 := M) rfl ?_
          refine mv_retW (fun n => rfl) ⟨_, rfl, ?_⟩
          refine mv_goW 3 (pc' := 4) (ls' := [mv_R 100, mv_I (u : Int), mv_I k, mv_U]) (st' := [mv_I 6, mv_I 0, mv_I k]) (M1 := M) rfl ?_
          have ha156 : (0 : Int) ≤ k ∧ k ≤ (6 : Int) := by omega
          refine mv_callPW (st2 := [mv_I 1]) rfl (Or.inr rfl) rfl rfl rfl (sp_min_t ha156) (by first | decide | omega) ?_
          refine mv_goW 1 (pc' := if 1 = 0 then 10 else 13) (ls' := [mv_R 100, mv_I (u : Int), mv_I k, mv_U]) (st' := []) (M1 := M) rfl ?_
          refine mv_ffW (by decide) ?_
          refine mv_goW 3 (pc' := 17) (ls' := [mv_R 100, mv_I (u : Int), mv_I k, mv_U]) (st' := [mv_I 11, mv_I 0, mv_I (u : Int)]) (M1 := M) rfl ?_
          have ha157 : (0 : Int) ≤ (u : Int) ∧ (u : Int) ≤ (11 : Int) := by omega
          refine mv_callPW (st2 := [mv_I 1]) rfl (Or.inr rfl) rfl rfl rfl (sp_min_t ha157) (by first | decide | omega) ?_
          refine mv_goW 1 (pc' := if 1 = 0 then 23 else 26) (ls' := [mv_R 100, mv_I (u : Int), mv_I k, mv_U]) (st' := []) (M1 := M) rfl ?_
          refine mv_ffW (by decide) ?_
          refine mv_goW 3 (pc' := if 6 = 0 then mv_bad else 30) (ls' := [mv_R 100, mv_I (u : Int), mv_I k, mv_U]) (st' := [mv_I (mv_w ((u : Int).tmod 6))]) (M1 := M) rfl ?_
          refine mv_ffW (by omega) ?_
          rw [show mv_w ((u : Int).tmod 6) = (u : Int) from by exact sp_tm6a hu]
          refine mv_goW 2 (pc' := 34) (ls' := [mv_R 100, mv_I (u : Int), mv_I k, mv_U]) (st' := [mv_I (M 100 1), mv_I (u : Int)]) (M1 := M) rfl ?_
          have hr71 := sp_ok_s9 ho
          rw [show M 100 1 = V 0 9 from by exact sp_m_s9 hm]
          refine mv_goW 1 (pc' := if (u : Int) < (V 0 9) then 40 else 37) (ls' := [mv_R 100, mv_I (u : Int), mv_I k, mv_U]) (st' := []) (M1 := M) rfl ?_
          refine mv_ttW (by omega) ?_
          refine mv_goW 3 (pc' := if (u : Int) < 6 then 81 else 46) (ls' := [mv_R 100, mv_I (u : Int), mv_I k, mv_U]) (st' := []) (M1 := M) rfl ?_
          refine mv_ttW (by omega) ?_
          refine mv_goW 3 (pc' := if k < 6 then 87 else 104) (ls' := [mv_R 100, mv_I (u : Int), mv_I k, mv_U]) (st' := []) (M1 := M) rfl ?_
          refine mv_ttW (by omega) ?_
          refine mv_goW 4 (pc' := if 0 ≤ (u : Int) ∧ (u : Int) < 6 then 93 else mv_bad) (ls' := [mv_R 100, mv_I (u : Int), mv_I k, mv_U]) (st' := [mv_I (M 102 u)]) (M1 := M) rfl ?_
          refine mv_ttW (by omega) ?_
          have hr73 := sp_ok_4 ho u (by omega)
          rw [show M 102 u = V 4 u from by exact sp_m_4 hm u (by omega)]
          rw [show V 4 u = 4 from by exact hk]
          refine mv_goW 1 (pc' := 94) (ls' := [mv_R 100, mv_I (u : Int), mv_I k, mv_U]) (st' := [mv_I k, mv_I 4]) (M1 := M) rfl ?_
          have ha158 : k = 4 ∨ k = 2 ∨ k = 0 := by omega
          refine mv_callPW (st2 := [mv_I 1]) rfl (Or.inr rfl) rfl rfl rfl (sp_isUn_4_t ha158) (by first | decide | omega) ?_
          refine mv_goW 1 (pc' := if 1 = 0 then 104 else 100) (ls' := [mv_R 100, mv_I (u : Int), mv_I k, mv_U]) (st' := []) (M1 := M) rfl ?_
          refine mv_ffW (by decide) ?_
          refine mv_goW 2 (pc' := 106) (ls' := [mv_R 100, mv_I (u : Int), mv_I k, mv_U]) (st' := [mv_I (u : Int)]) (M1 := M) rfl ?_
          exact mv_retW (fun n => rfl) ⟨congrArg mv_I (by first | with_reducible rfl | omega), ⟨V, P, n, B, K, t, h⟩⟩
        · refine mv_callPW (st2 := [mv_I 0]) rfl (Or.inr rfl) rfl rfl rfl (sp_isOf_4_f ha155) (by first | decide | omega) ?_
          refine mv_goW 1 (pc' := if 0 = 0 then 107 else 103) (ls' := [mv_R 0, mv_I (u : Int), mv_I k, mv_I (u : Int)]) (st' := []) (M1 := M) rfl ?_
          refine mv_ttW (by decide) ?_
          refine mv_goW 1 (pc' := 109) (ls' := [mv_R 0, mv_I (u : Int), mv_I k, mv_I (u : Int)]) (st' := [mv_I (-13)]) (M1 := M) rfl ?_
          refine mv_retW (fun n => rfl) ⟨_, rfl, ?_⟩
          refine mv_goW 3 (pc' := 4) (ls' := [mv_R 100, mv_I (u : Int), mv_I k, mv_U]) (st' := [mv_I 6, mv_I 0, mv_I k]) (M1 := M) rfl ?_
          have ha159 : (0 : Int) ≤ k ∧ k ≤ (6 : Int) := by omega
          refine mv_callPW (st2 := [mv_I 1]) rfl (Or.inr rfl) rfl rfl rfl (sp_min_t ha159) (by first | decide | omega) ?_
          refine mv_goW 1 (pc' := if 1 = 0 then 10 else 13) (ls' := [mv_R 100, mv_I (u : Int), mv_I k, mv_U]) (st' := []) (M1 := M) rfl ?_
          refine mv_ffW (by decide) ?_
          refine mv_goW 3 (pc' := 17) (ls' := [mv_R 100, mv_I (u : Int), mv_I k, mv_U]) (st' := [mv_I 11, mv_I 0, mv_I (u : Int)]) (M1 := M) rfl ?_
          have ha160 : (0 : Int) ≤ (u : Int) ∧ (u : Int) ≤ (11 : Int) := by omega
          refine mv_callPW (st2 := [mv_I 1]) rfl (Or.inr rfl) rfl rfl rfl (sp_min_t ha160) (by first | decide | omega) ?_
          refine mv_goW 1 (pc' := if 1 = 0 then 23 else 26) (ls' := [mv_R 100, mv_I (u : Int), mv_I k, mv_U]) (st' := []) (M1 := M) rfl ?_
          refine mv_ffW (by decide) ?_
          refine mv_goW 3 (pc' := if 6 = 0 then mv_bad else 30) (ls' := [mv_R 100, mv_I (u : Int), mv_I k, mv_U]) (st' := [mv_I (mv_w ((u : Int).tmod 6))]) (M1 := M) rfl ?_
          refine mv_ffW (by omega) ?_
          rw [show mv_w ((u : Int).tmod 6) = (u : Int) from by exact sp_tm6a hu]
          refine mv_goW 2 (pc' := 34) (ls' := [mv_R 100, mv_I (u : Int), mv_I k, mv_U]) (st' := [mv_I (M 100 1), mv_I (u : Int)]) (M1 := M) rfl ?_
          have hr75 := sp_ok_s9 ho
          rw [show M 100 1 = V 0 9 from by exact sp_m_s9 hm]
          refine mv_goW 1 (pc' := if (u : Int) < (V 0 9) then 40 else 37) (ls' := [mv_R 100, mv_I (u : Int), mv_I k, mv_U]) (st' := []) (M1 := M) rfl ?_
          refine mv_ttW (by omega) ?_
          refine mv_goW 3 (pc' := if (u : Int) < 6 then 81 else 46) (ls' := [mv_R 100, mv_I (u : Int), mv_I k, mv_U]) (st' := []) (M1 := M) rfl ?_
          refine mv_ttW (by omega) ?_
          refine mv_goW 3 (pc' := if k < 6 then 87 else 104) (ls' := [mv_R 100, mv_I (u : Int), mv_I k, mv_U]) (st' := []) (M1 := M) rfl ?_
          refine mv_spW (fun ha161 => ?_) (fun ha161 => ?_)
          · refine mv_goW 4 (pc' := if 0 ≤ (u : Int) ∧ (u : Int) < 6 then 93 else mv_bad) (ls' := [mv_R 100, mv_I (u : Int), mv_I k, mv_U]) (st' := [mv_I (M 102 u)]) (M1 := M) rfl ?_
            refine mv_ttW (by omega) ?_
            have hr77 := sp_ok_4 ho u (by omega)
            rw [show M 102 u = V 4 u from by exact sp_m_4 hm u (by omega)]
            rw [show V 4 u = 4 from by exact hk]
            refine mv_goW 1 (pc' := 94) (ls' := [mv_R 100, mv_I (u : Int), mv_I k, mv_U]) (st' := [mv_I k, mv_I 4]) (M1 := M) rfl ?_
            have ha162 : ¬ (k = 4 ∨ k = 2 ∨ k = 0) := by omega
            refine mv_callPW (st2 := [mv_I 0]) rfl (Or.inr rfl) rfl rfl rfl (sp_isUn_4_f ha162) (by first | decide | omega) ?_
            refine mv_goW 1 (pc' := if 0 = 0 then 104 else 100) (ls' := [mv_R 100, mv_I (u : Int), mv_I k, mv_U]) (st' := []) (M1 := M) rfl ?_
            refine mv_ttW (by decide) ?_
            refine mv_goW 1 (pc' := 106) (ls' := [mv_R 100, mv_I (u : Int), mv_I k, mv_U]) (st' := [mv_I (-13)]) (M1 := M) rfl ?_
            exact mv_retW (fun n => rfl) ⟨congrArg mv_I (by first | with_reducible rfl | omega), ⟨V, P, n, B, K, t, h⟩⟩
          · refine mv_goW 1 (pc' := 106) (ls' := [mv_R 100, mv_I (u : Int), mv_I k, mv_U]) (st' := [mv_I (-13)]) (M1 := M) rfl ?_
            exact mv_retW (fun n => rfl) ⟨congrArg mv_I (by first | with_reducible rfl | omega), ⟨V, P, n, B, K, t, h⟩⟩
  · subst q
    refine mv_goW 2 (pc' := if k < 0 then 10 else 4) (ls' := [mv_R 0, mv_I ((u + 6 : Nat) : Int), mv_I k, mv_U]) (st' := []) (M1 := M) rfl ?_
    refine mv_spW (fun ha163 => ?_) (fun ha163 => ?_)
    · refine mv_goW 1 (pc' := 12) (ls' := [mv_R 0, mv_I ((u + 6 : Nat) : Int), mv_I k, mv_U]) (st' := [mv_I (-2)]) (M1 := M) rfl ?_
      refine mv_retW (fun n => rfl) ⟨_, rfl, ?_⟩
      refine mv_goW 3 (pc' := 4) (ls' := [mv_R 100, mv_I ((u + 6 : Nat) : Int), mv_I k, mv_U]) (st' := [mv_I 6, mv_I 0, mv_I k]) (M1 := M) rfl ?_
      have ha164 : ¬ ((0 : Int) ≤ k ∧ k ≤ (6 : Int)) := by omega
      refine mv_callPW (st2 := [mv_I 0]) rfl (Or.inr rfl) rfl rfl rfl (sp_min_f ha164) (by first | decide | omega) ?_
      refine mv_goW 1 (pc' := if 0 = 0 then 10 else 13) (ls' := [mv_R 100, mv_I ((u + 6 : Nat) : Int), mv_I k, mv_U]) (st' := []) (M1 := M) rfl ?_
      refine mv_ttW (by decide) ?_
      refine mv_goW 1 (pc' := 12) (ls' := [mv_R 100, mv_I ((u + 6 : Nat) : Int), mv_I k, mv_U]) (st' := [mv_I (-2)]) (M1 := M) rfl ?_
      exact mv_retW (fun n => rfl) ⟨congrArg mv_I (by first | with_reducible rfl | omega), ⟨V, P, n, B, K, t, h⟩⟩
    · refine mv_goW 3 (pc' := if 6 < k then 10 else 13) (ls' := [mv_R 0, mv_I ((u + 6 : Nat) : Int), mv_I k, mv_U]) (st' := []) (M1 := M) rfl ?_
      refine mv_spW (fun ha165 => ?_) (fun ha165 => ?_)
      · refine mv_goW 1 (pc' := 12) (ls' := [mv_R 0, mv_I ((u + 6 : Nat) : Int), mv_I k, mv_U]) (st' := [mv_I (-2)]) (M1 := M) rfl ?_
        refine mv_retW (fun n => rfl) ⟨_, rfl, ?_⟩
        refine mv_goW 3 (pc' := 4) (ls' := [mv_R 100, mv_I ((u + 6 : Nat) : Int), mv_I k, mv_U]) (st' := [mv_I 6, mv_I 0, mv_I k]) (M1 := M) rfl ?_
        have ha166 : ¬ ((0 : Int) ≤ k ∧ k ≤ (6 : Int)) := by omega
        refine mv_callPW (st2 := [mv_I 0]) rfl (Or.inr rfl) rfl rfl rfl (sp_min_f ha166) (by first | decide | omega) ?_
        refine mv_goW 1 (pc' := if 0 = 0 then 10 else 13) (ls' := [mv_R 100, mv_I ((u + 6 : Nat) : Int), mv_I k, mv_U]) (st' := []) (M1 := M) rfl ?_
        refine mv_ttW (by decide) ?_
        refine mv_goW 1 (pc' := 12) (ls' := [mv_R 100, mv_I ((u + 6 : Nat) : Int), mv_I k, mv_U]) (st' := [mv_I (-2)]) (M1 := M) rfl ?_
        exact mv_retW (fun n => rfl) ⟨congrArg mv_I (by first | with_reducible rfl | omega), ⟨V, P, n, B, K, t, h⟩⟩
      · refine mv_goW 2 (pc' := if ((u + 6 : Nat) : Int) < 0 then 23 else 17) (ls' := [mv_R 0, mv_I ((u + 6 : Nat) : Int), mv_I k, mv_U]) (st' := []) (M1 := M) rfl ?_
        refine mv_ffW (by omega) ?_
        refine mv_goW 3 (pc' := if ((u + 6 : Nat) : Int) < 12 then 26 else 23) (ls' := [mv_R 0, mv_I ((u + 6 : Nat) : Int), mv_I k, mv_U]) (st' := []) (M1 := M) rfl ?_
        refine mv_ttW (by omega) ?_
        refine mv_goW 3 (pc' := if 6 = 0 then mv_bad else 30) (ls' := [mv_R 0, mv_I ((u + 6 : Nat) : Int), mv_I k, mv_U]) (st' := [mv_I (mv_w (((u + 6 : Nat) : Int).tmod 6))]) (M1 := M) rfl ?_
        refine mv_ffW (by omega) ?_
        rw [show mv_w (((u + 6 : Nat) : Int).tmod 6) = (u : Int) from by exact sp_tm6b hu]
        refine mv_goW 4 (pc' := 36) (ls' := [mv_R 0, mv_I ((u + 6 : Nat) : Int), mv_I k, mv_I (u : Int)]) (st' := [mv_I (u : Int), mv_R 30]) (M1 := M) rfl ?_
        have ha167 : 0 ≤ (u : Int) ∧ (u : Int) < V 0 9 := by omega
        refine mv_callPW (st2 := [mv_I 1]) rfl (Or.inl rfl) rfl rfl rfl (sp_cisUncle_t_30 hc ho ha167) (by first | decide | omega) ?_
        refine mv_goW 1 (pc' := if 1 = 0 then 42 else 45) (ls' := [mv_R 0, mv_I ((u + 6 : Nat) : Int), mv_I k, mv_I (u : Int)]) (st' := []) (M1 := M) rfl ?_
        refine mv_ffW (by decide) ?_
        refine mv_goW 3 (pc' := if ((u + 6 : Nat) : Int) < 6 then 87 else 51) (ls' := [mv_R 0, mv_I ((u + 6 : Nat) : Int), mv_I k, mv_I (u : Int)]) (st' := []) (M1 := M) rfl ?_
        refine mv_ffW (by omega) ?_
        refine mv_goW 3 (pc' := if k = 6 then 62 else 57) (ls' := [mv_R 0, mv_I ((u + 6 : Nat) : Int), mv_I k, mv_I (u : Int)]) (st' := []) (M1 := M) rfl ?_
        refine mv_spW (fun ha168 => ?_) (fun ha168 => ?_)
        · refine mv_goW 3 (pc' := 67) (ls' := [mv_R 0, mv_I ((u + 6 : Nat) : Int), mv_I k, mv_I (u : Int)]) (st' := [mv_I (u : Int), mv_R 30]) (M1 := M) rfl ?_
          refine mv_callPW (st2 := [mv_I (sp_hired V (u : Int))]) rfl (Or.inl rfl) rfl rfl rfl (sp_hired_30 hc ho) (by first | decide | omega) ?_
          refine mv_goW 3 (pc' := 75) (ls' := [mv_R 0, mv_I ((u + 6 : Nat) : Int), mv_I k, mv_I (u : Int)]) (st' := [mv_I (u : Int), mv_R 30, mv_I (sp_hired V (u : Int))]) (M1 := M) rfl ?_
          refine mv_callPW (st2 := [mv_I (sp_room V u), mv_I (sp_hired V (u : Int))]) rfl (Or.inl rfl) rfl rfl rfl (sp_croom hc ho (by omega)) (by first | decide | omega) ?_
          refine mv_goW 1 (pc' := if (sp_hired V (u : Int)) < (sp_room V u) then 81 else 85) (ls' := [mv_R 0, mv_I ((u + 6 : Nat) : Int), mv_I k, mv_I (u : Int)]) (st' := []) (M1 := M) rfl ?_
          refine mv_spW (fun ha169 => ?_) (fun ha169 => ?_)
          · refine mv_goW 2 (pc' := 86) (ls' := [mv_R 0, mv_I ((u + 6 : Nat) : Int), mv_I k, mv_I (u : Int)]) (st' := [mv_I 1]) (M1 := M) rfl ?_
            refine mv_retW (fun n => rfl) ⟨_, rfl, ?_⟩
            refine mv_goW 3 (pc' := 4) (ls' := [mv_R 100, mv_I ((u + 6 : Nat) : Int), mv_I k, mv_U]) (st' := [mv_I 6, mv_I 0, mv_I k]) (M1 := M) rfl ?_
            have ha170 : (0 : Int) ≤ k ∧ k ≤ (6 : Int) := by omega
            refine mv_callPW (st2 := [mv_I 1]) rfl (Or.inr rfl) rfl rfl rfl (sp_min_t ha170) (by first | decide | omega) ?_
            refine mv_goW 1 (pc' := if 1 = 0 then 10 else 13) (ls' := [mv_R 100, mv_I ((u + 6 : Nat) : Int), mv_I k, mv_U]) (st' := []) (M1 := M) rfl ?_
            refine mv_ffW (by decide) ?_
            refine mv_goW 3 (pc' := 17) (ls' := [mv_R 100, mv_I ((u + 6 : Nat) : Int), mv_I k, mv_U]) (st' := [mv_I 11, mv_I 0, mv_I ((u + 6 : Nat) : Int)]) (M1 := M) rfl ?_
            have ha171 : (0 : Int) ≤ ((u + 6 : Nat) : Int) ∧ ((u + 6 : Nat) : Int) ≤ (11 : Int) := by omega
            refine mv_callPW (st2 := [mv_I 1]) rfl (Or.inr rfl) rfl rfl rfl (sp_min_t ha171) (by first | decide | omega) ?_
            refine mv_goW 1 (pc' := if 1 = 0 then 23 else 26) (ls' := [mv_R 100, mv_I ((u + 6 : Nat) : Int), mv_I k, mv_U]) (st' := []) (M1 := M) rfl ?_
            refine mv_ffW (by decide) ?_
            refine mv_goW 3 (pc' := if 6 = 0 then mv_bad else 30) (ls' := [mv_R 100, mv_I ((u + 6 : Nat) : Int), mv_I k, mv_U]) (st' := [mv_I (mv_w (((u + 6 : Nat) : Int).tmod 6))]) (M1 := M) rfl ?_
            refine mv_ffW (by omega) ?_
            rw [show mv_w (((u + 6 : Nat) : Int).tmod 6) = (u : Int) from by exact sp_tm6b hu]
            refine mv_goW 2 (pc' := 34) (ls' := [mv_R 100, mv_I ((u + 6 : Nat) : Int), mv_I k, mv_U]) (st' := [mv_I (M 100 1), mv_I (u : Int)]) (M1 := M) rfl ?_
            have hr79 := sp_ok_s9 ho
            rw [show M 100 1 = V 0 9 from by exact sp_m_s9 hm]
            refine mv_goW 1 (pc' := if (u : Int) < (V 0 9) then 40 else 37) (ls' := [mv_R 100, mv_I ((u + 6 : Nat) : Int), mv_I k, mv_U]) (st' := []) (M1 := M) rfl ?_
            refine mv_ttW (by omega) ?_
            refine mv_goW 3 (pc' := if ((u + 6 : Nat) : Int) < 6 then 81 else 46) (ls' := [mv_R 100, mv_I ((u + 6 : Nat) : Int), mv_I k, mv_U]) (st' := []) (M1 := M) rfl ?_
            refine mv_ffW (by omega) ?_
            refine mv_goW 7 (pc' := if k = 6 then 62 else 57) (ls' := [mv_R 100, mv_I ((u + 6 : Nat) : Int), mv_I k, mv_I (mv_w (((u + 6 : Nat) : Int) - 6))]) (st' := []) (M1 := M) rfl ?_
            rw [show mv_w (((u + 6 : Nat) : Int) - 6) = ((u + 6 : Nat) : Int) - 6 from mv_w_id (by omega) (by omega)]
            rw [show ((u + 6 : Nat) : Int) - 6 = (u : Int) from by omega]
            refine mv_ttW (by omega) ?_
            refine mv_goW 2 (pc' := 64) (ls' := [mv_R 100, mv_I ((u + 6 : Nat) : Int), mv_I k, mv_I (u : Int)]) (st' := [mv_I (u : Int), mv_R 100]) (M1 := M) rfl ?_
            refine mv_callPW (st2 := [mv_I (sp_hired V (u : Int))]) rfl (Or.inl rfl) rfl rfl rfl (sp_mhired hm ho) (by first | decide | omega) ?_
            refine mv_goW 2 (pc' := 69) (ls' := [mv_R 100, mv_I ((u + 6 : Nat) : Int), mv_I k, mv_I (u : Int)]) (st' := [mv_I (u : Int), mv_R 100, mv_I (sp_hired V (u : Int))]) (M1 := M) rfl ?_
            refine mv_callPW (st2 := [mv_I (sp_room V u), mv_I (sp_hired V (u : Int))]) rfl (Or.inl rfl) rfl rfl rfl (sp_mroom hm ho (by omega)) (by first | decide | omega) ?_
            refine mv_goW 1 (pc' := if (sp_hired V (u : Int)) < (sp_room V u) then 75 else 79) (ls' := [mv_R 100, mv_I ((u + 6 : Nat) : Int), mv_I k, mv_I (u : Int)]) (st' := []) (M1 := M) rfl ?_
            refine mv_ttW (by omega) ?_
            refine mv_goW 2 (pc' := 80) (ls' := [mv_R 100, mv_I ((u + 6 : Nat) : Int), mv_I k, mv_I (u : Int)]) (st' := [mv_I 1]) (M1 := M) rfl ?_
            exact mv_retW (fun n => rfl) ⟨congrArg mv_I (by first | with_reducible rfl | omega), ⟨V, P, n, B, K, t, h⟩⟩
          · refine mv_goW 1 (pc' := 86) (ls' := [mv_R 0, mv_I ((u + 6 : Nat) : Int), mv_I k, mv_I (u : Int)]) (st' := [mv_I 0]) (M1 := M) rfl ?_
            refine mv_retW (fun n => rfl) ⟨_, rfl, ?_⟩
            refine mv_goW 3 (pc' := 4) (ls' := [mv_R 100, mv_I ((u + 6 : Nat) : Int), mv_I k, mv_U]) (st' := [mv_I 6, mv_I 0, mv_I k]) (M1 := M) rfl ?_
            have ha172 : (0 : Int) ≤ k ∧ k ≤ (6 : Int) := by omega
            refine mv_callPW (st2 := [mv_I 1]) rfl (Or.inr rfl) rfl rfl rfl (sp_min_t ha172) (by first | decide | omega) ?_
            refine mv_goW 1 (pc' := if 1 = 0 then 10 else 13) (ls' := [mv_R 100, mv_I ((u + 6 : Nat) : Int), mv_I k, mv_U]) (st' := []) (M1 := M) rfl ?_
            refine mv_ffW (by decide) ?_
            refine mv_goW 3 (pc' := 17) (ls' := [mv_R 100, mv_I ((u + 6 : Nat) : Int), mv_I k, mv_U]) (st' := [mv_I 11, mv_I 0, mv_I ((u + 6 : Nat) : Int)]) (M1 := M) rfl ?_
            have ha173 : (0 : Int) ≤ ((u + 6 : Nat) : Int) ∧ ((u + 6 : Nat) : Int) ≤ (11 : Int) := by omega
            refine mv_callPW (st2 := [mv_I 1]) rfl (Or.inr rfl) rfl rfl rfl (sp_min_t ha173) (by first | decide | omega) ?_
            refine mv_goW 1 (pc' := if 1 = 0 then 23 else 26) (ls' := [mv_R 100, mv_I ((u + 6 : Nat) : Int), mv_I k, mv_U]) (st' := []) (M1 := M) rfl ?_
            refine mv_ffW (by decide) ?_
            refine mv_goW 3 (pc' := if 6 = 0 then mv_bad else 30) (ls' := [mv_R 100, mv_I ((u + 6 : Nat) : Int), mv_I k, mv_U]) (st' := [mv_I (mv_w (((u + 6 : Nat) : Int).tmod 6))]) (M1 := M) rfl ?_
            refine mv_ffW (by omega) ?_
            rw [show mv_w (((u + 6 : Nat) : Int).tmod 6) = (u : Int) from by exact sp_tm6b hu]
            refine mv_goW 2 (pc' := 34) (ls' := [mv_R 100, mv_I ((u + 6 : Nat) : Int), mv_I k, mv_U]) (st' := [mv_I (M 100 1), mv_I (u : Int)]) (M1 := M) rfl ?_
            have hr81 := sp_ok_s9 ho
            rw [show M 100 1 = V 0 9 from by exact sp_m_s9 hm]
            refine mv_goW 1 (pc' := if (u : Int) < (V 0 9) then 40 else 37) (ls' := [mv_R 100, mv_I ((u + 6 : Nat) : Int), mv_I k, mv_U]) (st' := []) (M1 := M) rfl ?_
            refine mv_ttW (by omega) ?_
            refine mv_goW 3 (pc' := if ((u + 6 : Nat) : Int) < 6 then 81 else 46) (ls' := [mv_R 100, mv_I ((u + 6 : Nat) : Int), mv_I k, mv_U]) (st' := []) (M1 := M) rfl ?_
            refine mv_ffW (by omega) ?_
            refine mv_goW 7 (pc' := if k = 6 then 62 else 57) (ls' := [mv_R 100, mv_I ((u + 6 : Nat) : Int), mv_I k, mv_I (mv_w (((u + 6 : Nat) : Int) - 6))]) (st' := []) (M1 := M) rfl ?_
            rw [show mv_w (((u + 6 : Nat) : Int) - 6) = ((u + 6 : Nat) : Int) - 6 from mv_w_id (by omega) (by omega)]
            rw [show ((u + 6 : Nat) : Int) - 6 = (u : Int) from by omega]
            refine mv_ttW (by omega) ?_
            refine mv_goW 2 (pc' := 64) (ls' := [mv_R 100, mv_I ((u + 6 : Nat) : Int), mv_I k, mv_I (u : Int)]) (st' := [mv_I (u : Int), mv_R 100]) (M1 := M) rfl ?_
            refine mv_callPW (st2 := [mv_I (sp_hired V (u : Int))]) rfl (Or.inl rfl) rfl rfl rfl (sp_mhired hm ho) (by first | decide | omega) ?_
            refine mv_goW 2 (pc' := 69) (ls' := [mv_R 100, mv_I ((u + 6 : Nat) : Int), mv_I k, mv_I (u : Int)]) (st' := [mv_I (u : Int), mv_R 100, mv_I (sp_hired V (u : Int))]) (M1 := M) rfl ?_
            refine mv_callPW (st2 := [mv_I (sp_room V u), mv_I (sp_hired V (u : Int))]) rfl (Or.inl rfl) rfl rfl rfl (sp_mroom hm ho (by omega)) (by first | decide | omega) ?_
            refine mv_goW 1 (pc' := if (sp_hired V (u : Int)) < (sp_room V u) then 75 else 79) (ls' := [mv_R 100, mv_I ((u + 6 : Nat) : Int), mv_I k, mv_I (u : Int)]) (st' := []) (M1 := M) rfl ?_
            refine mv_ffW (by omega) ?_
            refine mv_goW 1 (pc' := 80) (ls' := [mv_R 100, mv_I ((u + 6 : Nat) : Int), mv_I k, mv_I (u : Int)]) (st' := [mv_I 0]) (M1 := M) rfl ?_
            exact mv_retW (fun n => rfl) ⟨congrArg mv_I (by first | with_reducible rfl | omega), ⟨V, P, n, B, K, t, h⟩⟩
        · refine mv_goW 2 (pc' := 86) (ls' := [mv_R 0, mv_I ((u + 6 : Nat) : Int), mv_I k, mv_I (u : Int)]) (st' := [mv_I (-13)]) (M1 := M) rfl ?_
          refine mv_retW (fun n => rfl) ⟨_, rfl, ?_⟩
          refine mv_goW 3 (pc' := 4) (ls' := [mv_R 100, mv_I ((u + 6 : Nat) : Int), mv_I k, mv_U]) (st' := [mv_I 6, mv_I 0, mv_I k]) (M1 := M) rfl ?_
          have ha174 : (0 : Int) ≤ k ∧ k ≤ (6 : Int) := by omega
          refine mv_callPW (st2 := [mv_I 1]) rfl (Or.inr rfl) rfl rfl rfl (sp_min_t ha174) (by first | decide | omega) ?_
          refine mv_goW 1 (pc' := if 1 = 0 then 10 else 13) (ls' := [mv_R 100, mv_I ((u + 6 : Nat) : Int), mv_I k, mv_U]) (st' := []) (M1 := M) rfl ?_
          refine mv_ffW (by decide) ?_
          refine mv_goW 3 (pc' := 17) (ls' := [mv_R 100, mv_I ((u + 6 : Nat) : Int), mv_I k, mv_U]) (st' := [mv_I 11, mv_I 0, mv_I ((u + 6 : Nat) : Int)]) (M1 := M) rfl ?_
          have ha175 : (0 : Int) ≤ ((u + 6 : Nat) : Int) ∧ ((u + 6 : Nat) : Int) ≤ (11 : Int) := by omega
          refine mv_callPW (st2 := [mv_I 1]) rfl (Or.inr rfl) rfl rfl rfl (sp_min_t ha175) (by first | decide | omega) ?_
          refine mv_goW 1 (pc' := if 1 = 0 then 23 else 26) (ls' := [mv_R 100, mv_I ((u + 6 : Nat) : Int), mv_I k, mv_U]) (st' := []) (M1 := M) rfl ?_
          refine mv_ffW (by decide) ?_
          refine mv_goW 3 (pc' := if 6 = 0 then mv_bad else 30) (ls' := [mv_R 100, mv_I ((u + 6 : Nat) : Int), mv_I k, mv_U]) (st' := [mv_I (mv_w (((u + 6 : Nat) : Int).tmod 6))]) (M1 := M) rfl ?_
          refine mv_ffW (by omega) ?_
          rw [show mv_w (((u + 6 : Nat) : Int).tmod 6) = (u : Int) from by exact sp_tm6b hu]
          refine mv_goW 2 (pc' := 34) (ls' := [mv_R 100, mv_I ((u + 6 : Nat) : Int), mv_I k, mv_U]) (st' := [mv_I (M 100 1), mv_I (u : Int)]) (M1 := M) rfl ?_
          have hr83 := sp_ok_s9 ho
          rw [show M 100 1 = V 0 9 from by exact sp_m_s9 hm]
          refine mv_goW 1 (pc' := if (u : Int) < (V 0 9) then 40 else 37) (ls' := [mv_R 100, mv_I ((u + 6 : Nat) : Int), mv_I k, mv_U]) (st' := []) (M1 := M) rfl ?_
          refine mv_ttW (by omega) ?_
          refine mv_goW 3 (pc' := if ((u + 6 : Nat) : Int) < 6 then 81 else 46) (ls' := [mv_R 100, mv_I ((u + 6 : Nat) : Int), mv_I k, mv_U]) (st' := []) (M1 := M) rfl ?_
          refine mv_ffW (by omega) ?_
          refine mv_goW 7 (pc' := if k = 6 then 62 else 57) (ls' := [mv_R 100, mv_I ((u + 6 : Nat) : Int), mv_I k, mv_I (mv_w (((u + 6 : Nat) : Int) - 6))]) (st' := []) (M1 := M) rfl ?_
          rw [show mv_w (((u + 6 : Nat) : Int) - 6) = ((u + 6 : Nat) : Int) - 6 from mv_w_id (by omega) (by omega)]
          rw [show ((u + 6 : Nat) : Int) - 6 = (u : Int) from by omega]
          refine mv_ffW (by omega) ?_
          refine mv_goW 2 (pc' := 80) (ls' := [mv_R 100, mv_I ((u + 6 : Nat) : Int), mv_I k, mv_I (u : Int)]) (st' := [mv_I (-13)]) (M1 := M) rfl ?_
          exact mv_retW (fun n => rfl) ⟨congrArg mv_I (by first | with_reducible rfl | omega), ⟨V, P, n, B, K, t, h⟩⟩
theorem sp_k35_5 (u x : Nat) (k : Int) (hx : x = 0 ∨ x = 6) (hu : u < 6) : ∀ V P n B K t M, sp_R V P n B K t M → (u : Int) < V 0 9 → V 4 u = 5 → mv_W 20 96 0 [mv_R 0, mv_I ((u + x : Nat) : Int), mv_I k, mv_U] [] M (fun v M1 => ∃ z, v = mv_I z ∧ mv_W 20 192 0 [mv_R 100, mv_I ((u + x : Nat) : Int), mv_I k, mv_U] [] M1 (fun w M2 => w = mv_I z ∧ sp_Inv M2)) := by
  intro V P n B K t M h hn hk
  have h' := h
  obtain ⟨⟨hc, hm, ho⟩, _⟩ := h'
  have h9 := sp_ok_s9 ho
  rcases hx with q | q
  · subst q
    rw [Nat.add_zero]
    refine mv_goW 2 (pc' := if k < 0 then 10 else 4) (ls' := [mv_R 0, mv_I (u : Int), mv_I k, mv_U]) (st' := []) (M1 := M) rfl ?_
    refine mv_spW (fun ha176 => ?_) (fun ha176 => ?_)
    · refine mv_goW 1 (pc' := 12) (ls' := [mv_R 0, mv_I (u : Int), mv_I k, mv_U]) (st' := [mv_I (-2)]) (M1 := M) rfl ?_
      refine mv_retW (fun n => rfl) ⟨_, rfl, ?_⟩
      refine mv_goW 3 (pc' := 4) (ls' := [mv_R 100, mv_I (u : Int), mv_I k, mv_U]) (st' := [mv_I 6, mv_I 0, mv_I k]) (M1 := M) rfl ?_
      have ha177 : ¬ ((0 : Int) ≤ k ∧ k ≤ (6 : Int)) := by omega
      refine mv_callPW (st2 := [mv_I 0]) rfl (Or.inr rfl) rfl rfl rfl (sp_min_f ha177) (by first | decide | omega) ?_
      refine mv_goW 1 (pc' := if 0 = 0 then 10 else 13) (ls' := [mv_R 100, mv_I (u : Int), mv_I k, mv_U]) (st' := []) (M1 := M) rfl ?_
      refine mv_ttW (by decide) ?_
      refine mv_goW 1 (pc' := 12) (ls' := [mv_R 100, mv_I (u : Int), mv_I k, mv_U]) (st' := [mv_I (-2)]) (M1 := M) rfl ?_
      exact mv_retW (fun n => rfl) ⟨congrArg mv_I (by first | with_reducible rfl | omega), ⟨V, P, n, B, K, t, h⟩⟩
    · refine mv_goW 3 (pc' := if 6 < k then 10 else 13) (ls' := [mv_R 0, mv_I (u : Int), mv_I k, mv_U]) (st' := []) (M1 := M) rfl ?_
      refine mv_spW (fun ha178 => ?_) (fun ha178 => ?_)
      · refine mv_goW 1 (pc' := 12) (ls' := [mv_R 0, mv_I (u : Int), mv_I k, mv_U]) (st' := [mv_I (-2)]) (M1 := M) rfl ?_
        refine mv_retW (fun n => rfl) ⟨_, rfl, ?_⟩
        refine mv_goW 3 (pc' := 4) (ls' := [mv_R 100, mv_I (u : Int), mv_I k, mv_U]) (st' := [mv_I 6, mv_I 0, mv_I k]) (M1 := M) rfl ?_
        have ha179 : ¬ ((0 : Int) ≤ k ∧ k ≤ (6 : Int)) := by omega
        refine mv_callPW (st2 := [mv_I 0]) rfl (Or.inr rfl) rfl rfl rfl (sp_min_f ha179) (by first | decide | omega) ?_
        refine mv_goW 1 (pc' := if 0 = 0 then 10 else 13) (ls' := [mv_R 100, mv_I (u : Int), mv_I k, mv_U]) (st' := []) (M1 := M) rfl ?_
        refine mv_ttW (by decide) ?_
        refine mv_goW 1 (pc' := 12) (ls' := [mv_R 100, mv_I (u : Int), mv_I k, mv_U]) (st' := [mv_I (-2)]) (M1 := M) rfl ?_
        exact mv_retW (fun n => rfl) ⟨congrArg mv_I (by first | with_reducible rfl | omega), ⟨V, P, n, B, K, t, h⟩⟩
      · refine mv_goW 2 (pc' := if (u : Int) < 0 then 23 else 17) (ls' := [mv_R 0, mv_I (u : Int), mv_I k, mv_U]) (st' := []) (M1 := M) rfl ?_
        refine mv_ffW (by omega) ?_
        refine mv_goW 3 (pc' := if (u : Int) < 12 then 26 else 23) (ls' := [mv_R 0, mv_I (u : Int), mv_I k, mv_U]) (st' := []) (M1 := M) rfl ?_
        refine mv_ttW (by omega) ?_
        refine mv_goW 3 (pc' := if 6 = 0 then mv_bad else 30) (ls' := [mv_R 0, mv_I (u : Int), mv_I k, mv_U]) (st' := [mv_I (mv_w ((u : Int).tmod 6))]) (M1 := M) rfl ?_
        refine mv_ffW (by omega) ?_
        rw [show mv_w ((u : Int).tmod 6) = (u : Int) from by exact sp_tm6a hu]
        refine mv_goW 4 (pc' := 36) (ls' := [mv_R 0, mv_I (u : Int), mv_I k, mv_I (u : Int)]) (st' := [mv_I (u : Int), mv_R 30]) (M1 := M) rfl ?_
        have ha180 : 0 ≤ (u : Int) ∧ (u : Int) < V 0 9 := by omega
        refine mv_callPW (st2 := [mv_I 1]) rfl (Or.inl rfl) rfl rfl rfl (sp_cisUncle_t_30 hc ho ha180) (by first | decide | omega) ?_
        refine mv_goW 1 (pc' := if 1 = 0 then 42 else 45) (ls' := [mv_R 0, mv_I (u : Int), mv_I k, mv_I (u : Int)]) (st' := []) (M1 := M) rfl ?_
        refine mv_ffW (by decide) ?_
        refine mv_goW 3 (pc' := if (u : Int) < 6 then 87 else 51) (ls' := [mv_R 0, mv_I (u : Int), mv_I k, mv_I (u : Int)]) (st' := []) (M1 := M) rfl ?_
        refine mv_ttW (by omega) ?_
        refine mv_goW 5 (pc' := if 0 ≤ (u : Int) ∧ (u : Int) < 6 then 96 else mv_bad) (ls' := [mv_R 0, mv_I (u : Int), mv_I k, mv_I (u : Int)]) (st' := [mv_I (M 34 u)]) (M1 := M) rfl ?_
        refine mv_ttW (by omega) ?_
        have hr85 := sp_ok_4 ho u (by omega)
        rw [show M 34 u = V 4 u from by exact sp_c_4 hc u (by omega)]
        rw [show V 4 u = 5 from by exact hk]
        refine mv_goW 1 (pc' := 97) (ls' := [mv_R 0, mv_I (u : Int), mv_I k, mv_I (u : Int)]) (st' := [mv_I k, mv_I 5]) (M1 := M) rfl ?_
        by_cases ha181 : k = 5 ∨ k = 0
        · refine mv_callPW (st2 := [mv_I 1]) rfl (Or.inr rfl) rfl rfl rfl (sp_isOf_5_t ha181) (by first | decide | omega) ?_
          refine mv_goW 1 (pc' := if 1 = 0 then 107 else 103) (ls' := [mv_R 0, mv_I (u : Int), mv_I k, mv_I (u : Int)]) (st' := []) (M1 := M) rfl ?_
          refine mv_ffW (by decide) ?_
          refine mv_goW 2 (pc' := 109) (ls' := [mv_R 0, mv_I (u : Int), mv_I k, mv_I (u : Int)]) (st' := [mv_I (u : Int)]) (M1 := M) rfl ?_
          refine mv_retW (fun n => rfl) ⟨_, rfl, ?_⟩
          refine mv_goW 3 (pc' := 4) (ls' := [mv_R 100, mv_I (u : Int), mv_I k, mv_U]) (st' := [mv_I 6, mv_I 0, mv_I k]) (M1 := M) rfl ?_
          have ha182 : (0 : Int) ≤ k ∧ k ≤ (6 : Int) := by omega
          refine mv_callPW (st2 := [mv_I 1]) rfl (Or.inr rfl) rfl rfl rfl (sp_min_t ha182) (by first | decide | omega) ?_
          refine mv_goW 1 (pc' := if 1 = 0 then 10 else 13) (ls' := [mv_R 100, mv_I (u : Int), mv_I k, mv_U]) (st' := []) (M1 := M) rfl ?_
          refine mv_ffW (by decide) ?_
          refine mv_goW 3 (pc' := 17) (ls' := [mv_R 100, mv_I (u : Int), mv_I k, mv_U]) (st' := [mv_I 11, mv_I 0, mv_I (u : Int)]) (M1 := M) rfl ?_
          have ha183 : (0 : Int) ≤ (u : Int) ∧ (u : Int) ≤ (11 : Int) := by omega
          refine mv_callPW (st2 := [mv_I 1]) rfl (Or.inr rfl) rfl rfl rfl (sp_min_t ha183) (by first | decide | omega) ?_
          refine mv_goW 1 (pc' := if 1 = 0 then 23 else 26) (ls' := [mv_R 100, mv_I (u : Int), mv_I k, mv_U]) (st' := []) (M1 := M) rfl ?_
          refine mv_ffW (by decide) ?_
          refine mv_goW 3 (pc' := if 6 = 0 then mv_bad else 30) (ls' := [mv_R 100, mv_I (u : Int), mv_I k, mv_U]) (st' := [mv_I (mv_w ((u : Int).tmod 6))]) (M1 := M) rfl ?_
          refine mv_ffW (by omega) ?_
          rw [show mv_w ((u : Int).tmod 6) = (u : Int) from by exact sp_tm6a hu]
          refine mv_goW 2 (pc' := 34) (ls' := [mv_R 100, mv_I (u : Int), mv_I k, mv_U]) (st' := [mv_I (M 100 1), mv_I (u : Int)]) (M1 := M) rfl ?_
          have hr87 := sp_ok_s9 ho
          rw [show M 100 1 = V 0 9 from by exact sp_m_s9 hm]
          refine mv_goW 1 (pc' := if (u : Int) < (V 0 9) then 40 else 37) (ls' := [mv_R 100, mv_I (u : Int), mv_I k, mv_U]) (st' := []) (M1 := M) rfl ?_
          refine mv_ttW (by omega) ?_
          refine mv_goW 3 (pc' := if (u : Int) < 6 then 81 else 46) (ls' := [mv_R 100, mv_I (u : Int), mv_I k, mv_U]) (st' := []) (M1 := M) rfl ?_
          refine mv_ttW (by omega) ?_
          refine mv_goW 3 (pc' := if k < 6 then 87 else 104) (ls' := [mv_R 100, mv_I (u : Int), mv_I k, mv_U]) (st' := []) (M1 := M) rfl ?_
          refine mv_ttW (by omega) ?_
          refine mv_goW 4 (pc' := if 0 ≤ (u : Int) ∧ (u : Int) < 6 then 93 else mv_bad) (ls' := [mv_R 100, mv_I (u : Int), mv_I k, mv_U]) (st' := [mv_I (M 102 u)]) (M1 := M) rfl ?_
          refine mv_ttW (by omega) ?_
          have hr89 := sp_ok_4 ho u (by omega)
          rw [show M 102 u = V 4 u from by exact sp_m_4 hm u (by omega)]
          rw [show V 4 u = 5 from by exact hk]
          refine mv_goW 1 (pc' := 94) (ls' := [mv_R 100, mv_I (u : Int), mv_I k, mv_U]) (st' := [mv_I k, mv_I 5]) (M1 := M) rfl ?_
          have ha184 : k = 5 ∨ k = 0 := by omega
          refine mv_callPW (st2 := [mv_I 1]) rfl (Or.inr rfl) rfl rfl rfl (sp_isUn_5_t ha184) (by first | decide | omega) ?_
          refine mv_goW 1 (pc' := if 1 = 0 then 104 else 100) (ls' := [mv_R 100, mv_I (u : Int), mv_I k, mv_U]) (st' := []) (M1 := M) rfl ?_
          refine mv_ffW (by decide) ?_
          refine mv_goW 2 (pc' := 106) (ls' := [mv_R 100, mv_I (u : Int), mv_I k, mv_U]) (st' := [mv_I (u : Int)]) (M1 := M) rfl ?_
          exact mv_retW (fun n => rfl) ⟨congrArg mv_I (by first | with_reducible rfl | omega), ⟨V, P, n, B, K, t, h⟩⟩
        · refine mv_callPW (st2 := [mv_I 0]) rfl (Or.inr rfl) rfl rfl rfl (sp_isOf_5_f ha181) (by first | decide | omega) ?_
          refine mv_goW 1 (pc' := if 0 = 0 then 107 else 103) (ls' := [mv_R 0, mv_I (u : Int), mv_I k, mv_I (u : Int)]) (st' := []) (M1 := M) rfl ?_
          refine mv_ttW (by decide) ?_
          refine mv_goW 1 (pc' := 109) (ls' := [mv_R 0, mv_I (u : Int), mv_I k, mv_I (u : Int)]) (st' := [mv_I (-13)]) (M1 := M) rfl ?_
          refine mv_retW (fun n => rfl) ⟨_, rfl, ?_⟩
          refine mv_goW 3 (pc' := 4) (ls' := [mv_R 100, mv_I (u : Int), mv_I k, mv_U]) (st' := [mv_I 6, mv_I 0, mv_I k]) (M1 := M) rfl ?_
          have ha185 : (0 : Int) ≤ k ∧ k ≤ (6 : Int) := by omega
          refine mv_callPW (st2 := [mv_I 1]) rfl (Or.inr rfl) rfl rfl rfl (sp_min_t ha185) (by first | decide | omega) ?_
          refine mv_goW 1 (pc' := if 1 = 0 then 10 else 13) (ls' := [mv_R 100, mv_I (u : Int), mv_I k, mv_U]) (st' := []) (M1 := M) rfl ?_
          refine mv_ffW (by decide) ?_
          refine mv_goW 3 (pc' := 17) (ls' := [mv_R 100, mv_I (u : Int), mv_I k, mv_U]) (st' := [mv_I 11, mv_I 0, mv_I (u : Int)]) (M1 := M) rfl ?_
          have ha186 : (0 : Int) ≤ (u : Int) ∧ (u : Int) ≤ (11 : Int) := by omega
          refine mv_callPW (st2 := [mv_I 1]) rfl (Or.inr rfl) rfl rfl rfl (sp_min_t ha186) (by first | decide | omega) ?_
          refine mv_goW 1 (pc' := if 1 = 0 then 23 else 26) (ls' := [mv_R 100, mv_I (u : Int), mv_I k, mv_U]) (st' := []) (M1 := M) rfl ?_
          refine mv_ffW (by decide) ?_
          refine mv_goW 3 (pc' := if 6 = 0 then mv_bad else 30) (ls' := [mv_R 100, mv_I (u : Int), mv_I k, mv_U]) (st' := [mv_I (mv_w ((u : Int).tmod 6))]) (M1 := M) rfl ?_
          refine mv_ffW (by omega) ?_
          rw [show mv_w ((u : Int).tmod 6) = (u : Int) from by exact sp_tm6a hu]
          refine mv_goW 2 (pc' := 34) (ls' := [mv_R 100, mv_I (u : Int), mv_I k, mv_U]) (st' := [mv_I (M 100 1), mv_I (u : Int)]) (M1 := M) rfl ?_
          have hr91 := sp_ok_s9 ho
          rw [show M 100 1 = V 0 9 from by exact sp_m_s9 hm]
          refine mv_goW 1 (pc' := if (u : Int) < (V 0 9) then 40 else 37) (ls' := [mv_R 100, mv_I (u : Int), mv_I k, mv_U]) (st' := []) (M1 := M) rfl ?_
          refine mv_ttW (by omega) ?_
          refine mv_goW 3 (pc' := if (u : Int) < 6 then 81 else 46) (ls' := [mv_R 100, mv_I (u : Int), mv_I k, mv_U]) (st' := []) (M1 := M) rfl ?_
          refine mv_ttW (by omega) ?_
          refine mv_goW 3 (pc' := if k < 6 then 87 else 104) (ls' := [mv_R 100, mv_I (u : Int), mv_I k, mv_U]) (st' := []) (M1 := M) rfl ?_
          refine mv_spW (fun ha187 => ?_) (fun ha187 => ?_)
          · refine mv_goW 4 (pc' := if 0 ≤ (u : Int) ∧ (u : Int) < 6 then 93 else mv_bad) (ls' := [mv_R 100, mv_I (u : Int), mv_I k, mv_U]) (st' := [mv_I (M 102 u)]) (M1 := M) rfl ?_
            refine mv_ttW (by omega) ?_
            have hr93 := sp_ok_4 ho u (by omega)
            rw [show M 102 u = V 4 u from by exact sp_m_4 hm u (by omega)]
            rw [show V 4 u = 5 from by exact hk]
            refine mv_goW 1 (pc' := 94) (ls' := [mv_R 100, mv_I (u : Int), mv_I k, mv_U]) (st' := [mv_I k, mv_I 5]) (M1 := M) rfl ?_
            have ha188 : ¬ (k = 5 ∨ k = 0) := by omega
            refine mv_callPW (st2 := [mv_I 0]) rfl (Or.inr rfl) rfl rfl rfl (sp_isUn_5_f ha188) (by first | decide | omega) ?_
            refine mv_goW 1 (pc' := if 0 = 0 then 104 else 100) (ls' := [mv_R 100, mv_I (u : Int), mv_I k, mv_U]) (st' := []) (M1 := M) rfl ?_
            refine mv_ttW (by decide) ?_
            refine mv_goW 1 (pc' := 106) (ls' := [mv_R 100, mv_I (u : Int), mv_I k, mv_U]) (st' := [mv_I (-13)]) (M1 := M) rfl ?_
            exact mv_retW (fun n => rfl) ⟨congrArg mv_I (by first | with_reducible rfl | omega), ⟨V, P, n, B, K, t, h⟩⟩
          · refine mv_goW 1 (pc' := 106) (ls' := [mv_R 100, mv_I (u : Int), mv_I k, mv_U]) (st' := [mv_I (-13)]) (M1 := M) rfl ?_
            exact mv_retW (fun n => rfl) ⟨congrArg mv_I (by first | with_reducible rfl | omega), ⟨V, P, n, B, K, t, h⟩⟩
  · subst q
    refine mv_goW 2 (pc' := if k < 0 then 10 else 4) (ls' := [mv_R 0, mv_I ((u + 6 : Nat) : Int), mv_I k, mv_U]) (st' := []) (M1 := M) rfl ?_
    refine mv_spW (fun ha189 => ?_) (fun ha189 => ?_)
    · refine mv_goW 1 (pc' := 12) (ls' := [mv_R 0, mv_I ((u + 6 : Nat) : Int), mv_I k, mv_U]) (st' := [mv_I (-2)]) (M1 := M) rfl ?_
      refine mv_retW (fun n => rfl) ⟨_, rfl, ?_⟩
      refine mv_goW 3 (pc' := 4) (ls' := [mv_R 100, mv_I ((u + 6 : Nat) : Int), mv_I k, mv_U]) (st' := [mv_I 6, mv_I 0, mv_I k]) (M1 := M) rfl ?_
      have ha190 : ¬ ((0 : Int) ≤ k ∧ k ≤ (6 : Int)) := by omega
      refine mv_callPW (st2 := [mv_I 0]) rfl (Or.inr rfl) rfl rfl rfl (sp_min_f ha190) (by first | decide | omega) ?_
      refine mv_goW 1 (pc' := if 0 = 0 then 10 else 13) (ls' := [mv_R 100, mv_I ((u + 6 : Nat) : Int), mv_I k, mv_U]) (st' := []) (M1 := M) rfl ?_
      refine mv_ttW (by decide) ?_
      refine mv_goW 1 (pc' := 12) (ls' := [mv_R 100, mv_I ((u + 6 : Nat) : Int), mv_I k, mv_U]) (st' := [mv_I (-2)]) (M1 := M) rfl ?_
      exact mv_retW (fun n => rfl) ⟨congrArg mv_I (by first | with_reducible rfl | omega), ⟨V, P, n, B, K, t, h⟩⟩
    · refine mv_goW 3 (pc' := if 6 < k then 10 else 13) (ls' := [mv_R 0, mv_I ((u + 6 : Nat) : Int), mv_I k, mv_U]) (st' := []) (M1 := M) rfl ?_
      refine mv_spW (fun ha191 => ?_) (fun ha191 => ?_)
      · refine mv_goW 1 (pc' := 12) (ls' := [mv_R 0, mv_I ((u + 6 : Nat) : Int), mv_I k, mv_U]) (st' := [mv_I (-2)]) (M1 := M) rfl ?_
        refine mv_retW (fun n => rfl) ⟨_, rfl, ?_⟩
        refine mv_goW 3 (pc' := 4) (ls' := [mv_R 100, mv_I ((u + 6 : Nat) : Int), mv_I k, mv_U]) (st' := [mv_I 6, mv_I 0, mv_I k]) (M1 := M) rfl ?_
        have ha192 : ¬ ((0 : Int) ≤ k ∧ k ≤ (6 : Int)) := by omega
        refine mv_callPW (st2 := [mv_I 0]) rfl (Or.inr rfl) rfl rfl rfl (sp_min_f ha192) (by first | decide | omega) ?_
        refine mv_goW 1 (pc' := if 0 = 0 then 10 else 13) (ls' := [mv_R 100, mv_I ((u + 6 : Nat) : Int), mv_I k, mv_U]) (st' := []) (M1 := M) rfl ?_
        refine mv_ttW (by decide) ?_
        refine mv_goW 1 (pc' := 12) (ls' := [mv_R 100, mv_I ((u + 6 : Nat) : Int), mv_I k, mv_U]) (st' := [mv_I (-2)]) (M1 := M) rfl ?_
        exact mv_retW (fun n => rfl) ⟨congrArg mv_I (by first | with_reducible rfl | omega), ⟨V, P, n, B, K, t, h⟩⟩
      · refine mv_goW 2 (pc' := if ((u + 6 : Nat) : Int) < 0 then 23 else 17) (ls' := [mv_R 0, mv_I ((u + 6 : Nat) : Int), mv_I k, mv_U]) (st' := []) (M1 := M) rfl ?_
        refine mv_ffW (by omega) ?_
        refine mv_goW 3 (pc' := if ((u + 6 : Nat) : Int) < 12 then 26 else 23) (ls' := [mv_R 0, mv_I ((u + 6 : Nat) : Int), mv_I k, mv_U]) (st' := []) (M1 := M) rfl ?_
        refine mv_ttW (by omega) ?_
        refine mv_goW 3 (pc' := if 6 = 0 then mv_bad else 30) (ls' := [mv_R 0, mv_I ((u + 6 : Nat) : Int), mv_I k, mv_U]) (st' := [mv_I (mv_w (((u + 6 : Nat) : Int).tmod 6))]) (M1 := M) rfl ?_
        refine mv_ffW (by omega) ?_
        rw [show mv_w (((u + 6 : Nat) : Int).tmod 6) = (u : Int) from by exact sp_tm6b hu]
        refine mv_goW 4 (pc' := 36) (ls' := [mv_R 0, mv_I ((u + 6 : Nat) : Int), mv_I k, mv_I (u : Int)]) (st' := [mv_I (u : Int), mv_R 30]) (M1 := M) rfl ?_
        have ha193 : 0 ≤ (u : Int) ∧ (u : Int) < V 0 9 := by omega
        refine mv_callPW (st2 := [mv_I 1]) rfl (Or.inl rfl) rfl rfl rfl (sp_cisUncle_t_30 hc ho ha193) (by first | decide | omega) ?_
        refine mv_goW 1 (pc' := if 1 = 0 then 42 else 45) (ls' := [mv_R 0, mv_I ((u + 6 : Nat) : Int), mv_I k, mv_I (u : Int)]) (st' := []) (M1 := M) rfl ?_
        refine mv_ffW (by decide) ?_
        refine mv_goW 3 (pc' := if ((u + 6 : Nat) : Int) < 6 then 87 else 51) (ls' := [mv_R 0, mv_I ((u + 6 : Nat) : Int), mv_I k, mv_I (u : Int)]) (st' := []) (M1 := M) rfl ?_
        refine mv_ffW (by omega) ?_
        refine mv_goW 3 (pc' := if k = 6 then 62 else 57) (ls' := [mv_R 0, mv_I ((u + 6 : Nat) : Int), mv_I k, mv_I (u : Int)]) (st' := []) (M1 := M) rfl ?_
        refine mv_spW (fun ha194 => ?_) (fun ha194 => ?_)
        · refine mv_goW 3 (pc' := 67) (ls' := [mv_R 0, mv_I ((u + 6 : Nat) : Int), mv_I k, mv_I (u : Int)]) (st' := [mv_I (u : Int), mv_R 30]) (M1 := M) rfl ?_
          refine mv_callPW (st2 := [mv_I (sp_hired V (u : Int))]) rfl (Or.inl rfl) rfl rfl rfl (sp_hired_30 hc ho) (by first | decide | omega) ?_
          refine mv_goW 3 (pc' := 75) (ls' := [mv_R 0, mv_I ((u + 6 : Nat) : Int), mv_I k, mv_I (u : Int)]) (st' := [mv_I (u : Int), mv_R 30, mv_I (sp_hired V (u : Int))]) (M1 := M) rfl ?_
          refine mv_callPW (st2 := [mv_I (sp_room V u), mv_I (sp_hired V (u : Int))]) rfl (Or.inl rfl) rfl rfl rfl (sp_croom hc ho (by omega)) (by first | decide | omega) ?_
          refine mv_goW 1 (pc' := if (sp_hired V (u : Int)) < (sp_room V u) then 81 else 85) (ls' := [mv_R 0, mv_I ((u + 6 : Nat) : Int), mv_I k, mv_I (u : Int)]) (st' := []) (M1 := M) rfl ?_
          refine mv_spW (fun ha195 => ?_) (fun ha195 => ?_)
          · refine mv_goW 2 (pc' := 86) (ls' := [mv_R 0, mv_I ((u + 6 : Nat) : Int), mv_I k, mv_I (u : Int)]) (st' := [mv_I 1]) (M1 := M) rfl ?_
            refine mv_retW (fun n => rfl) ⟨_, rfl, ?_⟩
            refine mv_goW 3 (pc' := 4) (ls' := [mv_R 100, mv_I ((u + 6 : Nat) : Int), mv_I k, mv_U]) (st' := [mv_I 6, mv_I 0, mv_I k]) (M1 := M) rfl ?_
            have ha196 : (0 : Int) ≤ k ∧ k ≤ (6 : Int) := by omega
            refine mv_callPW (st2 := [mv_I 1]) rfl (Or.inr rfl) rfl rfl rfl (sp_min_t ha196) (by first | decide | omega) ?_
            refine mv_goW 1 (pc' := if 1 = 0 then 10 else 13) (ls' := [mv_R 100, mv_I ((u + 6 : Nat) : Int), mv_I k, mv_U]) (st' := []) (M1 := M) rfl ?_
            refine mv_ffW (by decide) ?_
            refine mv_goW 3 (pc' := 17) (ls' := [mv_R 100, mv_I ((u + 6 : Nat) : Int), mv_I k, mv_U]) (st' := [mv_I 11, mv_I 0, mv_I ((u + 6 : Nat) : Int)]) (M1 := M) rfl ?_
            have ha197 : (0 : Int) ≤ ((u + 6 : Nat) : Int) ∧ ((u + 6 : Nat) : Int) ≤ (11 : Int) := by omega
            refine mv_callPW (st2 := [mv_I 1]) rfl (Or.inr rfl) rfl rfl rfl (sp_min_t ha197) (by first | decide | omega) ?_
            refine mv_goW 1 (pc' := if 1 = 0 then 23 else 26) (ls' := [mv_R 100, mv_I ((u + 6 : Nat) : Int), mv_I k, mv_U]) (st' := []) (M1 := M) rfl ?_
            refine mv_ffW (by decide) ?_
            refine mv_goW 3 (pc' := if 6 = 0 then mv_bad else 30) (ls' := [mv_R 100, mv_I ((u + 6 : Nat) : Int), mv_I k, mv_U]) (st' := [mv_I (mv_w (((u + 6 : Nat) : Int).tmod 6))]) (M1 := M) rfl ?_
            refine mv_ffW (by omega) ?_
            rw [show mv_w (((u + 6 : Nat) : Int).tmod 6) = (u : Int) from by exact sp_tm6b hu]
            refine mv_goW 2 (pc' := 34) (ls' := [mv_R 100, mv_I ((u + 6 : Nat) : Int), mv_I k, mv_U]) (st' := [mv_I (M 100 1), mv_I (u : Int)]) (M1 := M) rfl ?_
            have hr95 := sp_ok_s9 ho
            rw [show M 100 1 = V 0 9 from by exact sp_m_s9 hm]
            refine mv_goW 1 (pc' := if (u : Int) < (V 0 9) then 40 else 37) (ls' := [mv_R 100, mv_I ((u + 6 : Nat) : Int), mv_I k, mv_U]) (st' := []) (M1 := M) rfl ?_
            refine mv_ttW (by omega) ?_
            refine mv_goW 3 (pc' := if ((u + 6 : Nat) : Int) < 6 then 81 else 46) (ls' := [mv_R 100, mv_I ((u + 6 : Nat) : Int), mv_I k, mv_U]) (st' := []) (M1 := M) rfl ?_
            refine mv_ffW (by omega) ?_
            refine mv_goW 7 (pc' := if k = 6 then 62 else 57) (ls' := [mv_R 100, mv_I ((u + 6 : Nat) : Int), mv_I k, mv_I (mv_w (((u + 6 : Nat) : Int) - 6))]) (st' := []) (M1 := M) rfl ?_
            rw [show mv_w (((u + 6 : Nat) : Int) - 6) = ((u + 6 : Nat) : Int) - 6 from mv_w_id (by omega) (by omega)]
            rw [show ((u + 6 : Nat) : Int) - 6 = (u : Int) from by omega]
            refine mv_ttW (by omega) ?_
            refine mv_goW 2 (pc' := 64) (ls' := [mv_R 100, mv_I ((u + 6 : Nat) : Int), mv_I k, mv_I (u : Int)]) (st' := [mv_I (u : Int), mv_R 100]) (M1 := M) rfl ?_
            refine mv_callPW (st2 := [mv_I (sp_hired V (u : Int))]) rfl (Or.inl rfl) rfl rfl rfl (sp_mhired hm ho) (by first | decide | omega) ?_
            refine mv_goW 2 (pc' := 69) (ls' := [mv_R 100, mv_I ((u + 6 : Nat) : Int), mv_I k, mv_I (u : Int)]) (st' := [mv_I (u : Int), mv_R 100, mv_I (sp_hired V (u : Int))]) (M1 := M) rfl ?_
            refine mv_callPW (st2 := [mv_I (sp_room V u), mv_I (sp_hired V (u : Int))]) rfl (Or.inl rfl) rfl rfl rfl (sp_mroom hm ho (by omega)) (by first | decide | omega) ?_
            refine mv_goW 1 (pc' := if (sp_hired V (u : Int)) < (sp_room V u) then 75 else 79) (ls' := [mv_R 100, mv_I ((u + 6 : Nat) : Int), mv_I k, mv_I (u : Int)]) (st' := []) (M1 := M) rfl ?_
            refine mv_ttW (by omega) ?_
            refine mv_goW 2 (pc' := 80) (ls' := [mv_R 100, mv_I ((u + 6 : Nat) : Int), mv_I k, mv_I (u : Int)]) (st' := [mv_I 1]) (M1 := M) rfl ?_
            exact mv_retW (fun n => rfl) ⟨congrArg mv_I (by first | with_reducible rfl | omega), ⟨V, P, n, B, K, t, h⟩⟩
          · refine mv_goW 1 (pc' := 86) (ls' := [mv_R 0, mv_I ((u + 6 : Nat) : Int), mv_I k, mv_I (u : Int)]) (st' := [mv_I 0]) (M1 := M) rfl ?_
            refine mv_retW (fun n => rfl) ⟨_, rfl, ?_⟩
            refine mv_goW 3 (pc' := 4) (ls' := [mv_R 100, mv_I ((u + 6 : Nat) : Int), mv_I k, mv_U]) (st' := [mv_I 6, mv_I 0, mv_I k]) (M1 := M) rfl ?_
            have ha198 : (0 : Int) ≤ k ∧ k ≤ (6 : Int) := by omega
            refine mv_callPW (st2 := [mv_I 1]) rfl (Or.inr rfl) rfl rfl rfl (sp_min_t ha198) (by first | decide | omega) ?_
            refine mv_goW 1 (pc' := if 1 = 0 then 10 else 13) (ls' := [mv_R 100, mv_I ((u + 6 : Nat) : Int), mv_I k, mv_U]) (st' := []) (M1 := M) rfl ?_
            refine mv_ffW (by decide) ?_
            refine mv_goW 3 (pc' := 17) (ls' := [mv_R 100, mv_I ((u + 6 : Nat) : Int), mv_I k, mv_U]) (st' := [mv_I 11, mv_I 0, mv_I ((u + 6 : Nat) : Int)]) (M1 := M) rfl ?_
            have ha199 : (0 : Int) ≤ ((u + 6 : Nat) : Int) ∧ ((u + 6 : Nat) : Int) ≤ (11 : Int) := by omega
            refine mv_callPW (st2 := [mv_I 1]) rfl (Or.inr rfl) rfl rfl rfl (sp_min_t ha199) (by first | decide | omega) ?_
            refine mv_goW 1 (pc' := if 1 = 0 then 23 else 26) (ls' := [mv_R 100, mv_I ((u + 6 : Nat) : Int), mv_I k, mv_U]) (st' := []) (M1 := M) rfl ?_
            refine mv_ffW (by decide) ?_
            refine mv_goW 3 (pc' := if 6 = 0 then mv_bad else 30) (ls' := [mv_R 100, mv_I ((u + 6 : Nat) : Int), mv_I k, mv_U]) (st' := [mv_I (mv_w (((u + 6 : Nat) : Int).tmod 6))]) (M1 := M) rfl ?_
            refine mv_ffW (by omega) ?_
            rw [show mv_w (((u + 6 : Nat) : Int).tmod 6) = (u : Int) from by exact sp_tm6b hu]
            refine mv_goW 2 (pc' := 34) (ls' := [mv_R 100, mv_I ((u + 6 : Nat) : Int), mv_I k, mv_U]) (st' := [mv_I (M 100 1), mv_I (u : Int)]) (M1 := M) rfl ?_
            have hr97 := sp_ok_s9 ho
            rw [show M 100 1 = V 0 9 from by exact sp_m_s9 hm]
            refine mv_goW 1 (pc' := if (u : Int) < (V 0 9) then 40 else 37) (ls' := [mv_R 100, mv_I ((u + 6 : Nat) : Int), mv_I k, mv_U]) (st' := []) (M1 := M) rfl ?_
            refine mv_ttW (by omega) ?_
            refine mv_goW 3 (pc' := if ((u + 6 : Nat) : Int) < 6 then 81 else 46) (ls' := [mv_R 100, mv_I ((u + 6 : Nat) : Int), mv_I k, mv_U]) (st' := []) (M1 := M) rfl ?_
            refine mv_ffW (by omega) ?_
            refine mv_goW 7 (pc' := if k = 6 then 62 else 57) (ls' := [mv_R 100, mv_I ((u + 6 : Nat) : Int), mv_I k, mv_I (mv_w (((u + 6 : Nat) : Int) - 6))]) (st' := []) (M1 := M) rfl ?_
            rw [show mv_w (((u + 6 : Nat) : Int) - 6) = ((u + 6 : Nat) : Int) - 6 from mv_w_id (by omega) (by omega)]
            rw [show ((u + 6 : Nat) : Int) - 6 = (u : Int) from by omega]
            refine mv_ttW (by omega) ?_
            refine mv_goW 2 (pc' := 64) (ls' := [mv_R 100, mv_I ((u + 6 : Nat) : Int), mv_I k, mv_I (u : Int)]) (st' := [mv_I (u : Int), mv_R 100]) (M1 := M) rfl ?_
            refine mv_callPW (st2 := [mv_I (sp_hired V (u : Int))]) rfl (Or.inl rfl) rfl rfl rfl (sp_mhired hm ho) (by first | decide | omega) ?_
            refine mv_goW 2 (pc' := 69) (ls' := [mv_R 100, mv_I ((u + 6 : Nat) : Int), mv_I k, mv_I (u : Int)]) (st' := [mv_I (u : Int), mv_R 100, mv_I (sp_hired V (u : Int))]) (M1 := M) rfl ?_
            refine mv_callPW (st2 := [mv_I (sp_room V u), mv_I (sp_hired V (u : Int))]) rfl (Or.inl rfl) rfl rfl rfl (sp_mroom hm ho (by omega)) (by first | decide | omega) ?_
            refine mv_goW 1 (pc' := if (sp_hired V (u : Int)) < (sp_room V u) then 75 else 79) (ls' := [mv_R 100, mv_I ((u + 6 : Nat) : Int), mv_I k, mv_I (u : Int)]) (st' := []) (M1 := M) rfl ?_
            refine mv_ffW (by omega) ?_
            refine mv_goW 1 (pc' := 80) (ls' := [mv_R 100, mv_I ((u + 6 : Nat) : Int), mv_I k, mv_I (u : Int)]) (st' := [mv_I 0]) (M1 := M) rfl ?_
            exact mv_retW (fun n => rfl) ⟨congrArg mv_I (by first | with_reducible rfl | omega), ⟨V, P, n, B, K, t, h⟩⟩
        · refine mv_goW 2 (pc' := 86) (ls' := [mv_R 0, mv_I ((u + 6 : Nat) : Int), mv_I k, mv_I (u : Int)]) (st' := [mv_I (-13)]) (M1 := M) rfl ?_
          refine mv_retW (fun n => rfl) ⟨_, rfl, ?_⟩
          refine mv_goW 3 (pc' := 4) (ls' := [mv_R 100, mv_I ((u + 6 : Nat) : Int), mv_I k, mv_U]) (st' := [mv_I 6, mv_I 0, mv_I k]) (M1 := M) rfl ?_
          have ha200 : (0 : Int) ≤ k ∧ k ≤ (6 : Int) := by omega
          refine mv_callPW (st2 := [mv_I 1]) rfl (Or.inr rfl) rfl rfl rfl (sp_min_t ha200) (by first | decide | omega) ?_
          refine mv_goW 1 (pc' := if 1 = 0 then 10 else 13) (ls' := [mv_R 100, mv_I ((u + 6 : Nat) : Int), mv_I k, mv_U]) (st' := []) (M1 := M) rfl ?_
          refine mv_ffW (by decide) ?_
          refine mv_goW 3 (pc' := 17) (ls' := [mv_R 100, mv_I ((u + 6 : Nat) : Int), mv_I k, mv_U]) (st' := [mv_I 11, mv_I 0, mv_I ((u + 6 : Nat) : Int)]) (M1 := M) rfl ?_
          have ha201 : (0 : Int) ≤ ((u + 6 : Nat) : Int) ∧ ((u + 6 : Nat) : Int) ≤ (11 : Int) := by omega
          refine mv_callPW (st2 := [mv_I 1]) rfl (Or.inr rfl) rfl rfl rfl (sp_min_t ha201) (by first | decide | omega) ?_
          refine mv_goW 1 (pc' := if 1 = 0 then 23 else 26) (ls' := [mv_R 100, mv_I ((u + 6 : Nat) : Int), mv_I k, mv_U]) (st' := []) (M1 := M) rfl ?_
          refine mv_ffW (by decide) ?_
          refine mv_goW 3 (pc' := if 6 = 0 then mv_bad else 30) (ls' := [mv_R 100, mv_I ((u + 6 : Nat) : Int), mv_I k, mv_U]) (st' := [mv_I (mv_w (((u + 6 : Nat) : Int).tmod 6))]) (M1 := M) rfl ?_
          refine mv_ffW (by omega) ?_
          rw [show mv_w (((u + 6 : Nat) : Int).tmod 6) = (u : Int) from by exact sp_tm6b hu]
          refine mv_goW 2 (pc' := 34) (ls' := [mv_R 100, mv_I ((u + 6 : Nat) : Int), mv_I k, mv_U]) (st' := [mv_I (M 100 1), mv_I (u : Int)]) (M1 := M) rfl ?_
          have hr99 := sp_ok_s9 ho
          rw [show M 100 1 = V 0 9 from by exact sp_m_s9 hm]
          refine mv_goW 1 (pc' := if (u : Int) < (V 0 9) then 40 else 37) (ls' := [mv_R 100, mv_I ((u + 6 : Nat) : Int), mv_I k, mv_U]) (st' := []) (M1 := M) rfl ?_
          refine mv_ttW (by omega) ?_
          refine mv_goW 3 (pc' := if ((u + 6 : Nat) : Int) < 6 then 81 else 46) (ls' := [mv_R 100, mv_I ((u + 6 : Nat) : Int), mv_I k, mv_U]) (st' := []) (M1 := M) rfl ?_
          refine mv_ffW (by omega) ?_
          refine mv_goW 7 (pc' := if k = 6 then 62 else 57) (ls' := [mv_R 100, mv_I ((u + 6 : Nat) : Int), mv_I k, mv_I (mv_w (((u + 6 : Nat) : Int) - 6))]) (st' := []) (M1 := M) rfl ?_
          rw [show mv_w (((u + 6 : Nat) : Int) - 6) = ((u + 6 : Nat) : Int) - 6 from mv_w_id (by omega) (by omega)]
          rw [show ((u + 6 : Nat) : Int) - 6 = (u : Int) from by omega]
          refine mv_ffW (by omega) ?_
          refine mv_goW 2 (pc' := 80) (ls' := [mv_R 100, mv_I ((u + 6 : Nat) : Int), mv_I k, mv_I (u : Int)]) (st' := [mv_I (-13)]) (M1 := M) rfl ?_
          exact mv_retW (fun n => rfl) ⟨congrArg mv_I (by first | with_reducible rfl | omega), ⟨V, P, n, B, K, t, h⟩⟩
theorem sp_k35 (a k : Int) : sp_call 96 192 [mv_I a, mv_I k] [mv_I a, mv_I k] := by
  by_cases ha : 0 ≤ a ∧ a ≤ 11
  · obtain ⟨u, x, hu, hx, e⟩ : ∃ u x : Nat, u < 6 ∧ (x = 0 ∨ x = 6) ∧ a = ((u + x : Nat) : Int) := by
      by_cases q : a < 6
      · exact ⟨a.toNat, 0, by omega, Or.inl rfl, by omega⟩
      · exact ⟨a.toNat - 6, 6, by omega, Or.inr rfl, by omega⟩
    subst e
    refine sp_mkW (lc := [mv_R 0, mv_I ((u + x : Nat) : Int), mv_I k, mv_U]) (lm := [mv_R 100, mv_I ((u + x : Nat) : Int), mv_I k, mv_U]) rfl rfl (fun M hI => ?_)
    obtain ⟨V, P, n, B, K, t, h⟩ := hI
    have h' := h
    obtain ⟨⟨hc, hm, ho⟩, _⟩ := h'
    by_cases q : (u : Int) < V 0 9
    · have h4 := sp_ok_4 ho u q
      rcases (by omega : V 4 u = 0 ∨ V 4 u = 1 ∨ V 4 u = 2 ∨ V 4 u = 3 ∨ V 4 u = 4 ∨ V 4 u = 5) with e | e | e | e | e | e
      · exact sp_k35_0 u x k hx hu V P n B K t M h q e
      · exact sp_k35_1 u x k hx hu V P n B K t M h q e
      · exact sp_k35_2 u x k hx hu V P n B K t M h q e
      · exact sp_k35_3 u x k hx hu V P n B K t M h q e
      · exact sp_k35_4 u x k hx hu V P n B K t M h q e
      · exact sp_k35_5 u x k hx hu V P n B K t M h q e
    · exact sp_k35n u x k hx hu V P n B K t M h q
  · exact sp_k35o a k ha
