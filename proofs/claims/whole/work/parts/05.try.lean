def cq_cnt (f : Nat → Int) (u : Int) : Nat → Int
  | 0 => 0
  | c + 1 => mv_w (cq_cnt f u c + (if f c = u then 1 else 0))
theorem cq_loop (M : mv_M) (u : Int) (N : Nat) (hN : M 30 8 = N) (h6 : N ≤ 6) : ∀ k c : Nat, c + k = N → mv_E 0 47 4 [mv_R 30, mv_I u, mv_I (cq_cnt (M 32) u c), mv_I c] [] M (mv_I (cq_cnt (M 32) u N)) M := by
  intro k
  induction k with
  | zero =>
    intro c hc
    have hc : c = N := by omega
    subst hc
    refine mv_go 4 (pc' := if (c : Int) < M 30 8 then 12 else 36) (ls' := [mv_R 30, mv_I u, mv_I (cq_cnt (M 32) u c), mv_I c]) (st' := []) (M1 := M) (fun n => rfl) ?_
    refine mv_ff (by omega) ?_
    refine mv_go 1 (pc' := 37) (ls' := [mv_R 30, mv_I u, mv_I (cq_cnt (M 32) u c), mv_I c]) (st' := [mv_I (cq_cnt (M 32) u c)]) (M1 := M) (fun n => rfl) ?_
    exact mv_end (fun n => rfl)
  | succ k ih =>
    intro c hc
    refine mv_go 4 (pc' := if (c : Int) < M 30 8 then 12 else 36) (ls' := [mv_R 30, mv_I u, mv_I (cq_cnt (M 32) u c), mv_I c]) (st' := []) (M1 := M) (fun n => rfl) ?_
    refine mv_tt (by omega) ?_
    refine mv_go 5 (pc' := if 0 ≤ (c : Int) ∧ (c : Int) < 6 then 19 else mv_bad) (ls' := [mv_R 30, mv_I u, mv_I (cq_cnt (M 32) u c), mv_I c]) (st' := [mv_I (M 32 c), mv_I (cq_cnt (M 32) u c)]) (M1 := M) (fun n => rfl) ?_
    refine mv_tt (by omega) ?_
    refine mv_go 2 (pc' := if M 32 c = u then 23 else 27) (ls' := [mv_R 30, mv_I u, mv_I (cq_cnt (M 32) u c), mv_I c]) (st' := [mv_I (cq_cnt (M 32) u c)]) (M1 := M) (fun n => rfl) ?_
    refine mv_sp (fun h => ?_) (fun h => ?_)
    · refine mv_go 6 (pc' := 4) (ls' := [mv_R 30, mv_I u, mv_I (mv_w (cq_cnt (M 32) u c + 1)), mv_I (mv_w (c + 1))]) (st' := []) (M1 := M) (fun n => rfl) ?_
      have e1 : mv_w (cq_cnt (M 32) u c + 1) = cq_cnt (M 32) u (c + 1) := by rw [cq_cnt, if_pos h]
      have e2 : mv_w ((c : Int) + 1) = ((c + 1 : Nat) : Int) := by unfold mv_w; omega
      rw [e1, e2]
      exact ih (c + 1) (by omega)
    · refine mv_go 5 (pc' := 4) (ls' := [mv_R 30, mv_I u, mv_I (mv_w (cq_cnt (M 32) u c + 0)), mv_I (mv_w (c + 1))]) (st' := []) (M1 := M) (fun n => rfl) ?_
      have e1 : mv_w (cq_cnt (M 32) u c + 0) = cq_cnt (M 32) u (c + 1) := by rw [cq_cnt, if_neg h]
      have e2 : mv_w ((c : Int) + 1) = ((c + 1 : Nat) : Int) := by unfold mv_w; omega
      rw [e1, e2]
      exact ih (c + 1) (by omega)
