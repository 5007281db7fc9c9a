/-! isWord -/
theorem sp_iw1_t {M : mv_M} {q e : Nat} (he : e ≤ 160) (h4 : M 28 4 = (q : Int)) (h2 : M 28 2 = (e : Int)) (h : sp_wm 0 (M 29) q e) : mv_Ru 4 12 0 [mv_R 28, mv_R 211, mv_U] [] M (mv_I 1) (fun M1 => M1 = M) := by
  have h1 : e = q + 5 := h.1
  obtain ⟨_, k0, k1, k2, k3, k4, _⟩ := h
  refine mv_go' 1 (pc' := 1) (ls' := [mv_R 28, mv_R 211, mv_U]) (st' := [mv_R 211]) (M1 := M) rfl ?_
  refine mv_callP (st2 := [mv_I 5]) rfl (Or.inl rfl) rfl rfl rfl (sp_len1) (by first | decide | omega) ?_
  refine mv_go' 2 (pc' := 8) (ls' := [mv_R 28, mv_R 211, mv_U]) (st' := [mv_I (M 28 2), mv_I 5]) (M1 := M) rfl ?_
  rw [show M 28 2 = (e : Int) from by exact h2]
  refine mv_go' 2 (pc' := 12) (ls' := [mv_R 28, mv_R 211, mv_U]) (st' := [mv_I (M 28 4), mv_I (e : Int), mv_I 5]) (M1 := M) rfl ?_
  rw [show M 28 4 = (q : Int) from by exact h4]
  refine mv_go' 2 (pc' := if 5 = (mv_w ((e : Int) - (q : Int))) then 18 else 16) (ls' := [mv_R 28, mv_R 211, mv_U]) (st' := []) (M1 := M) rfl ?_
  rw [show mv_w ((e : Int) - (q : Int)) = (e : Int) - (q : Int) from mv_w_id (by omega) (by omega)]
  refine mv_tt' (by omega) ?_
  refine mv_go' 4 (pc' := 22) (ls' := [mv_R 28, mv_R 211, mv_I 0]) (st' := [mv_R 211, mv_I 0]) (M1 := M) rfl ?_
  refine mv_callP (st2 := [mv_I 5, mv_I 0]) rfl (Or.inl rfl) rfl rfl rfl (sp_len1) (by first | decide | omega) ?_
  refine mv_go' 1 (pc' := if 0 < 5 then 28 else 55) (ls' := [mv_R 28, mv_R 211, mv_I 0]) (st' := []) (M1 := M) rfl ?_
  refine mv_tt' (by first | decide | omega) ?_
  refine mv_go' 4 (pc' := 36) (ls' := [mv_R 28, mv_R 211, mv_I 0]) (st' := [mv_I (M 28 4), mv_R 29]) (M1 := M) rfl ?_
  rw [show M 28 4 = (q : Int) from by exact h4]
  refine mv_go' 2 (pc' := 38) (ls' := [mv_R 28, mv_R 211, mv_I 0]) (st' := [mv_I (mv_w ((q : Int) + 0)), mv_R 29]) (M1 := M) rfl ?_
  rw [show mv_w ((q : Int) + 0) = (q : Int) from by (rw [show mv_w ((q : Int) + 0) = (q : Int) + 0 from mv_w_id (by omega) (by omega)]) <;> omega]
  refine mv_go' 1 (pc' := if 0 ≤ (q : Int) ∧ (q : Int) < 160 then 39 else mv_bad) (ls' := [mv_R 28, mv_R 211, mv_I 0]) (st' := [mv_I (M 29 q)]) (M1 := M) rfl ?_
  refine mv_tt' (by omega) ?_
  rw [show M 29 q = 115 from by exact k0]
  refine mv_go' 2 (pc' := 41) (ls' := [mv_R 28, mv_R 211, mv_I 0]) (st' := [mv_I 0, mv_R 211, mv_I 115]) (M1 := M) rfl ?_
  refine mv_callP (st2 := [mv_I 115, mv_I 115]) rfl (Or.inl rfl) rfl rfl rfl (sp_cha1 (j := 0) (by omega)) (by first | decide | omega) ?_
  refine mv_go' 1 (pc' := if 115 = 115 then 49 else 47) (ls' := [mv_R 28, mv_R 211, mv_I 0]) (st' := []) (M1 := M) rfl ?_
  refine mv_tt' (by first | decide | omega) ?_
  refine mv_go' 4 (pc' := 22) (ls' := [mv_R 28, mv_R 211, mv_I (mv_w (0 + 1))]) (st' := [mv_R 211, mv_I (mv_w (0 + 1))]) (M1 := M) rfl ?_
  rw [show mv_w (0 + 1) = 0 + 1 from mv_w_id (by omega) (by omega)]
  rw [show (0 + 1 : Int) = 1 from by decide]
  refine mv_callP (st2 := [mv_I 5, mv_I 1]) rfl (Or.inl rfl) rfl rfl rfl (sp_len1) (by first | decide | omega) ?_
  refine mv_go' 1 (pc' := if 1 < 5 then 28 else 55) (ls' := [mv_R 28, mv_R 211, mv_I 1]) (st' := []) (M1 := M) rfl ?_
  refine mv_tt' (by first | decide | omega) ?_
  refine mv_go' 4 (pc' := 36) (ls' := [mv_R 28, mv_R 211, mv_I 1]) (st' := [mv_I (M 28 4), mv_R 29]) (M1 := M) rfl ?_
  rw [show M 28 4 = (q : Int) from by exact h4]
  refine mv_go' 2 (pc' := 38) (ls' := [mv_R 28, mv_R 211, mv_I 1]) (st' := [mv_I (mv_w ((q : Int) + 1)), mv_R 29]) (M1 := M) rfl ?_
  rw [show mv_w ((q : Int) + 1) = ((q + 1 : Nat) : Int) from by (rw [show mv_w ((q : Int) + 1) = (q : Int) + 1 from mv_w_id (by omega) (by omega)]) <;> omega]
  refine mv_go' 1 (pc' := if 0 ≤ ((q + 1 : Nat) : Int) ∧ ((q + 1 : Nat) : Int) < 160 then 39 else mv_bad) (ls' := [mv_R 28, mv_R 211, mv_I 1]) (st' := [mv_I (M 29 (q + 1))]) (M1 := M) rfl ?_
  refine mv_tt' (by omega) ?_
  rw [show M 29 (q + 1) = 117 from by exact k1]
  refine mv_go' 2 (pc' := 41) (ls' := [mv_R 28, mv_R 211, mv_I 1]) (st' := [mv_I 1, mv_R 211, mv_I 117]) (M1 := M) rfl ?_
  refine mv_callP (st2 := [mv_I 117, mv_I 117]) rfl (Or.inl rfl) rfl rfl rfl (sp_cha1 (j := 1) (by omega)) (by first | decide | omega) ?_
  refine mv_go' 1 (pc' := if 117 = 117 then 49 else 47) (ls' := [mv_R 28, mv_R 211, mv_I 1]) (st' := []) (M1 := M) rfl ?_
  refine mv_tt' (by first | decide | omega) ?_
  refine mv_go' 4 (pc' := 22) (ls' := [mv_R 28, mv_R 211, mv_I (mv_w (1 + 1))]) (st' := [mv_R 211, mv_I (mv_w (1 + 1))]) (M1 := M) rfl ?_
  rw [show mv_w (1 + 1) = 1 + 1 from mv_w_id (by omega) (by omega)]
  rw [show (1 + 1 : Int) = 2 from by decide]
  refine mv_callP (st2 := [mv_I 5, mv_I 2]) rfl (Or.inl rfl) rfl rfl rfl (sp_len1) (by first | decide | omega) ?_
  refine mv_go' 1 (pc' := if 2 < 5 then 28 else 55) (ls' := [mv_R 28, mv_R 211, mv_I 2]) (st' := []) (M1 := M) rfl ?_
  refine mv_tt' (by first | decide | omega) ?_
  refine mv_go' 4 (pc' := 36) (ls' := [mv_R 28, mv_R 211, mv_I 2]) (st' := [mv_I (M 28 4), mv_R 29]) (M1 := M) rfl ?_
  rw [show M 28 4 = (q : Int) from by exact h4]
  refine mv_go' 2 (pc' := 38) (ls' := [mv_R 28, mv_R 211, mv_I 2]) (st' := [mv_I (mv_w ((q : Int) + 2)), mv_R 29]) (M1 := M) rfl ?_
  rw [show mv_w ((q : Int) + 2) = ((q + 2 : Nat) : Int) from by (rw [show mv_w ((q : Int) + 2) = (q : Int) + 2 from mv_w_id (by omega) (by omega)]) <;> omega]
  refine mv_go' 1 (pc' := if 0 ≤ ((q + 2 : Nat) : Int) ∧ ((q + 2 : Nat) : Int) < 160 then 39 else mv_bad) (ls' := [mv_R 28, mv_R 211, mv_I 2]) (st' := [mv_I (M 29 (q + 2))]) (M1 := M) rfl ?_
  refine mv_tt' (by omega) ?_
  rw [show M 29 (q + 2) = 105 from by exact k2]
  refine mv_go' 2 (pc' := 41) (ls' := [mv_R 28, mv_R 211, mv_I 2]) (st' := [mv_I 2, mv_R 211, mv_I 105]) (M1 := M) rfl ?_
  refine mv_callP (st2 := [mv_I 105, mv_I 105]) rfl (Or.inl rfl) rfl rfl rfl (sp_cha1 (j := 2) (by omega)) (by first | decide | omega) ?_
  refine mv_go' 1 (pc' := if 105 = 105 then 49 else 47) (ls' := [mv_R 28, mv_R 211, mv_I 2]) (st' := []) (M1 := M) rfl ?_
  refine mv_tt' (by first | decide | omega) ?_
  refine mv_go' 4 (pc' := 22) (ls' := [mv_R 28, mv_R 211, mv_I (mv_w (2 + 1))]) (st' := [mv_R 211, mv_I (mv_w (2 + 1))]) (M1 := M) rfl ?_
  rw [show mv_w (2 + 1) = 2 + 1 from mv_w_id (by omega) (by omega)]
  rw [show (2 + 1 : Int) = 3 from by decide]
  refine mv_callP (st2 := [mv_I 5, mv_I 3]) rfl (Or.inl rfl) rfl rfl rfl (sp_len1) (by first | decide | omega) ?_
  refine mv_go' 1 (pc' := if 3 < 5 then 28 else 55) (ls' := [mv_R 28, mv_R 211, mv_I 3]) (st' := []) (M1 := M) rfl ?_
  refine mv_tt' (by first | decide | omega) ?_
  refine mv_go' 4 (pc' := 36) (ls' := [mv_R 28, mv_R 211, mv_I 3]) (st' := [mv_I (M 28 4), mv_R 29]) (M1 := M) rfl ?_
  rw [show M 28 4 = (q : Int) from by exact h4]
  refine mv_go' 2 (pc' := 38) (ls' := [mv_R 28, mv_R 211, mv_I 3]) (st' := [mv_I (mv_w ((q : Int) + 3)), mv_R 29]) (M1 := M) rfl ?_
  rw [show mv_w ((q : Int) + 3) = ((q + 3 : Nat) : Int) from by (rw [show mv_w ((q : Int) + 3) = (q : Int) + 3 from mv_w_id (by omega) (by omega)]) <;> omega]
  refine mv_go' 1 (pc' := if 0 ≤ ((q + 3 : Nat) : Int) ∧ ((q + 3 : Nat) : Int) < 160 then 39 else mv_bad) (ls' := [mv_R 28, mv_R 211, mv_I 3]) (st' := [mv_I (M 29 (q + 3))]) (M1 := M) rfl ?_
  refine mv_tt' (by omega) ?_
  rw [show M 29 (q + 3) = 116 from by exact k3]
  refine mv_go' 2 (pc' := 41) (ls' := [mv_R 28, mv_R 211, mv_I 3]) (st' := [mv_I 3, mv_R 211, mv_I 116]) (M1 := M) rfl ?_
  refine mv_callP (st2 := [mv_I 116, mv_I 116]) rfl (Or.inl rfl) rfl rfl rfl (sp_cha1 (j := 3) (by omega)) (by first | decide | omega) ?_
  refine mv_go' 1 (pc' := if 116 = 116 then 49 else 47) (ls' := [mv_R 28, mv_R 211, mv_I 3]) (st' := []) (M1 := M) rfl ?_
  refine mv_tt' (by first | decide | omega) ?_
  refine mv_go' 4 (pc' := 22) (ls' := [mv_R 28, mv_R 211, mv_I (mv_w (3 + 1))]) (st' := [mv_R 211, mv_I (mv_w (3 + 1))]) (M1 := M) rfl ?_
  rw [show mv_w (3 + 1) = 3 + 1 from mv_w_id (by omega) (by omega)]
  rw [show (3 + 1 : Int) = 4 from by decide]
  refine mv_callP (st2 := [mv_I 5, mv_I 4]) rfl (Or.inl rfl) rfl rfl rfl (sp_len1) (by first | decide | omega) ?_
  refine mv_go' 1 (pc' := if 4 < 5 then 28 else 55) (ls' := [mv_R 28, mv_R 211, mv_I 4]) (st' := []) (M1 := M) rfl ?_
  refine mv_tt' (by first | decide | omega) ?_
  refine mv_go' 4 (pc' := 36) (ls' := [mv_R 28, mv_R 211, mv_I 4]) (st' := [mv_I (M 28 4), mv_R 29]) (M1 := M) rfl ?_
  rw [show M 28 4 = (q : Int) from by exact h4]
  refine mv_go' 2 (pc' := 38) (ls' := [mv_R 28, mv_R 211, mv_I 4]) (st' := [mv_I (mv_w ((q : Int) + 4)), mv_R 29]) (M1 := M) rfl ?_
  rw [show mv_w ((q : Int) + 4) = ((q + 4 : Nat) : Int) from by (rw [show mv_w ((q : Int) + 4) = (q : Int) + 4 from mv_w_id (by omega) (by omega)]) <;> omega]
  refine mv_go' 1 (pc' := if 0 ≤ ((q + 4 : Nat) : Int) ∧ ((q + 4 : Nat) : Int) < 160 then 39 else mv_bad) (ls' := [mv_R 28, mv_R 211, mv_I 4]) (st' := [mv_I (M 29 (q + 4))]) (M1 := M) rfl ?_
  refine mv_tt' (by omega) ?_
  rw [show M 29 (q + 4) = 115 from by exact k4]
  refine mv_go' 2 (pc' := 41) (ls' := [mv_R 28, mv_R 211, mv_I 4]) (st' := [mv_I 4, mv_R 211, mv_I 115]) (M1 := M) rfl ?_
  refine mv_callP (st2 := [mv_I 115, mv_I 115]) rfl (Or.inl rfl) rfl rfl rfl (sp_cha1 (j := 4) (by omega)) (by first | decide | omega) ?_
  refine mv_go' 1 (pc' := if 115 = 115 then 49 else 47) (ls' := [mv_R 28, mv_R 211, mv_I 4]) (st' := []) (M1 := M) rfl ?_
  refine mv_tt' (by first | decide | omega) ?_
  refine mv_go' 4 (pc' := 22) (ls' := [mv_R 28, mv_R 211, mv_I (mv_w (4 + 1))]) (st' := [mv_R 211, mv_I (mv_w (4 + 1))]) (M1 := M) rfl ?_
  rw [show mv_w (4 + 1) = 4 + 1 from mv_w_id (by omega) (by omega)]
  rw [show (4 + 1 : Int) = 5 from by decide]
  refine mv_callP (st2 := [mv_I 5, mv_I 5]) rfl (Or.inl rfl) rfl rfl rfl (sp_len1) (by first | decide | omega) ?_
  refine mv_go' 1 (pc' := if 5 < 5 then 28 else 55) (ls' := [mv_R 28, mv_R 211, mv_I 5]) (st' := []) (M1 := M) rfl ?_
  refine mv_ff' (by first | decide | omega) ?_
  refine mv_go' 1 (pc' := 56) (ls' := [mv_R 28, mv_R 211, mv_I 5]) (st' := [mv_I 1]) (M1 := M) rfl ?_
  exact mv_ret (fun n => rfl) rfl
theorem sp_iw1_f {M : mv_M} {q e : Nat} (hq : q ≤ e) (he : e ≤ 160) (h4 : M 28 4 = (q : Int)) (h2 : M 28 2 = (e : Int)) (h : ¬ sp_wm 0 (M 29) q e) : mv_Ru 4 12 0 [mv_R 28, mv_R 211, mv_U] [] M (mv_I 0) (fun M1 => M1 = M) := by
  refine mv_go' 1 (pc' := 1) (ls' := [mv_R 28, mv_R 211, mv_U]) (st' := [mv_R 211]) (M1 := M) rfl ?_
  refine mv_callP (st2 := [mv_I 5]) rfl (Or.inl rfl) rfl rfl rfl (sp_len1) (by first | decide | omega) ?_
  refine mv_go' 2 (pc' := 8) (ls' := [mv_R 28, mv_R 211, mv_U]) (st' := [mv_I (M 28 2), mv_I 5]) (M1 := M) rfl ?_
  rw [show M 28 2 = (e : Int) from by exact h2]
  refine mv_go' 2 (pc' := 12) (ls' := [mv_R 28, mv_R 211, mv_U]) (st' := [mv_I (M 28 4), mv_I (e : Int), mv_I 5]) (M1 := M) rfl ?_
  rw [show M 28 4 = (q : Int) from by exact h4]
  refine mv_go' 2 (pc' := if 5 = (mv_w ((e : Int) - (q : Int))) then 18 else 16) (ls' := [mv_R 28, mv_R 211, mv_U]) (st' := []) (M1 := M) rfl ?_
  rw [show mv_w ((e : Int) - (q : Int)) = (e : Int) - (q : Int) from mv_w_id (by omega) (by omega)]
  refine mv_sp' (fun ha1 => ?_) (fun ha1 => ?_)
  · refine mv_go' 4 (pc' := 22) (ls' := [mv_R 28, mv_R 211, mv_I 0]) (st' := [mv_R 211, mv_I 0]) (M1 := M) rfl ?_
    refine mv_callP (st2 := [mv_I 5, mv_I 0]) rfl (Or.inl rfl) rfl rfl rfl (sp_len1) (by first | decide | omega) ?_
    refine mv_go' 1 (pc' := if 0 < 5 then 28 else 55) (ls' := [mv_R 28, mv_R 211, mv_I 0]) (st' := []) (M1 := M) rfl ?_
    refine mv_tt' (by first | decide | omega) ?_
    refine mv_go' 4 (pc' := 36) (ls' := [mv_R 28, mv_R 211, mv_I 0]) (st' := [mv_I (M 28 4), mv_R 29]) (M1 := M) rfl ?_
    rw [show M 28 4 = (q : Int) from by exact h4]
    refine mv_go' 2 (pc' := 38) (ls' := [mv_R 28, mv_R 211, mv_I 0]) (st' := [mv_I (mv_w ((q : Int) + 0)), mv_R 29]) (M1 := M) rfl ?_
    rw [show mv_w ((q : Int) + 0) = (q : Int) from by (rw [show mv_w ((q : Int) + 0) = (q : Int) + 0 from mv_w_id (by omega) (by omega)]) <;> omega]
    refine mv_go' 1 (pc' := if 0 ≤ (q : Int) ∧ (q : Int) < 160 then 39 else mv_bad) (ls' := [mv_R 28, mv_R 211, mv_I 0]) (st' := [mv_I (M 29 q)]) (M1 := M) rfl ?_
    refine mv_tt' (by omega) ?_
    refine mv_go' 2 (pc' := 41) (ls' := [mv_R 28, mv_R 211, mv_I 0]) (st' := [mv_I 0, mv_R 211, mv_I (M 29 q)]) (M1 := M) rfl ?_
    refine mv_callP (st2 := [mv_I 115, mv_I (M 29 q)]) rfl (Or.inl rfl) rfl rfl rfl (sp_cha1 (j := 0) (by omega)) (by first | decide | omega) ?_
    refine mv_go' 1 (pc' := if (M 29 q) = 115 then 49 else 47) (ls' := [mv_R 28, mv_R 211, mv_I 0]) (st' := []) (M1 := M) rfl ?_
    refine mv_sp' (fun ha2 => ?_) (fun ha2 => ?_)
    · refine mv_go' 4 (pc' := 22) (ls' := [mv_R 28, mv_R 211, mv_I (mv_w (0 + 1))]) (st' := [mv_R 211, mv_I (mv_w (0 + 1))]) (M1 := M) rfl ?_
      rw [show mv_w (0 + 1) = 0 + 1 from mv_w_id (by omega) (by omega)]
      rw [show (0 + 1 : Int) = 1 from by decide]
      refine mv_callP (st2 := [mv_I 5, mv_I 1]) rfl (Or.inl rfl) rfl rfl rfl (sp_len1) (by first | decide | omega) ?_
      refine mv_go' 1 (pc' := if 1 < 5 then 28 else 55) (ls' := [mv_R 28, mv_R 211, mv_I 1]) (st' := []) (M1 := M) rfl ?_
      refine mv_tt' (by first | decide | omega) ?_
      refine mv_go' 4 (pc' := 36) (ls' := [mv_R 28, mv_R 211, mv_I 1]) (st' := [mv_I (M 28 4), mv_R 29]) (M1 := M) rfl ?_
      rw [show M 28 4 = (q : Int) from by exact h4]
      refine mv_go' 2 (pc' := 38) (ls' := [mv_R 28, mv_R 211, mv_I 1]) (st' := [mv_I (mv_w ((q : Int) + 1)), mv_R 29]) (M1 := M) rfl ?_
      rw [show mv_w ((q : Int) + 1) = ((q + 1 : Nat) : Int) from by (rw [show mv_w ((q : Int) + 1) = (q : Int) + 1 from mv_w_id (by omega) (by omega)]) <;> omega]
      refine mv_go' 1 (pc' := if 0 ≤ ((q + 1 : Nat) : Int) ∧ ((q + 1 : Nat) : Int) < 160 then 39 else mv_bad) (ls' := [mv_R 28, mv_R 211, mv_I 1]) (st' := [mv_I (M 29 (q + 1))]) (M1 := M) rfl ?_
      refine mv_tt' (by omega) ?_
      refine mv_go' 2 (pc' := 41) (ls' := [mv_R 28, mv_R 211, mv_I 1]) (st' := [mv_I 1, mv_R 211, mv_I (M 29 (q + 1))]) (M1 := M) rfl ?_
      refine mv_callP (st2 := [mv_I 117, mv_I (M 29 (q + 1))]) rfl (Or.inl rfl) rfl rfl rfl (sp_cha1 (j := 1) (by omega)) (by first | decide | omega) ?_
      refine mv_go' 1 (pc' := if (M 29 (q + 1)) = 117 then 49 else 47) (ls' := [mv_R 28, mv_R 211, mv_I 1]) (st' := []) (M1 := M) rfl ?_
      refine mv_sp' (fun ha3 => ?_) (fun ha3 => ?_)
      · refine mv_go' 4 (pc' := 22) (ls' := [mv_R 28, mv_R 211, mv_I (mv_w (1 + 1))]) (st' := [mv_R 211, mv_I (mv_w (1 + 1))]) (M1 := M) rfl ?_
        rw [show mv_w (1 + 1) = 1 + 1 from mv_w_id (by omega) (by omega)]
        rw [show (1 + 1 : Int) = 2 from by decide]
        refine mv_callP (st2 := [mv_I 5, mv_I 2]) rfl (Or.inl rfl) rfl rfl rfl (sp_len1) (by first | decide | omega) ?_
        refine mv_go' 1 (pc' := if 2 < 5 then 28 else 55) (ls' := [mv_R 28, mv_R 211, mv_I 2]) (st' := []) (M1 := M) rfl ?_
        refine mv_tt' (by first | decide | omega) ?_
        refine mv_go' 4 (pc' := 36) (ls' := [mv_R 28, mv_R 211, mv_I 2]) (st' := [mv_I (M 28 4), mv_R 29]) (M1 := M) rfl ?_
        rw [show M 28 4 = (q : Int) from by exact h4]
        refine mv_go' 2 (pc' := 38) (ls' := [mv_R 28, mv_R 211, mv_I 2]) (st' := [mv_I (mv_w ((q : Int) + 2)), mv_R 29]) (M1 := M) rfl ?_
        rw [show mv_w ((q : Int) + 2) = ((q + 2 : Nat) : Int) from by (rw [show mv_w ((q : Int) + 2) = (q : Int) + 2 from mv_w_id (by omega) (by omega)]) <;> omega]
        refine mv_go' 1 (pc' := if 0 ≤ ((q + 2 : Nat) : Int) ∧ ((q + 2 : Nat) : Int) < 160 then 39 else mv_bad) (ls' := [mv_R 28, mv_R 211, mv_I 2]) (st' := [mv_I (M 29 (q + 2))]) (M1 := M) rfl ?_
        refine mv_tt' (by omega) ?_
        refine mv_go' 2 (pc' := 41) (ls' := [mv_R 28, mv_R 211, mv_I 2]) (st' := [mv_I 2, mv_R 211, mv_I (M 29 (q + 2))]) (M1 := M) rfl ?_
        refine mv_callP (st2 := [mv_I 105, mv_I (M 29 (q + 2))]) rfl (Or.inl rfl) rfl rfl rfl (sp_cha1 (j := 2) (by omega)) (by first | decide | omega) ?_
        refine mv_go' 1 (pc' := if (M 29 (q + 2)) = 105 then 49 else 47) (ls' := [mv_R 28, mv_R 211, mv_I 2]) (st' := []) (M1 := M) rfl ?_
        refine mv_sp' (fun ha4 => ?_) (fun ha4 => ?_)
        · refine mv_go' 4 (pc' := 22) (ls' := [mv_R 28, mv_R 211, mv_I (mv_w (2 + 1))]) (st' := [mv_R 211, mv_I (mv_w (2 + 1))]) (M1 := M) rfl ?_
          rw [show mv_w (2 + 1) = 2 + 1 from mv_w_id (by omega) (by omega)]
          rw [show (2 + 1 : Int) = 3 from by decide]
          refine mv_callP (st2 := [mv_I 5, mv_I 3]) rfl (Or.inl rfl) rfl rfl rfl (sp_len1) (by first | decide | omega) ?_
          refine mv_go' 1 (pc' := if 3 < 5 then 28 else 55) (ls' := [mv_R 28, mv_R 211, mv_I 3]) (st' := []) (M1 := M) rfl ?_
          refine mv_tt' (by first | decide | omega) ?_
          refine mv_go' 4 (pc' := 36) (ls' := [mv_R 28, mv_R 211, mv_I 3]) (st' := [mv_I (M 28 4), mv_R 29]) (M1 := M) rfl ?_
          rw [show M 28 4 = (q : Int) from by exact h4]
          refine mv_go' 2 (pc' := 38) (ls' := [mv_R 28, mv_R 211, mv_I 3]) (st' := [mv_I (mv_w ((q : Int) + 3)), mv_R 29]) (M1 := M) rfl ?_
          rw [show mv_w ((q : Int) + 3) = ((q + 3 : Nat) : Int) from by (rw [show mv_w ((q : Int) + 3) = (q : Int) + 3 from mv_w_id (by omega) (by omega)]) <;> omega]
          refine mv_go' 1 (pc' := if 0 ≤ ((q + 3 : Nat) : Int) ∧ ((q + 3 : Nat) : Int) < 160 then 39 else mv_bad) (ls' := [mv_R 28, mv_R 211, mv_I 3]) (st' := [mv_I (M 29 (q + 3))]) (M1 := M) rfl ?_
          refine mv_tt' (by omega) ?_
          refine mv_go' 2 (pc' := 41) (ls' := [mv_R 28, mv_R 211, mv_I 3]) (st' := [mv_I 3, mv_R 211, mv_I (M 29 (q + 3))]) (M1 := M) rfl ?_
          refine mv_callP (st2 := [mv_I 116, mv_I (M 29 (q + 3))]) rfl (Or.inl rfl) rfl rfl rfl (sp_cha1 (j := 3) (by omega)) (by first | decide | omega) ?_
          refine mv_go' 1 (pc' := if (M 29 (q + 3)) = 116 then 49 else 47) (ls' := [mv_R 28, mv_R 211, mv_I 3]) (st' := []) (M1 := M) rfl ?_
          refine mv_sp' (fun ha5 => ?_) (fun ha5 => ?_)
          · refine mv_go' 4 (pc' := 22) (ls' := [mv_R 28, mv_R 211, mv_I (mv_w (3 + 1))]) (st' := [mv_R 211, mv_I (mv_w (3 + 1))]) (M1 := M) rfl ?_
            rw [show mv_w (3 + 1) = 3 + 1 from mv_w_id (by omega) (by omega)]
            rw [show (3 + 1 : Int) = 4 from by decide]
            refine mv_callP (st2 := [mv_I 5, mv_I 4]) rfl (Or.inl rfl) rfl rfl rfl (sp_len1) (by first | decide | omega) ?_
            refine mv_go' 1 (pc' := if 4 < 5 then 28 else 55) (ls' := [mv_R 28, mv_R 211, mv_I 4]) (st' := []) (M1 := M) rfl ?_
            refine mv_tt' (by first | decide | omega) ?_
            refine mv_go' 4 (pc' := 36) (ls' := [mv_R 28, mv_R 211, mv_I 4]) (st' := [mv_I (M 28 4), mv_R 29]) (M1 := M) rfl ?_
            rw [show M 28 4 = (q : Int) from by exact h4]
            refine mv_go' 2 (pc' := 38) (ls' := [mv_R 28, mv_R 211, mv_I 4]) (st' := [mv_I (mv_w ((q : Int) + 4)), mv_R 29]) (M1 := M) rfl ?_
            rw [show mv_w ((q : Int) + 4) = ((q + 4 : Nat) : Int) from by (rw [show mv_w ((q : Int) + 4) = (q : Int) + 4 from mv_w_id (by omega) (by omega)]) <;> omega]
            refine mv_go' 1 (pc' := if 0 ≤ ((q + 4 : Nat) : Int) ∧ ((q + 4 : Nat) : Int) < 160 then 39 else mv_bad) (ls' := [mv_R 28, mv_R 211, mv_I 4]) (st' := [mv_I (M 29 (q + 4))]) (M1 := M) rfl ?_
            refine mv_tt' (by omega) ?_
            refine mv_go' 2 (pc' := 41) (ls' := [mv_R 28, mv_R 211, mv_I 4]) (st' := [mv_I 4, mv_R 211, mv_I (M 29 (q + 4))]) (M1 := M) rfl ?_
            refine mv_callP (st2 := [mv_I 115, mv_I (M 29 (q + 4))]) rfl (Or.inl rfl) rfl rfl rfl (sp_cha1 (j := 4) (by omega)) (by first | decide | omega) ?_
            refine mv_go' 1 (pc' := if (M 29 (q + 4)) = 115 then 49 else 47) (ls' := [mv_R 28, mv_R 211, mv_I 4]) (st' := []) (M1 := M) rfl ?_
            refine mv_sp' (fun ha6 => ?_) (fun ha6 => ?_)
            · refine mv_go' 4 (pc' := 22) (ls' := [mv_R 28, mv_R 211, mv_I (mv_w (4 + 1))]) (st' := [mv_R 211, mv_I (mv_w (4 + 1))]) (M1 := M) rfl ?_
              rw [show mv_w (4 + 1) = 4 + 1 from mv_w_id (by omega) (by omega)]
              rw [show (4 + 1 : Int) = 5 from by decide]
              refine mv_callP (st2 := [mv_I 5, mv_I 5]) rfl (Or.inl rfl) rfl rfl rfl (sp_len1) (by first | decide | omega) ?_
              refine mv_go' 1 (pc' := if 5 < 5 then 28 else 55) (ls' := [mv_R 28, mv_R 211, mv_I 5]) (st' := []) (M1 := M) rfl ?_
              refine mv_ff' (by first | decide | omega) ?_
              refine mv_go' 1 (pc' := 56) (ls' := [mv_R 28, mv_R 211, mv_I 5]) (st' := [mv_I 1]) (M1 := M) rfl ?_
              exact mv_Ru.val (mv_ret (fun n => rfl) rfl) (congrArg mv_I (by first | with_reducible rfl | exact absurd (show sp_wm 0 (M 29) q e from ⟨by show e = q + 5; omega, by assumption, by assumption, by assumption, by assumption, by assumption, trivial⟩) h))
            · refine mv_go' 1 (pc' := 48) (ls' := [mv_R 28, mv_R 211, mv_I 4]) (st' := [mv_I 0]) (M1 := M) rfl ?_
              exact mv_Ru.val (mv_ret (fun n => rfl) rfl) (congrArg mv_I (by first | with_reducible rfl | exact absurd (show sp_wm 0 (M 29) q e from ⟨by show e = q + 5; omega, by assumption, by assumption, by assumption, by assumption, by assumption, trivial⟩) h))
          · refine mv_go' 1 (pc' := 48) (ls' := [mv_R 28, mv_R 211, mv_I 3]) (st' := [mv_I 0]) (M1 := M) rfl ?_
            exact mv_Ru.val (mv_ret (fun n => rfl) rfl) (congrArg mv_I (by first | with_reducible rfl | exact absurd (show sp_wm 0 (M 29) q e from ⟨by show e = q + 5; omega, by assumption, by assumption, by assumption, by assumption, by assumption, trivial⟩) h))
        · refine mv_go' 1 (pc' := 48) (ls' := [mv_R 28, mv_R 211, mv_I 2]) (st' := [mv_I 0]) (M1 := M) rfl ?_
          exact mv_Ru.val (mv_ret (fun n => rfl) rfl) (congrArg mv_I (by first | with_reducible rfl | exact absurd (show sp_wm 0 (M 29) q e from ⟨by show e = q + 5; omega, by assumption, by assumption, by assumption, by assumption, by assumption, trivial⟩) h))
      · refine mv_go' 1 (pc' := 48) (ls' := [mv_R 28, mv_R 211, mv_I 1]) (st' := [mv_I 0]) (M1 := M) rfl ?_
        exact mv_Ru.val (mv_ret (fun n => rfl) rfl) (congrArg mv_I (by first | with_reducible rfl | exact absurd (show sp_wm 0 (M 29) q e from ⟨by show e = q + 5; omega, by assumption, by assumption, by assumption, by assumption, by assumption, trivial⟩) h))
    · refine mv_go' 1 (pc' := 48) (ls' := [mv_R 28, mv_R 211, mv_I 0]) (st' := [mv_I 0]) (M1 := M) rfl ?_
      exact mv_Ru.val (mv_ret (fun n => rfl) rfl) (congrArg mv_I (by first | with_reducible rfl | exact absurd (show sp_wm 0 (M 29) q e from ⟨by show e = q + 5; omega, by assumption, by assumption, by assumption, by assumption, by assumption, trivial⟩) h))
  · refine mv_go' 1 (pc' := 17) (ls' := [mv_R 28, mv_R 211, mv_U]) (st' := [mv_I 0]) (M1 := M) rfl ?_
    exact mv_Ru.val (mv_ret (fun n => rfl) rfl) (congrArg mv_I (by first | with_reducible rfl | exact absurd (show sp_wm 0 (M 29) q e from ⟨by show e = q + 5; omega, by assumption, by assumption, by assumption, by assumption, by assumption, trivial⟩) h))
theorem sp_iw2_t {M : mv_M} {q e : Nat} (he : e ≤ 160) (h4 : M 28 4 = (q : Int)) (h2 : M 28 2 = (e : Int)) (h : sp_wm 1 (M 29) q e) : mv_Ru 4 12 0 [mv_R 28, mv_R 212, mv_U] [] M (mv_I 1) (fun M1 => M1 = M) := by
  have h1 : e = q + 5 := h.1
  obtain ⟨_, k0, k1, k2, k3, k4, _⟩ := h
  refine mv_go' 1 (pc' := 1) (ls' := [mv_R 28, mv_R 212, mv_U]) (st' := [mv_R 212]) (M1 := M) rfl ?_
  refine mv_callP (st2 := [mv_I 5]) rfl (Or.inl rfl) rfl rfl rfl (sp_len2) (by first | decide | omega) ?_
  refine mv_go' 2 (pc' := 8) (ls' := [mv_R 28, mv_R 212, mv_U]) (st' := [mv_I (M 28 2), mv_I 5]) (M1 := M) rfl ?_
  rw [show M 28 2 = (e : Int) from by exact h2]
  refine mv_go' 2 (pc' := 12) (ls' := [mv_R 28, mv_R 212, mv_U]) (st' := [mv_I (M 28 4), mv_I (e : Int), mv_I 5]) (M1 := M) rfl ?_
  rw [show M 28 4 = (q : Int) from by exact h4]
  refine mv_go' 2 (pc' := if 5 = (mv_w ((e : Int) - (q : Int))) then 18 else 16) (ls' := [mv_R 28, mv_R 212, mv_U]) (st' := []) (M1 := M) rfl ?_
  rw [show mv_w ((e : Int) - (q : Int)) = (e : Int) - (q : Int) from mv_w_id (by omega) (by omega)]
  refine mv_tt' (by omega) ?_
  refine mv_go' 4 (pc' := 22) (ls' := [mv_R 28, mv_R 212, mv_I 0]) (st' := [mv_R 212, mv_I 0]) (M1 := M) rfl ?_
  refine mv_callP (st2 := [mv_I 5, mv_I 0]) rfl (Or.inl rfl) rfl rfl rfl (sp_len2) (by first | decide | omega) ?_
  refine mv_go' 1 (pc' := if 0 < 5 then 28 else 55) (ls' := [mv_R 28, mv_R 212, mv_I 0]) (st' := []) (M1 := M) rfl ?_
  refine mv_tt' (by first | decide | omega) ?_
  refine mv_go' 4 (pc' := 36) (ls' := [mv_R 28, mv_R 212, mv_I 0]) (st' := [mv_I (M 28 4), mv_R 29]) (M1 := M) rfl ?_
  rw [show M 28 4 = (q : Int) from by exact h4]
  refine mv_go' 2 (pc' := 38) (ls' := [mv_R 28, mv_R 212, mv_I 0]) (st' := [mv_I (mv_w ((q : Int) + 0)), mv_R 29]) (M1 := M) rfl ?_
  rw [show mv_w ((q : Int) + 0) = (q : Int) from by (rw [show mv_w ((q : Int) + 0) = (q : Int) + 0 from mv_w_id (by omega) (by omega)]) <;> omega]
  refine mv_go' 1 (pc' := if 0 ≤ (q : Int) ∧ (q : Int) < 160 then 39 else mv_bad) (ls' := [mv_R 28, mv_R 212, mv_I 0]) (st' := [mv_I (M 29 q)]) (M1 := M) rfl ?_
  refine mv_tt' (by omega) ?_
  rw [show M 29 q = 108 from by exact k0]
  refine mv_go' 2 (pc' := 41) (ls' := [mv_R 28, mv_R 212, mv_I 0]) (st' := [mv_I 0, mv_R 212, mv_I 108]) (M1 := M) rfl ?_
  refine mv_callP (st2 := [mv_I 108, mv_I 108]) rfl (Or.inl rfl) rfl rfl rfl (sp_cha2 (j := 0) (by omega)) (by first | decide | omega) ?_
  refine mv_go' 1 (pc' := if 108 = 108 then 49 else 47) (ls' := [mv_R 28, mv_R 212, mv_I 0]) (st' := []) (M1 := M) rfl ?_
  refine mv_tt' (by first | decide | omega) ?_
  refine mv_go' 4 (pc' := 22) (ls' := [mv_R 28, mv_R 212, mv_I (mv_w (0 + 1))]) (st' := [mv_R 212, mv_I (mv_w (0 + 1))]) (M1 := M) rfl ?_
  rw [show mv_w (0 + 1) = 0 + 1 from mv_w_id (by omega) (by omega)]
  rw [show (0 + 1 : Int) = 1 from by decide]
  refine mv_callP (st2 := [mv_I 5, mv_I 1]) rfl (Or.inl rfl) rfl rfl rfl (sp_len2) (by first | decide | omega) ?_
  refine mv_go' 1 (pc' := if 1 < 5 then 28 else 55) (ls' := [mv_R 28, mv_R 212, mv_I 1]) (st' := []) (M1 := M) rfl ?_
  refine mv_tt' (by first | decide | omega) ?_
  refine mv_go' 4 (pc' := 36) (ls' := [mv_R 28, mv_R 212, mv_I 1]) (st' := [mv_I (M 28 4), mv_R 29]) (M1 := M) rfl ?_
  rw [show M 28 4 = (q : Int) from by exact h4]
  refine mv_go' 2 (pc' := 38) (ls' := [mv_R 28, mv_R 212, mv_I 1]) (st' := [mv_I (mv_w ((q : Int) + 1)), mv_R 29]) (M1 := M) rfl ?_
  rw [show mv_w ((q : Int) + 1) = ((q + 1 : Nat) : Int) from by (rw [show mv_w ((q : Int) + 1) = (q : Int) + 1 from mv_w_id (by omega) (by omega)]) <;> omega]
  refine mv_go' 1 (pc' := if 0 ≤ ((q + 1 : Nat) : Int) ∧ ((q + 1 : Nat) : Int) < 160 then 39 else mv_bad) (ls' := [mv_R 28, mv_R 212, mv_I 1]) (st' := [mv_I (M 29 (q + 1))]) (M1 := M) rfl ?_
  refine mv_tt' (by omega) ?_
  rw [show M 29 (q + 1) = 105 from by exact k1]
  refine mv_go' 2 (pc' := 41) (ls' := [mv_R 28, mv_R 212, mv_I 1]) (st' := [mv_I 1, mv_R 212, mv_I 105]) (M1 := M) rfl ?_
  refine mv_callP (st2 := [mv_I 105, mv_I 105]) rfl (Or.inl rfl) rfl rfl rfl (sp_cha2 (j := 1) (by omega)) (by first | decide | omega) ?_
  refine mv_go' 1 (pc' := if 105 = 105 then 49 else 47) (ls' := [mv_R 28, mv_R 212, mv_I 1]) (st' := []) (M1 := M) rfl ?_
  refine mv_tt' (by first | decide | omega) ?_
  refine mv_go' 4 (pc' := 22) (ls' := [mv_R 28, mv_R 212, mv_I (mv_w (1 + 1))]) (st' := [mv_R 212, mv_I (mv_w (1 + 1))]) (M1 := M) rfl ?_
  rw [show mv_w (1 + 1) = 1 + 1 from mv_w_id (by omega) (by omega)]
  rw [show (1 + 1 : Int) = 2 from by decide]
  refine mv_callP (st2 := [mv_I 5, mv_I 2]) rfl (Or.inl rfl) rfl rfl rfl (sp_len2) (by first | decide | omega) ?_
  refine mv_go' 1 (pc' := if 2 < 5 then 28 else 55) (ls' := [mv_R 28, mv_R 212, mv_I 2]) (st' := []) (M1 := M) rfl ?_
  refine mv_tt' (by first | decide | omega) ?_
  refine mv_go' 4 (pc' := 36) (ls' := [mv_R 28, mv_R 212, mv_I 2]) (st' := [mv_I (M 28 4), mv_R 29]) (M1 := M) rfl ?_
  rw [show M 28 4 = (q : Int) from by exact h4]
  refine mv_go' 2 (pc' := 38) (ls' := [mv_R 28, mv_R 212, mv_I 2]) (st' := [mv_I (mv_w ((q : Int) + 2)), mv_R 29]) (M1 := M) rfl ?_
  rw [show mv_w ((q : Int) + 2) = ((q + 2 : Nat) : Int) from by (rw [show mv_w ((q : Int) + 2) = (q : Int) + 2 from mv_w_id (by omega) (by omega)]) <;> omega]
  refine mv_go' 1 (pc' := if 0 ≤ ((q + 2 : Nat) : Int) ∧ ((q + 2 : Nat) : Int) < 160 then 39 else mv_bad) (ls' := [mv_R 28, mv_R 212, mv_I 2]) (st' := [mv_I (M 29 (q + 2))]) (M1 := M) rfl ?_
  refine mv_tt' (by omega) ?_
  rw [show M 29 (q + 2) = 107 from by exact k2]
  refine mv_go' 2 (pc' := 41) (ls' := [mv_R 28, mv_R 212, mv_I 2]) (st' := [mv_I 2, mv_R 212, mv_I 107]) (M1 := M) rfl ?_
  refine mv_callP (st2 := [mv_I 107, mv_I 107]) rfl (Or.inl rfl) rfl rfl rfl (sp_cha2 (j := 2) (by omega)) (by first | decide | omega) ?_
  refine mv_go' 1 (pc' := if 107 = 107 then 49 else 47) (ls' := [mv_R 28, mv_R 212, mv_I 2]) (st' := []) (M1 := M) rfl ?_
  refine mv_tt' (by first | decide | omega) ?_
  refine mv_go' 4 (pc' := 22) (ls' := [mv_R 28, mv_R 212, mv_I (mv_w (2 + 1))]) (st' := [mv_R 212, mv_I (mv_w (2 + 1))]) (M1 := M) rfl ?_
  rw [show mv_w (2 + 1) = 2 + 1 from mv_w_id (by omega) (by omega)]
  rw [show (2 + 1 : Int) = 3 from by decide]
  refine mv_callP (st2 := [mv_I 5, mv_I 3]) rfl (Or.inl rfl) rfl rfl rfl (sp_len2) (by first | decide | omega) ?_
  refine mv_go' 1 (pc' := if 3 < 5 then 28 else 55) (ls' := [mv_R 28, mv_R 212, mv_I 3]) (st' := []) (M1 := M) rfl ?_
  refine mv_tt' (by first | decide | omega) ?_
  refine mv_go' 4 (pc' := 36) (ls' := [mv_R 28, mv_R 212, mv_I 3]) (st' := [mv_I (M 28 4), mv_R 29]) (M1 := M) rfl ?_
  rw [show M 28 4 = (q : Int) from by exact h4]
  refine mv_go' 2 (pc' := 38) (ls' := [mv_R 28, mv_R 212, mv_I 3]) (st' := [mv_I (mv_w ((q : Int) + 3)), mv_R 29]) (M1 := M) rfl ?_
  rw [show mv_w ((q : Int) + 3) = ((q + 3 : Nat) : Int) from by (rw [show mv_w ((q : Int) + 3) = (q : Int) + 3 from mv_w_id (by omega) (by omega)]) <;> omega]
  refine mv_go' 1 (pc' := if 0 ≤ ((q + 3 : Nat) : Int) ∧ ((q + 3 : Nat) : Int) < 160 then 39 else mv_bad) (ls' := [mv_R 28, mv_R 212, mv_I 3]) (st' := [mv_I (M 29 (q + 3))]) (M1 := M) rfl ?_
  refine mv_tt' (by omega) ?_
  rw [show M 29 (q + 3) = 101 from by exact k3]
  refine mv_go' 2 (pc' := 41) (ls' := [mv_R 28, mv_R 212, mv_I 3]) (st' := [mv_I 3, mv_R 212, mv_I 101]) (M1 := M) rfl ?_
  refine mv_callP (st2 := [mv_I 101, mv_I 101]) rfl (Or.inl rfl) rfl rfl rfl (sp_cha2 (j := 3) (by omega)) (by first | decide | omega) ?_
  refine mv_go' 1 (pc' := if 101 = 101 then 49 else 47) (ls' := [mv_R 28, mv_R 212, mv_I 3]) (st' := []) (M1 := M) rfl ?_
  refine mv_tt' (by first | decide | omega) ?_
  refine mv_go' 4 (pc' := 22) (ls' := [mv_R 28, mv_R 212, mv_I (mv_w (3 + 1))]) (st' := [mv_R 212, mv_I (mv_w (3 + 1))]) (M1 := M) rfl ?_
  rw [show mv_w (3 + 1) = 3 + 1 from mv_w_id (by omega) (by omega)]
  rw [show (3 + 1 : Int) = 4 from by decide]
  refine mv_callP (st2 := [mv_I 5, mv_I 4]) rfl (Or.inl rfl) rfl rfl rfl (sp_len2) (by first | decide | omega) ?_
  refine mv_go' 1 (pc' := if 4 < 5 then 28 else 55) (ls' := [mv_R 28, mv_R 212, mv_I 4]) (st' := []) (M1 := M) rfl ?_
  refine mv_tt' (by first | decide | omega) ?_
  refine mv_go' 4 (pc' := 36) (ls' := [mv_R 28, mv_R 212, mv_I 4]) (st' := [mv_I (M 28 4), mv_R 29]) (M1 := M) rfl ?_
  rw [show M 28 4 = (q : Int) from by exact h4]
  refine mv_go' 2 (pc' := 38) (ls' := [mv_R 28, mv_R 212, mv_I 4]) (st' := [mv_I (mv_w ((q : Int) + 4)), mv_R 29]) (M1 := M) rfl ?_
  rw [show mv_w ((q : Int) + 4) = ((q + 4 : Nat) : Int) from by (rw [show mv_w ((q : Int) + 4) = (q : Int) + 4 from mv_w_id (by omega) (by omega)]) <;> omega]
  refine mv_go' 1 (pc' := if 0 ≤ ((q + 4 : Nat) : Int) ∧ ((q + 4 : Nat) : Int) < 160 then 39 else mv_bad) (ls' := [mv_R 28, mv_R 212, mv_I 4]) (st' := [mv_I (M 29 (q + 4))]) (M1 := M) rfl ?_
  refine mv_tt' (by omega) ?_
  rw [show M 29 (q + 4) = 115 from by exact k4]
  refine mv_go' 2 (pc' := 41) (ls' := [mv_R 28, mv_R 212, mv_I 4]) (st' := [mv_I 4, mv_R 212, mv_I 115]) (M1 := M) rfl ?_
  refine mv_callP (st2 := [mv_I 115, mv_I 115]) rfl (Or.inl rfl) rfl rfl rfl (sp_cha2 (j := 4) (by omega)) (by first | decide | omega) ?_
  refine mv_go' 1 (pc' := if 115 = 115 then 49 else 47) (ls' := [mv_R 28, mv_R 212, mv_I 4]) (st' := []) (M1 := M) rfl ?_
  refine mv_tt' (by first | decide | omega) ?_
  refine mv_go' 4 (pc' := 22) (ls' := [mv_R 28, mv_R 212, mv_I (mv_w (4 + 1))]) (st' := [mv_R 212, mv_I (mv_w (4 + 1))]) (M1 := M) rfl ?_
  rw [show mv_w (4 + 1) = 4 + 1 from mv_w_id (by omega) (by omega)]
  rw [show (4 + 1 : Int) = 5 from by decide]
  refine mv_callP (st2 := [mv_I 5, mv_I 5]) rfl (Or.inl rfl) rfl rfl rfl (sp_len2) (by first | decide | omega) ?_
  refine mv_go' 1 (pc' := if 5 < 5 then 28 else 55) (ls' := [mv_R 28, mv_R 212, mv_I 5]) (st' := []) (M1 := M) rfl ?_
  refine mv_ff' (by first | decide | omega) ?_
  refine mv_go' 1 (pc' := 56) (ls' := [mv_R 28, mv_R 212, mv_I 5]) (st' := [mv_I 1]) (M1 := M) rfl ?_
  exact mv_ret (fun n => rfl) rfl
theorem sp_iw2_f {M : mv_M} {q e : Nat} (hq : q ≤ e) (he : e ≤ 160) (h4 : M 28 4 = (q : Int)) (h2 : M 28 2 = (e : Int)) (h : ¬ sp_wm 1 (M 29) q e) : mv_Ru 4 12 0 [mv_R 28, mv_R 212, mv_U] [] M (mv_I 0) (fun M1 => M1 = M) := by
  refine mv_go' 1 (pc' := 1) (ls' := [mv_R 28, mv_R 212, mv_U]) (st' := [mv_R 212]) (M1 := M) rfl ?_
  refine mv_callP (st2 := [mv_I 5]) rfl (Or.inl rfl) rfl rfl rfl (sp_len2) (by first | decide | omega) ?_
  refine mv_go' 2 (pc' := 8) (ls' := [mv_R 28, mv_R 212, mv_U]) (st' := [mv_I (M 28 2), mv_I 5]) (M1 := M) rfl ?_
  rw [show M 28 2 = (e : Int) from by exact h2]
  refine mv_go' 2 (pc' := 12) (ls' := [mv_R 28, mv_R 212, mv_U]) (st' := [mv_I (M 28 4), mv_I (e : Int), mv_I 5]) (M1 := M) rfl ?_
  rw [show M 28 4 = (q : Int) from by exact h4]
  refine mv_go' 2 (pc' := if 5 = (mv_w ((e : Int) - (q : Int))) then 18 else 16) (ls' := [mv_R 28, mv_R 212, mv_U]) (st' := []) (M1 := M) rfl ?_
  rw [show mv_w ((e : Int) - (q : Int)) = (e : Int) - (q : Int) from mv_w_id (by omega) (by omega)]
  refine mv_sp' (fun ha7 => ?_) (fun ha7 => ?_)
  · refine mv_go' 4 (pc' := 22) (ls' := [mv_R 28, mv_R 212, mv_I 0]) (st' := [mv_R 212, mv_I 0]) (M1 := M) rfl ?_
    refine mv_callP (st2 := [mv_I 5, mv_I 0]) rfl (Or.inl rfl) rfl rfl rfl (sp_len2) (by first | decide | omega) ?_
    refine mv_go' 1 (pc' := if 0 < 5 then 28 else 55) (ls' := [mv_R 28, mv_R 212, mv_I 0]) (st' := []) (M1 := M) rfl ?_
    refine mv_tt' (by first | decide | omega) ?_
    refine mv_go' 4 (pc' := 36) (ls' := [mv_R 28, mv_R 212, mv_I 0]) (st' := [mv_I (M 28 4), mv_R 29]) (M1 := M) rfl ?_
    rw [show M 28 4 = (q : Int) from by exact h4]
    refine mv_go' 2 (pc' := 38) (ls' := [mv_R 28, mv_R 212, mv_I 0]) (st' := [mv_I (mv_w ((q : Int) + 0)), mv_R 29]) (M1 := M) rfl ?_
    rw [show mv_w ((q : Int) + 0) = (q : Int) from by (rw [show mv_w ((q : Int) + 0) = (q : Int) + 0 from mv_w_id (by omega) (by omega)]) <;> omega]
    refine mv_go' 1 (pc' := if 0 ≤ (q : Int) ∧ (q : Int) < 160 then 39 else mv_bad) (ls' := [mv_R 28, mv_R 212, mv_I 0]) (st' := [mv_I (M 29 q)]) (M1 := M) rfl ?_
    refine mv_tt' (by omega) ?_
    refine mv_go' 2 (pc' := 41) (ls' := [mv_R 28, mv_R 212, mv_I 0]) (st' := [mv_I 0, mv_R 212, mv_I (M 29 q)]) (M1 := M) rfl ?_
    refine mv_callP (st2 := [mv_I 108, mv_I (M 29 q)]) rfl (Or.inl rfl) rfl rfl rfl (sp_cha2 (j := 0) (by omega)) (by first | decide | omega) ?_
    refine mv_go' 1 (pc' := if (M 29 q) = 108 then 49 else 47) (ls' := [mv_R 28, mv_R 212, mv_I 0]) (st' := []) (M1 := M) rfl ?_
    refine mv_sp' (fun ha8 => ?_) (fun ha8 => ?_)
    · refine mv_go' 4 (pc' := 22) (ls' := [mv_R 28, mv_R 212, mv_I (mv_w (0 + 1))]) (st' := [mv_R 212, mv_I (mv_w (0 + 1))]) (M1 := M) rfl ?_
      rw [show mv_w (0 + 1) = 0 + 1 from mv_w_id (by omega) (by omega)]
      rw [show (0 + 1 : Int) = 1 from by decide]
      refine mv_callP (st2 := [mv_I 5, mv_I 1]) rfl (Or.inl rfl) rfl rfl rfl (sp_len2) (by first | decide | omega) ?_
      refine mv_go' 1 (pc' := if 1 < 5 then 28 else 55) (ls' := [mv_R 28, mv_R 212, mv_I 1]) (st' := []) (M1 := M) rfl ?_
      refine mv_tt' (by first | decide | omega) ?_
      refine mv_go' 4 (pc' := 36) (ls' := [mv_R 28, mv_R 212, mv_I 1]) (st' := [mv_I (M 28 4), mv_R 29]) (M1 := M) rfl ?_
      rw [show M 28 4 = (q : Int) from by exact h4]
      refine mv_go' 2 (pc' := 38) (ls' := [mv_R 28, mv_R 212, mv_I 1]) (st' := [mv_I (mv_w ((q : Int) + 1)), mv_R 29]) (M1 := M) rfl ?_
      rw [show mv_w ((q : Int) + 1) = ((q + 1 : Nat) : Int) from by (rw [show mv_w ((q : Int) + 1) = (q : Int) + 1 from mv_w_id (by omega) (by omega)]) <;> omega]
      refine mv_go' 1 (pc' := if 0 ≤ ((q + 1 : Nat) : Int) ∧ ((q + 1 : Nat) : Int) < 160 then 39 else mv_bad) (ls' := [mv_R 28, mv_R 212, mv_I 1]) (st' := [mv_I (M 29 (q + 1))]) (M1 := M) rfl ?_
      refine mv_tt' (by omega) ?_
      refine mv_go' 2 (pc' := 41) (ls' := [mv_R 28, mv_R 212, mv_I 1]) (st' := [mv_I 1, mv_R 212, mv_I (M 29 (q + 1))]) (M1 := M) rfl ?_
      refine mv_callP (st2 := [mv_I 105, mv_I (M 29 (q + 1))]) rfl (Or.inl rfl) rfl rfl rfl (sp_cha2 (j := 1) (by omega)) (by first | decide | omega) ?_
      refine mv_go' 1 (pc' := if (M 29 (q + 1)) = 105 then 49 else 47) (ls' := [mv_R 28, mv_R 212, mv_I 1]) (st' := []) (M1 := M) rfl ?_
      refine mv_sp' (fun ha9 => ?_) (fun ha9 => ?_)
      · refine mv_go' 4 (pc' := 22) (ls' := [mv_R 28, mv_R 212, mv_I (mv_w (1 + 1))]) (st' := [mv_R 212, mv_I (mv_w (1 + 1))]) (M1 := M) rfl ?_
        rw [show mv_w (1 + 1) = 1 + 1 from mv_w_id (by omega) (by omega)]
        rw [show (1 + 1 : Int) = 2 from by decide]
        refine mv_callP (st2 := [mv_I 5, mv_I 2]) rfl (Or.inl rfl) rfl rfl rfl (sp_len2) (by first | decide | omega) ?_
        refine mv_go' 1 (pc' := if 2 < 5 then 28 else 55) (ls' := [mv_R 28, mv_R 212, mv_I 2]) (st' := []) (M1 := M) rfl ?_
        refine mv_tt' (by first | decide | omega) ?_
        refine mv_go' 4 (pc' := 36) (ls' := [mv_R 28, mv_R 212, mv_I 2]) (st' := [mv_I (M 28 4), mv_R 29]) (M1 := M) rfl ?_
        rw [show M 28 4 = (q : Int) from by exact h4]
        refine mv_go' 2 (pc' := 38) (ls' := [mv_R 28, mv_R 212, mv_I 2]) (st' := [mv_I (mv_w ((q : Int) + 2)), mv_R 29]) (M1 := M) rfl ?_
        rw [show mv_w ((q : Int) + 2) = ((q + 2 : Nat) : Int) from by (rw [show mv_w ((q : Int) + 2) = (q : Int) + 2 from mv_w_id (by omega) (by omega)]) <;> omega]
        refine mv_go' 1 (pc' := if 0 ≤ ((q + 2 : Nat) : Int) ∧ ((q + 2 : Nat) : Int) < 160 then 39 else mv_bad) (ls' := [mv_R 28, mv_R 212, mv_I 2]) (st' := [mv_I (M 29 (q + 2))]) (M1 := M) rfl ?_
        refine mv_tt' (by omega) ?_
        refine mv_go' 2 (pc' := 41) (ls' := [mv_R 28, mv_R 212, mv_I 2]) (st' := [mv_I 2, mv_R 212, mv_I (M 29 (q + 2))]) (M1 := M) rfl ?_
        refine mv_callP (st2 := [mv_I 107, mv_I (M 29 (q + 2))]) rfl (Or.inl rfl) rfl rfl rfl (sp_cha2 (j := 2) (by omega)) (by first | decide | omega) ?_
        refine mv_go' 1 (pc' := if (M 29 (q + 2)) = 107 then 49 else 47) (ls' := [mv_R 28, mv_R 212, mv_I 2]) (st' := []) (M1 := M) rfl ?_
        refine mv_sp' (fun ha10 => ?_) (fun ha10 => ?_)
        · refine mv_go' 4 (pc' := 22) (ls' := [mv_R 28, mv_R 212, mv_I (mv_w (2 + 1))]) (st' := [mv_R 212, mv_I (mv_w (2 + 1))]) (M1 := M) rfl ?_
          rw [show mv_w (2 + 1) = 2 + 1 from mv_w_id (by omega) (by omega)]
          rw [show (2 + 1 : Int) = 3 from by decide]
          refine mv_callP (st2 := [mv_I 5, mv_I 3]) rfl (Or.inl rfl) rfl rfl rfl (sp_len2) (by first | decide | omega) ?_
          refine mv_go' 1 (pc' := if 3 < 5 then 28 else 55) (ls' := [mv_R 28, mv_R 212, mv_I 3]) (st' := []) (M1 := M) rfl ?_
          refine mv_tt' (by first | decide | omega) ?_
          refine mv_go' 4 (pc' := 36) (ls' := [mv_R 28, mv_R 212, mv_I 3]) (st' := [mv_I (M 28 4), mv_R 29]) (M1 := M) rfl ?_
          rw [show M 28 4 = (q : Int) from by exact h4]
          refine mv_go' 2 (pc' := 38) (ls' := [mv_R 28, mv_R 212, mv_I 3]) (st' := [mv_I (mv_w ((q : Int) + 3)), mv_R 29]) (M1 := M) rfl ?_
          rw [show mv_w ((q : Int) + 3) = ((q + 3 : Nat) : Int) from by (rw [show mv_w ((q : Int) + 3) = (q : Int) + 3 from mv_w_id (by omega) (by omega)]) <;> omega]
          refine mv_go' 1 (pc' := if 0 ≤ ((q + 3 : Nat) : Int) ∧ ((q + 3 : Nat) : Int) < 160 then 39 else mv_bad) (ls' := [mv_R 28, mv_R 212, mv_I 3]) (st' := [mv_I (M 29 (q + 3))]) (M1 := M) rfl ?_
          refine mv_tt' (by omega) ?_
          refine mv_go' 2 (pc' := 41) (ls' := [mv_R 28, mv_R 212, mv_I 3]) (st' := [mv_I 3, mv_R 212, mv_I (M 29 (q + 3))]) (M1 := M) rfl ?_
          refine mv_callP (st2 := [mv_I 101, mv_I (M 29 (q + 3))]) rfl (Or.inl rfl) rfl rfl rfl (sp_cha2 (j := 3) (by omega)) (by first | decide | omega) ?_
          refine mv_go' 1 (pc' := if (M 29 (q + 3)) = 101 then 49 else 47) (ls' := [mv_R 28, mv_R 212, mv_I 3]) (st' := []) (M1 := M) rfl ?_
          refine mv_sp' (fun ha11 => ?_) (fun ha11 => ?_)
          · refine mv_go' 4 (pc' := 22) (ls' := [mv_R 28, mv_R 212, mv_I (mv_w (3 + 1))]) (st' := [mv_R 212, mv_I (mv_w (3 + 1))]) (M1 := M) rfl ?_
            rw [show mv_w (3 + 1) = 3 + 1 from mv_w_id (by omega) (by omega)]
            rw [show (3 + 1 : Int) = 4 from by decide]
            refine mv_callP (st2 := [mv_I 5, mv_I 4]) rfl (Or.inl rfl) rfl rfl rfl (sp_len2) (by first | decide | omega) ?_
            refine mv_go' 1 (pc' := if 4 < 5 then 28 else 55) (ls' := [mv_R 28, mv_R 212, mv_I 4]) (st' := []) (M1 := M) rfl ?_
            refine mv_tt' (by first | decide | omega) ?_
            refine mv_go' 4 (pc' := 36) (ls' := [mv_R 28, mv_R 212, mv_I 4]) (st' := [mv_I (M 28 4), mv_R 29]) (M1 := M) rfl ?_
            rw [show M 28 4 = (q : Int) from by exact h4]
            refine mv_go' 2 (pc' := 38) (ls' := [mv_R 28, mv_R 212, mv_I 4]) (st' := [mv_I (mv_w ((q : Int) + 4)), mv_R 29]) (M1 := M) rfl ?_
            rw [show mv_w ((q : Int) + 4) = ((q + 4 : Nat) : Int) from by (rw [show mv_w ((q : Int) + 4) = (q : Int) + 4 from mv_w_id (by omega) (by omega)]) <;> omega]
            refine mv_go' 1 (pc' := if 0 ≤ ((q + 4 : Nat) : Int) ∧ ((q + 4 : Nat) : Int) < 160 then 39 else mv_bad) (ls' := [mv_R 28, mv_R 212, mv_I 4]) (st' := [mv_I (M 29 (q + 4))]) (M1 := M) rfl ?_
            refine mv_tt' (by omega) ?_
            refine mv_go' 2 (pc' := 41) (ls' := [mv_R 28, mv_R 212, mv_I 4]) (st' := [mv_I 4, mv_R 212, mv_I (M 29 (q + 4))]) (M1 := M) rfl ?_
            refine mv_callP (st2 := [mv_I 115, mv_I (M 29 (q + 4))]) rfl (Or.inl rfl) rfl rfl rfl (sp_cha2 (j := 4) (by omega)) (by first | decide | omega) ?_
            refine mv_go' 1 (pc' := if (M 29 (q + 4)) = 115 then 49 else 47) (ls' := [mv_R 28, mv_R 212, mv_I 4]) (st' := []) (M1 := M) rfl ?_
            refine mv_sp' (fun ha12 => ?_) (fun ha12 => ?_)
            · refine mv_go' 4 (pc' := 22) (ls' := [mv_R 28, mv_R 212, mv_I (mv_w (4 + 1))]) (st' := [mv_R 212, mv_I (mv_w (4 + 1))]) (M1 := M) rfl ?_
              rw [show mv_w (4 + 1) = 4 + 1 from mv_w_id (by omega) (by omega)]
              rw [show (4 + 1 : Int) = 5 from by decide]
              refine mv_callP (st2 := [mv_I 5, mv_I 5]) rfl (Or.inl rfl) rfl rfl rfl (sp_len2) (by first | decide | omega) ?_
              refine mv_go' 1 (pc' := if 5 < 5 then 28 else 55) (ls' := [mv_R 28, mv_R 212, mv_I 5]) (st' := []) (M1 := M) rfl ?_
              refine mv_ff' (by first | decide | omega) ?_
              refine mv_go' 1 (pc' := 56) (ls' := [mv_R 28, mv_R 212, mv_I 5]) (st' := [mv_I 1]) (M1 := M) rfl ?_
              exact mv_Ru.val (mv_ret (fun n => rfl) rfl) (congrArg mv_I (by first | with_reducible rfl | exact absurd (show sp_wm 1 (M 29) q e from ⟨by show e = q + 5; omega, by assumption, by assumption, by assumption, by assumption, by assumption, trivial⟩) h))
            · refine mv_go' 1 (pc' := 48) (ls' := [mv_R 28, mv_R 212, mv_I 4]) (st' := [mv_I 0]) (M1 := M) rfl ?_
              exact mv_Ru.val (mv_ret (fun n => rfl) rfl) (congrArg mv_I (by first | with_reducible rfl | exact absurd (show sp_wm 1 (M 29) q e from ⟨by show e = q + 5; omega, by assumption, by assumption, by assumption, by assumption, by assumption, trivial⟩) h))
          · refine mv_go' 1 (pc' := 48) (ls' := [mv_R 28, mv_R 212, mv_I 3]) (st' := [mv_I 0]) (M1 := M) rfl ?_
            exact mv_Ru.val (mv_ret (fun n => rfl) rfl) (congrArg mv_I (by first | with_reducible rfl | exact absurd (show sp_wm 1 (M 29) q e from ⟨by show e = q + 5; omega, by assumption, by assumption, by assumption, by assumption, by assumption, trivial⟩) h))
        · refine mv_go' 1 (pc' := 48) (ls' := [mv_R 28, mv_R 212, mv_I 2]) (st' := [mv_I 0]) (M1 := M) rfl ?_
          exact mv_Ru.val (mv_ret (fun n => rfl) rfl) (congrArg mv_I (by first | with_reducible rfl | exact absurd (show sp_wm 1 (M 29) q e from ⟨by show e = q + 5; omega, by assumption, by assumption, by assumption, by assumption, by assumption, trivial⟩) h))
      · refine mv_go' 1 (pc' := 48) (ls' := [mv_R 28, mv_R 212, mv_I 1]) (st' := [mv_I 0]) (M1 := M) rfl ?_
        exact mv_Ru.val (mv_ret (fun n => rfl) rfl) (congrArg mv_I (by first | with_reducible rfl | exact absurd (show sp_wm 1 (M 29) q e from ⟨by show e = q + 5; omega, by assumption, by assumption, by assumption, by assumption, by assumption, trivial⟩) h))
    · refine mv_go' 1 (pc' := 48) (ls' := [mv_R 28, mv_R 212, mv_I 0]) (st' := [mv_I 0]) (M1 := M) rfl ?_
      exact mv_Ru.val (mv_ret (fun n => rfl) rfl) (congrArg mv_I (by first | with_reducible rfl | exact absurd (show sp_wm 1 (M 29) q e from ⟨by show e = q + 5; omega, by assumption, by assumption, by assumption, by assumption, by assumption, trivial⟩) h))
  · refine mv_go' 1 (pc' := 17) (ls' := [mv_R 28, mv_R 212, mv_U]) (st' := [mv_I 0]) (M1 := M) rfl ?_
    exact mv_Ru.val (mv_ret (fun n => rfl) rfl) (congrArg mv_I (by first | with_reducible rfl | exact absurd (show sp_wm 1 (M 29) q e from ⟨by show e = q + 5; omega, by assumption, by assumption, by assumption, by assumption, by assumption, trivial⟩) h))
theorem sp_iw3_t {M : mv_M} {q e : Nat} (he : e ≤ 160) (h4 : M 28 4 = (q : Int)) (h2 : M 28 2 = (e : Int)) (h : sp_wm 2 (M 29) q e) : mv_Ru 4 12 0 [mv_R 28, mv_R 213, mv_U] [] M (mv_I 1) (fun M1 => M1 = M) := by
  have h1 : e = q + 5 := h.1
  obtain ⟨_, k0, k1, k2, k3, k4, _⟩ := h
  refine mv_go' 1 (pc' := 1) (ls' := [mv_R 28, mv_R 213, mv_U]) (st' := [mv_R 213]) (M1 := M) rfl ?_
  refine mv_callP (st2 := [mv_I 5]) rfl (Or.inl rfl) rfl rfl rfl (sp_len3) (by first | decide | omega) ?_
  refine mv_go' 2 (pc' := 8) (ls' := [mv_R 28, mv_R 213, mv_U]) (st' := [mv_I (M 28 2), mv_I 5]) (M1 := M) rfl ?_
  rw [show M 28 2 = (e : Int) from by exact h2]
  refine mv_go' 2 (pc' := 12) (ls' := [mv_R 28, mv_R 213, mv_U]) (st' := [mv_I (M 28 4), mv_I (e : Int), mv_I 5]) (M1 := M) rfl ?_
  rw [show M 28 4 = (q : Int) from by exact h4]
  refine mv_go' 2 (pc' := if 5 = (mv_w ((e : Int) - (q : Int))) then 18 else 16) (ls' := [mv_R 28, mv_R 213, mv_U]) (st' := []) (M1 := M) rfl ?_
  rw [show mv_w ((e : Int) - (q : Int)) = (e : Int) - (q : Int) from mv_w_id (by omega) (by omega)]
  refine mv_tt' (by omega) ?_
  refine mv_go' 4 (pc' := 22) (ls' := [mv_R 28, mv_R 213, mv_I 0]) (st' := [mv_R 213, mv_I 0]) (M1 := M) rfl ?_
  refine mv_callP (st2 := [mv_I 5, mv_I 0]) rfl (Or.inl rfl) rfl rfl rfl (sp_len3) (by first | decide | omega) ?_
  refine mv_go' 1 (pc' := if 0 < 5 then 28 else 55) (ls' := [mv_R 28, mv_R 213, mv_I 0]) (st' := []) (M1 := M) rfl ?_
  refine mv_tt' (by first | decide | omega) ?_
  refine mv_go' 4 (pc' := 36) (ls' := [mv_R 28, mv_R 213, mv_I 0]) (st' := [mv_I (M 28 4), mv_R 29]) (M1 := M) rfl ?_
  rw [show M 28 4 = (q : Int) from by exact h4]
  refine mv_go' 2 (pc' := 38) (ls' := [mv_R 28, mv_R 213, mv_I 0]) (st' := [mv_I (mv_w ((q : Int) + 0)), mv_R 29]) (M1 := M) rfl ?_
  rw [show mv_w ((q : Int) + 0) = (q : Int) from by (rw [show mv_w ((q : Int) + 0) = (q : Int) + 0 from mv_w_id (by omega) (by omega)]) <;> omega]
  refine mv_go' 1 (pc' := if 0 ≤ (q : Int) ∧ (q : Int) < 160 then 39 else mv_bad) (ls' := [mv_R 28, mv_R 213, mv_I 0]) (st' := [mv_I (M 29 q)]) (M1 := M) rfl ?_
  refine mv_tt' (by omega) ?_
  rw [show M 29 q = 116 from by exact k0]
  refine mv_go' 2 (pc' := 41) (ls' := [mv_R 28, mv_R 213, mv_I 0]) (st' := [mv_I 0, mv_R 213, mv_I 116]) (M1 := M) rfl ?_
  refine mv_callP (st2 := [mv_I 116, mv_I 116]) rfl (Or.inl rfl) rfl rfl rfl (sp_cha3 (j := 0) (by omega)) (by first | decide | omega) ?_
  refine mv_go' 1 (pc' := if 116 = 116 then 49 else 47) (ls' := [mv_R 28, mv_R 213, mv_I 0]) (st' := []) (M1 := M) rfl ?_
  refine mv_tt' (by first | decide | omega) ?_
  refine mv_go' 4 (pc' := 22) (ls' := [mv_R 28, mv_R 213, mv_I (mv_w (0 + 1))]) (st' := [mv_R 213, mv_I (mv_w (0 + 1))]) (M1 := M) rfl ?_
  rw [show mv_w (0 + 1) = 0 + 1 from mv_w_id (by omega) (by omega)]
  rw [show (0 + 1 : Int) = 1 from by decide]
  refine mv_callP (st2 := [mv_I 5, mv_I 1]) rfl (Or.inl rfl) rfl rfl rfl (sp_len3) (by first | decide | omega) ?_
  refine mv_go' 1 (pc' := if 1 < 5 then 28 else 55) (ls' := [mv_R 28, mv_R 213, mv_I 1]) (st' := []) (M1 := M) rfl ?_
  refine mv_tt' (by first | decide | omega) ?_
  refine mv_go' 4 (pc' := 36) (ls' := [mv_R 28, mv_R 213, mv_I 1]) (st' := [mv_I (M 28 4), mv_R 29]) (M1 := M) rfl ?_
  rw [show M 28 4 = (q : Int) from by exact h4]
  refine mv_go' 2 (pc' := 38) (ls' := [mv_R 28, mv_R 213, mv_I 1]) (st' := [mv_I (mv_w ((q : Int) + 1)), mv_R 29]) (M1 := M) rfl ?_
  rw [show mv_w ((q : Int) + 1) = ((q + 1 : Nat) : Int) from by (rw [show mv_w ((q : Int) + 1) = (q : Int) + 1 from mv_w_id (by omega) (by omega)]) <;> omega]
  refine mv_go' 1 (pc' := if 0 ≤ ((q + 1 : Nat) : Int) ∧ ((q + 1 : Nat) : Int) < 160 then 39 else mv_bad) (ls' := [mv_R 28, mv_R 213, mv_I 1]) (st' := [mv_I (M 29 (q + 1))]) (M1 := M) rfl ?_
  refine mv_tt' (by omega) ?_
  rw [show M 29 (q + 1) = 105 from by exact k1]
  refine mv_go' 2 (pc' := 41) (ls' := [mv_R 28, mv_R 213, mv_I 1]) (st' := [mv_I 1, mv_R 213, mv_I 105]) (M1 := M) rfl ?_
  refine mv_callP (st2 := [mv_I 105, mv_I 105]) rfl (Or.inl rfl) rfl rfl rfl (sp_cha3 (j := 1) (by omega)) (by first | decide | omega) ?_
  refine mv_go' 1 (pc' := if 105 = 105 then 49 else 47) (ls' := [mv_R 28, mv_R 213, mv_I 1]) (st' := []) (M1 := M) rfl ?_
  refine mv_tt' (by first | decide | omega) ?_
  refine mv_go' 4 (pc' := 22) (ls' := [mv_R 28, mv_R 213, mv_I (mv_w (1 + 1))]) (st' := [mv_R 213, mv_I (mv_w (1 + 1))]) (M1 := M) rfl ?_
  rw [show mv_w (1 + 1) = 1 + 1 from mv_w_id (by omega) (by omega)]
  rw [show (1 + 1 : Int) = 2 from by decide]
  refine mv_callP (st2 := [mv_I 5, mv_I 2]) rfl (Or.inl rfl) rfl rfl rfl (sp_len3) (by first | decide | omega) ?_
  refine mv_go' 1 (pc' := if 2 < 5 then 28 else 55) (ls' := [mv_R 28, mv_R 213, mv_I 2]) (st' := []) (M1 := M) rfl ?_
  refine mv_tt' (by first | decide | omega) ?_
  refine mv_go' 4 (pc' := 36) (ls' := [mv_R 28, mv_R 213, mv_I 2]) (st' := [mv_I (M 28 4), mv_R 29]) (M1 := M) rfl ?_
  rw [show M 28 4 = (q : Int) from by exact h4]
  refine mv_go' 2 (pc' := 38) (ls' := [mv_R 28, mv_R 213, mv_I 2]) (st' := [mv_I (mv_w ((q : Int) + 2)), mv_R 29]) (M1 := M) rfl ?_
  rw [show mv_w ((q : Int) + 2) = ((q + 2 : Nat) : Int) from by (rw [show mv_w ((q : Int) + 2) = (q : Int) + 2 from mv_w_id (by omega) (by omega)]) <;> omega]
  refine mv_go' 1 (pc' := if 0 ≤ ((q + 2 : Nat) : Int) ∧ ((q + 2 : Nat) : Int) < 160 then 39 else mv_bad) (ls' := [mv_R 28, mv_R 213, mv_I 2]) (st' := [mv_I (M 29 (q + 2))]) (M1 := M) rfl ?_
  refine mv_tt' (by omega) ?_
  rw [show M 29 (q + 2) = 114 from by exact k2]
  refine mv_go' 2 (pc' := 41) (ls' := [mv_R 28, mv_R 213, mv_I 2]) (st' := [mv_I 2, mv_R 213, mv_I 114]) (M1 := M) rfl ?_
  refine mv_callP (st2 := [mv_I 114, mv_I 114]) rfl (Or.inl rfl) rfl rfl rfl (sp_cha3 (j := 2) (by omega)) (by first | decide | omega) ?_
  refine mv_go' 1 (pc' := if 114 = 114 then 49 else 47) (ls' := [mv_R 28, mv_R 213, mv_I 2]) (st' := []) (M1 := M) rfl ?_
  refine mv_tt' (by first | decide | omega) ?_
  refine mv_go' 4 (pc' := 22) (ls' := [mv_R 28, mv_R 213, mv_I (mv_w (2 + 1))]) (st' := [mv_R 213, mv_I (mv_w (2 + 1))]) (M1 := M) rfl ?_
  rw [show mv_w (2 + 1) = 2 + 1 from mv_w_id (by omega) (by omega)]
  rw [show (2 + 1 : Int) = 3 from by decide]
  refine mv_callP (st2 := [mv_I 5, mv_I 3]) rfl (Or.inl rfl) rfl rfl rfl (sp_len3) (by first | decide | omega) ?_
  refine mv_go' 1 (pc' := if 3 < 5 then 28 else 55) (ls' := [mv_R 28, mv_R 213, mv_I 3]) (st' := []) (M1 := M) rfl ?_
  refine mv_tt' (by first | decide | omega) ?_
  refine mv_go' 4 (pc' := 36) (ls' := [mv_R 28, mv_R 213, mv_I 3]) (st' := [mv_I (M 28 4), mv_R 29]) (M1 := M) rfl ?_
  rw [show M 28 4 = (q : Int) from by exact h4]
  refine mv_go' 2 (pc' := 38) (ls' := [mv_R 28, mv_R 213, mv_I 3]) (st' := [mv_I (mv_w ((q : Int) + 3)), mv_R 29]) (M1 := M) rfl ?_
  rw [show mv_w ((q : Int) + 3) = ((q + 3 : Nat) : Int) from by (rw [show mv_w ((q : Int) + 3) = (q : Int) + 3 from mv_w_id (by omega) (by omega)]) <;> omega]
  refine mv_go' 1 (pc' := if 0 ≤ ((q + 3 : Nat) : Int) ∧ ((q + 3 : Nat) : Int) < 160 then 39 else mv_bad) (ls' := [mv_R 28, mv_R 213, mv_I 3]) (st' := [mv_I (M 29 (q + 3))]) (M1 := M) rfl ?_
  refine mv_tt' (by omega) ?_
  rw [show M 29 (q + 3) = 101 from by exact k3]
  refine mv_go' 2 (pc' := 41) (ls' := [mv_R 28, mv_R 213, mv_I 3]) (st' := [mv_I 3, mv_R 213, mv_I 101]) (M1 := M) rfl ?_
  refine mv_callP (st2 := [mv_I 101, mv_I 101]) rfl (Or.inl rfl) rfl rfl rfl (sp_cha3 (j := 3) (by omega)) (by first | decide | omega) ?_
  refine mv_go' 1 (pc' := if 101 = 101 then 49 else 47) (ls' := [mv_R 28, mv_R 213, mv_I 3]) (st' := []) (M1 := M) rfl ?_
  refine mv_tt' (by first | decide | omega) ?_
  refine mv_go' 4 (pc' := 22) (ls' := [mv_R 28, mv_R 213, mv_I (mv_w (3 + 1))]) (st' := [mv_R 213, mv_I (mv_w (3 + 1))]) (M1 := M) rfl ?_
  rw [show mv_w (3 + 1) = 3 + 1 from mv_w_id (by omega) (by omega)]
  rw [show (3 + 1 : Int) = 4 from by decide]
  refine mv_callP (st2 := [mv_I 5, mv_I 4]) rfl (Or.inl rfl) rfl rfl rfl (sp_len3) (by first | decide | omega) ?_
  refine mv_go' 1 (pc' := if 4 < 5 then 28 else 55) (ls' := [mv_R 28, mv_R 213, mv_I 4]) (st' := []) (M1 := M) rfl ?_
  refine mv_tt' (by first | decide | omega) ?_
  refine mv_go' 4 (pc' := 36) (ls' := [mv_R 28, mv_R 213, mv_I 4]) (st' := [mv_I (M 28 4), mv_R 29]) (M1 := M) rfl ?_
  rw [show M 28 4 = (q : Int) from by exact h4]
  refine mv_go' 2 (pc' := 38) (ls' := [mv_R 28, mv_R 213, mv_I 4]) (st' := [mv_I (mv_w ((q : Int) + 4)), mv_R 29]) (M1 := M) rfl ?_
  rw [show mv_w ((q : Int) + 4) = ((q + 4 : Nat) : Int) from by (rw [show mv_w ((q : Int) + 4) = (q : Int) + 4 from mv_w_id (by omega) (by omega)]) <;> omega]
  refine mv_go' 1 (pc' := if 0 ≤ ((q + 4 : Nat) : Int) ∧ ((q + 4 : Nat) : Int) < 160 then 39 else mv_bad) (ls' := [mv_R 28, mv_R 213, mv_I 4]) (st' := [mv_I (M 29 (q + 4))]) (M1 := M) rfl ?_
  refine mv_tt' (by omega) ?_
  rw [show M 29 (q + 4) = 115 from by exact k4]
  refine mv_go' 2 (pc' := 41) (ls' := [mv_R 28, mv_R 213, mv_I 4]) (st' := [mv_I 4, mv_R 213, mv_I 115]) (M1 := M) rfl ?_
  refine mv_callP (st2 := [mv_I 115, mv_I 115]) rfl (Or.inl rfl) rfl rfl rfl (sp_cha3 (j := 4) (by omega)) (by first | decide | omega) ?_
  refine mv_go' 1 (pc' := if 115 = 115 then 49 else 47) (ls' := [mv_R 28, mv_R 213, mv_I 4]) (st' := []) (M1 := M) rfl ?_
  refine mv_tt' (by first | decide | omega) ?_
  refine mv_go' 4 (pc' := 22) (ls' := [mv_R 28, mv_R 213, mv_I (mv_w (4 + 1))]) (st' := [mv_R 213, mv_I (mv_w (4 + 1))]) (M1 := M) rfl ?_
  rw [show mv_w (4 + 1) = 4 + 1 from mv_w_id (by omega) (by omega)]
  rw [show (4 + 1 : Int) = 5 from by decide]
  refine mv_callP (st2 := [mv_I 5, mv_I 5]) rfl (Or.inl rfl) rfl rfl rfl (sp_len3) (by first | decide | omega) ?_
  refine mv_go' 1 (pc' := if 5 < 5 then 28 else 55) (ls' := [mv_R 28, mv_R 213, mv_I 5]) (st' := []) (M1 := M) rfl ?_
  refine mv_ff' (by first | decide | omega) ?_
  refine mv_go' 1 (pc' := 56) (ls' := [mv_R 28, mv_R 213, mv_I 5]) (st' := [mv_I 1]) (M1 := M) rfl ?_
  exact mv_ret (fun n => rfl) rfl
theorem sp_iw3_f {M : mv_M} {q e : Nat} (hq : q ≤ e) (he : e ≤ 160) (h4 : M 28 4 = (q : Int)) (h2 : M 28 2 = (e : Int)) (h : ¬ sp_wm 2 (M 29) q e) : mv_Ru 4 12 0 [mv_R 28, mv_R 213, mv_U] [] M (mv_I 0) (fun M1 => M1 = M) := by
  refine mv_go' 1 (pc' := 1) (ls' := [mv_R 28, mv_R 213, mv_U]) (st' := [mv_R 213]) (M1 := M) rfl ?_
  refine mv_callP (st2 := [mv_I 5]) rfl (Or.inl rfl) rfl rfl rfl (sp_len3) (by first | decide | omega) ?_
  refine mv_go' 2 (pc' := 8) (ls' := [mv_R 28, mv_R 213, mv_U]) (st' := [mv_I (M 28 2), mv_I 5]) (M1 := M) rfl ?_
  rw [show M 28 2 = (e : Int) from by exact h2]
  refine mv_go' 2 (pc' := 12) (ls' := [mv_R 28, mv_R 213, mv_U]) (st' := [mv_I (M 28 4), mv_I (e : Int), mv_I 5]) (M1 := M) rfl ?_
  rw [show M 28 4 = (q : Int) from by exact h4]
  refine mv_go' 2 (pc' := if 5 = (mv_w ((e : Int) - (q : Int))) then 18 else 16) (ls' := [mv_R 28, mv_R 213, mv_U]) (st' := []) (M1 := M) rfl ?_
  rw [show mv_w ((e : Int) - (q : Int)) = (e : Int) - (q : Int) from mv_w_id (by omega) (by omega)]
  refine mv_sp' (fun ha13 => ?_) (fun ha13 => ?_)
  · refine mv_go' 4 (pc' := 22) (ls' := [mv_R 28, mv_R 213, mv_I 0]) (st' := [mv_R 213, mv_I 0]) (M1 := M) rfl ?_
    refine mv_callP (st2 := [mv_I 5, mv_I 0]) rfl (Or.inl rfl) rfl rfl rfl (sp_len3) (by first | decide | omega) ?_
    refine mv_go' 1 (pc' := if 0 < 5 then 28 else 55) (ls' := [mv_R 28, mv_R 213, mv_I 0]) (st' := []) (M1 := M) rfl ?_
    refine mv_tt' (by first | decide | omega) ?_
    refine mv_go' 4 (pc' := 36) (ls' := [mv_R 28, mv_R 213, mv_I 0]) (st' := [mv_I (M 28 4), mv_R 29]) (M1 := M) rfl ?_
    rw [show M 28 4 = (q : Int) from by exact h4]
    refine mv_go' 2 (pc' := 38) (ls' := [mv_R 28, mv_R 213, mv_I 0]) (st' := [mv_I (mv_w ((q : Int) + 0)), mv_R 29]) (M1 := M) rfl ?_
    rw [show mv_w ((q : Int) + 0) = (q : Int) from by (rw [show mv_w ((q : Int) + 0) = (q : Int) + 0 from mv_w_id (by omega) (by omega)]) <;> omega]
    refine mv_go' 1 (pc' := if 0 ≤ (q : Int) ∧ (q : Int) < 160 then 39 else mv_bad) (ls' := [mv_R 28, mv_R 213, mv_I 0]) (st' := [mv_I (M 29 q)]) (M1 := M) rfl ?_
    refine mv_tt' (by omega) ?_
    refine mv_go' 2 (pc' := 41) (ls' := [mv_R 28, mv_R 213, mv_I 0]) (st' := [mv_I 0, mv_R 213, mv_I (M 29 q)]) (M1 := M) rfl ?_
    refine mv_callP (st2 := [mv_I 116, mv_I (M 29 q)]) rfl (Or.inl rfl) rfl rfl rfl (sp_cha3 (j := 0) (by omega)) (by first | decide | omega) ?_
    refine mv_go' 1 (pc' := if (M 29 q) = 116 then 49 else 47) (ls' := [mv_R 28, mv_R 213, mv_I 0]) (st' := []) (M1 := M) rfl ?_
    refine mv_sp' (fun ha14 => ?_) (fun ha14 => ?_)
    · refine mv_go' 4 (pc' := 22) (ls' := [mv_R 28, mv_R 213, mv_I (mv_w (0 + 1))]) (st' := [mv_R 213, mv_I (mv_w (0 + 1))]) (M1 := M) rfl ?_
      rw [show mv_w (0 + 1) = 0 + 1 from mv_w_id (by omega) (by omega)]
      rw [show (0 + 1 : Int) = 1 from by decide]
      refine mv_callP (st2 := [mv_I 5, mv_I 1]) rfl (Or.inl rfl) rfl rfl rfl (sp_len3) (by first | decide | omega) ?_
      refine mv_go' 1 (pc' := if 1 < 5 then 28 else 55) (ls' := [mv_R 28, mv_R 213, mv_I 1]) (st' := []) (M1 := M) rfl ?_
      refine mv_tt' (by first | decide | omega) ?_
      refine mv_go' 4 (pc' := 36) (ls' := [mv_R 28, mv_R 213, mv_I 1]) (st' := [mv_I (M 28 4), mv_R 29]) (M1 := M) rfl ?_
      rw [show M 28 4 = (q : Int) from by exact h4]
      refine mv_go' 2 (pc' := 38) (ls' := [mv_R 28, mv_R 213, mv_I 1]) (st' := [mv_I (mv_w ((q : Int) + 1)), mv_R 29]) (M1 := M) rfl ?_
      rw [show mv_w ((q : Int) + 1) = ((q + 1 : Nat) : Int) from by (rw [show mv_w ((q : Int) + 1) = (q : Int) + 1 from mv_w_id (by omega) (by omega)]) <;> omega]
      refine mv_go' 1 (pc' := if 0 ≤ ((q + 1 : Nat) : Int) ∧ ((q + 1 : Nat) : Int) < 160 then 39 else mv_bad) (ls' := [mv_R 28, mv_R 213, mv_I 1]) (st' := [mv_I (M 29 (q + 1))]) (M1 := M) rfl ?_
      refine mv_tt' (by omega) ?_
      refine mv_go' 2 (pc' := 41) (ls' := [mv_R 28, mv_R 213, mv_I 1]) (st' := [mv_I 1, mv_R 213, mv_I (M 29 (q + 1))]) (M1 := M) rfl ?_
      refine mv_callP (st2 := [mv_I 105, mv_I (M 29 (q + 1))]) rfl (Or.inl rfl) rfl rfl rfl (sp_cha3 (j := 1) (by omega)) (by first | decide | omega) ?_
      refine mv_go' 1 (pc' := if (M 29 (q + 1)) = 105 then 49 else 47) (ls' := [mv_R 28, mv_R 213, mv_I 1]) (st' := []) (M1 := M) rfl ?_
      refine mv_sp' (fun ha15 => ?_) (fun ha15 => ?_)
      · refine mv_go' 4 (pc' := 22) (ls' := [mv_R 28, mv_R 213, mv_I (mv_w (1 + 1))]) (st' := [mv_R 213, mv_I (mv_w (1 + 1))]) (M1 := M) rfl ?_
        rw [show mv_w (1 + 1) = 1 + 1 from mv_w_id (by omega) (by omega)]
        rw [show (1 + 1 : Int) = 2 from by decide]
        refine mv_callP (st2 := [mv_I 5, mv_I 2]) rfl (Or.inl rfl) rfl rfl rfl (sp_len3) (by first | decide | omega) ?_
        refine mv_go' 1 (pc' := if 2 < 5 then 28 else 55) (ls' := [mv_R 28, mv_R 213, mv_I 2]) (st' := []) (M1 := M) rfl ?_
        refine mv_tt' (by first | decide | omega) ?_
        refine mv_go' 4 (pc' := 36) (ls' := [mv_R 28, mv_R 213, mv_I 2]) (st' := [mv_I (M 28 4), mv_R 29]) (M1 := M) rfl ?_
        rw [show M 28 4 = (q : Int) from by exact h4]
        refine mv_go' 2 (pc' := 38) (ls' := [mv_R 28, mv_R 213, mv_I 2]) (st' := [mv_I (mv_w ((q : Int) + 2)), mv_R 29]) (M1 := M) rfl ?_
        rw [show mv_w ((q : Int) + 2) = ((q + 2 : Nat) : Int) from by (rw [show mv_w ((q : Int) + 2) = (q : Int) + 2 from mv_w_id (by omega) (by omega)]) <;> omega]
        refine mv_go' 1 (pc' := if 0 ≤ ((q + 2 : Nat) : Int) ∧ ((q + 2 : Nat) : Int) < 160 then 39 else mv_bad) (ls' := [mv_R 28, mv_R 213, mv_I 2]) (st' := [mv_I (M 29 (q + 2))]) (M1 := M) rfl ?_
        refine mv_tt' (by omega) ?_
        refine mv_go' 2 (pc' := 41) (ls' := [mv_R 28, mv_R 213, mv_I 2]) (st' := [mv_I 2, mv_R 213, mv_I (M 29 (q + 2))]) (M1 := M) rfl ?_
        refine mv_callP (st2 := [mv_I 114, mv_I (M 29 (q + 2))]) rfl (Or.inl rfl) rfl rfl rfl (sp_cha3 (j := 2) (by omega)) (by first | decide | omega) ?_
        refine mv_go' 1 (pc' := if (M 29 (q + 2)) = 114 then 49 else 47) (ls' := [mv_R 28, mv_R 213, mv_I 2]) (st' := []) (M1 := M) rfl ?_
        refine mv_sp' (fun ha16 => ?_) (fun ha16 => ?_)
        · refine mv_go' 4 (pc' := 22) (ls' := [mv_R 28, mv_R 213, mv_I (mv_w (2 + 1))]) (st' := [mv_R 213, mv_I (mv_w (2 + 1))]) (M1 := M) rfl ?_
          rw [show mv_w (2 + 1) = 2 + 1 from mv_w_id (by omega) (by omega)]
          rw [show (2 + 1 : Int) = 3 from by decide]
          refine mv_callP (st2 := [mv_I 5, mv_I 3]) rfl (Or.inl rfl) rfl rfl rfl (sp_len3) (by first | decide | omega) ?_
          refine mv_go' 1 (pc' := if 3 < 5 then 28 else 55) (ls' := [mv_R 28, mv_R 213, mv_I 3]) (st' := []) (M1 := M) rfl ?_
          refine mv_tt' (by first | decide | omega) ?_
          refine mv_go' 4 (pc' := 36) (ls' := [mv_R 28, mv_R 213, mv_I 3]) (st' := [mv_I (M 28 4), mv_R 29]) (M1 := M) rfl ?_
          rw [show M 28 4 = (q : Int) from by exact h4]
          refine mv_go' 2 (pc' := 38) (ls' := [mv_R 28, mv_R 213, mv_I 3]) (st' := [mv_I (mv_w ((q : Int) + 3)), mv_R 29]) (M1 := M) rfl ?_
          rw [show mv_w ((q : Int) + 3) = ((q + 3 : Nat) : Int) from by (rw [show mv_w ((q : Int) + 3) = (q : Int) + 3 from mv_w_id (by omega) (by omega)]) <;> omega]
          refine mv_go' 1 (pc' := if 0 ≤ ((q + 3 : Nat) : Int) ∧ ((q + 3 : Nat) : Int) < 160 then 39 else mv_bad) (ls' := [mv_R 28, mv_R 213, mv_I 3]) (st' := [mv_I (M 29 (q + 3))]) (M1 := M) rfl ?_
          refine mv_tt' (by omega) ?_
          refine mv_go' 2 (pc' := 41) (ls' := [mv_R 28, mv_R 213, mv_I 3]) (st' := [mv_I 3, mv_R 213, mv_I (M 29 (q + 3))]) (M1 := M) rfl ?_
          refine mv_callP (st2 := [mv_I 101, mv_I (M 29 (q + 3))]) rfl (Or.inl rfl) rfl rfl rfl (sp_cha3 (j := 3) (by omega)) (by first | decide | omega) ?_
          refine mv_go' 1 (pc' := if (M 29 (q + 3)) = 101 then 49 else 47) (ls' := [mv_R 28, mv_R 213, mv_I 3]) (st' := []) (M1 := M) rfl ?_
          refine mv_sp' (fun ha17 => ?_) (fun ha17 => ?_)
          · refine mv_go' 4 (pc' := 22) (ls' := [mv_R 28, mv_R 213, mv_I (mv_w (3 + 1))]) (st' := [mv_R 213, mv_I (mv_w (3 + 1))]) (M1 := M) rfl ?_
            rw [show mv_w (3 + 1) = 3 + 1 from mv_w_id (by omega) (by omega)]
            rw [show (3 + 1 : Int) = 4 from by decide]
            refine mv_callP (st2 := [mv_I 5, mv_I 4]) rfl (Or.inl rfl) rfl rfl rfl (sp_len3) (by first | decide | omega) ?_
            refine mv_go' 1 (pc' := if 4 < 5 then 28 else 55) (ls' := [mv_R 28, mv_R 213, mv_I 4]) (st' := []) (M1 := M) rfl ?_
            refine mv_tt' (by first | decide | omega) ?_
            refine mv_go' 4 (pc' := 36) (ls' := [mv_R 28, mv_R 213, mv_I 4]) (st' := [mv_I (M 28 4), mv_R 29]) (M1 := M) rfl ?_
            rw [show M 28 4 = (q : Int) from by exact h4]
            refine mv_go' 2 (pc' := 38) (ls' := [mv_R 28, mv_R 213, mv_I 4]) (st' := [mv_I (mv_w ((q : Int) + 4)), mv_R 29]) (M1 := M) rfl ?_
            rw [show mv_w ((q : Int) + 4) = ((q + 4 : Nat) : Int) from by (rw [show mv_w ((q : Int) + 4) = (q : Int) + 4 from mv_w_id (by omega) (by omega)]) <;> omega]
            refine mv_go' 1 (pc' := if 0 ≤ ((q + 4 : Nat) : Int) ∧ ((q + 4 : Nat) : Int) < 160 then 39 else mv_bad) (ls' := [mv_R 28, mv_R 213, mv_I 4]) (st' := [mv_I (M 29 (q + 4))]) (M1 := M) rfl ?_
            refine mv_tt' (by omega) ?_
            refine mv_go' 2 (pc' := 41) (ls' := [mv_R 28, mv_R 213, mv_I 4]) (st' := [mv_I 4, mv_R 213, mv_I (M 29 (q + 4))]) (M1 := M) rfl ?_
            refine mv_callP (st2 := [mv_I 115, mv_I (M 29 (q + 4))]) rfl (Or.inl rfl) rfl rfl rfl (sp_cha3 (j := 4) (by omega)) (by first | decide | omega) ?_
            refine mv_go' 1 (pc' := if (M 29 (q + 4)) = 115 then 49 else 47) (ls' := [mv_R 28, mv_R 213, mv_I 4]) (st' := []) (M1 := M) rfl ?_
            refine mv_sp' (fun ha18 => ?_) (fun ha18 => ?_)
            · refine mv_go' 4 (pc' := 22) (ls' := [mv_R 28, mv_R 213, mv_I (mv_w (4 + 1))]) (st' := [mv_R 213, mv_I (mv_w (4 + 1))]) (M1 := M) rfl ?_
              rw [show mv_w (4 + 1) = 4 + 1 from mv_w_id (by omega) (by omega)]
              rw [show (4 + 1 : Int) = 5 from by decide]
              refine mv_callP (st2 := [mv_I 5, mv_I 5]) rfl (Or.inl rfl) rfl rfl rfl (sp_len3) (by first | decide | omega) ?_
              refine mv_go' 1 (pc' := if 5 < 5 then 28 else 55) (ls' := [mv_R 28, mv_R 213, mv_I 5]) (st' := []) (M1 := M) rfl ?_
              refine mv_ff' (by first | decide | omega) ?_
              refine mv_go' 1 (pc' := 56) (ls' := [mv_R 28, mv_R 213, mv_I 5]) (st' := [mv_I 1]) (M1 := M) rfl ?_
              exact mv_Ru.val (mv_ret (fun n => rfl) rfl) (congrArg mv_I (by first | with_reducible rfl | exact absurd (show sp_wm 2 (M 29) q e from ⟨by show e = q + 5; omega, by assumption, by assumption, by assumption, by assumption, by assumption, trivial⟩) h))
            · refine mv_go' 1 (pc' := 48) (ls' := [mv_R 28, mv_R 213, mv_I 4]) (st' := [mv_I 0]) (M1 := M) rfl ?_
              exact mv_Ru.val (mv_ret (fun n => rfl) rfl) (congrArg mv_I (by first | with_reducible rfl | exact absurd (show sp_wm 2 (M 29) q e from ⟨by show e = q + 5; omega, by assumption, by assumption, by assumption, by assumption, by assumption, trivial⟩) h))
          · refine mv_go' 1 (pc' := 48) (ls' := [mv_R 28, mv_R 213, mv_I 3]) (st' := [mv_I 0]) (M1 := M) rfl ?_
            exact mv_Ru.val (mv_ret (fun n => rfl) rfl) (congrArg mv_I (by first | with_reducible rfl | exact absurd (show sp_wm 2 (M 29) q e from ⟨by show e = q + 5; omega, by assumption, by assumption, by assumption, by assumption, by assumption, trivial⟩) h))
        · refine mv_go' 1 (pc' := 48) (ls' := [mv_R 28, mv_R 213, mv_I 2]) (st' := [mv_I 0]) (M1 := M) rfl ?_
          exact mv_Ru.val (mv_ret (fun n => rfl) rfl) (congrArg mv_I (by first | with_reducible rfl | exact absurd (show sp_wm 2 (M 29) q e from ⟨by show e = q + 5; omega, by assumption, by assumption, by assumption, by assumption, by assumption, trivial⟩) h))
      · refine mv_go' 1 (pc' := 48) (ls' := [mv_R 28, mv_R 213, mv_I 1]) (st' := [mv_I 0]) (M1 := M) rfl ?_
        exact mv_Ru.val (mv_ret (fun n => rfl) rfl) (congrArg mv_I (by first | with_reducible rfl | exact absurd (show sp_wm 2 (M 29) q e from ⟨by show e = q + 5; omega, by assumption, by assumption, by assumption, by assumption, by assumption, trivial⟩) h))
    · refine mv_go' 1 (pc' := 48) (ls' := [mv_R 28, mv_R 213, mv_I 0]) (st' := [mv_I 0]) (M1 := M) rfl ?_
      exact mv_Ru.val (mv_ret (fun n => rfl) rfl) (congrArg mv_I (by first | with_reducible rfl | exact absurd (show sp_wm 2 (M 29) q e from ⟨by show e = q + 5; omega, by assumption, by assumption, by assumption, by assumption, by assumption, trivial⟩) h))
  · refine mv_go' 1 (pc' := 17) (ls' := [mv_R 28, mv_R 213, mv_U]) (st' := [mv_I 0]) (M1 := M) rfl ?_
    exact mv_Ru.val (mv_ret (fun n => rfl) rfl) (congrArg mv_I (by first | with_reducible rfl | exact absurd (show sp_wm 2 (M 29) q e from ⟨by show e = q + 5; omega, by assumption, by assumption, by assumption, by assumption, by assumption, trivial⟩) h))
theorem sp_iw4_t {M : mv_M} {q e : Nat} (he : e ≤ 160) (h4 : M 28 4 = (q : Int)) (h2 : M 28 2 = (e : Int)) (h : sp_wm 3 (M 29) q e) : mv_Ru 4 12 0 [mv_R 28, mv_R 214, mv_U] [] M (mv_I 1) (fun M1 => M1 = M) := by
  have h1 : e = q + 2 := h.1
  obtain ⟨_, k0, k1, _⟩ := h
  refine mv_go' 1 (pc' := 1) (ls' := [mv_R 28, mv_R 214, mv_U]) (st' := [mv_R 214]) (M1 := M) rfl ?_
  refine mv_callP (st2 := [mv_I 2]) rfl (Or.inl rfl) rfl rfl rfl (sp_len4) (by first | decide | omega) ?_
  refine mv_go' 2 (pc' := 8) (ls' := [mv_R 28, mv_R 214, mv_U]) (st' := [mv_I (M 28 2), mv_I 2]) (M1 := M) rfl ?_
  rw [show M 28 2 = (e : Int) from by exact h2]
  refine mv_go' 2 (pc' := 12) (ls' := [mv_R 28, mv_R 214, mv_U]) (st' := [mv_I (M 28 4), mv_I (e : Int), mv_I 2]) (M1 := M) rfl ?_
  rw [show M 28 4 = (q : Int) from by exact h4]
  refine mv_go' 2 (pc' := if 2 = (mv_w ((e : Int) - (q : Int))) then 18 else 16) (ls' := [mv_R 28, mv_R 214, mv_U]) (st' := []) (M1 := M) rfl ?_
  rw [show mv_w ((e : Int) - (q : Int)) = (e : Int) - (q : Int) from mv_w_id (by omega) (by omega)]
  refine mv_tt' (by omega) ?_
  refine mv_go' 4 (pc' := 22) (ls' := [mv_R 28, mv_R 214, mv_I 0]) (st' := [mv_R 214, mv_I 0]) (M1 := M) rfl ?_
  refine mv_callP (st2 := [mv_I 2, mv_I 0]) rfl (Or.inl rfl) rfl rfl rfl (sp_len4) (by first | decide | omega) ?_
  refine mv_go' 1 (pc' := if 0 < 2 then 28 else 55) (ls' := [mv_R 28, mv_R 214, mv_I 0]) (st' := []) (M1 := M) rfl ?_
  refine mv_tt' (by first | decide | omega) ?_
  refine mv_go' 4 (pc' := 36) (ls' := [mv_R 28, mv_R 214, mv_I 0]) (st' := [mv_I (M 28 4), mv_R 29]) (M1 := M) rfl ?_
  rw [show M 28 4 = (q : Int) from by exact h4]
  refine mv_go' 2 (pc' := 38) (ls' := [mv_R 28, mv_R 214, mv_I 0]) (st' := [mv_I (mv_w ((q : Int) + 0)), mv_R 29]) (M1 := M) rfl ?_
  rw [show mv_w ((q : Int) + 0) = (q : Int) from by (rw [show mv_w ((q : Int) + 0) = (q : Int) + 0 from mv_w_id (by omega) (by omega)]) <;> omega]
  refine mv_go' 1 (pc' := if 0 ≤ (q : Int) ∧ (q : Int) < 160 then 39 else mv_bad) (ls' := [mv_R 28, mv_R 214, mv_I 0]) (st' := [mv_I (M 29 q)]) (M1 := M) rfl ?_
  refine mv_tt' (by omega) ?_
  rw [show M 29 q = 111 from by exact k0]
  refine mv_go' 2 (pc' := 41) (ls' := [mv_R 28, mv_R 214, mv_I 0]) (st' := [mv_I 0, mv_R 214, mv_I 111]) (M1 := M) rfl ?_
  refine mv_callP (st2 := [mv_I 111, mv_I 111]) rfl (Or.inl rfl) rfl rfl rfl (sp_cha4 (j := 0) (by omega)) (by first | decide | omega) ?_
  refine mv_go' 1 (pc' := if 111 = 111 then 49 else 47) (ls' := [mv_R 28, mv_R 214, mv_I 0]) (st' := []) (M1 := M) rfl ?_
  refine mv_tt' (by first | decide | omega) ?_
  refine mv_go' 4 (pc' := 22) (ls' := [mv_R 28, mv_R 214, mv_I (mv_w (0 + 1))]) (st' := [mv_R 214, mv_I (mv_w (0 + 1))]) (M1 := M) rfl ?_
  rw [show mv_w (0 + 1) = 0 + 1 from mv_w_id (by omega) (by omega)]
  rw [show (0 + 1 : Int) = 1 from by decide]
  refine mv_callP (st2 := [mv_I 2, mv_I 1]) rfl (Or.inl rfl) rfl rfl rfl (sp_len4) (by first | decide | omega) ?_
  refine mv_go' 1 (pc' := if 1 < 2 then 28 else 55) (ls' := [mv_R 28, mv_R 214, mv_I 1]) (st' := []) (M1 := M) rfl ?_
  refine mv_tt' (by first | decide | omega) ?_
  refine mv_go' 4 (pc' := 36) (ls' := [mv_R 28, mv_R 214, mv_I 1]) (st' := [mv_I (M 28 4), mv_R 29]) (M1 := M) rfl ?_
  rw [show M 28 4 = (q : Int) from by exact h4]
  refine mv_go' 2 (pc' := 38) (ls' := [mv_R 28, mv_R 214, mv_I 1]) (st' := [mv_I (mv_w ((q : Int) + 1)), mv_R 29]) (M1 := M) rfl ?_
  rw [show mv_w ((q : Int) + 1) = ((q + 1 : Nat) : Int) from by (rw [show mv_w ((q : Int) + 1) = (q : Int) + 1 from mv_w_id (by omega) (by omega)]) <;> omega]
  refine mv_go' 1 (pc' := if 0 ≤ ((q + 1 : Nat) : Int) ∧ ((q + 1 : Nat) : Int) < 160 then 39 else mv_bad) (ls' := [mv_R 28, mv_R 214, mv_I 1]) (st' := [mv_I (M 29 (q + 1))]) (M1 := M) rfl ?_
  refine mv_tt' (by omega) ?_
  rw [show M 29 (q + 1) = 114 from by exact k1]
  refine mv_go' 2 (pc' := 41) (ls' := [mv_R 28, mv_R 214, mv_I 1]) (st' := [mv_I 1, mv_R 214, mv_I 114]) (M1 := M) rfl ?_
  refine mv_callP (st2 := [mv_I 114, mv_I 114]) rfl (Or.inl rfl) rfl rfl rfl (sp_cha4 (j := 1) (by omega)) (by first | decide | omega) ?_
  refine mv_go' 1 (pc' := if 114 = 114 then 49 else 47) (ls' := [mv_R 28, mv_R 214, mv_I 1]) (st' := []) (M1 := M) rfl ?_
  refine mv_tt' (by first | decide | omega) ?_
  refine mv_go' 4 (pc' := 22) (ls' := [mv_R 28, mv_R 214, mv_I (mv_w (1 + 1))]) (st' := [mv_R 214, mv_I (mv_w (1 + 1))]) (M1 := M) rfl ?_
  rw [show mv_w (1 + 1) = 1 + 1 from mv_w_id (by omega) (by omega)]
  rw [show (1 + 1 : Int) = 2 from by decide]
  refine mv_callP (st2 := [mv_I 2, mv_I 2]) rfl (Or.inl rfl) rfl rfl rfl (sp_len4) (by first | decide | omega) ?_
  refine mv_go' 1 (pc' := if 2 < 2 then 28 else 55) (ls' := [mv_R 28, mv_R 214, mv_I 2]) (st' := []) (M1 := M) rfl ?_
  refine mv_ff' (by first | decide | omega) ?_
  refine mv_go' 1 (pc' := 56) (ls' := [mv_R 28, mv_R 214, mv_I 2]) (st' := [mv_I 1]) (M1 := M) rfl ?_
  exact mv_ret (fun n => rfl) rfl
theorem sp_iw4_f {M : mv_M} {q e : Nat} (hq : q ≤ e) (he : e ≤ 160) (h4 : M 28 4 = (q : Int)) (h2 : M 28 2 = (e : Int)) (h : ¬ sp_wm 3 (M 29) q e) : mv_Ru 4 12 0 [mv_R 28, mv_R 214, mv_U] [] M (mv_I 0) (fun M1 => M1 = M) := by
  refine mv_go' 1 (pc' := 1) (ls' := [mv_R 28, mv_R 214, mv_U]) (st' := [mv_R 214]) (M1 := M) rfl ?_
  refine mv_callP (st2 := [mv_I 2]) rfl (Or.inl rfl) rfl rfl rfl (sp_len4) (by first | decide | omega) ?_
  refine mv_go' 2 (pc' := 8) (ls' := [mv_R 28, mv_R 214, mv_U]) (st' := [mv_I (M 28 2), mv_I 2]) (M1 := M) rfl ?_
  rw [show M 28 2 = (e : Int) from by exact h2]
  refine mv_go' 2 (pc' := 12) (ls' := [mv_R 28, mv_R 214, mv_U]) (st' := [mv_I (M 28 4), mv_I (e : Int), mv_I 2]) (M1 := M) rfl ?_
  rw [show M 28 4 = (q : Int) from by exact h4]
  refine mv_go' 2 (pc' := if 2 = (mv_w ((e : Int) - (q : Int))) then 18 else 16) (ls' := [mv_R 28, mv_R 214, mv_U]) (st' := []) (M1 := M) rfl ?_
  rw [show mv_w ((e : Int) - (q : Int)) = (e : Int) - (q : Int) from mv_w_id (by omega) (by omega)]
  refine mv_sp' (fun ha19 => ?_) (fun ha19 => ?_)
  · refine mv_go' 4 (pc' := 22) (ls' := [mv_R 28, mv_R 214, mv_I 0]) (st' := [mv_R 214, mv_I 0]) (M1 := M) rfl ?_
    refine mv_callP (st2 := [mv_I 2, mv_I 0]) rfl (Or.inl rfl) rfl rfl rfl (sp_len4) (by first | decide | omega) ?_
    refine mv_go' 1 (pc' := if 0 < 2 then 28 else 55) (ls' := [mv_R 28, mv_R 214, mv_I 0]) (st' := []) (M1 := M) rfl ?_
    refine mv_tt' (by first | decide | omega) ?_
    refine mv_go' 4 (pc' := 36) (ls' := [mv_R 28, mv_R 214, mv_I 0]) (st' := [mv_I (M 28 4), mv_R 29]) (M1 := M) rfl ?_
    rw [show M 28 4 = (q : Int) from by exact h4]
    refine mv_go' 2 (pc' := 38) (ls' := [mv_R 28, mv_R 214, mv_I 0]) (st' := [mv_I (mv_w ((q : Int) + 0)), mv_R 29]) (M1 := M) rfl ?_
    rw [show mv_w ((q : Int) + 0) = (q : Int) from by (rw [show mv_w ((q : Int) + 0) = (q : Int) + 0 from mv_w_id (by omega) (by omega)]) <;> omega]
    refine mv_go' 1 (pc' := if 0 ≤ (q : Int) ∧ (q : Int) < 160 then 39 else mv_bad) (ls' := [mv_R 28, mv_R 214, mv_I 0]) (st' := [mv_I (M 29 q)]) (M1 := M) rfl ?_
    refine mv_tt' (by omega) ?_
    refine mv_go' 2 (pc' := 41) (ls' := [mv_R 28, mv_R 214, mv_I 0]) (st' := [mv_I 0, mv_R 214, mv_I (M 29 q)]) (M1 := M) rfl ?_
    refine mv_callP (st2 := [mv_I 111, mv_I (M 29 q)]) rfl (Or.inl rfl) rfl rfl rfl (sp_cha4 (j := 0) (by omega)) (by first | decide | omega) ?_
    refine mv_go' 1 (pc' := if (M 29 q) = 111 then 49 else 47) (ls' := [mv_R 28, mv_R 214, mv_I 0]) (st' := []) (M1 := M) rfl ?_
    refine mv_sp' (fun ha20 => ?_) (fun ha20 => ?_)
    · refine mv_go' 4 (pc' := 22) (ls' := [mv_R 28, mv_R 214, mv_I (mv_w (0 + 1))]) (st' := [mv_R 214, mv_I (mv_w (0 + 1))]) (M1 := M) rfl ?_
      rw [show mv_w (0 + 1) = 0 + 1 from mv_w_id (by omega) (by omega)]
      rw [show (0 + 1 : Int) = 1 from by decide]
      refine mv_callP (st2 := [mv_I 2, mv_I 1]) rfl (Or.inl rfl) rfl rfl rfl (sp_len4) (by first | decide | omega) ?_
      refine mv_go' 1 (pc' := if 1 < 2 then 28 else 55) (ls' := [mv_R 28, mv_R 214, mv_I 1]) (st' := []) (M1 := M) rfl ?_
      refine mv_tt' (by first | decide | omega) ?_
      refine mv_go' 4 (pc' := 36) (ls' := [mv_R 28, mv_R 214, mv_I 1]) (st' := [mv_I (M 28 4), mv_R 29]) (M1 := M) rfl ?_
      rw [show M 28 4 = (q : Int) from by exact h4]
      refine mv_go' 2 (pc' := 38) (ls' := [mv_R 28, mv_R 214, mv_I 1]) (st' := [mv_I (mv_w ((q : Int) + 1)), mv_R 29]) (M1 := M) rfl ?_
      rw [show mv_w ((q : Int) + 1) = ((q + 1 : Nat) : Int) from by (rw [show mv_w ((q : Int) + 1) = (q : Int) + 1 from mv_w_id (by omega) (by omega)]) <;> omega]
      refine mv_go' 1 (pc' := if 0 ≤ ((q + 1 : Nat) : Int) ∧ ((q + 1 : Nat) : Int) < 160 then 39 else mv_bad) (ls' := [mv_R 28, mv_R 214, mv_I 1]) (st' := [mv_I (M 29 (q + 1))]) (M1 := M) rfl ?_
      refine mv_tt' (by omega) ?_
      refine mv_go' 2 (pc' := 41) (ls' := [mv_R 28, mv_R 214, mv_I 1]) (st' := [mv_I 1, mv_R 214, mv_I (M 29 (q + 1))]) (M1 := M) rfl ?_
      refine mv_callP (st2 := [mv_I 114, mv_I (M 29 (q + 1))]) rfl (Or.inl rfl) rfl rfl rfl (sp_cha4 (j := 1) (by omega)) (by first | decide | omega) ?_
      refine mv_go' 1 (pc' := if (M 29 (q + 1)) = 114 then 49 else 47) (ls' := [mv_R 28, mv_R 214, mv_I 1]) (st' := []) (M1 := M) rfl ?_
      refine mv_sp' (fun ha21 => ?_) (fun ha21 => ?_)
      · refine mv_go' 4 (pc' := 22) (ls' := [mv_R 28, mv_R 214, mv_I (mv_w (1 + 1))]) (st' := [mv_R 214, mv_I (mv_w (1 + 1))]) (M1 := M) rfl ?_
        rw [show mv_w (1 + 1) = 1 + 1 from mv_w_id (by omega) (by omega)]
        rw [show (1 + 1 : Int) = 2 from by decide]
        refine mv_callP (st2 := [mv_I 2, mv_I 2]) rfl (Or.inl rfl) rfl rfl rfl (sp_len4) (by first | decide | omega) ?_
        refine mv_go' 1 (pc' := if 2 < 2 then 28 else 55) (ls' := [mv_R 28, mv_R 214, mv_I 2]) (st' := []) (M1 := M) rfl ?_
        refine mv_ff' (by first | decide | omega) ?_
        refine mv_go' 1 (pc' := 56) (ls' := [mv_R 28, mv_R 214, mv_I 2]) (st' := [mv_I 1]) (M1 := M) rfl ?_
        exact mv_Ru.val (mv_ret (fun n => rfl) rfl) (congrArg mv_I (by first | with_reducible rfl | exact absurd (show sp_wm 3 (M 29) q e from ⟨by show e = q + 2; omega, by assumption, by assumption, trivial⟩) h))
      · refine mv_go' 1 (pc' := 48) (ls' := [mv_R 28, mv_R 214, mv_I 1]) (st' := [mv_I 0]) (M1 := M) rfl ?_
        exact mv_Ru.val (mv_ret (fun n => rfl) rfl) (congrArg mv_I (by first | with_reducible rfl | exact absurd (show sp_wm 3 (M 29) q e from ⟨by show e = q + 2; omega, by assumption, by assumption, trivial⟩) h))
    · refine mv_go' 1 (pc' := 48) (ls' := [mv_R 28, mv_R 214, mv_I 0]) (st' := [mv_I 0]) (M1 := M) rfl ?_
      exact mv_Ru.val (mv_ret (fun n => rfl) rfl) (congrArg mv_I (by first | with_reducible rfl | exact absurd (show sp_wm 3 (M 29) q e from ⟨by show e = q + 2; omega, by assumption, by assumption, trivial⟩) h))
  · refine mv_go' 1 (pc' := 17) (ls' := [mv_R 28, mv_R 214, mv_U]) (st' := [mv_I 0]) (M1 := M) rfl ?_
    exact mv_Ru.val (mv_ret (fun n => rfl) rfl) (congrArg mv_I (by first | with_reducible rfl | exact absurd (show sp_wm 3 (M 29) q e from ⟨by show e = q + 2; omega, by assumption, by assumption, trivial⟩) h))
theorem sp_iw5_t {M : mv_M} {q e : Nat} (he : e ≤ 160) (h4 : M 28 4 = (q : Int)) (h2 : M 28 2 = (e : Int)) (h : sp_wm 4 (M 29) q e) : mv_Ru 4 12 0 [mv_R 28, mv_R 215, mv_U] [] M (mv_I 1) (fun M1 => M1 = M) := by
  have h1 : e = q + 3 := h.1
  obtain ⟨_, k0, k1, k2, _⟩ := h
  refine mv_go' 1 (pc' := 1) (ls' := [mv_R 28, mv_R 215, mv_U]) (st' := [mv_R 215]) (M1 := M) rfl ?_
  refine mv_callP (st2 := [mv_I 3]) rfl (Or.inl rfl) rfl rfl rfl (sp_len5) (by first | decide | omega) ?_
  refine mv_go' 2 (pc' := 8) (ls' := [mv_R 28, mv_R 215, mv_U]) (st' := [mv_I (M 28 2), mv_I 3]) (M1 := M) rfl ?_
  rw [show M 28 2 = (e : Int) from by exact h2]
  refine mv_go' 2 (pc' := 12) (ls' := [mv_R 28, mv_R 215, mv_U]) (st' := [mv_I (M 28 4), mv_I (e : Int), mv_I 3]) (M1 := M) rfl ?_
  rw [show M 28 4 = (q : Int) from by exact h4]
  refine mv_go' 2 (pc' := if 3 = (mv_w ((e : Int) - (q : Int))) then 18 else 16) (ls' := [mv_R 28, mv_R 215, mv_U]) (st' := []) (M1 := M) rfl ?_
  rw [show mv_w ((e : Int) - (q : Int)) = (e : Int) - (q : Int) from mv_w_id (by omega) (by omega)]
  refine mv_tt' (by omega) ?_
  refine mv_go' 4 (pc' := 22) (ls' := [mv_R 28, mv_R 215, mv_I 0]) (st' := [mv_R 215, mv_I 0]) (M1 := M) rfl ?_
  refine mv_callP (st2 := [mv_I 3, mv_I 0]) rfl (Or.inl rfl) rfl rfl rfl (sp_len5) (by first | decide | omega) ?_
  refine mv_go' 1 (pc' := if 0 < 3 then 28 else 55) (ls' := [mv_R 28, mv_R 215, mv_I 0]) (st' := []) (M1 := M) rfl ?_
  refine mv_tt' (by first | decide | omega) ?_
  refine mv_go' 4 (pc' := 36) (ls' := [mv_R 28, mv_R 215, mv_I 0]) (st' := [mv_I (M 28 4), mv_R 29]) (M1 := M) rfl ?_
  rw [show M 28 4 = (q : Int) from by exact h4]
  refine mv_go' 2 (pc' := 38) (ls' := [mv_R 28, mv_R 215, mv_I 0]) (st' := [mv_I (mv_w ((q : Int) + 0)), mv_R 29]) (M1 := M) rfl ?_
  rw [show mv_w ((q : Int) + 0) = (q : Int) from by (rw [show mv_w ((q : Int) + 0) = (q : Int) + 0 from mv_w_id (by omega) (by omega)]) <;> omega]
  refine mv_go' 1 (pc' := if 0 ≤ (q : Int) ∧ (q : Int) < 160 then 39 else mv_bad) (ls' := [mv_R 28, mv_R 215, mv_I 0]) (st' := [mv_I (M 29 q)]) (M1 := M) rfl ?_
  refine mv_tt' (by omega) ?_
  rw [show M 29 q = 97 from by exact k0]
  refine mv_go' 2 (pc' := 41) (ls' := [mv_R 28, mv_R 215, mv_I 0]) (st' := [mv_I 0, mv_R 215, mv_I 97]) (M1 := M) rfl ?_
  refine mv_callP (st2 := [mv_I 97, mv_I 97]) rfl (Or.inl rfl) rfl rfl rfl (sp_cha5 (j := 0) (by omega)) (by first | decide | omega) ?_
  refine mv_go' 1 (pc' := if 97 = 97 then 49 else 47) (ls' := [mv_R 28, mv_R 215, mv_I 0]) (st' := []) (M1 := M) rfl ?_
  refine mv_tt' (by first | decide | omega) ?_
  refine mv_go' 4 (pc' := 22) (ls' := [mv_R 28, mv_R 215, mv_I (mv_w (0 + 1))]) (st' := [mv_R 215, mv_I (mv_w (0 + 1))]) (M1 := M) rfl ?_
  rw [show mv_w (0 + 1) = 0 + 1 from mv_w_id (by omega) (by omega)]
  rw [show (0 + 1 : Int) = 1 from by decide]
  refine mv_callP (st2 := [mv_I 3, mv_I 1]) rfl (Or.inl rfl) rfl rfl rfl (sp_len5) (by first | decide | omega) ?_
  refine mv_go' 1 (pc' := if 1 < 3 then 28 else 55) (ls' := [mv_R 28, mv_R 215, mv_I 1]) (st' := []) (M1 := M) rfl ?_
  refine mv_tt' (by first | decide | omega) ?_
  refine mv_go' 4 (pc' := 36) (ls' := [mv_R 28, mv_R 215, mv_I 1]) (st' := [mv_I (M 28 4), mv_R 29]) (M1 := M) rfl ?_
  rw [show M 28 4 = (q : Int) from by exact h4]
  refine mv_go' 2 (pc' := 38) (ls' := [mv_R 28, mv_R 215, mv_I 1]) (st' := [mv_I (mv_w ((q : Int) + 1)), mv_R 29]) (M1 := M) rfl ?_
  rw [show mv_w ((q : Int) + 1) = ((q + 1 : Nat) : Int) from by (rw [show mv_w ((q : Int) + 1) = (q : Int) + 1 from mv_w_id (by omega) (by omega)]) <;> omega]
  refine mv_go' 1 (pc' := if 0 ≤ ((q + 1 : Nat) : Int) ∧ ((q + 1 : Nat) : Int) < 160 then 39 else mv_bad) (ls' := [mv_R 28, mv_R 215, mv_I 1]) (st' := [mv_I (M 29 (q + 1))]) (M1 := M) rfl ?_
  refine mv_tt' (by omega) ?_
  rw [show M 29 (q + 1) = 110 from by exact k1]
  refine mv_go' 2 (pc' := 41) (ls' := [mv_R 28, mv_R 215, mv_I 1]) (st' := [mv_I 1, mv_R 215, mv_I 110]) (M1 := M) rfl ?_
  refine mv_callP (st2 := [mv_I 110, mv_I 110]) rfl (Or.inl rfl) rfl rfl rfl (sp_cha5 (j := 1) (by omega)) (by first | decide | omega) ?_
  refine mv_go' 1 (pc' := if 110 = 110 then 49 else 47) (ls' := [mv_R 28, mv_R 215, mv_I 1]) (st' := []) (M1 := M) rfl ?_
  refine mv_tt' (by first | decide | omega) ?_
  refine mv_go' 4 (pc' := 22) (ls' := [mv_R 28, mv_R 215, mv_I (mv_w (1 + 1))]) (st' := [mv_R 215, mv_I (mv_w (1 + 1))]) (M1 := M) rfl ?_
  rw [show mv_w (1 + 1) = 1 + 1 from mv_w_id (by omega) (by omega)]
  rw [show (1 + 1 : Int) = 2 from by decide]
  refine mv_callP (st2 := [mv_I 3, mv_I 2]) rfl (Or.inl rfl) rfl rfl rfl (sp_len5) (by first | decide | omega) ?_
  refine mv_go' 1 (pc' := if 2 < 3 then 28 else 55) (ls' := [mv_R 28, mv_R 215, mv_I 2]) (st' := []) (M1 := M) rfl ?_
  refine mv_tt' (by first | decide | omega) ?_
  refine mv_go' 4 (pc' := 36) (ls' := [mv_R 28, mv_R 215, mv_I 2]) (st' := [mv_I (M 28 4), mv_R 29]) (M1 := M) rfl ?_
  rw [show M 28 4 = (q : Int) from by exact h4]
  refine mv_go' 2 (pc' := 38) (ls' := [mv_R 28, mv_R 215, mv_I 2]) (st' := [mv_I (mv_w ((q : Int) + 2)), mv_R 29]) (M1 := M) rfl ?_
  rw [show mv_w ((q : Int) + 2) = ((q + 2 : Nat) : Int) from by (rw [show mv_w ((q : Int) + 2) = (q : Int) + 2 from mv_w_id (by omega) (by omega)]) <;> omega]
  refine mv_go' 1 (pc' := if 0 ≤ ((q + 2 : Nat) : Int) ∧ ((q + 2 : Nat) : Int) < 160 then 39 else mv_bad) (ls' := [mv_R 28, mv_R 215, mv_I 2]) (st' := [mv_I (M 29 (q + 2))]) (M1 := M) rfl ?_
  refine mv_tt' (by omega) ?_
  rw [show M 29 (q + 2) = 100 from by exact k2]
  refine mv_go' 2 (pc' := 41) (ls' := [mv_R 28, mv_R 215, mv_I 2]) (st' := [mv_I 2, mv_R 215, mv_I 100]) (M1 := M) rfl ?_
  refine mv_callP (st2 := [mv_I 100, mv_I 100]) rfl (Or.inl rfl) rfl rfl rfl (sp_cha5 (j := 2) (by omega)) (by first | decide | omega) ?_
  refine mv_go' 1 (pc' := if 100 = 100 then 49 else 47) (ls' := [mv_R 28, mv_R 215, mv_I 2]) (st' := []) (M1 := M) rfl ?_
  refine mv_tt' (by first | decide | omega) ?_
  refine mv_go' 4 (pc' := 22) (ls' := [mv_R 28, mv_R 215, mv_I (mv_w (2 + 1))]) (st' := [mv_R 215, mv_I (mv_w (2 + 1))]) (M1 := M) rfl ?_
  rw [show mv_w (2 + 1) = 2 + 1 from mv_w_id (by omega) (by omega)]
  rw [show (2 + 1 : Int) = 3 from by decide]
  refine mv_callP (st2 := [mv_I 3, mv_I 3]) rfl (Or.inl rfl) rfl rfl rfl (sp_len5) (by first | decide | omega) ?_
  refine mv_go' 1 (pc' := if 3 < 3 then 28 else 55) (ls' := [mv_R 28, mv_R 215, mv_I 3]) (st' := []) (M1 := M) rfl ?_
  refine mv_ff' (by first | decide | omega) ?_
  refine mv_go' 1 (pc' := 56) (ls' := [mv_R 28, mv_R 215, mv_I 3]) (st' := [mv_I 1]) (M1 := M) rfl ?_
  exact mv_ret (fun n => rfl) rfl
theorem sp_iw5_f {M : mv_M} {q e : Nat} (hq : q ≤ e) (he : e ≤ 160) (h4 : M 28 4 = (q : Int)) (h2 : M 28 2 = (e : Int)) (h : ¬ sp_wm 4 (M 29) q e) : mv_Ru 4 12 0 [mv_R 28, mv_R 215, mv_U] [] M (mv_I 0) (fun M1 => M1 = M) := by
  refine mv_go' 1 (pc' := 1) (ls' := [mv_R 28, mv_R 215, mv_U]) (st' := [mv_R 215]) (M1 := M) rfl ?_
  refine mv_callP (st2 := [mv_I 3]) rfl (Or.inl rfl) rfl rfl rfl (sp_len5) (by first | decide | omega) ?_
  refine mv_go' 2 (pc' := 8) (ls' := [mv_R 28, mv_R 215, mv_U]) (st' := [mv_I (M 28 2), mv_I 3]) (M1 := M) rfl ?_
  rw [show M 28 2 = (e : Int) from by exact h2]
  refine mv_go' 2 (pc' := 12) (ls' := [mv_R 28, mv_R 215, mv_U]) (st' := [mv_I (M 28 4), mv_I (e : Int), mv_I 3]) (M1 := M) rfl ?_
  rw [show M 28 4 = (q : Int) from by exact h4]
  refine mv_go' 2 (pc' := if 3 = (mv_w ((e : Int) - (q : Int))) then 18 else 16) (ls' := [mv_R 28, mv_R 215, mv_U]) (st' := []) (M1 := M) rfl ?_
  rw [show mv_w ((e : Int) - (q : Int)) = (e : Int) - (q : Int) from mv_w_id (by omega) (by omega)]
  refine mv_sp' (fun ha22 => ?_) (fun ha22 => ?_)
  · refine mv_go' 4 (pc' := 22) (ls' := [mv_R 28, mv_R 215, mv_I 0]) (st' := [mv_R 215, mv_I 0]) (M1 := M) rfl ?_
    refine mv_callP (st2 := [mv_I 3, mv_I 0]) rfl (Or.inl rfl) rfl rfl rfl (sp_len5) (by first | decide | omega) ?_
    refine mv_go' 1 (pc' := if 0 < 3 then 28 else 55) (ls' := [mv_R 28, mv_R 215, mv_I 0]) (st' := []) (M1 := M) rfl ?_
    refine mv_tt' (by first | decide | omega) ?_
    refine mv_go' 4 (pc' := 36) (ls' := [mv_R 28, mv_R 215, mv_I 0]) (st' := [mv_I (M 28 4), mv_R 29]) (M1 := M) rfl ?_
    rw [show M 28 4 = (q : Int) from by exact h4]
    refine mv_go' 2 (pc' := 38) (ls' := [mv_R 28, mv_R 215, mv_I 0]) (st' := [mv_I (mv_w ((q : Int) + 0)), mv_R 29]) (M1 := M) rfl ?_
    rw [show mv_w ((q : Int) + 0) = (q : Int) from by (rw [show mv_w ((q : Int) + 0) = (q : Int) + 0 from mv_w_id (by omega) (by omega)]) <;> omega]
    refine mv_go' 1 (pc' := if 0 ≤ (q : Int) ∧ (q : Int) < 160 then 39 else mv_bad) (ls' := [mv_R 28, mv_R 215, mv_I 0]) (st' := [mv_I (M 29 q)]) (M1 := M) rfl ?_
    refine mv_tt' (by omega) ?_
    refine mv_go' 2 (pc' := 41) (ls' := [mv_R 28, mv_R 215, mv_I 0]) (st' := [mv_I 0, mv_R 215, mv_I (M 29 q)]) (M1 := M) rfl ?_
    refine mv_callP (st2 := [mv_I 97, mv_I (M 29 q)]) rfl (Or.inl rfl) rfl rfl rfl (sp_cha5 (j := 0) (by omega)) (by first | decide | omega) ?_
    refine mv_go' 1 (pc' := if (M 29 q) = 97 then 49 else 47) (ls' := [mv_R 28, mv_R 215, mv_I 0]) (st' := []) (M1 := M) rfl ?_
    refine mv_sp' (fun ha23 => ?_) (fun ha23 => ?_)
    · refine mv_go' 4 (pc' := 22) (ls' := [mv_R 28, mv_R 215, mv_I (mv_w (0 + 1))]) (st' := [mv_R 215, mv_I (mv_w (0 + 1))]) (M1 := M) rfl ?_
      rw [show mv_w (0 + 1) = 0 + 1 from mv_w_id (by omega) (by omega)]
      rw [show (0 + 1 : Int) = 1 from by decide]
      refine mv_callP (st2 := [mv_I 3, mv_I 1]) rfl (Or.inl rfl) rfl rfl rfl (sp_len5) (by first | decide | omega) ?_
      refine mv_go' 1 (pc' := if 1 < 3 then 28 else 55) (ls' := [mv_R 28, mv_R 215, mv_I 1]) (st' := []) (M1 := M) rfl ?_
      refine mv_tt' (by first | decide | omega) ?_
      refine mv_go' 4 (pc' := 36) (ls' := [mv_R 28, mv_R 215, mv_I 1]) (st' := [mv_I (M 28 4), mv_R 29]) (M1 := M) rfl ?_
      rw [show M 28 4 = (q : Int) from by exact h4]
      refine mv_go' 2 (pc' := 38) (ls' := [mv_R 28, mv_R 215, mv_I 1]) (st' := [mv_I (mv_w ((q : Int) + 1)), mv_R 29]) (M1 := M) rfl ?_
      rw [show mv_w ((q : Int) + 1) = ((q + 1 : Nat) : Int) from by (rw [show mv_w ((q : Int) + 1) = (q : Int) + 1 from mv_w_id (by omega) (by omega)]) <;> omega]
      refine mv_go' 1 (pc' := if 0 ≤ ((q + 1 : Nat) : Int) ∧ ((q + 1 : Nat) : Int) < 160 then 39 else mv_bad) (ls' := [mv_R 28, mv_R 215, mv_I 1]) (st' := [mv_I (M 29 (q + 1))]) (M1 := M) rfl ?_
      refine mv_tt' (by omega) ?_
      refine mv_go' 2 (pc' := 41) (ls' := [mv_R 28, mv_R 215, mv_I 1]) (st' := [mv_I 1, mv_R 215, mv_I (M 29 (q + 1))]) (M1 := M) rfl ?_
      refine mv_callP (st2 := [mv_I 110, mv_I (M 29 (q + 1))]) rfl (Or.inl rfl) rfl rfl rfl (sp_cha5 (j := 1) (by omega)) (by first | decide | omega) ?_
      refine mv_go' 1 (pc' := if (M 29 (q + 1)) = 110 then 49 else 47) (ls' := [mv_R 28, mv_R 215, mv_I 1]) (st' := []) (M1 := M) rfl ?_
      refine mv_sp' (fun ha24 => ?_) (fun ha24 => ?_)
      · refine mv_go' 4 (pc' := 22) (ls' := [mv_R 28, mv_R 215, mv_I (mv_w (1 + 1))]) (st' := [mv_R 215, mv_I (mv_w (1 + 1))]) (M1 := M) rfl ?_
        rw [show mv_w (1 + 1) = 1 + 1 from mv_w_id (by omega) (by omega)]
        rw [show (1 + 1 : Int) = 2 from by decide]
        refine mv_callP (st2 := [mv_I 3, mv_I 2]) rfl (Or.inl rfl) rfl rfl rfl (sp_len5) (by first | decide | omega) ?_
        refine mv_go' 1 (pc' := if 2 < 3 then 28 else 55) (ls' := [mv_R 28, mv_R 215, mv_I 2]) (st' := []) (M1 := M) rfl ?_
        refine mv_tt' (by first | decide | omega) ?_
        refine mv_go' 4 (pc' := 36) (ls' := [mv_R 28, mv_R 215, mv_I 2]) (st' := [mv_I (M 28 4), mv_R 29]) (M1 := M) rfl ?_
        rw [show M 28 4 = (q : Int) from by exact h4]
        refine mv_go' 2 (pc' := 38) (ls' := [mv_R 28, mv_R 215, mv_I 2]) (st' := [mv_I (mv_w ((q : Int) + 2)), mv_R 29]) (M1 := M) rfl ?_
        rw [show mv_w ((q : Int) + 2) = ((q + 2 : Nat) : Int) from by (rw [show mv_w ((q : Int) + 2) = (q : Int) + 2 from mv_w_id (by omega) (by omega)]) <;> omega]
        refine mv_go' 1 (pc' := if 0 ≤ ((q + 2 : Nat) : Int) ∧ ((q + 2 : Nat) : Int) < 160 then 39 else mv_bad) (ls' := [mv_R 28, mv_R 215, mv_I 2]) (st' := [mv_I (M 29 (q + 2))]) (M1 := M) rfl ?_
        refine mv_tt' (by omega) ?_
        refine mv_go' 2 (pc' := 41) (ls' := [mv_R 28, mv_R 215, mv_I 2]) (st' := [mv_I 2, mv_R 215, mv_I (M 29 (q + 2))]) (M1 := M) rfl ?_
        refine mv_callP (st2 := [mv_I 100, mv_I (M 29 (q + 2))]) rfl (Or.inl rfl) rfl rfl rfl (sp_cha5 (j := 2) (by omega)) (by first | decide | omega) ?_
        refine mv_go' 1 (pc' := if (M 29 (q + 2)) = 100 then 49 else 47) (ls' := [mv_R 28, mv_R 215, mv_I 2]) (st' := []) (M1 := M) rfl ?_
        refine mv_sp' (fun ha25 => ?_) (fun ha25 => ?_)
        · refine mv_go' 4 (pc' := 22) (ls' := [mv_R 28, mv_R 215, mv_I (mv_w (2 + 1))]) (st' := [mv_R 215, mv_I (mv_w (2 + 1))]) (M1 := M) rfl ?_
          rw [show mv_w (2 + 1) = 2 + 1 from mv_w_id (by omega) (by omega)]
          rw [show (2 + 1 : Int) = 3 from by decide]
          refine mv_callP (st2 := [mv_I 3, mv_I 3]) rfl (Or.inl rfl) rfl rfl rfl (sp_len5) (by first | decide | omega) ?_
          refine mv_go' 1 (pc' := if 3 < 3 then 28 else 55) (ls' := [mv_R 28, mv_R 215, mv_I 3]) (st' := []) (M1 := M) rfl ?_
          refine mv_ff' (by first | decide | omega) ?_
          refine mv_go' 1 (pc' := 56) (ls' := [mv_R 28, mv_R 215, mv_I 3]) (st' := [mv_I 1]) (M1 := M) rfl ?_
          exact mv_Ru.val (mv_ret (fun n => rfl) rfl) (congrArg mv_I (by first | with_reducible rfl | exact absurd (show sp_wm 4 (M 29) q e from ⟨by show e = q + 3; omega, by assumption, by assumption, by assumption, trivial⟩) h))
        · refine mv_go' 1 (pc' := 48) (ls' := [mv_R 28, mv_R 215, mv_I 2]) (st' := [mv_I 0]) (M1 := M) rfl ?_
          exact mv_Ru.val (mv_ret (fun n => rfl) rfl) (congrArg mv_I (by first | with_reducible rfl | exact absurd (show sp_wm 4 (M 29) q e from ⟨by show e = q + 3; omega, by assumption, by assumption, by assumption, trivial⟩) h))
      · refine mv_go' 1 (pc' := 48) (ls' := [mv_R 28, mv_R 215, mv_I 1]) (st' := [mv_I 0]) (M1 := M) rfl ?_
        exact mv_Ru.val (mv_ret (fun n => rfl) rfl) (congrArg mv_I (by first | with_reducible rfl | exact absurd (show sp_wm 4 (M 29) q e from ⟨by show e = q + 3; omega, by assumption, by assumption, by assumption, trivial⟩) h))
    · refine mv_go' 1 (pc' := 48) (ls' := [mv_R 28, mv_R 215, mv_I 0]) (st' := [mv_I 0]) (M1 := M) rfl ?_
      exact mv_Ru.val (mv_ret (fun n => rfl) rfl) (congrArg mv_I (by first | with_reducible rfl | exact absurd (show sp_wm 4 (M 29) q e from ⟨by show e = q + 3; omega, by assumption, by assumption, by assumption, trivial⟩) h))
  · refine mv_go' 1 (pc' := 17) (ls' := [mv_R 28, mv_R 215, mv_U]) (st' := [mv_I 0]) (M1 := M) rfl ?_
    exact mv_Ru.val (mv_ret (fun n => rfl) rfl) (congrArg mv_I (by first | with_reducible rfl | exact absurd (show sp_wm 4 (M 29) q e from ⟨by show e = q + 3; omega, by assumption, by assumption, by assumption, trivial⟩) h))
theorem sp_iw6_t {M : mv_M} {q e : Nat} (he : e ≤ 160) (h4 : M 28 4 = (q : Int)) (h2 : M 28 2 = (e : Int)) (h : sp_wm 5 (M 29) q e) : mv_Ru 4 12 0 [mv_R 28, mv_R 216, mv_U] [] M (mv_I 1) (fun M1 => M1 = M) := by
  have h1 : e = q + 3 := h.1
  obtain ⟨_, k0, k1, k2, _⟩ := h
  refine mv_go' 1 (pc' := 1) (ls' := [mv_R 28, mv_R 216, mv_U]) (st' := [mv_R 216]) (M1 := M) rfl ?_
  refine mv_callP (st2 := [mv_I 3]) rfl (Or.inl rfl) rfl rfl rfl (sp_len6) (by first | decide | omega) ?_
  refine mv_go' 2 (pc' := 8) (ls' := [mv_R 28, mv_R 216, mv_U]) (st' := [mv_I (M 28 2), mv_I 3]) (M1 := M) rfl ?_
  rw [show M 28 2 = (e : Int) from by exact h2]
  refine mv_go' 2 (pc' := 12) (ls' := [mv_R 28, mv_R 216, mv_U]) (st' := [mv_I (M 28 4), mv_I (e : Int), mv_I 3]) (M1 := M) rfl ?_
  rw [show M 28 4 = (q : Int) from by exact h4]
  refine mv_go' 2 (pc' := if 3 = (mv_w ((e : Int) - (q : Int))) then 18 else 16) (ls' := [mv_R 28, mv_R 216, mv_U]) (st' := []) (M1 := M) rfl ?_
  rw [show mv_w ((e : Int) - (q : Int)) = (e : Int) - (q : Int) from mv_w_id (by omega) (by omega)]
  refine mv_tt' (by omega) ?_
  refine mv_go' 4 (pc' := 22) (ls' := [mv_R 28, mv_R 216, mv_I 0]) (st' := [mv_R 216, mv_I 0]) (M1 := M) rfl ?_
  refine mv_callP (st2 := [mv_I 3, mv_I 0]) rfl (Or.inl rfl) rfl rfl rfl (sp_len6) (by first | decide | omega) ?_
  refine mv_go' 1 (pc' := if 0 < 3 then 28 else 55) (ls' := [mv_R 28, mv_R 216, mv_I 0]) (st' := []) (M1 := M) rfl ?_
  refine mv_tt' (by first | decide | omega) ?_
  refine mv_go' 4 (pc' := 36) (ls' := [mv_R 28, mv_R 216, mv_I 0]) (st' := [mv_I (M 28 4), mv_R 29]) (M1 := M) rfl ?_
  rw [show M 28 4 = (q : Int) from by exact h4]
  refine mv_go' 2 (pc' := 38) (ls' := [mv_R 28, mv_R 216, mv_I 0]) (st' := [mv_I (mv_w ((q : Int) + 0)), mv_R 29]) (M1 := M) rfl ?_
  rw [show mv_w ((q : Int) + 0) = (q : Int) from by (rw [show mv_w ((q : Int) + 0) = (q : Int) + 0 from mv_w_id (by omega) (by omega)]) <;> omega]
  refine mv_go' 1 (pc' := if 0 ≤ (q : Int) ∧ (q : Int) < 160 then 39 else mv_bad) (ls' := [mv_R 28, mv_R 216, mv_I 0]) (st' := [mv_I (M 29 q)]) (M1 := M) rfl ?_
  refine mv_tt' (by omega) ?_
  rw [show M 29 q = 110 from by exact k0]
  refine mv_go' 2 (pc' := 41) (ls' := [mv_R 28, mv_R 216, mv_I 0]) (st' := [mv_I 0, mv_R 216, mv_I 110]) (M1 := M) rfl ?_
  refine mv_callP (st2 := [mv_I 110, mv_I 110]) rfl (Or.inl rfl) rfl rfl rfl (sp_cha6 (j := 0) (by omega)) (by first | decide | omega) ?_
  refine mv_go' 1 (pc' := if 110 = 110 then 49 else 47) (ls' := [mv_R 28, mv_R 216, mv_I 0]) (st' := []) (M1 := M) rfl ?_
  refine mv_tt' (by first | decide | omega) ?_
  refine mv_go' 4 (pc' := 22) (ls' := [mv_R 28, mv_R 216, mv_I (mv_w (0 + 1))]) (st' := [mv_R 216, mv_I (mv_w (0 + 1))]) (M1 := M) rfl ?_
  rw [show mv_w (0 + 1) = 0 + 1 from mv_w_id (by omega) (by omega)]
  rw [show (0 + 1 : Int) = 1 from by decide]
  refine mv_callP (st2 := [mv_I 3, mv_I 1]) rfl (Or.inl rfl) rfl rfl rfl (sp_len6) (by first | decide | omega) ?_
  refine mv_go' 1 (pc' := if 1 < 3 then 28 else 55) (ls' := [mv_R 28, mv_R 216, mv_I 1]) (st' := []) (M1 := M) rfl ?_
  refine mv_tt' (by first | decide | omega) ?_
  refine mv_go' 4 (pc' := 36) (ls' := [mv_R 28, mv_R 216, mv_I 1]) (st' := [mv_I (M 28 4), mv_R 29]) (M1 := M) rfl ?_
  rw [show M 28 4 = (q : Int) from by exact h4]
  refine mv_go' 2 (pc' := 38) (ls' := [mv_R 28, mv_R 216, mv_I 1]) (st' := [mv_I (mv_w ((q : Int) + 1)), mv_R 29]) (M1 := M) rfl ?_
  rw [show mv_w ((q : Int) + 1) = ((q + 1 : Nat) : Int) from by (rw [show mv_w ((q : Int) + 1) = (q : Int) + 1 from mv_w_id (by omega) (by omega)]) <;> omega]
  refine mv_go' 1 (pc' := if 0 ≤ ((q + 1 : Nat) : Int) ∧ ((q + 1 : Nat) : Int) < 160 then 39 else mv_bad) (ls' := [mv_R 28, mv_R 216, mv_I 1]) (st' := [mv_I (M 29 (q + 1))]) (M1 := M) rfl ?_
  refine mv_tt' (by omega) ?_
  rw [show M 29 (q + 1) = 111 from by exact k1]
  refine mv_go' 2 (pc' := 41) (ls' := [mv_R 28, mv_R 216, mv_I 1]) (st' := [mv_I 1, mv_R 216, mv_I 111]) (M1 := M) rfl ?_
  refine mv_callP (st2 := [mv_I 111, mv_I 111]) rfl (Or.inl rfl) rfl rfl rfl (sp_cha6 (j := 1) (by omega)) (by first | decide | omega) ?_
  refine mv_go' 1 (pc' := if 111 = 111 then 49 else 47) (ls' := [mv_R 28, mv_R 216, mv_I 1]) (st' := []) (M1 := M) rfl ?_
  refine mv_tt' (by first | decide | omega) ?_
  refine mv_go' 4 (pc' := 22) (ls' := [mv_R 28, mv_R 216, mv_I (mv_w (1 + 1))]) (st' := [mv_R 216, mv_I (mv_w (1 + 1))]) (M1 := M) rfl ?_
  rw [show mv_w (1 + 1) = 1 + 1 from mv_w_id (by omega) (by omega)]
  rw [show (1 + 1 : Int) = 2 from by decide]
  refine mv_callP (st2 := [mv_I 3, mv_I 2]) rfl (Or.inl rfl) rfl rfl rfl (sp_len6) (by first | decide | omega) ?_
  refine mv_go' 1 (pc' := if 2 < 3 then 28 else 55) (ls' := [mv_R 28, mv_R 216, mv_I 2]) (st' := []) (M1 := M) rfl ?_
  refine mv_tt' (by first | decide | omega) ?_
  refine mv_go' 4 (pc' := 36) (ls' := [mv_R 28, mv_R 216, mv_I 2]) (st' := [mv_I (M 28 4), mv_R 29]) (M1 := M) rfl ?_
  rw [show M 28 4 = (q : Int) from by exact h4]
  refine mv_go' 2 (pc' := 38) (ls' := [mv_R 28, mv_R 216, mv_I 2]) (st' := [mv_I (mv_w ((q : Int) + 2)), mv_R 29]) (M1 := M) rfl ?_
  rw [show mv_w ((q : Int) + 2) = ((q + 2 : Nat) : Int) from by (rw [show mv_w ((q : Int) + 2) = (q : Int) + 2 from mv_w_id (by omega) (by omega)]) <;> omega]
  refine mv_go' 1 (pc' := if 0 ≤ ((q + 2 : Nat) : Int) ∧ ((q + 2 : Nat) : Int) < 160 then 39 else mv_bad) (ls' := [mv_R 28, mv_R 216, mv_I 2]) (st' := [mv_I (M 29 (q + 2))]) (M1 := M) rfl ?_
  refine mv_tt' (by omega) ?_
  rw [show M 29 (q + 2) = 116 from by exact k2]
  refine mv_go' 2 (pc' := 41) (ls' := [mv_R 28, mv_R 216, mv_I 2]) (st' := [mv_I 2, mv_R 216, mv_I 116]) (M1 := M) rfl ?_
  refine mv_callP (st2 := [mv_I 116, mv_I 116]) rfl (Or.inl rfl) rfl rfl rfl (sp_cha6 (j := 2) (by omega)) (by first | decide | omega) ?_
  refine mv_go' 1 (pc' := if 116 = 116 then 49 else 47) (ls' := [mv_R 28, mv_R 216, mv_I 2]) (st' := []) (M1 := M) rfl ?_
  refine mv_tt' (by first | decide | omega) ?_
  refine mv_go' 4 (pc' := 22) (ls' := [mv_R 28, mv_R 216, mv_I (mv_w (2 + 1))]) (st' := [mv_R 216, mv_I (mv_w (2 + 1))]) (M1 := M) rfl ?_
  rw [show mv_w (2 + 1) = 2 + 1 from mv_w_id (by omega) (by omega)]
  rw [show (2 + 1 : Int) = 3 from by decide]
  refine mv_callP (st2 := [mv_I 3, mv_I 3]) rfl (Or.inl rfl) rfl rfl rfl (sp_len6) (by first | decide | omega) ?_
  refine mv_go' 1 (pc' := if 3 < 3 then 28 else 55) (ls' := [mv_R 28, mv_R 216, mv_I 3]) (st' := []) (M1 := M) rfl ?_
  refine mv_ff' (by first | decide | omega) ?_
  refine mv_go' 1 (pc' := 56) (ls' := [mv_R 28, mv_R 216, mv_I 3]) (st' := [mv_I 1]) (M1 := M) rfl ?_
  exact mv_ret (fun n => rfl) rfl
theorem sp_iw6_f {M : mv_M} {q e : Nat} (hq : q ≤ e) (he : e ≤ 160) (h4 : M 28 4 = (q : Int)) (h2 : M 28 2 = (e : Int)) (h : ¬ sp_wm 5 (M 29) q e) : mv_Ru 4 12 0 [mv_R 28, mv_R 216, mv_U] [] M (mv_I 0) (fun M1 => M1 = M) := by
  refine mv_go' 1 (pc' := 1) (ls' := [mv_R 28, mv_R 216, mv_U]) (st' := [mv_R 216]) (M1 := M) rfl ?_
  refine mv_callP (st2 := [mv_I 3]) rfl (Or.inl rfl) rfl rfl rfl (sp_len6) (by first | decide | omega) ?_
  refine mv_go' 2 (pc' := 8) (ls' := [mv_R 28, mv_R 216, mv_U]) (st' := [mv_I (M 28 2), mv_I 3]) (M1 := M) rfl ?_
  rw [show M 28 2 = (e : Int) from by exact h2]
  refine mv_go' 2 (pc' := 12) (ls' := [mv_R 28, mv_R 216, mv_U]) (st' := [mv_I (M 28 4), mv_I (e : Int), mv_I 3]) (M1 := M) rfl ?_
  rw [show M 28 4 = (q : Int) from by exact h4]
  refine mv_go' 2 (pc' := if 3 = (mv_w ((e : Int) - (q : Int))) then 18 else 16) (ls' := [mv_R 28, mv_R 216, mv_U]) (st' := []) (M1 := M) rfl ?_
  rw [show mv_w ((e : Int) - (q : Int)) = (e : Int) - (q : Int) from mv_w_id (by omega) (by omega)]
  refine mv_sp' (fun ha26 => ?_) (fun ha26 => ?_)
  · refine mv_go' 4 (pc' := 22) (ls' := [mv_R 28, mv_R 216, mv_I 0]) (st' := [mv_R 216, mv_I 0]) (M1 := M) rfl ?_
    refine mv_callP (st2 := [mv_I 3, mv_I 0]) rfl (Or.inl rfl) rfl rfl rfl (sp_len6) (by first | decide | omega) ?_
    refine mv_go' 1 (pc' := if 0 < 3 then 28 else 55) (ls' := [mv_R 28, mv_R 216, mv_I 0]) (st' := []) (M1 := M) rfl ?_
    refine mv_tt' (by first | decide | omega) ?_
    refine mv_go' 4 (pc' := 36) (ls' := [mv_R 28, mv_R 216, mv_I 0]) (st' := [mv_I (M 28 4), mv_R 29]) (M1 := M) rfl ?_
    rw [show M 28 4 = (q : Int) from by exact h4]
    refine mv_go' 2 (pc' := 38) (ls' := [mv_R 28, mv_R 216, mv_I 0]) (st' := [mv_I (mv_w ((q : Int) + 0)), mv_R 29]) (M1 := M) rfl ?_
    rw [show mv_w ((q : Int) + 0) = (q : Int) from by (rw [show mv_w ((q : Int) + 0) = (q : Int) + 0 from mv_w_id (by omega) (by omega)]) <;> omega]
    refine mv_go' 1 (pc' := if 0 ≤ (q : Int) ∧ (q : Int) < 160 then 39 else mv_bad) (ls' := [mv_R 28, mv_R 216, mv_I 0]) (st' := [mv_I (M 29 q)]) (M1 := M) rfl ?_
    refine mv_tt' (by omega) ?_
    refine mv_go' 2 (pc' := 41) (ls' := [mv_R 28, mv_R 216, mv_I 0]) (st' := [mv_I 0, mv_R 216, mv_I (M 29 q)]) (M1 := M) rfl ?_
    refine mv_callP (st2 := [mv_I 110, mv_I (M 29 q)]) rfl (Or.inl rfl) rfl rfl rfl (sp_cha6 (j := 0) (by omega)) (by first | decide | omega) ?_
    refine mv_go' 1 (pc' := if (M 29 q) = 110 then 49 else 47) (ls' := [mv_R 28, mv_R 216, mv_I 0]) (st' := []) (M1 := M) rfl ?_
    refine mv_sp' (fun ha27 => ?_) (fun ha27 => ?_)
    · refine mv_go' 4 (pc' := 22) (ls' := [mv_R 28, mv_R 216, mv_I (mv_w (0 + 1))]) (st' := [mv_R 216, mv_I (mv_w (0 + 1))]) (M1 := M) rfl ?_
      rw [show mv_w (0 + 1) = 0 + 1 from mv_w_id (by omega) (by omega)]
      rw [show (0 + 1 : Int) = 1 from by decide]
      refine mv_callP (st2 := [mv_I 3, mv_I 1]) rfl (Or.inl rfl) rfl rfl rfl (sp_len6) (by first | decide | omega) ?_
      refine mv_go' 1 (pc' := if 1 < 3 then 28 else 55) (ls' := [mv_R 28, mv_R 216, mv_I 1]) (st' := []) (M1 := M) rfl ?_
      refine mv_tt' (by first | decide | omega) ?_
      refine mv_go' 4 (pc' := 36) (ls' := [mv_R 28, mv_R 216, mv_I 1]) (st' := [mv_I (M 28 4), mv_R 29]) (M1 := M) rfl ?_
      rw [show M 28 4 = (q : Int) from by exact h4]
      refine mv_go' 2 (pc' := 38) (ls' := [mv_R 28, mv_R 216, mv_I 1]) (st' := [mv_I (mv_w ((q : Int) + 1)), mv_R 29]) (M1 := M) rfl ?_
      rw [show mv_w ((q : Int) + 1) = ((q + 1 : Nat) : Int) from by (rw [show mv_w ((q : Int) + 1) = (q : Int) + 1 from mv_w_id (by omega) (by omega)]) <;> omega]
      refine mv_go' 1 (pc' := if 0 ≤ ((q + 1 : Nat) : Int) ∧ ((q + 1 : Nat) : Int) < 160 then 39 else mv_bad) (ls' := [mv_R 28, mv_R 216, mv_I 1]) (st' := [mv_I (M 29 (q + 1))]) (M1 := M) rfl ?_
      refine mv_tt' (by omega) ?_
      refine mv_go' 2 (pc' := 41) (ls' := [mv_R 28, mv_R 216, mv_I 1]) (st' := [mv_I 1, mv_R 216, mv_I (M 29 (q + 1))]) (M1 := M) rfl ?_
      refine mv_callP (st2 := [mv_I 111, mv_I (M 29 (q + 1))]) rfl (Or.inl rfl) rfl rfl rfl (sp_cha6 (j := 1) (by omega)) (by first | decide | omega) ?_
      refine mv_go' 1 (pc' := if (M 29 (q + 1)) = 111 then 49 else 47) (ls' := [mv_R 28, mv_R 216, mv_I 1]) (st' := []) (M1 := M) rfl ?_
      refine mv_sp' (fun ha28 => ?_) (fun ha28 => ?_)
      · refine mv_go' 4 (pc' := 22) (ls' := [mv_R 28, mv_R 216, mv_I (mv_w (1 + 1))]) (st' := [mv_R 216, mv_I (mv_w (1 + 1))]) (M1 := M) rfl ?_
        rw [show mv_w (1 + 1) = 1 + 1 from mv_w_id (by omega) (by omega)]
        rw [show (1 + 1 : Int) = 2 from by decide]
        refine mv_callP (st2 := [mv_I 3, mv_I 2]) rfl (Or.inl rfl) rfl rfl rfl (sp_len6) (by first | decide | omega) ?_
        refine mv_go' 1 (pc' := if 2 < 3 then 28 else 55) (ls' := [mv_R 28, mv_R 216, mv_I 2]) (st' := []) (M1 := M) rfl ?_
        refine mv_tt' (by first | decide | omega) ?_
        refine mv_go' 4 (pc' := 36) (ls' := [mv_R 28, mv_R 216, mv_I 2]) (st' := [mv_I (M 28 4), mv_R 29]) (M1 := M) rfl ?_
        rw [show M 28 4 = (q : Int) from by exact h4]
        refine mv_go' 2 (pc' := 38) (ls' := [mv_R 28, mv_R 216, mv_I 2]) (st' := [mv_I (mv_w ((q : Int) + 2)), mv_R 29]) (M1 := M) rfl ?_
        rw [show mv_w ((q : Int) + 2) = ((q + 2 : Nat) : Int) from by (rw [show mv_w ((q : Int) + 2) = (q : Int) + 2 from mv_w_id (by omega) (by omega)]) <;> omega]
        refine mv_go' 1 (pc' := if 0 ≤ ((q + 2 : Nat) : Int) ∧ ((q + 2 : Nat) : Int) < 160 then 39 else mv_bad) (ls' := [mv_R 28, mv_R 216, mv_I 2]) (st' := [mv_I (M 29 (q + 2))]) (M1 := M) rfl ?_
        refine mv_tt' (by omega) ?_
        refine mv_go' 2 (pc' := 41) (ls' := [mv_R 28, mv_R 216, mv_I 2]) (st' := [mv_I 2, mv_R 216, mv_I (M 29 (q + 2))]) (M1 := M) rfl ?_
        refine mv_callP (st2 := [mv_I 116, mv_I (M 29 (q + 2))]) rfl (Or.inl rfl) rfl rfl rfl (sp_cha6 (j := 2) (by omega)) (by first | decide | omega) ?_
        refine mv_go' 1 (pc' := if (M 29 (q + 2)) = 116 then 49 else 47) (ls' := [mv_R 28, mv_R 216, mv_I 2]) (st' := []) (M1 := M) rfl ?_
        refine mv_sp' (fun ha29 => ?_) (fun ha29 => ?_)
        · refine mv_go' 4 (pc' := 22) (ls' := [mv_R 28, mv_R 216, mv_I (mv_w (2 + 1))]) (st' := [mv_R 216, mv_I (mv_w (2 + 1))]) (M1 := M) rfl ?_
          rw [show mv_w (2 + 1) = 2 + 1 from mv_w_id (by omega) (by omega)]
          rw [show (2 + 1 : Int) = 3 from by decide]
          refine mv_callP (st2 := [mv_I 3, mv_I 3]) rfl (Or.inl rfl) rfl rfl rfl (sp_len6) (by first | decide | omega) ?_
          refine mv_go' 1 (pc' := if 3 < 3 then 28 else 55) (ls' := [mv_R 28, mv_R 216, mv_I 3]) (st' := []) (M1 := M) rfl ?_
          refine mv_ff' (by first | decide | omega) ?_
          refine mv_go' 1 (pc' := 56) (ls' := [mv_R 28, mv_R 216, mv_I 3]) (st' := [mv_I 1]) (M1 := M) rfl ?_
          exact mv_Ru.val (mv_ret (fun n => rfl) rfl) (congrArg mv_I (by first | with_reducible rfl | exact absurd (show sp_wm 5 (M 29) q e from ⟨by show e = q + 3; omega, by assumption, by assumption, by assumption, trivial⟩) h))
        · refine mv_go' 1 (pc' := 48) (ls' := [mv_R 28, mv_R 216, mv_I 2]) (st' := [mv_I 0]) (M1 := M) rfl ?_
          exact mv_Ru.val (mv_ret (fun n => rfl) rfl) (congrArg mv_I (by first | with_reducible rfl | exact absurd (show sp_wm 5 (M 29) q e from ⟨by show e = q + 3; omega, by assumption, by assumption, by assumption, trivial⟩) h))
      · refine mv_go' 1 (pc' := 48) (ls' := [mv_R 28, mv_R 216, mv_I 1]) (st' := [mv_I 0]) (M1 := M) rfl ?_
        exact mv_Ru.val (mv_ret (fun n => rfl) rfl) (congrArg mv_I (by first | with_reducible rfl | exact absurd (show sp_wm 5 (M 29) q e from ⟨by show e = q + 3; omega, by assumption, by assumption, by assumption, trivial⟩) h))
    · refine mv_go' 1 (pc' := 48) (ls' := [mv_R 28, mv_R 216, mv_I 0]) (st' := [mv_I 0]) (M1 := M) rfl ?_
      exact mv_Ru.val (mv_ret (fun n => rfl) rfl) (congrArg mv_I (by first | with_reducible rfl | exact absurd (show sp_wm 5 (M 29) q e from ⟨by show e = q + 3; omega, by assumption, by assumption, by assumption, trivial⟩) h))
  · refine mv_go' 1 (pc' := 17) (ls' := [mv_R 28, mv_R 216, mv_U]) (st' := [mv_I 0]) (M1 := M) rfl ?_
    exact mv_Ru.val (mv_ret (fun n => rfl) rfl) (congrArg mv_I (by first | with_reducible rfl | exact absurd (show sp_wm 5 (M 29) q e from ⟨by show e = q + 3; omega, by assumption, by assumption, by assumption, trivial⟩) h))
theorem sp_iw7_t {M : mv_M} {q e : Nat} (he : e ≤ 160) (h4 : M 28 4 = (q : Int)) (h2 : M 28 2 = (e : Int)) (h : sp_wm 6 (M 29) q e) : mv_Ru 4 12 0 [mv_R 28, mv_R 217, mv_U] [] M (mv_I 1) (fun M1 => M1 = M) := by
  have h1 : e = q + 4 := h.1
  obtain ⟨_, k0, k1, k2, k3, _⟩ := h
  refine mv_go' 1 (pc' := 1) (ls' := [mv_R 28, mv_R 217, mv_U]) (st' := [mv_R 217]) (M1 := M) rfl ?_
  refine mv_callP (st2 := [mv_I 4]) rfl (Or.inl rfl) rfl rfl rfl (sp_len7) (by first | decide | omega) ?_
  refine mv_go' 2 (pc' := 8) (ls' := [mv_R 28, mv_R 217, mv_U]) (st' := [mv_I (M 28 2), mv_I 4]) (M1 := M) rfl ?_
  rw [show M 28 2 = (e : Int) from by exact h2]
  refine mv_go' 2 (pc' := 12) (ls' := [mv_R 28, mv_R 217, mv_U]) (st' := [mv_I (M 28 4), mv_I (e : Int), mv_I 4]) (M1 := M) rfl ?_
  rw [show M 28 4 = (q : Int) from by exact h4]
  refine mv_go' 2 (pc' := if 4 = (mv_w ((e : Int) - (q : Int))) then 18 else 16) (ls' := [mv_R 28, mv_R 217, mv_U]) (st' := []) (M1 := M) rfl ?_
  rw [show mv_w ((e : Int) - (q : Int)) = (e : Int) - (q : Int) from mv_w_id (by omega) (by omega)]
  refine mv_tt' (by omega) ?_
  refine mv_go' 4 (pc' := 22) (ls' := [mv_R 28, mv_R 217, mv_I 0]) (st' := [mv_R 217, mv_I 0]) (M1 := M) rfl ?_
  refine mv_callP (st2 := [mv_I 4, mv_I 0]) rfl (Or.inl rfl) rfl rfl rfl (sp_len7) (by first | decide | omega) ?_
  refine mv_go' 1 (pc' := if 0 < 4 then 28 else 55) (ls' := [mv_R 28, mv_R 217, mv_I 0]) (st' := []) (M1 := M) rfl ?_
  refine mv_tt' (by first | decide | omega) ?_
  refine mv_go' 4 (pc' := 36) (ls' := [mv_R 28, mv_R 217, mv_I 0]) (st' := [mv_I (M 28 4), mv_R 29]) (M1 := M) rfl ?_
  rw [show M 28 4 = (q : Int) from by exact h4]
  refine mv_go' 2 (pc' := 38) (ls' := [mv_R 28, mv_R 217, mv_I 0]) (st' := [mv_I (mv_w ((q : Int) + 0)), mv_R 29]) (M1 := M) rfl ?_
  rw [show mv_w ((q : Int) + 0) = (q : Int) from by (rw [show mv_w ((q : Int) + 0) = (q : Int) + 0 from mv_w_id (by omega) (by omega)]) <;> omega]
  refine mv_go' 1 (pc' := if 0 ≤ (q : Int) ∧ (q : Int) < 160 then 39 else mv_bad) (ls' := [mv_R 28, mv_R 217, mv_I 0]) (st' := [mv_I (M 29 q)]) (M1 := M) rfl ?_
  refine mv_tt' (by omega) ?_
  rw [show M 29 q = 109 from by exact k0]
  refine mv_go' 2 (pc' := 41) (ls' := [mv_R 28, mv_R 217, mv_I 0]) (st' := [mv_I 0, mv_R 217, mv_I 109]) (M1 := M) rfl ?_
  refine mv_callP (st2 := [mv_I 109, mv_I 109]) rfl (Or.inl rfl) rfl rfl rfl (sp_cha7 (j := 0) (by omega)) (by first | decide | omega) ?_
  refine mv_go' 1 (pc' := if 109 = 109 then 49 else 47) (ls' := [mv_R 28, mv_R 217, mv_I 0]) (st' := []) (M1 := M) rfl ?_
  refine mv_tt' (by first | decide | omega) ?_
  refine mv_go' 4 (pc' := 22) (ls' := [mv_R 28, mv_R 217, mv_I (mv_w (0 + 1))]) (st' := [mv_R 217, mv_I (mv_w (0 + 1))]) (M1 := M) rfl ?_
  rw [show mv_w (0 + 1) = 0 + 1 from mv_w_id (by omega) (by omega)]
  rw [show (0 + 1 : Int) = 1 from by decide]
  refine mv_callP (st2 := [mv_I 4, mv_I 1]) rfl (Or.inl rfl) rfl rfl rfl (sp_len7) (by first | decide | omega) ?_
  refine mv_go' 1 (pc' := if 1 < 4 then 28 else 55) (ls' := [mv_R 28, mv_R 217, mv_I 1]) (st' := []) (M1 := M) rfl ?_
  refine mv_tt' (by first | decide | omega) ?_
  refine mv_go' 4 (pc' := 36) (ls' := [mv_R 28, mv_R 217, mv_I 1]) (st' := [mv_I (M 28 4), mv_R 29]) (M1 := M) rfl ?_
  rw [show M 28 4 = (q : Int) from by exact h4]
  refine mv_go' 2 (pc' := 38) (ls' := [mv_R 28, mv_R 217, mv_I 1]) (st' := [mv_I (mv_w ((q : Int) + 1)), mv_R 29]) (M1 := M) rfl ?_
  rw [show mv_w ((q : Int) + 1) = ((q + 1 : Nat) : Int) from by (rw [show mv_w ((q : Int) + 1) = (q : Int) + 1 from mv_w_id (by omega) (by omega)]) <;> omega]
  refine mv_go' 1 (pc' := if 0 ≤ ((q + 1 : Nat) : Int) ∧ ((q + 1 : Nat) : Int) < 160 then 39 else mv_bad) (ls' := [mv_R 28, mv_R 217, mv_I 1]) (st' := [mv_I (M 29 (q + 1))]) (M1 := M) rfl ?_
  refine mv_tt' (by omega) ?_
  rw [show M 29 (q + 1) = 97 from by exact k1]
  refine mv_go' 2 (pc' := 41) (ls' := [mv_R 28, mv_R 217, mv_I 1]) (st' := [mv_I 1, mv_R 217, mv_I 97]) (M1 := M) rfl ?_
  refine mv_callP (st2 := [mv_I 97, mv_I 97]) rfl (Or.inl rfl) rfl rfl rfl (sp_cha7 (j := 1) (by omega)) (by first | decide | omega) ?_
  refine mv_go' 1 (pc' := if 97 = 97 then 49 else 47) (ls' := [mv_R 28, mv_R 217, mv_I 1]) (st' := []) (M1 := M) rfl ?_
  refine mv_tt' (by first | decide | omega) ?_
  refine mv_go' 4 (pc' := 22) (ls' := [mv_R 28, mv_R 217, mv_I (mv_w (1 + 1))]) (st' := [mv_R 217, mv_I (mv_w (1 + 1))]) (M1 := M) rfl ?_
  rw [show mv_w (1 + 1) = 1 + 1 from mv_w_id (by omega) (by omega)]
  rw [show (1 + 1 : Int) = 2 from by decide]
  refine mv_callP (st2 := [mv_I 4, mv_I 2]) rfl (Or.inl rfl) rfl rfl rfl (sp_len7) (by first | decide | omega) ?_
  refine mv_go' 1 (pc' := if 2 < 4 then 28 else 55) (ls' := [mv_R 28, mv_R 217, mv_I 2]) (st' := []) (M1 := M) rfl ?_
  refine mv_tt' (by first | decide | omega) ?_
  refine mv_go' 4 (pc' := 36) (ls' := [mv_R 28, mv_R 217, mv_I 2]) (st' := [mv_I (M 28 4), mv_R 29]) (M1 := M) rfl ?_
  rw [show M 28 4 = (q : Int) from by exact h4]
  refine mv_go' 2 (pc' := 38) (ls' := [mv_R 28, mv_R 217, mv_I 2]) (st' := [mv_I (mv_w ((q : Int) + 2)), mv_R 29]) (M1 := M) rfl ?_
  rw [show mv_w ((q : Int) + 2) = ((q + 2 : Nat) : Int) from by (rw [show mv_w ((q : Int) + 2) = (q : Int) + 2 from mv_w_id (by omega) (by omega)]) <;> omega]
  refine mv_go' 1 (pc' := if 0 ≤ ((q + 2 : Nat) : Int) ∧ ((q + 2 : Nat) : Int) < 160 then 39 else mv_bad) (ls' := [mv_R 28, mv_R 217, mv_I 2]) (st' := [mv_I (M 29 (q + 2))]) (M1 := M) rfl ?_
  refine mv_tt' (by omega) ?_
  rw [show M 29 (q + 2) = 114 from by exact k2]
  refine mv_go' 2 (pc' := 41) (ls' := [mv_R 28, mv_R 217, mv_I 2]) (st' := [mv_I 2, mv_R 217, mv_I 114]) (M1 := M) rfl ?_
  refine mv_callP (st2 := [mv_I 114, mv_I 114]) rfl (Or.inl rfl) rfl rfl rfl (sp_cha7 (j := 2) (by omega)) (by first | decide | omega) ?_
  refine mv_go' 1 (pc' := if 114 = 114 then 49 else 47) (ls' := [mv_R 28, mv_R 217, mv_I 2]) (st' := []) (M1 := M) rfl ?_
  refine mv_tt' (by first | decide | omega) ?_
  refine mv_go' 4 (pc' := 22) (ls' := [mv_R 28, mv_R 217, mv_I (mv_w (2 + 1))]) (st' := [mv_R 217, mv_I (mv_w (2 + 1))]) (M1 := M) rfl ?_
  rw [show mv_w (2 + 1) = 2 + 1 from mv_w_id (by omega) (by omega)]
  rw [show (2 + 1 : Int) = 3 from by decide]
  refine mv_callP (st2 := [mv_I 4, mv_I 3]) rfl (Or.inl rfl) rfl rfl rfl (sp_len7) (by first | decide | omega) ?_
  refine mv_go' 1 (pc' := if 3 < 4 then 28 else 55) (ls' := [mv_R 28, mv_R 217, mv_I 3]) (st' := []) (M1 := M) rfl ?_
  refine mv_tt' (by first | decide | omega) ?_
  refine mv_go' 4 (pc' := 36) (ls' := [mv_R 28, mv_R 217, mv_I 3]) (st' := [mv_I (M 28 4), mv_R 29]) (M1 := M) rfl ?_
  rw [show M 28 4 = (q : Int) from by exact h4]
  refine mv_go' 2 (pc' := 38) (ls' := [mv_R 28, mv_R 217, mv_I 3]) (st' := [mv_I (mv_w ((q : Int) + 3)), mv_R 29]) (M1 := M) rfl ?_
  rw [show mv_w ((q : Int) + 3) = ((q + 3 : Nat) : Int) from by (rw [show mv_w ((q : Int) + 3) = (q : Int) + 3 from mv_w_id (by omega) (by omega)]) <;> omega]
  refine mv_go' 1 (pc' := if 0 ≤ ((q + 3 : Nat) : Int) ∧ ((q + 3 : Nat) : Int) < 160 then 39 else mv_bad) (ls' := [mv_R 28, mv_R 217, mv_I 3]) (st' := [mv_I (M 29 (q + 3))]) (M1 := M) rfl ?_
  refine mv_tt' (by omega) ?_
  rw [show M 29 (q + 3) = 107 from by exact k3]
  refine mv_go' 2 (pc' := 41) (ls' := [mv_R 28, mv_R 217, mv_I 3]) (st' := [mv_I 3, mv_R 217, mv_I 107]) (M1 := M) rfl ?_
  refine mv_callP (st2 := [mv_I 107, mv_I 107]) rfl (Or.inl rfl) rfl rfl rfl (sp_cha7 (j := 3) (by omega)) (by first | decide | omega) ?_
  refine mv_go' 1 (pc' := if 107 = 107 then 49 else 47) (ls' := [mv_R 28, mv_R 217, mv_I 3]) (st' := []) (M1 := M) rfl ?_
  refine mv_tt' (by first | decide | omega) ?_
  refine mv_go' 4 (pc' := 22) (ls' := [mv_R 28, mv_R 217, mv_I (mv_w (3 + 1))]) (st' := [mv_R 217, mv_I (mv_w (3 + 1))]) (M1 := M) rfl ?_
  rw [show mv_w (3 + 1) = 3 + 1 from mv_w_id (by omega) (by omega)]
  rw [show (3 + 1 : Int) = 4 from by decide]
  refine mv_callP (st2 := [mv_I 4, mv_I 4]) rfl (Or.inl rfl) rfl rfl rfl (sp_len7) (by first | decide | omega) ?_
  refine mv_go' 1 (pc' := if 4 < 4 then 28 else 55) (ls' := [mv_R 28, mv_R 217, mv_I 4]) (st' := []) (M1 := M) rfl ?_
  refine mv_ff' (by first | decide | omega) ?_
  refine mv_go' 1 (pc' := 56) (ls' := [mv_R 28, mv_R 217, mv_I 4]) (st' := [mv_I 1]) (M1 := M) rfl ?_
  exact mv_ret (fun n => rfl) rfl
theorem sp_iw7_f {M : mv_M} {q e : Nat} (hq : q ≤ e) (he : e ≤ 160) (h4 : M 28 4 = (q : Int)) (h2 : M 28 2 = (e : Int)) (h : ¬ sp_wm 6 (M 29) q e) : mv_Ru 4 12 0 [mv_R 28, mv_R 217, mv_U] [] M (mv_I 0) (fun M1 => M1 = M) := by
  refine mv_go' 1 (pc' := 1) (ls' := [mv_R 28, mv_R 217, mv_U]) (st' := [mv_R 217]) (M1 := M) rfl ?_
  refine mv_callP (st2 := [mv_I 4]) rfl (Or.inl rfl) rfl rfl rfl (sp_len7) (by first | decide | omega) ?_
  refine mv_go' 2 (pc' := 8) (ls' := [mv_R 28, mv_R 217, mv_U]) (st' := [mv_I (M 28 2), mv_I 4]) (M1 := M) rfl ?_
  rw [show M 28 2 = (e : Int) from by exact h2]
  refine mv_go' 2 (pc' := 12) (ls' := [mv_R 28, mv_R 217, mv_U]) (st' := [mv_I (M 28 4), mv_I (e : Int), mv_I 4]) (M1 := M) rfl ?_
  rw [show M 28 4 = (q : Int) from by exact h4]
  refine mv_go' 2 (pc' := if 4 = (mv_w ((e : Int) - (q : Int))) then 18 else 16) (ls' := [mv_R 28, mv_R 217, mv_U]) (st' := []) (M1 := M) rfl ?_
  rw [show mv_w ((e : Int) - (q : Int)) = (e : Int) - (q : Int) from mv_w_id (by omega) (by omega)]
  refine mv_sp' (fun ha30 => ?_) (fun ha30 => ?_)
  · refine mv_go' 4 (pc' := 22) (ls' := [mv_R 28, mv_R 217, mv_I 0]) (st' := [mv_R 217, mv_I 0]) (M1 := M) rfl ?_
    refine mv_callP (st2 := [mv_I 4, mv_I 0]) rfl (Or.inl rfl) rfl rfl rfl (sp_len7) (by first | decide | omega) ?_
    refine mv_go' 1 (pc' := if 0 < 4 then 28 else 55) (ls' := [mv_R 28, mv_R 217, mv_I 0]) (st' := []) (M1 := M) rfl ?_
    refine mv_tt' (by first | decide | omega) ?_
    refine mv_go' 4 (pc' := 36) (ls' := [mv_R 28, mv_R 217, mv_I 0]) (st' := [mv_I (M 28 4), mv_R 29]) (M1 := M) rfl ?_
    rw [show M 28 4 = (q : Int) from by exact h4]
    refine mv_go' 2 (pc' := 38) (ls' := [mv_R 28, mv_R 217, mv_I 0]) (st' := [mv_I (mv_w ((q : Int) + 0)), mv_R 29]) (M1 := M) rfl ?_
    rw [show mv_w ((q : Int) + 0) = (q : Int) from by (rw [show mv_w ((q : Int) + 0) = (q : Int) + 0 from mv_w_id (by omega) (by omega)]) <;> omega]
    refine mv_go' 1 (pc' := if 0 ≤ (q : Int) ∧ (q : Int) < 160 then 39 else mv_bad) (ls' := [mv_R 28, mv_R 217, mv_I 0]) (st' := [mv_I (M 29 q)]) (M1 := M) rfl ?_
    refine mv_tt' (by omega) ?_
    refine mv_go' 2 (pc' := 41) (ls' := [mv_R 28, mv_R 217, mv_I 0]) (st' := [mv_I 0, mv_R 217, mv_I (M 29 q)]) (M1 := M) rfl ?_
    refine mv_callP (st2 := [mv_I 109, mv_I (M 29 q)]) rfl (Or.inl rfl) rfl rfl rfl (sp_cha7 (j := 0) (by omega)) (by first | decide | omega) ?_
    refine mv_go' 1 (pc' := if (M 29 q) = 109 then 49 else 47) (ls' := [mv_R 28, mv_R 217, mv_I 0]) (st' := []) (M1 := M) rfl ?_
    refine mv_sp' (fun ha31 => ?_) (fun ha31 => ?_)
    · refine mv_go' 4 (pc' := 22) (ls' := [mv_R 28, mv_R 217, mv_I (mv_w (0 + 1))]) (st' := [mv_R 217, mv_I (mv_w (0 + 1))]) (M1 := M) rfl ?_
      rw [show mv_w (0 + 1) = 0 + 1 from mv_w_id (by omega) (by omega)]
      rw [show (0 + 1 : Int) = 1 from by decide]
      refine mv_callP (st2 := [mv_I 4, mv_I 1]) rfl (Or.inl rfl) rfl rfl rfl (sp_len7) (by first | decide | omega) ?_
      refine mv_go' 1 (pc' := if 1 < 4 then 28 else 55) (ls' := [mv_R 28, mv_R 217, mv_I 1]) (st' := []) (M1 := M) rfl ?_
      refine mv_tt' (by first | decide | omega) ?_
      refine mv_go' 4 (pc' := 36) (ls' := [mv_R 28, mv_R 217, mv_I 1]) (st' := [mv_I (M 28 4), mv_R 29]) (M1 := M) rfl ?_
      rw [show M 28 4 = (q : Int) from by exact h4]
      refine mv_go' 2 (pc' := 38) (ls' := [mv_R 28, mv_R 217, mv_I 1]) (st' := [mv_I (mv_w ((q : Int) + 1)), mv_R 29]) (M1 := M) rfl ?_
      rw [show mv_w ((q : Int) + 1) = ((q + 1 : Nat) : Int) from by (rw [show mv_w ((q : Int) + 1) = (q : Int) + 1 from mv_w_id (by omega) (by omega)]) <;> omega]
      refine mv_go' 1 (pc' := if 0 ≤ ((q + 1 : Nat) : Int) ∧ ((q + 1 : Nat) : Int) < 160 then 39 else mv_bad) (ls' := [mv_R 28, mv_R 217, mv_I 1]) (st' := [mv_I (M 29 (q + 1))]) (M1 := M) rfl ?_
      refine mv_tt' (by omega) ?_
      refine mv_go' 2 (pc' := 41) (ls' := [mv_R 28, mv_R 217, mv_I 1]) (st' := [mv_I 1, mv_R 217, mv_I (M 29 (q + 1))]) (M1 := M) rfl ?_
      refine mv_callP (st2 := [mv_I 97, mv_I (M 29 (q + 1))]) rfl (Or.inl rfl) rfl rfl rfl (sp_cha7 (j := 1) (by omega)) (by first | decide | omega) ?_
      refine mv_go' 1 (pc' := if (M 29 (q + 1)) = 97 then 49 else 47) (ls' := [mv_R 28, mv_R 217, mv_I 1]) (st' := []) (M1 := M) rfl ?_
      refine mv_sp' (fun ha32 => ?_) (fun ha32 => ?_)
      · refine mv_go' 4 (pc' := 22) (ls' := [mv_R 28, mv_R 217, mv_I (mv_w (1 + 1))]) (st' := [mv_R 217, mv_I (mv_w (1 + 1))]) (M1 := M) rfl ?_
        rw [show mv_w (1 + 1) = 1 + 1 from mv_w_id (by omega) (by omega)]
        rw [show (1 + 1 : Int) = 2 from by decide]
        refine mv_callP (st2 := [mv_I 4, mv_I 2]) rfl (Or.inl rfl) rfl rfl rfl (sp_len7) (by first | decide | omega) ?_
        refine mv_go' 1 (pc' := if 2 < 4 then 28 else 55) (ls' := [mv_R 28, mv_R 217, mv_I 2]) (st' := []) (M1 := M) rfl ?_
        refine mv_tt' (by first | decide | omega) ?_
        refine mv_go' 4 (pc' := 36) (ls' := [mv_R 28, mv_R 217, mv_I 2]) (st' := [mv_I (M 28 4), mv_R 29]) (M1 := M) rfl ?_
        rw [show M 28 4 = (q : Int) from by exact h4]
        refine mv_go' 2 (pc' := 38) (ls' := [mv_R 28, mv_R 217, mv_I 2]) (st' := [mv_I (mv_w ((q : Int) + 2)), mv_R 29]) (M1 := M) rfl ?_
        rw [show mv_w ((q : Int) + 2) = ((q + 2 : Nat) : Int) from by (rw [show mv_w ((q : Int) + 2) = (q : Int) + 2 from mv_w_id (by omega) (by omega)]) <;> omega]
        refine mv_go' 1 (pc' := if 0 ≤ ((q + 2 : Nat) : Int) ∧ ((q + 2 : Nat) : Int) < 160 then 39 else mv_bad) (ls' := [mv_R 28, mv_R 217, mv_I 2]) (st' := [mv_I (M 29 (q + 2))]) (M1 := M) rfl ?_
        refine mv_tt' (by omega) ?_
        refine mv_go' 2 (pc' := 41) (ls' := [mv_R 28, mv_R 217, mv_I 2]) (st' := [mv_I 2, mv_R 217, mv_I (M 29 (q + 2))]) (M1 := M) rfl ?_
        refine mv_callP (st2 := [mv_I 114, mv_I (M 29 (q + 2))]) rfl (Or.inl rfl) rfl rfl rfl (sp_cha7 (j := 2) (by omega)) (by first | decide | omega) ?_
        refine mv_go' 1 (pc' := if (M 29 (q + 2)) = 114 then 49 else 47) (ls' := [mv_R 28, mv_R 217, mv_I 2]) (st' := []) (M1 := M) rfl ?_
        refine mv_sp' (fun ha33 => ?_) (fun ha33 => ?_)
        · refine mv_go' 4 (pc' := 22) (ls' := [mv_R 28, mv_R 217, mv_I (mv_w (2 + 1))]) (st' := [mv_R 217, mv_I (mv_w (2 + 1))]) (M1 := M) rfl ?_
          rw [show mv_w (2 + 1) = 2 + 1 from mv_w_id (by omega) (by omega)]
          rw [show (2 + 1 : Int) = 3 from by decide]
          refine mv_callP (st2 := [mv_I 4, mv_I 3]) rfl (Or.inl rfl) rfl rfl rfl (sp_len7) (by first | decide | omega) ?_
          refine mv_go' 1 (pc' := if 3 < 4 then 28 else 55) (ls' := [mv_R 28, mv_R 217, mv_I 3]) (st' := []) (M1 := M) rfl ?_
          refine mv_tt' (by first | decide | omega) ?_
          refine mv_go' 4 (pc' := 36) (ls' := [mv_R 28, mv_R 217, mv_I 3]) (st' := [mv_I (M 28 4), mv_R 29]) (M1 := M) rfl ?_
          rw [show M 28 4 = (q : Int) from by exact h4]
          refine mv_go' 2 (pc' := 38) (ls' := [mv_R 28, mv_R 217, mv_I 3]) (st' := [mv_I (mv_w ((q : Int) + 3)), mv_R 29]) (M1 := M) rfl ?_
          rw [show mv_w ((q : Int) + 3) = ((q + 3 : Nat) : Int) from by (rw [show mv_w ((q : Int) + 3) = (q : Int) + 3 from mv_w_id (by omega) (by omega)]) <;> omega]
          refine mv_go' 1 (pc' := if 0 ≤ ((q + 3 : Nat) : Int) ∧ ((q + 3 : Nat) : Int) < 160 then 39 else mv_bad) (ls' := [mv_R 28, mv_R 217, mv_I 3]) (st' := [mv_I (M 29 (q + 3))]) (M1 := M) rfl ?_
          refine mv_tt' (by omega) ?_
          refine mv_go' 2 (pc' := 41) (ls' := [mv_R 28, mv_R 217, mv_I 3]) (st' := [mv_I 3, mv_R 217, mv_I (M 29 (q + 3))]) (M1 := M) rfl ?_
          refine mv_callP (st2 := [mv_I 107, mv_I (M 29 (q + 3))]) rfl (Or.inl rfl) rfl rfl rfl (sp_cha7 (j := 3) (by omega)) (by first | decide | omega) ?_
          refine mv_go' 1 (pc' := if (M 29 (q + 3)) = 107 then 49 else 47) (ls' := [mv_R 28, mv_R 217, mv_I 3]) (st' := []) (M1 := M) rfl ?_
          refine mv_sp' (fun ha34 => ?_) (fun ha34 => ?_)
          · refine mv_go' 4 (pc' := 22) (ls' := [mv_R 28, mv_R 217, mv_I (mv_w (3 + 1))]) (st' := [mv_R 217, mv_I (mv_w (3 + 1))]) (M1 := M) rfl ?_
            rw [show mv_w (3 + 1) = 3 + 1 from mv_w_id (by omega) (by omega)]
            rw [show (3 + 1 : Int) = 4 from by decide]
            refine mv_callP (st2 := [mv_I 4, mv_I 4]) rfl (Or.inl rfl) rfl rfl rfl (sp_len7) (by first | decide | omega) ?_
            refine mv_go' 1 (pc' := if 4 < 4 then 28 else 55) (ls' := [mv_R 28, mv_R 217, mv_I 4]) (st' := []) (M1 := M) rfl ?_
            refine mv_ff' (by first | decide | omega) ?_
            refine mv_go' 1 (pc' := 56) (ls' := [mv_R 28, mv_R 217, mv_I 4]) (st' := [mv_I 1]) (M1 := M) rfl ?_
            exact mv_Ru.val (mv_ret (fun n => rfl) rfl) (congrArg mv_I (by first | with_reducible rfl | exact absurd (show sp_wm 6 (M 29) q e from ⟨by show e = q + 4; omega, by assumption, by assumption, by assumption, by assumption, trivial⟩) h))
          · refine mv_go' 1 (pc' := 48) (ls' := [mv_R 28, mv_R 217, mv_I 3]) (st' := [mv_I 0]) (M1 := M) rfl ?_
            exact mv_Ru.val (mv_ret (fun n => rfl) rfl) (congrArg mv_I (by first | with_reducible rfl | exact absurd (show sp_wm 6 (M 29) q e from ⟨by show e = q + 4; omega, by assumption, by assumption, by assumption, by assumption, trivial⟩) h))
        · refine mv_go' 1 (pc' := 48) (ls' := [mv_R 28, mv_R 217, mv_I 2]) (st' := [mv_I 0]) (M1 := M) rfl ?_
          exact mv_Ru.val (mv_ret (fun n => rfl) rfl) (congrArg mv_I (by first | with_reducible rfl | exact absurd (show sp_wm 6 (M 29) q e from ⟨by show e = q + 4; omega, by assumption, by assumption, by assumption, by assumption, trivial⟩) h))
      · refine mv_go' 1 (pc' := 48) (ls' := [mv_R 28, mv_R 217, mv_I 1]) (st' := [mv_I 0]) (M1 := M) rfl ?_
        exact mv_Ru.val (mv_ret (fun n => rfl) rfl) (congrArg mv_I (by first | with_reducible rfl | exact absurd (show sp_wm 6 (M 29) q e from ⟨by show e = q + 4; omega, by assumption, by assumption, by assumption, by assumption, trivial⟩) h))
    · refine mv_go' 1 (pc' := 48) (ls' := [mv_R 28, mv_R 217, mv_I 0]) (st' := [mv_I 0]) (M1 := M) rfl ?_
      exact mv_Ru.val (mv_ret (fun n => rfl) rfl) (congrArg mv_I (by first | with_reducible rfl | exact absurd (show sp_wm 6 (M 29) q e from ⟨by show e = q + 4; omega, by assumption, by assumption, by assumption, by assumption, trivial⟩) h))
  · refine mv_go' 1 (pc' := 17) (ls' := [mv_R 28, mv_R 217, mv_U]) (st' := [mv_I 0]) (M1 := M) rfl ?_
    exact mv_Ru.val (mv_ret (fun n => rfl) rfl) (congrArg mv_I (by first | with_reducible rfl | exact absurd (show sp_wm 6 (M 29) q e from ⟨by show e = q + 4; omega, by assumption, by assumption, by assumption, by assumption, trivial⟩) h))
theorem sp_iw8_t {M : mv_M} {q e : Nat} (he : e ≤ 160) (h4 : M 28 4 = (q : Int)) (h2 : M 28 2 = (e : Int)) (h : sp_wm 7 (M 29) q e) : mv_Ru 4 12 0 [mv_R 28, mv_R 218, mv_U] [] M (mv_I 1) (fun M1 => M1 = M) := by
  have h1 : e = q + 4 := h.1
  obtain ⟨_, k0, k1, k2, k3, _⟩ := h
  refine mv_go' 1 (pc' := 1) (ls' := [mv_R 28, mv_R 218, mv_U]) (st' := [mv_R 218]) (M1 := M) rfl ?_
  refine mv_callP (st2 := [mv_I 4]) rfl (Or.inl rfl) rfl rfl rfl (sp_len8) (by first | decide | omega) ?_
  refine mv_go' 2 (pc' := 8) (ls' := [mv_R 28, mv_R 218, mv_U]) (st' := [mv_I (M 28 2), mv_I 4]) (M1 := M) rfl ?_
  rw [show M 28 2 = (e : Int) from by exact h2]
  refine mv_go' 2 (pc' := 12) (ls' := [mv_R 28, mv_R 218, mv_U]) (st' := [mv_I (M 28 4), mv_I (e : Int), mv_I 4]) (M1 := M) rfl ?_
  rw [show M 28 4 = (q : Int) from by exact h4]
  refine mv_go' 2 (pc' := if 4 = (mv_w ((e : Int) - (q : Int))) then 18 else 16) (ls' := [mv_R 28, mv_R 218, mv_U]) (st' := []) (M1 := M) rfl ?_
  rw [show mv_w ((e : Int) - (q : Int)) = (e : Int) - (q : Int) from mv_w_id (by omega) (by omega)]
  refine mv_tt' (by omega) ?_
  refine mv_go' 4 (pc' := 22) (ls' := [mv_R 28, mv_R 218, mv_I 0]) (st' := [mv_R 218, mv_I 0]) (M1 := M) rfl ?_
  refine mv_callP (st2 := [mv_I 4, mv_I 0]) rfl (Or.inl rfl) rfl rfl rfl (sp_len8) (by first | decide | omega) ?_
  refine mv_go' 1 (pc' := if 0 < 4 then 28 else 55) (ls' := [mv_R 28, mv_R 218, mv_I 0]) (st' := []) (M1 := M) rfl ?_
  refine mv_tt' (by first | decide | omega) ?_
  refine mv_go' 4 (pc' := 36) (ls' := [mv_R 28, mv_R 218, mv_I 0]) (st' := [mv_I (M 28 4), mv_R 29]) (M1 := M) rfl ?_
  rw [show M 28 4 = (q : Int) from by exact h4]
  refine mv_go' 2 (pc' := 38) (ls' := [mv_R 28, mv_R 218, mv_I 0]) (st' := [mv_I (mv_w ((q : Int) + 0)), mv_R 29]) (M1 := M) rfl ?_
  rw [show mv_w ((q : Int) + 0) = (q : Int) from by (rw [show mv_w ((q : Int) + 0) = (q : Int) + 0 from mv_w_id (by omega) (by omega)]) <;> omega]
  refine mv_go' 1 (pc' := if 0 ≤ (q : Int) ∧ (q : Int) < 160 then 39 else mv_bad) (ls' := [mv_R 28, mv_R 218, mv_I 0]) (st' := [mv_I (M 29 q)]) (M1 := M) rfl ?_
  refine mv_tt' (by omega) ?_
  rw [show M 29 q = 110 from by exact k0]
  refine mv_go' 2 (pc' := 41) (ls' := [mv_R 28, mv_R 218, mv_I 0]) (st' := [mv_I 0, mv_R 218, mv_I 110]) (M1 := M) rfl ?_
  refine mv_callP (st2 := [mv_I 110, mv_I 110]) rfl (Or.inl rfl) rfl rfl rfl (sp_cha8 (j := 0) (by omega)) (by first | decide | omega) ?_
  refine mv_go' 1 (pc' := if 110 = 110 then 49 else 47) (ls' := [mv_R 28, mv_R 218, mv_I 0]) (st' := []) (M1 := M) rfl ?_
  refine mv_tt' (by first | decide | omega) ?_
  refine mv_go' 4 (pc' := 22) (ls' := [mv_R 28, mv_R 218, mv_I (mv_w (0 + 1))]) (st' := [mv_R 218, mv_I (mv_w (0 + 1))]) (M1 := M) rfl ?_
  rw [show mv_w (0 + 1) = 0 + 1 from mv_w_id (by omega) (by omega)]
  rw [show (0 + 1 : Int) = 1 from by decide]
  refine mv_callP (st2 := [mv_I 4, mv_I 1]) rfl (Or.inl rfl) rfl rfl rfl (sp_len8) (by first | decide | omega) ?_
  refine mv_go' 1 (pc' := if 1 < 4 then 28 else 55) (ls' := [mv_R 28, mv_R 218, mv_I 1]) (st' := []) (M1 := M) rfl ?_
  refine mv_tt' (by first | decide | omega) ?_
  refine mv_go' 4 (pc' := 36) (ls' := [mv_R 28, mv_R 218, mv_I 1]) (st' := [mv_I (M 28 4), mv_R 29]) (M1 := M) rfl ?_
  rw [show M 28 4 = (q : Int) from by exact h4]
  refine mv_go' 2 (pc' := 38) (ls' := [mv_R 28, mv_R 218, mv_I 1]) (st' := [mv_I (mv_w ((q : Int) + 1)), mv_R 29]) (M1 := M) rfl ?_
  rw [show mv_w ((q : Int) + 1) = ((q + 1 : Nat) : Int) from by (rw [show mv_w ((q : Int) + 1) = (q : Int) + 1 from mv_w_id (by omega) (by omega)]) <;> omega]
  refine mv_go' 1 (pc' := if 0 ≤ ((q + 1 : Nat) : Int) ∧ ((q + 1 : Nat) : Int) < 160 then 39 else mv_bad) (ls' := [mv_R 28, mv_R 218, mv_I 1]) (st' := [mv_I (M 29 (q + 1))]) (M1 := M) rfl ?_
  refine mv_tt' (by omega) ?_
  rw [show M 29 (q + 1) = 101 from by exact k1]
  refine mv_go' 2 (pc' := 41) (ls' := [mv_R 28, mv_R 218, mv_I 1]) (st' := [mv_I 1, mv_R 218, mv_I 101]) (M1 := M) rfl ?_
  refine mv_callP (st2 := [mv_I 101, mv_I 101]) rfl (Or.inl rfl) rfl rfl rfl (sp_cha8 (j := 1) (by omega)) (by first | decide | omega) ?_
  refine mv_go' 1 (pc' := if 101 = 101 then 49 else 47) (ls' := [mv_R 28, mv_R 218, mv_I 1]) (st' := []) (M1 := M) rfl ?_
  refine mv_tt' (by first | decide | omega) ?_
  refine mv_go' 4 (pc' := 22) (ls' := [mv_R 28, mv_R 218, mv_I (mv_w (1 + 1))]) (st' := [mv_R 218, mv_I (mv_w (1 + 1))]) (M1 := M) rfl ?_
  rw [show mv_w (1 + 1) = 1 + 1 from mv_w_id (by omega) (by omega)]
  rw [show (1 + 1 : Int) = 2 from by decide]
  refine mv_callP (st2 := [mv_I 4, mv_I 2]) rfl (Or.inl rfl) rfl rfl rfl (sp_len8) (by first | decide | omega) ?_
  refine mv_go' 1 (pc' := if 2 < 4 then 28 else 55) (ls' := [mv_R 28, mv_R 218, mv_I 2]) (st' := []) (M1 := M) rfl ?_
  refine mv_tt' (by first | decide | omega) ?_
  refine mv_go' 4 (pc' := 36) (ls' := [mv_R 28, mv_R 218, mv_I 2]) (st' := [mv_I (M 28 4), mv_R 29]) (M1 := M) rfl ?_
  rw [show M 28 4 = (q : Int) from by exact h4]
  refine mv_go' 2 (pc' := 38) (ls' := [mv_R 28, mv_R 218, mv_I 2]) (st' := [mv_I (mv_w ((q : Int) + 2)), mv_R 29]) (M1 := M) rfl ?_
  rw [show mv_w ((q : Int) + 2) = ((q + 2 : Nat) : Int) from by (rw [show mv_w ((q : Int) + 2) = (q : Int) + 2 from mv_w_id (by omega) (by omega)]) <;> omega]
  refine mv_go' 1 (pc' := if 0 ≤ ((q + 2 : Nat) : Int) ∧ ((q + 2 : Nat) : Int) < 160 then 39 else mv_bad) (ls' := [mv_R 28, mv_R 218, mv_I 2]) (st' := [mv_I (M 29 (q + 2))]) (M1 := M) rfl ?_
  refine mv_tt' (by omega) ?_
  rw [show M 29 (q + 2) = 101 from by exact k2]
  refine mv_go' 2 (pc' := 41) (ls' := [mv_R 28, mv_R 218, mv_I 2]) (st' := [mv_I 2, mv_R 218, mv_I 101]) (M1 := M) rfl ?_
  refine mv_callP (st2 := [mv_I 101, mv_I 101]) rfl (Or.inl rfl) rfl rfl rfl (sp_cha8 (j := 2) (by omega)) (by first | decide | omega) ?_
  refine mv_go' 1 (pc' := if 101 = 101 then 49 else 47) (ls' := [mv_R 28, mv_R 218, mv_I 2]) (st' := []) (M1 := M) rfl ?_
  refine mv_tt' (by first | decide | omega) ?_
  refine mv_go' 4 (pc' := 22) (ls' := [mv_R 28, mv_R 218, mv_I (mv_w (2 + 1))]) (st' := [mv_R 218, mv_I (mv_w (2 + 1))]) (M1 := M) rfl ?_
  rw [show mv_w (2 + 1) = 2 + 1 from mv_w_id (by omega) (by omega)]
  rw [show (2 + 1 : Int) = 3 from by decide]
  refine mv_callP (st2 := [mv_I 4, mv_I 3]) rfl (Or.inl rfl) rfl rfl rfl (sp_len8) (by first | decide | omega) ?_
  refine mv_go' 1 (pc' := if 3 < 4 then 28 else 55) (ls' := [mv_R 28, mv_R 218, mv_I 3]) (st' := []) (M1 := M) rfl ?_
  refine mv_tt' (by first | decide | omega) ?_
  refine mv_go' 4 (pc' := 36) (ls' := [mv_R 28, mv_R 218, mv_I 3]) (st' := [mv_I (M 28 4), mv_R 29]) (M1 := M) rfl ?_
  rw [show M 28 4 = (q : Int) from by exact h4]
  refine mv_go' 2 (pc' := 38) (ls' := [mv_R 28, mv_R 218, mv_I 3]) (st' := [mv_I (mv_w ((q : Int) + 3)), mv_R 29]) (M1 := M) rfl ?_
  rw [show mv_w ((q : Int) + 3) = ((q + 3 : Nat) : Int) from by (rw [show mv_w ((q : Int) + 3) = (q : Int) + 3 from mv_w_id (by omega) (by omega)]) <;> omega]
  refine mv_go' 1 (pc' := if 0 ≤ ((q + 3 : Nat) : Int) ∧ ((q + 3 : Nat) : Int) < 160 then 39 else mv_bad) (ls' := [mv_R 28, mv_R 218, mv_I 3]) (st' := [mv_I (M 29 (q + 3))]) (M1 := M) rfl ?_
  refine mv_tt' (by omega) ?_
  rw [show M 29 (q + 3) = 100 from by exact k3]
  refine mv_go' 2 (pc' := 41) (ls' := [mv_R 28, mv_R 218, mv_I 3]) (st' := [mv_I 3, mv_R 218, mv_I 100]) (M1 := M) rfl ?_
  refine mv_callP (st2 := [mv_I 100, mv_I 100]) rfl (Or.inl rfl) rfl rfl rfl (sp_cha8 (j := 3) (by omega)) (by first | decide | omega) ?_
  refine mv_go' 1 (pc' := if 100 = 100 then 49 else 47) (ls' := [mv_R 28, mv_R 218, mv_I 3]) (st' := []) (M1 := M) rfl ?_
  refine mv_tt' (by first | decide | omega) ?_
  refine mv_go' 4 (pc' := 22) (ls' := [mv_R 28, mv_R 218, mv_I (mv_w (3 + 1))]) (st' := [mv_R 218, mv_I (mv_w (3 + 1))]) (M1 := M) rfl ?_
  rw [show mv_w (3 + 1) = 3 + 1 from mv_w_id (by omega) (by omega)]
  rw [show (3 + 1 : Int) = 4 from by decide]
  refine mv_callP (st2 := [mv_I 4, mv_I 4]) rfl (Or.inl rfl) rfl rfl rfl (sp_len8) (by first | decide | omega) ?_
  refine mv_go' 1 (pc' := if 4 < 4 then 28 else 55) (ls' := [mv_R 28, mv_R 218, mv_I 4]) (st' := []) (M1 := M) rfl ?_
  refine mv_ff' (by first | decide | omega) ?_
  refine mv_go' 1 (pc' := 56) (ls' := [mv_R 28, mv_R 218, mv_I 4]) (st' := [mv_I 1]) (M1 := M) rfl ?_
  exact mv_ret (fun n => rfl) rfl
theorem sp_iw8_f {M : mv_M} {q e : Nat} (hq : q ≤ e) (he : e ≤ 160) (h4 : M 28 4 = (q : Int)) (h2 : M 28 2 = (e : Int)) (h : ¬ sp_wm 7 (M 29) q e) : mv_Ru 4 12 0 [mv_R 28, mv_R 218, mv_U] [] M (mv_I 0) (fun M1 => M1 = M) := by
  refine mv_go' 1 (pc' := 1) (ls' := [mv_R 28, mv_R 218, mv_U]) (st' := [mv_R 218]) (M1 := M) rfl ?_
  refine mv_callP (st2 := [mv_I 4]) rfl (Or.inl rfl) rfl rfl rfl (sp_len8) (by first | decide | omega) ?_
  refine mv_go' 2 (pc' := 8) (ls' := [mv_R 28, mv_R 218, mv_U]) (st' := [mv_I (M 28 2), mv_I 4]) (M1 := M) rfl ?_
  rw [show M 28 2 = (e : Int) from by exact h2]
  refine mv_go' 2 (pc' := 12) (ls' := [mv_R 28, mv_R 218, mv_U]) (st' := [mv_I (M 28 4), mv_I (e : Int), mv_I 4]) (M1 := M) rfl ?_
  rw [show M 28 4 = (q : Int) from by exact h4]
  refine mv_go' 2 (pc' := if 4 = (mv_w ((e : Int) - (q : Int))) then 18 else 16) (ls' := [mv_R 28, mv_R 218, mv_U]) (st' := []) (M1 := M) rfl ?_
  rw [show mv_w ((e : Int) - (q : Int)) = (e : Int) - (q : Int) from mv_w_id (by omega) (by omega)]
  refine mv_sp' (fun ha35 => ?_) (fun ha35 => ?_)
  · refine mv_go' 4 (pc' := 22) (ls' := [mv_R 28, mv_R 218, mv_I 0]) (st' := [mv_R 218, mv_I 0]) (M1 := M) rfl ?_
    refine mv_callP (st2 := [mv_I 4, mv_I 0]) rfl (Or.inl rfl) rfl rfl rfl (sp_len8) (by first | decide | omega) ?_
    refine mv_go' 1 (pc' := if 0 < 4 then 28 else 55) (ls' := [mv_R 28, mv_R 218, mv_I 0]) (st' := []) (M1 := M) rfl ?_
    refine mv_tt' (by first | decide | omega) ?_
    refine mv_go' 4 (pc' := 36) (ls' := [mv_R 28, mv_R 218, mv_I 0]) (st' := [mv_I (M 28 4), mv_R 29]) (M1 := M) rfl ?_
    rw [show M 28 4 = (q : Int) from by exact h4]
    refine mv_go' 2 (pc' := 38) (ls' := [mv_R 28, mv_R 218, mv_I 0]) (st' := [mv_I (mv_w ((q : Int) + 0)), mv_R 29]) (M1 := M) rfl ?_
    rw [show mv_w ((q : Int) + 0) = (q : Int) from by (rw [show mv_w ((q : Int) + 0) = (q : Int) + 0 from mv_w_id (by omega) (by omega)]) <;> omega]
    refine mv_go' 1 (pc' := if 0 ≤ (q : Int) ∧ (q : Int) < 160 then 39 else mv_bad) (ls' := [mv_R 28, mv_R 218, mv_I 0]) (st' := [mv_I (M 29 q)]) (M1 := M) rfl ?_
    refine mv_tt' (by omega) ?_
    refine mv_go' 2 (pc' := 41) (ls' := [mv_R 28, mv_R 218, mv_I 0]) (st' := [mv_I 0, mv_R 218, mv_I (M 29 q)]) (M1 := M) rfl ?_
    refine mv_callP (st2 := [mv_I 110, mv_I (M 29 q)]) rfl (Or.inl rfl) rfl rfl rfl (sp_cha8 (j := 0) (by omega)) (by first | decide | omega) ?_
    refine mv_go' 1 (pc' := if (M 29 q) = 110 then 49 else 47) (ls' := [mv_R 28, mv_R 218, mv_I 0]) (st' := []) (M1 := M) rfl ?_
    refine mv_sp' (fun ha36 => ?_) (fun ha36 => ?_)
    · refine mv_go' 4 (pc' := 22) (ls' := [mv_R 28, mv_R 218, mv_I (mv_w (0 + 1))]) (st' := [mv_R 218, mv_I (mv_w (0 + 1))]) (M1 := M) rfl ?_
      rw [show mv_w (0 + 1) = 0 + 1 from mv_w_id (by omega) (by omega)]
      rw [show (0 + 1 : Int) = 1 from by decide]
      refine mv_callP (st2 := [mv_I 4, mv_I 1]) rfl (Or.inl rfl) rfl rfl rfl (sp_len8) (by first | decide | omega) ?_
      refine mv_go' 1 (pc' := if 1 < 4 then 28 else 55) (ls' := [mv_R 28, mv_R 218, mv_I 1]) (st' := []) (M1 := M) rfl ?_
      refine mv_tt' (by first | decide | omega) ?_
      refine mv_go' 4 (pc' := 36) (ls' := [mv_R 28, mv_R 218, mv_I 1]) (st' := [mv_I (M 28 4), mv_R 29]) (M1 := M) rfl ?_
      rw [show M 28 4 = (q : Int) from by exact h4]
      refine mv_go' 2 (pc' := 38) (ls' := [mv_R 28, mv_R 218, mv_I 1]) (st' := [mv_I (mv_w ((q : Int) + 1)), mv_R 29]) (M1 := M) rfl ?_
      rw [show mv_w ((q : Int) + 1) = ((q + 1 : Nat) : Int) from by (rw [show mv_w ((q : Int) + 1) = (q : Int) + 1 from mv_w_id (by omega) (by omega)]) <;> omega]
      refine mv_go' 1 (pc' := if 0 ≤ ((q + 1 : Nat) : Int) ∧ ((q + 1 : Nat) : Int) < 160 then 39 else mv_bad) (ls' := [mv_R 28, mv_R 218, mv_I 1]) (st' := [mv_I (M 29 (q + 1))]) (M1 := M) rfl ?_
      refine mv_tt' (by omega) ?_
      refine mv_go' 2 (pc' := 41) (ls' := [mv_R 28, mv_R 218, mv_I 1]) (st' := [mv_I 1, mv_R 218, mv_I (M 29 (q + 1))]) (M1 := M) rfl ?_
      refine mv_callP (st2 := [mv_I 101, mv_I (M 29 (q + 1))]) rfl (Or.inl rfl) rfl rfl rfl (sp_cha8 (j := 1) (by omega)) (by first | decide | omega) ?_
      refine mv_go' 1 (pc' := if (M 29 (q + 1)) = 101 then 49 else 47) (ls' := [mv_R 28, mv_R 218, mv_I 1]) (st' := []) (M1 := M) rfl ?_
      refine mv_sp' (fun ha37 => ?_) (fun ha37 => ?_)
      · refine mv_go' 4 (pc' := 22) (ls' := [mv_R 28, mv_R 218, mv_I (mv_w (1 + 1))]) (st' := [mv_R 218, mv_I (mv_w (1 + 1))]) (M1 := M) rfl ?_
        rw [show mv_w (1 + 1) = 1 + 1 from mv_w_id (by omega) (by omega)]
        rw [show (1 + 1 : Int) = 2 from by decide]
        refine mv_callP (st2 := [mv_I 4, mv_I 2]) rfl (Or.inl rfl) rfl rfl rfl (sp_len8) (by first | decide | omega) ?_
        refine mv_go' 1 (pc' := if 2 < 4 then 28 else 55) (ls' := [mv_R 28, mv_R 218, mv_I 2]) (st' := []) (M1 := M) rfl ?_
        refine mv_tt' (by first | decide | omega) ?_
        refine mv_go' 4 (pc' := 36) (ls' := [mv_R 28, mv_R 218, mv_I 2]) (st' := [mv_I (M 28 4), mv_R 29]) (M1 := M) rfl ?_
        rw [show M 28 4 = (q : Int) from by exact h4]
        refine mv_go' 2 (pc' := 38) (ls' := [mv_R 28, mv_R 218, mv_I 2]) (st' := [mv_I (mv_w ((q : Int) + 2)), mv_R 29]) (M1 := M) rfl ?_
        rw [show mv_w ((q : Int) + 2) = ((q + 2 : Nat) : Int) from by (rw [show mv_w ((q : Int) + 2) = (q : Int) + 2 from mv_w_id (by omega) (by omega)]) <;> omega]
        refine mv_go' 1 (pc' := if 0 ≤ ((q + 2 : Nat) : Int) ∧ ((q + 2 : Nat) : Int) < 160 then 39 else mv_bad) (ls' := [mv_R 28, mv_R 218, mv_I 2]) (st' := [mv_I (M 29 (q + 2))]) (M1 := M) rfl ?_
        refine mv_tt' (by omega) ?_
        refine mv_go' 2 (pc' := 41) (ls' := [mv_R 28, mv_R 218, mv_I 2]) (st' := [mv_I 2, mv_R 218, mv_I (M 29 (q + 2))]) (M1 := M) rfl ?_
        refine mv_callP (st2 := [mv_I 101, mv_I (M 29 (q + 2))]) rfl (Or.inl rfl) rfl rfl rfl (sp_cha8 (j := 2) (by omega)) (by first | decide | omega) ?_
        refine mv_go' 1 (pc' := if (M 29 (q + 2)) = 101 then 49 else 47) (ls' := [mv_R 28, mv_R 218, mv_I 2]) (st' := []) (M1 := M) rfl ?_
        refine mv_sp' (fun ha38 => ?_) (fun ha38 => ?_)
        · refine mv_go' 4 (pc' := 22) (ls' := [mv_R 28, mv_R 218, mv_I (mv_w (2 + 1))]) (st' := [mv_R 218, mv_I (mv_w (2 + 1))]) (M1 := M) rfl ?_
          rw [show mv_w (2 + 1) = 2 + 1 from mv_w_id (by omega) (by omega)]
          rw [show (2 + 1 : Int) = 3 from by decide]
          refine mv_callP (st2 := [mv_I 4, mv_I 3]) rfl (Or.inl rfl) rfl rfl rfl (sp_len8) (by first | decide | omega) ?_
          refine mv_go' 1 (pc' := if 3 < 4 then 28 else 55) (ls' := [mv_R 28, mv_R 218, mv_I 3]) (st' := []) (M1 := M) rfl ?_
          refine mv_tt' (by first | decide | omega) ?_
          refine mv_go' 4 (pc' := 36) (ls' := [mv_R 28, mv_R 218, mv_I 3]) (st' := [mv_I (M 28 4), mv_R 29]) (M1 := M) rfl ?_
          rw [show M 28 4 = (q : Int) from by exact h4]
          refine mv_go' 2 (pc' := 38) (ls' := [mv_R 28, mv_R 218, mv_I 3]) (st' := [mv_I (mv_w ((q : Int) + 3)), mv_R 29]) (M1 := M) rfl ?_
          rw [show mv_w ((q : Int) + 3) = ((q + 3 : Nat) : Int) from by (rw [show mv_w ((q : Int) + 3) = (q : Int) + 3 from mv_w_id (by omega) (by omega)]) <;> omega]
          refine mv_go' 1 (pc' := if 0 ≤ ((q + 3 : Nat) : Int) ∧ ((q + 3 : Nat) : Int) < 160 then 39 else mv_bad) (ls' := [mv_R 28, mv_R 218, mv_I 3]) (st' := [mv_I (M 29 (q + 3))]) (M1 := M) rfl ?_
          refine mv_tt' (by omega) ?_
          refine mv_go' 2 (pc' := 41) (ls' := [mv_R 28, mv_R 218, mv_I 3]) (st' := [mv_I 3, mv_R 218, mv_I (M 29 (q + 3))]) (M1 := M) rfl ?_
          refine mv_callP (st2 := [mv_I 100, mv_I (M 29 (q + 3))]) rfl (Or.inl rfl) rfl rfl rfl (sp_cha8 (j := 3) (by omega)) (by first | decide | omega) ?_
          refine mv_go' 1 (pc' := if (M 29 (q + 3)) = 100 then 49 else 47) (ls' := [mv_R 28, mv_R 218, mv_I 3]) (st' := []) (M1 := M) rfl ?_
          refine mv_sp' (fun ha39 => ?_) (fun ha39 => ?_)
          · refine mv_go' 4 (pc' := 22) (ls' := [mv_R 28, mv_R 218, mv_I (mv_w (3 + 1))]) (st' := [mv_R 218, mv_I (mv_w (3 + 1))]) (M1 := M) rfl ?_
            rw [show mv_w (3 + 1) = 3 + 1 from mv_w_id (by omega) (by omega)]
            rw [show (3 + 1 : Int) = 4 from by decide]
            refine mv_callP (st2 := [mv_I 4, mv_I 4]) rfl (Or.inl rfl) rfl rfl rfl (sp_len8) (by first | decide | omega) ?_
            refine mv_go' 1 (pc' := if 4 < 4 then 28 else 55) (ls' := [mv_R 28, mv_R 218, mv_I 4]) (st' := []) (M1 := M) rfl ?_
            refine mv_ff' (by first | decide | omega) ?_
            refine mv_go' 1 (pc' := 56) (ls' := [mv_R 28, mv_R 218, mv_I 4]) (st' := [mv_I 1]) (M1 := M) rfl ?_
            exact mv_Ru.val (mv_ret (fun n => rfl) rfl) (congrArg mv_I (by first | with_reducible rfl | exact absurd (show sp_wm 7 (M 29) q e from ⟨by show e = q + 4; omega, by assumption, by assumption, by assumption, by assumption, trivial⟩) h))
          · refine mv_go' 1 (pc' := 48) (ls' := [mv_R 28, mv_R 218, mv_I 3]) (st' := [mv_I 0]) (M1 := M) rfl ?_
            exact mv_Ru.val (mv_ret (fun n => rfl) rfl) (congrArg mv_I (by first | with_reducible rfl | exact absurd (show sp_wm 7 (M 29) q e from ⟨by show e = q + 4; omega, by assumption, by assumption, by assumption, by assumption, trivial⟩) h))
        · refine mv_go' 1 (pc' := 48) (ls' := [mv_R 28, mv_R 218, mv_I 2]) (st' := [mv_I 0]) (M1 := M) rfl ?_
          exact mv_Ru.val (mv_ret (fun n => rfl) rfl) (congrArg mv_I (by first | with_reducible rfl | exact absurd (show sp_wm 7 (M 29) q e from ⟨by show e = q + 4; omega, by assumption, by assumption, by assumption, by assumption, trivial⟩) h))
      · refine mv_go' 1 (pc' := 48) (ls' := [mv_R 28, mv_R 218, mv_I 1]) (st' := [mv_I 0]) (M1 := M) rfl ?_
        exact mv_Ru.val (mv_ret (fun n => rfl) rfl) (congrArg mv_I (by first | with_reducible rfl | exact absurd (show sp_wm 7 (M 29) q e from ⟨by show e = q + 4; omega, by assumption, by assumption, by assumption, by assumption, trivial⟩) h))
    · refine mv_go' 1 (pc' := 48) (ls' := [mv_R 28, mv_R 218, mv_I 0]) (st' := [mv_I 0]) (M1 := M) rfl ?_
      exact mv_Ru.val (mv_ret (fun n => rfl) rfl) (congrArg mv_I (by first | with_reducible rfl | exact absurd (show sp_wm 7 (M 29) q e from ⟨by show e = q + 4; omega, by assumption, by assumption, by assumption, by assumption, trivial⟩) h))
  · refine mv_go' 1 (pc' := 17) (ls' := [mv_R 28, mv_R 218, mv_U]) (st' := [mv_I 0]) (M1 := M) rfl ?_
    exact mv_Ru.val (mv_ret (fun n => rfl) rfl) (congrArg mv_I (by first | with_reducible rfl | exact absurd (show sp_wm 7 (M 29) q e from ⟨by show e = q + 4; omega, by assumption, by assumption, by assumption, by assumption, trivial⟩) h))
theorem sp_iw9_t {M : mv_M} {q e : Nat} (he : e ≤ 160) (h4 : M 28 4 = (q : Int)) (h2 : M 28 2 = (e : Int)) (h : sp_wm 8 (M 29) q e) : mv_Ru 4 12 0 [mv_R 28, mv_R 219, mv_U] [] M (mv_I 1) (fun M1 => M1 = M) := by
  have h1 : e = q + 5 := h.1
  obtain ⟨_, k0, k1, k2, k3, k4, _⟩ := h
  refine mv_go' 1 (pc' := 1) (ls' := [mv_R 28, mv_R 219, mv_U]) (st' := [mv_R 219]) (M1 := M) rfl ?_
  refine mv_callP (st2 := [mv_I 5]) rfl (Or.inl rfl) rfl rfl rfl (sp_len9) (by first | decide | omega) ?_
  refine mv_go' 2 (pc' := 8) (ls' := [mv_R 28, mv_R 219, mv_U]) (st' := [mv_I (M 28 2), mv_I 5]) (M1 := M) rfl ?_
  rw [show M 28 2 = (e : Int) from by exact h2]
  refine mv_go' 2 (pc' := 12) (ls' := [mv_R 28, mv_R 219, mv_U]) (st' := [mv_I (M 28 4), mv_I (e : Int), mv_I 5]) (M1 := M) rfl ?_
  rw [show M 28 4 = (q : Int) from by exact h4]
  refine mv_go' 2 (pc' := if 5 = (mv_w ((e : Int) - (q : Int))) then 18 else 16) (ls' := [mv_R 28, mv_R 219, mv_U]) (st' := []) (M1 := M) rfl ?_
  rw [show mv_w ((e : Int) - (q : Int)) = (e : Int) - (q : Int) from mv_w_id (by omega) (by omega)]
  refine mv_tt' (by omega) ?_
  refine mv_go' 4 (pc' := 22) (ls' := [mv_R 28, mv_R 219, mv_I 0]) (st' := [mv_R 219, mv_I 0]) (M1 := M) rfl ?_
  refine mv_callP (st2 := [mv_I 5, mv_I 0]) rfl (Or.inl rfl) rfl rfl rfl (sp_len9) (by first | decide | omega) ?_
  refine mv_go' 1 (pc' := if 0 < 5 then 28 else 55) (ls' := [mv_R 28, mv_R 219, mv_I 0]) (st' := []) (M1 := M) rfl ?_
  refine mv_tt' (by first | decide | omega) ?_
  refine mv_go' 4 (pc' := 36) (ls' := [mv_R 28, mv_R 219, mv_I 0]) (st' := [mv_I (M 28 4), mv_R 29]) (M1 := M) rfl ?_
  rw [show M 28 4 = (q : Int) from by exact h4]
  refine mv_go' 2 (pc' := 38) (ls' := [mv_R 28, mv_R 219, mv_I 0]) (st' := [mv_I (mv_w ((q : Int) + 0)), mv_R 29]) (M1 := M) rfl ?_
  rw [show mv_w ((q : Int) + 0) = (q : Int) from by (rw [show mv_w ((q : Int) + 0) = (q : Int) + 0 from mv_w_id (by omega) (by omega)]) <;> omega]
  refine mv_go' 1 (pc' := if 0 ≤ (q : Int) ∧ (q : Int) < 160 then 39 else mv_bad) (ls' := [mv_R 28, mv_R 219, mv_I 0]) (st' := [mv_I (M 29 q)]) (M1 := M) rfl ?_
  refine mv_tt' (by omega) ?_
  rw [show M 29 q = 119 from by exact k0]
  refine mv_go' 2 (pc' := 41) (ls' := [mv_R 28, mv_R 219, mv_I 0]) (st' := [mv_I 0, mv_R 219, mv_I 119]) (M1 := M) rfl ?_
  refine mv_callP (st2 := [mv_I 119, mv_I 119]) rfl (Or.inl rfl) rfl rfl rfl (sp_cha9 (j := 0) (by omega)) (by first | decide | omega) ?_
  refine mv_go' 1 (pc' := if 119 = 119 then 49 else 47) (ls' := [mv_R 28, mv_R 219, mv_I 0]) (st' := []) (M1 := M) rfl ?_
  refine mv_tt' (by first | decide | omega) ?_
  refine mv_go' 4 (pc' := 22) (ls' := [mv_R 28, mv_R 219, mv_I (mv_w (0 + 1))]) (st' := [mv_R 219, mv_I (mv_w (0 + 1))]) (M1 := M) rfl ?_
  rw [show mv_w (0 + 1) = 0 + 1 from mv_w_id (by omega) (by omega)]
  rw [show (0 + 1 : Int) = 1 from by decide]
  refine mv_callP (st2 := [mv_I 5, mv_I 1]) rfl (Or.inl rfl) rfl rfl rfl (sp_len9) (by first | decide | omega) ?_
  refine mv_go' 1 (pc' := if 1 < 5 then 28 else 55) (ls' := [mv_R 28, mv_R 219, mv_I 1]) (st' := []) (M1 := M) rfl ?_
  refine mv_tt' (by first | decide | omega) ?_
  refine mv_go' 4 (pc' := 36) (ls' := [mv_R 28, mv_R 219, mv_I 1]) (st' := [mv_I (M 28 4), mv_R 29]) (M1 := M) rfl ?_
  rw [show M 28 4 = (q : Int) from by exact h4]
  refine mv_go' 2 (pc' := 38) (ls' := [mv_R 28, mv_R 219, mv_I 1]) (st' := [mv_I (mv_w ((q : Int) + 1)), mv_R 29]) (M1 := M) rfl ?_
  rw [show mv_w ((q : Int) + 1) = ((q + 1 : Nat) : Int) from by (rw [show mv_w ((q : Int) + 1) = (q : Int) + 1 from mv_w_id (by omega) (by omega)]) <;> omega]
  refine mv_go' 1 (pc' := if 0 ≤ ((q + 1 : Nat) : Int) ∧ ((q + 1 : Nat) : Int) < 160 then 39 else mv_bad) (ls' := [mv_R 28, mv_R 219, mv_I 1]) (st' := [mv_I (M 29 (q + 1))]) (M1 := M) rfl ?_
  refine mv_tt' (by omega) ?_
  rw [show M 29 (q + 1) = 104 from by exact k1]
  refine mv_go' 2 (pc' := 41) (ls' := [mv_R 28, mv_R 219, mv_I 1]) (st' := [mv_I 1, mv_R 219, mv_I 104]) (M1 := M) rfl ?_
  refine mv_callP (st2 := [mv_I 104, mv_I 104]) rfl (Or.inl rfl) rfl rfl rfl (sp_cha9 (j := 1) (by omega)) (by first | decide | omega) ?_
  refine mv_go' 1 (pc' := if 104 = 104 then 49 else 47) (ls' := [mv_R 28, mv_R 219, mv_I 1]) (st' := []) (M1 := M) rfl ?_
  refine mv_tt' (by first | decide | omega) ?_
  refine mv_go' 4 (pc' := 22) (ls' := [mv_R 28, mv_R 219, mv_I (mv_w (1 + 1))]) (st' := [mv_R 219, mv_I (mv_w (1 + 1))]) (M1 := M) rfl ?_
  rw [show mv_w (1 + 1) = 1 + 1 from mv_w_id (by omega) (by omega)]
  rw [show (1 + 1 : Int) = 2 from by decide]
  refine mv_callP (st2 := [mv_I 5, mv_I 2]) rfl (Or.inl rfl) rfl rfl rfl (sp_len9) (by first | decide | omega) ?_
  refine mv_go' 1 (pc' := if 2 < 5 then 28 else 55) (ls' := [mv_R 28, mv_R 219, mv_I 2]) (st' := []) (M1 := M) rfl ?_
  refine mv_tt' (by first | decide | omega) ?_
  refine mv_go' 4 (pc' := 36) (ls' := [mv_R 28, mv_R 219, mv_I 2]) (st' := [mv_I (M 28 4), mv_R 29]) (M1 := M) rfl ?_
  rw [show M 28 4 = (q : Int) from by exact h4]
  refine mv_go' 2 (pc' := 38) (ls' := [mv_R 28, mv_R 219, mv_I 2]) (st' := [mv_I (mv_w ((q : Int) + 2)), mv_R 29]) (M1 := M) rfl ?_
  rw [show mv_w ((q : Int) + 2) = ((q + 2 : Nat) : Int) from by (rw [show mv_w ((q : Int) + 2) = (q : Int) + 2 from mv_w_id (by omega) (by omega)]) <;> omega]
  refine mv_go' 1 (pc' := if 0 ≤ ((q + 2 : Nat) : Int) ∧ ((q + 2 : Nat) : Int) < 160 then 39 else mv_bad) (ls' := [mv_R 28, mv_R 219, mv_I 2]) (st' := [mv_I (M 29 (q + 2))]) (M1 := M) rfl ?_
  refine mv_tt' (by omega) ?_
  rw [show M 29 (q + 2) = 105 from by exact k2]
  refine mv_go' 2 (pc' := 41) (ls' := [mv_R 28, mv_R 219, mv_I 2]) (st' := [mv_I 2, mv_R 219, mv_I 105]) (M1 := M) rfl ?_
  refine mv_callP (st2 := [mv_I 105, mv_I 105]) rfl (Or.inl rfl) rfl rfl rfl (sp_cha9 (j := 2) (by omega)) (by first | decide | omega) ?_
  refine mv_go' 1 (pc' := if 105 = 105 then 49 else 47) (ls' := [mv_R 28, mv_R 219, mv_I 2]) (st' := []) (M1 := M) rfl ?_
  refine mv_tt' (by first | decide | omega) ?_
  refine mv_go' 4 (pc' := 22) (ls' := [mv_R 28, mv_R 219, mv_I (mv_w (2 + 1))]) (st' := [mv_R 219, mv_I (mv_w (2 + 1))]) (M1 := M) rfl ?_
  rw [show mv_w (2 + 1) = 2 + 1 from mv_w_id (by omega) (by omega)]
  rw [show (2 + 1 : Int) = 3 from by decide]
  refine mv_callP (st2 := [mv_I 5, mv_I 3]) rfl (Or.inl rfl) rfl rfl rfl (sp_len9) (by first | decide | omega) ?_
  refine mv_go' 1 (pc' := if 3 < 5 then 28 else 55) (ls' := [mv_R 28, mv_R 219, mv_I 3]) (st' := []) (M1 := M) rfl ?_
  refine mv_tt' (by first | decide | omega) ?_
  refine mv_go' 4 (pc' := 36) (ls' := [mv_R 28, mv_R 219, mv_I 3]) (st' := [mv_I (M 28 4), mv_R 29]) (M1 := M) rfl ?_
  rw [show M 28 4 = (q : Int) from by exact h4]
  refine mv_go' 2 (pc' := 38) (ls' := [mv_R 28, mv_R 219, mv_I 3]) (st' := [mv_I (mv_w ((q : Int) + 3)), mv_R 29]) (M1 := M) rfl ?_
  rw [show mv_w ((q : Int) + 3) = ((q + 3 : Nat) : Int) from by (rw [show mv_w ((q : Int) + 3) = (q : Int) + 3 from mv_w_id (by omega) (by omega)]) <;> omega]
  refine mv_go' 1 (pc' := if 0 ≤ ((q + 3 : Nat) : Int) ∧ ((q + 3 : Nat) : Int) < 160 then 39 else mv_bad) (ls' := [mv_R 28, mv_R 219, mv_I 3]) (st' := [mv_I (M 29 (q + 3))]) (M1 := M) rfl ?_
  refine mv_tt' (by omega) ?_
  rw [show M 29 (q + 3) = 99 from by exact k3]
  refine mv_go' 2 (pc' := 41) (ls' := [mv_R 28, mv_R 219, mv_I 3]) (st' := [mv_I 3, mv_R 219, mv_I 99]) (M1 := M) rfl ?_
  refine mv_callP (st2 := [mv_I 99, mv_I 99]) rfl (Or.inl rfl) rfl rfl rfl (sp_cha9 (j := 3) (by omega)) (by first | decide | omega) ?_
  refine mv_go' 1 (pc' := if 99 = 99 then 49 else 47) (ls' := [mv_R 28, mv_R 219, mv_I 3]) (st' := []) (M1 := M) rfl ?_
  refine mv_tt' (by first | decide | omega) ?_
  refine mv_go' 4 (pc' := 22) (ls' := [mv_R 28, mv_R 219, mv_I (mv_w (3 + 1))]) (st' := [mv_R 219, mv_I (mv_w (3 + 1))]) (M1 := M) rfl ?_
  rw [show mv_w (3 + 1) = 3 + 1 from mv_w_id (by omega) (by omega)]
  rw [show (3 + 1 : Int) = 4 from by decide]
  refine mv_callP (st2 := [mv_I 5, mv_I 4]) rfl (Or.inl rfl) rfl rfl rfl (sp_len9) (by first | decide | omega) ?_
  refine mv_go' 1 (pc' := if 4 < 5 then 28 else 55) (ls' := [mv_R 28, mv_R 219, mv_I 4]) (st' := []) (M1 := M) rfl ?_
  refine mv_tt' (by first | decide | omega) ?_
  refine mv_go' 4 (pc' := 36) (ls' := [mv_R 28, mv_R 219, mv_I 4]) (st' := [mv_I (M 28 4), mv_R 29]) (M1 := M) rfl ?_
  rw [show M 28 4 = (q : Int) from by exact h4]
  refine mv_go' 2 (pc' := 38) (ls' := [mv_R 28, mv_R 219, mv_I 4]) (st' := [mv_I (mv_w ((q : Int) + 4)), mv_R 29]) (M1 := M) rfl ?_
  rw [show mv_w ((q : Int) + 4) = ((q + 4 : Nat) : Int) from by (rw [show mv_w ((q : Int) + 4) = (q : Int) + 4 from mv_w_id (by omega) (by omega)]) <;> omega]
  refine mv_go' 1 (pc' := if 0 ≤ ((q + 4 : Nat) : Int) ∧ ((q + 4 : Nat) : Int) < 160 then 39 else mv_bad) (ls' := [mv_R 28, mv_R 219, mv_I 4]) (st' := [mv_I (M 29 (q + 4))]) (M1 := M) rfl ?_
  refine mv_tt' (by omega) ?_
  rw [show M 29 (q + 4) = 104 from by exact k4]
  refine mv_go' 2 (pc' := 41) (ls' := [mv_R 28, mv_R 219, mv_I 4]) (st' := [mv_I 4, mv_R 219, mv_I 104]) (M1 := M) rfl ?_
  refine mv_callP (st2 := [mv_I 104, mv_I 104]) rfl (Or.inl rfl) rfl rfl rfl (sp_cha9 (j := 4) (by omega)) (by first | decide | omega) ?_
  refine mv_go' 1 (pc' := if 104 = 104 then 49 else 47) (ls' := [mv_R 28, mv_R 219, mv_I 4]) (st' := []) (M1 := M) rfl ?_
  refine mv_tt' (by first | decide | omega) ?_
  refine mv_go' 4 (pc' := 22) (ls' := [mv_R 28, mv_R 219, mv_I (mv_w (4 + 1))]) (st' := [mv_R 219, mv_I (mv_w (4 + 1))]) (M1 := M) rfl ?_
  rw [show mv_w (4 + 1) = 4 + 1 from mv_w_id (by omega) (by omega)]
  rw [show (4 + 1 : Int) = 5 from by decide]
  refine mv_callP (st2 := [mv_I 5, mv_I 5]) rfl (Or.inl rfl) rfl rfl rfl (sp_len9) (by first | decide | omega) ?_
  refine mv_go' 1 (pc' := if 5 < 5 then 28 else 55) (ls' := [mv_R 28, mv_R 219, mv_I 5]) (st' := []) (M1 := M) rfl ?_
  refine mv_ff' (by first | decide | omega) ?_
  refine mv_go' 1 (pc' := 56) (ls' := [mv_R 28, mv_R 219, mv_I 5]) (st' := [mv_I 1]) (M1 := M) rfl ?_
  exact mv_ret (fun n => rfl) rfl
theorem sp_iw9_f {M : mv_M} {q e : Nat} (hq : q ≤ e) (he : e ≤ 160) (h4 : M 28 4 = (q : Int)) (h2 : M 28 2 = (e : Int)) (h : ¬ sp_wm 8 (M 29) q e) : mv_Ru 4 12 0 [mv_R 28, mv_R 219, mv_U] [] M (mv_I 0) (fun M1 => M1 = M) := by
  refine mv_go' 1 (pc' := 1) (ls' := [mv_R 28, mv_R 219, mv_U]) (st' := [mv_R 219]) (M1 := M) rfl ?_
  refine mv_callP (st2 := [mv_I 5]) rfl (Or.inl rfl) rfl rfl rfl (sp_len9) (by first | decide | omega) ?_
  refine mv_go' 2 (pc' := 8) (ls' := [mv_R 28, mv_R 219, mv_U]) (st' := [mv_I (M 28 2), mv_I 5]) (M1 := M) rfl ?_
  rw [show M 28 2 = (e : Int) from by exact h2]
  refine mv_go' 2 (pc' := 12) (ls' := [mv_R 28, mv_R 219, mv_U]) (st' := [mv_I (M 28 4), mv_I (e : Int), mv_I 5]) (M1 := M) rfl ?_
  rw [show M 28 4 = (q : Int) from by exact h4]
  refine mv_go' 2 (pc' := if 5 = (mv_w ((e : Int) - (q : Int))) then 18 else 16) (ls' := [mv_R 28, mv_R 219, mv_U]) (st' := []) (M1 := M) rfl ?_
  rw [show mv_w ((e : Int) - (q : Int)) = (e : Int) - (q : Int) from mv_w_id (by omega) (by omega)]
  refine mv_sp' (fun ha40 => ?_) (fun ha40 => ?_)
  · refine mv_go' 4 (pc' := 22) (ls' := [mv_R 28, mv_R 219, mv_I 0]) (st' := [mv_R 219, mv_I 0]) (M1 := M) rfl ?_
    refine mv_callP (st2 := [mv_I 5, mv_I 0]) rfl (Or.inl rfl) rfl rfl rfl (sp_len9) (by first | decide | omega) ?_
    refine mv_go' 1 (pc' := if 0 < 5 then 28 else 55) (ls' := [mv_R 28, mv_R 219, mv_I 0]) (st' := []) (M1 := M) rfl ?_
    refine mv_tt' (by first | decide | omega) ?_
    refine mv_go' 4 (pc' := 36) (ls' := [mv_R 28, mv_R 219, mv_I 0]) (st' := [mv_I (M 28 4), mv_R 29]) (M1 := M) rfl ?_
    rw [show M 28 4 = (q : Int) from by exact h4]
    refine mv_go' 2 (pc' := 38) (ls' := [mv_R 28, mv_R 219, mv_I 0]) (st' := [mv_I (mv_w ((q : Int) + 0)), mv_R 29]) (M1 := M) rfl ?_
    rw [show mv_w ((q : Int) + 0) = (q : Int) from by (rw [show mv_w ((q : Int) + 0) = (q : Int) + 0 from mv_w_id (by omega) (by omega)]) <;> omega]
    refine mv_go' 1 (pc' := if 0 ≤ (q : Int) ∧ (q : Int) < 160 then 39 else mv_bad) (ls' := [mv_R 28, mv_R 219, mv_I 0]) (st' := [mv_I (M 29 q)]) (M1 := M) rfl ?_
    refine mv_tt' (by omega) ?_
    refine mv_go' 2 (pc' := 41) (ls' := [mv_R 28, mv_R 219, mv_I 0]) (st' := [mv_I 0, mv_R 219, mv_I (M 29 q)]) (M1 := M) rfl ?_
    refine mv_callP (st2 := [mv_I 119, mv_I (M 29 q)]) rfl (Or.inl rfl) rfl rfl rfl (sp_cha9 (j := 0) (by omega)) (by first | decide | omega) ?_
    refine mv_go' 1 (pc' := if (M 29 q) = 119 then 49 else 47) (ls' := [mv_R 28, mv_R 219, mv_I 0]) (st' := []) (M1 := M) rfl ?_
    refine mv_sp' (fun ha41 => ?_) (fun ha41 => ?_)
    · refine mv_go' 4 (pc' := 22) (ls' := [mv_R 28, mv_R 219, mv_I (mv_w (0 + 1))]) (st' := [mv_R 219, mv_I (mv_w (0 + 1))]) (M1 := M) rfl ?_
      rw [show mv_w (0 + 1) = 0 + 1 from mv_w_id (by omega) (by omega)]
      rw [show (0 + 1 : Int) = 1 from by decide]
      refine mv_callP (st2 := [mv_I 5, mv_I 1]) rfl (Or.inl rfl) rfl rfl rfl (sp_len9) (by first | decide | omega) ?_
      refine mv_go' 1 (pc' := if 1 < 5 then 28 else 55) (ls' := [mv_R 28, mv_R 219, mv_I 1]) (st' := []) (M1 := M) rfl ?_
      refine mv_tt' (by first | decide | omega) ?_
      refine mv_go' 4 (pc' := 36) (ls' := [mv_R 28, mv_R 219, mv_I 1]) (st' := [mv_I (M 28 4), mv_R 29]) (M1 := M) rfl ?_
      rw [show M 28 4 = (q : Int) from by exact h4]
      refine mv_go' 2 (pc' := 38) (ls' := [mv_R 28, mv_R 219, mv_I 1]) (st' := [mv_I (mv_w ((q : Int) + 1)), mv_R 29]) (M1 := M) rfl ?_
      rw [show mv_w ((q : Int) + 1) = ((q + 1 : Nat) : Int) from by (rw [show mv_w ((q : Int) + 1) = (q : Int) + 1 from mv_w_id (by omega) (by omega)]) <;> omega]
      refine mv_go' 1 (pc' := if 0 ≤ ((q + 1 : Nat) : Int) ∧ ((q + 1 : Nat) : Int) < 160 then 39 else mv_bad) (ls' := [mv_R 28, mv_R 219, mv_I 1]) (st' := [mv_I (M 29 (q + 1))]) (M1 := M) rfl ?_
      refine mv_tt' (by omega) ?_
      refine mv_go' 2 (pc' := 41) (ls' := [mv_R 28, mv_R 219, mv_I 1]) (st' := [mv_I 1, mv_R 219, mv_I (M 29 (q + 1))]) (M1 := M) rfl ?_
      refine mv_callP (st2 := [mv_I 104, mv_I (M 29 (q + 1))]) rfl (Or.inl rfl) rfl rfl rfl (sp_cha9 (j := 1) (by omega)) (by first | decide | omega) ?_
      refine mv_go' 1 (pc' := if (M 29 (q + 1)) = 104 then 49 else 47) (ls' := [mv_R 28, mv_R 219, mv_I 1]) (st' := []) (M1 := M) rfl ?_
      refine mv_sp' (fun ha42 => ?_) (fun ha42 => ?_)
      · refine mv_go' 4 (pc' := 22) (ls' := [mv_R 28, mv_R 219, mv_I (mv_w (1 + 1))]) (st' := [mv_R 219, mv_I (mv_w (1 + 1))]) (M1 := M) rfl ?_
        rw [show mv_w (1 + 1) = 1 + 1 from mv_w_id (by omega) (by omega)]
        rw [show (1 + 1 : Int) = 2 from by decide]
        refine mv_callP (st2 := [mv_I 5, mv_I 2]) rfl (Or.inl rfl) rfl rfl rfl (sp_len9) (by first | decide | omega) ?_
        refine mv_go' 1 (pc' := if 2 < 5 then 28 else 55) (ls' := [mv_R 28, mv_R 219, mv_I 2]) (st' := []) (M1 := M) rfl ?_
        refine mv_tt' (by first | decide | omega) ?_
        refine mv_go' 4 (pc' := 36) (ls' := [mv_R 28, mv_R 219, mv_I 2]) (st' := [mv_I (M 28 4), mv_R 29]) (M1 := M) rfl ?_
        rw [show M 28 4 = (q : Int) from by exact h4]
        refine mv_go' 2 (pc' := 38) (ls' := [mv_R 28, mv_R 219, mv_I 2]) (st' := [mv_I (mv_w ((q : Int) + 2)), mv_R 29]) (M1 := M) rfl ?_
        rw [show mv_w ((q : Int) + 2) = ((q + 2 : Nat) : Int) from by (rw [show mv_w ((q : Int) + 2) = (q : Int) + 2 from mv_w_id (by omega) (by omega)]) <;> omega]
        refine mv_go' 1 (pc' := if 0 ≤ ((q + 2 : Nat) : Int) ∧ ((q + 2 : Nat) : Int) < 160 then 39 else mv_bad) (ls' := [mv_R 28, mv_R 219, mv_I 2]) (st' := [mv_I (M 29 (q + 2))]) (M1 := M) rfl ?_
        refine mv_tt' (by omega) ?_
        refine mv_go' 2 (pc' := 41) (ls' := [mv_R 28, mv_R 219, mv_I 2]) (st' := [mv_I 2, mv_R 219, mv_I (M 29 (q + 2))]) (M1 := M) rfl ?_
        refine mv_callP (st2 := [mv_I 105, mv_I (M 29 (q + 2))]) rfl (Or.inl rfl) rfl rfl rfl (sp_cha9 (j := 2) (by omega)) (by first | decide | omega) ?_
        refine mv_go' 1 (pc' := if (M 29 (q + 2)) = 105 then 49 else 47) (ls' := [mv_R 28, mv_R 219, mv_I 2]) (st' := []) (M1 := M) rfl ?_
        refine mv_sp' (fun ha43 => ?_) (fun ha43 => ?_)
        · refine mv_go' 4 (pc' := 22) (ls' := [mv_R 28, mv_R 219, mv_I (mv_w (2 + 1))]) (st' := [mv_R 219, mv_I (mv_w (2 + 1))]) (M1 := M) rfl ?_
          rw [show mv_w (2 + 1) = 2 + 1 from mv_w_id (by omega) (by omega)]
          rw [show (2 + 1 : Int) = 3 from by decide]
          refine mv_callP (st2 := [mv_I 5, mv_I 3]) rfl (Or.inl rfl) rfl rfl rfl (sp_len9) (by first | decide | omega) ?_
          refine mv_go' 1 (pc' := if 3 < 5 then 28 else 55) (ls' := [mv_R 28, mv_R 219, mv_I 3]) (st' := []) (M1 := M) rfl ?_
          refine mv_tt' (by first | decide | omega) ?_
          refine mv_go' 4 (pc' := 36) (ls' := [mv_R 28, mv_R 219, mv_I 3]) (st' := [mv_I (M 28 4), mv_R 29]) (M1 := M) rfl ?_
          rw [show M 28 4 = (q : Int) from by exact h4]
          refine mv_go' 2 (pc' := 38) (ls' := [mv_R 28, mv_R 219, mv_I 3]) (st' := [mv_I (mv_w ((q : Int) + 3)), mv_R 29]) (M1 := M) rfl ?_
          rw [show mv_w ((q : Int) + 3) = ((q + 3 : Nat) : Int) from by (rw [show mv_w ((q : Int) + 3) = (q : Int) + 3 from mv_w_id (by omega) (by omega)]) <;> omega]
          refine mv_go' 1 (pc' := if 0 ≤ ((q + 3 : Nat) : Int) ∧ ((q + 3 : Nat) : Int) < 160 then 39 else mv_bad) (ls' := [mv_R 28, mv_R 219, mv_I 3]) (st' := [mv_I (M 29 (q + 3))]) (M1 := M) rfl ?_
          refine mv_tt' (by omega) ?_
          refine mv_go' 2 (pc' := 41) (ls' := [mv_R 28, mv_R 219, mv_I 3]) (st' := [mv_I 3, mv_R 219, mv_I (M 29 (q + 3))]) (M1 := M) rfl ?_
          refine mv_callP (st2 := [mv_I 99, mv_I (M 29 (q + 3))]) rfl (Or.inl rfl) rfl rfl rfl (sp_cha9 (j := 3) (by omega)) (by first | decide | omega) ?_
          refine mv_go' 1 (pc' := if (M 29 (q + 3)) = 99 then 49 else 47) (ls' := [mv_R 28, mv_R 219, mv_I 3]) (st' := []) (M1 := M) rfl ?_
          refine mv_sp' (fun ha44 => ?_) (fun ha44 => ?_)
          · refine mv_go' 4 (pc' := 22) (ls' := [mv_R 28, mv_R 219, mv_I (mv_w (3 + 1))]) (st' := [mv_R 219, mv_I (mv_w (3 + 1))]) (M1 := M) rfl ?_
            rw [show mv_w (3 + 1) = 3 + 1 from mv_w_id (by omega) (by omega)]
            rw [show (3 + 1 : Int) = 4 from by decide]
            refine mv_callP (st2 := [mv_I 5, mv_I 4]) rfl (Or.inl rfl) rfl rfl rfl (sp_len9) (by first | decide | omega) ?_
            refine mv_go' 1 (pc' := if 4 < 5 then 28 else 55) (ls' := [mv_R 28, mv_R 219, mv_I 4]) (st' := []) (M1 := M) rfl ?_
            refine mv_tt' (by first | decide | omega) ?_
            refine mv_go' 4 (pc' := 36) (ls' := [mv_R 28, mv_R 219, mv_I 4]) (st' := [mv_I (M 28 4), mv_R 29]) (M1 := M) rfl ?_
            rw [show M 28 4 = (q : Int) from by exact h4]
            refine mv_go' 2 (pc' := 38) (ls' := [mv_R 28, mv_R 219, mv_I 4]) (st' := [mv_I (mv_w ((q : Int) + 4)), mv_R 29]) (M1 := M) rfl ?_
            rw [show mv_w ((q : Int) + 4) = ((q + 4 : Nat) : Int) from by (rw [show mv_w ((q : Int) + 4) = (q : Int) + 4 from mv_w_id (by omega) (by omega)]) <;> omega]
            refine mv_go' 1 (pc' := if 0 ≤ ((q + 4 : Nat) : Int) ∧ ((q + 4 : Nat) : Int) < 160 then 39 else mv_bad) (ls' := [mv_R 28, mv_R 219, mv_I 4]) (st' := [mv_I (M 29 (q + 4))]) (M1 := M) rfl ?_
            refine mv_tt' (by omega) ?_
            refine mv_go' 2 (pc' := 41) (ls' := [mv_R 28, mv_R 219, mv_I 4]) (st' := [mv_I 4, mv_R 219, mv_I (M 29 (q + 4))]) (M1 := M) rfl ?_
            refine mv_callP (st2 := [mv_I 104, mv_I (M 29 (q + 4))]) rfl (Or.inl rfl) rfl rfl rfl (sp_cha9 (j := 4) (by omega)) (by first | decide | omega) ?_
            refine mv_go' 1 (pc' := if (M 29 (q + 4)) = 104 then 49 else 47) (ls' := [mv_R 28, mv_R 219, mv_I 4]) (st' := []) (M1 := M) rfl ?_
            refine mv_sp' (fun ha45 => ?_) (fun ha45 => ?_)
            · refine mv_go' 4 (pc' := 22) (ls' := [mv_R 28, mv_R 219, mv_I (mv_w (4 + 1))]) (st' := [mv_R 219, mv_I (mv_w (4 + 1))]) (M1 := M) rfl ?_
              rw [show mv_w (4 + 1) = 4 + 1 from mv_w_id (by omega) (by omega)]
              rw [show (4 + 1 : Int) = 5 from by decide]
              refine mv_callP (st2 := [mv_I 5, mv_I 5]) rfl (Or.inl rfl) rfl rfl rfl (sp_len9) (by first | decide | omega) ?_
              refine mv_go' 1 (pc' := if 5 < 5 then 28 else 55) (ls' := [mv_R 28, mv_R 219, mv_I 5]) (st' := []) (M1 := M) rfl ?_
              refine mv_ff' (by first | decide | omega) ?_
              refine mv_go' 1 (pc' := 56) (ls' := [mv_R 28, mv_R 219, mv_I 5]) (st' := [mv_I 1]) (M1 := M) rfl ?_
              exact mv_Ru.val (mv_ret (fun n => rfl) rfl) (congrArg mv_I (by first | with_reducible rfl | exact absurd (show sp_wm 8 (M 29) q e from ⟨by show e = q + 5; omega, by assumption, by assumption, by assumption, by assumption, by assumption, trivial⟩) h))
            · refine mv_go' 1 (pc' := 48) (ls' := [mv_R 28, mv_R 219, mv_I 4]) (st' := [mv_I 0]) (M1 := M) rfl ?_
              exact mv_Ru.val (mv_ret (fun n => rfl) rfl) (congrArg mv_I (by first | with_reducible rfl | exact absurd (show sp_wm 8 (M 29) q e from ⟨by show e = q + 5; omega, by assumption, by assumption, by assumption, by assumption, by assumption, trivial⟩) h))
          · refine mv_go' 1 (pc' := 48) (ls' := [mv_R 28, mv_R 219, mv_I 3]) (st' := [mv_I 0]) (M1 := M) rfl ?_
            exact mv_Ru.val (mv_ret (fun n => rfl) rfl) (congrArg mv_I (by first | with_reducible rfl | exact absurd (show sp_wm 8 (M 29) q e from ⟨by show e = q + 5; omega, by assumption, by assumption, by assumption, by assumption, by assumption, trivial⟩) h))
        · refine mv_go' 1 (pc' := 48) (ls' := [mv_R 28, mv_R 219, mv_I 2]) (st' := [mv_I 0]) (M1 := M) rfl ?_
          exact mv_Ru.val (mv_ret (fun n => rfl) rfl) (congrArg mv_I (by first | with_reducible rfl | exact absurd (show sp_wm 8 (M 29) q e from ⟨by show e = q + 5; omega, by assumption, by assumption, by assumption, by assumption, by assumption, trivial⟩) h))
      · refine mv_go' 1 (pc' := 48) (ls' := [mv_R 28, mv_R 219, mv_I 1]) (st' := [mv_I 0]) (M1 := M) rfl ?_
        exact mv_Ru.val (mv_ret (fun n => rfl) rfl) (congrArg mv_I (by first | with_reducible rfl | exact absurd (show sp_wm 8 (M 29) q e from ⟨by show e = q + 5; omega, by assumption, by assumption, by assumption, by assumption, by assumption, trivial⟩) h))
    · refine mv_go' 1 (pc' := 48) (ls' := [mv_R 28, mv_R 219, mv_I 0]) (st' := [mv_I 0]) (M1 := M) rfl ?_
      exact mv_Ru.val (mv_ret (fun n => rfl) rfl) (congrArg mv_I (by first | with_reducible rfl | exact absurd (show sp_wm 8 (M 29) q e from ⟨by show e = q + 5; omega, by assumption, by assumption, by assumption, by assumption, by assumption, trivial⟩) h))
  · refine mv_go' 1 (pc' := 17) (ls' := [mv_R 28, mv_R 219, mv_U]) (st' := [mv_I 0]) (M1 := M) rfl ?_
    exact mv_Ru.val (mv_ret (fun n => rfl) rfl) (congrArg mv_I (by first | with_reducible rfl | exact absurd (show sp_wm 8 (M 29) q e from ⟨by show e = q + 5; omega, by assumption, by assumption, by assumption, by assumption, by assumption, trivial⟩) h))
theorem sp_iw10_t {M : mv_M} {q e : Nat} (he : e ≤ 160) (h4 : M 28 4 = (q : Int)) (h2 : M 28 2 = (e : Int)) (h : sp_wm 9 (M 29) q e) : mv_Ru 4 12 0 [mv_R 28, mv_R 220, mv_U] [] M (mv_I 1) (fun M1 => M1 = M) := by
  have h1 : e = q + 4 := h.1
  obtain ⟨_, k0, k1, k2, k3, _⟩ := h
  refine mv_go' 1 (pc' := 1) (ls' := [mv_R 28, mv_R 220, mv_U]) (st' := [mv_R 220]) (M1 := M) rfl ?_
  refine mv_callP (st2 := [mv_I 4]) rfl (Or.inl rfl) rfl rfl rfl (sp_len10) (by first | decide | omega) ?_
  refine mv_go' 2 (pc' := 8) (ls' := [mv_R 28, mv_R 220, mv_U]) (st' := [mv_I (M 28 2), mv_I 4]) (M1 := M) rfl ?_
  rw [show M 28 2 = (e : Int) from by exact h2]
  refine mv_go' 2 (pc' := 12) (ls' := [mv_R 28, mv_R 220, mv_U]) (st' := [mv_I (M 28 4), mv_I (e : Int), mv_I 4]) (M1 := M) rfl ?_
  rw [show M 28 4 = (q : Int) from by exact h4]
  refine mv_go' 2 (pc' := if 4 = (mv_w ((e : Int) - (q : Int))) then 18 else 16) (ls' := [mv_R 28, mv_R 220, mv_U]) (st' := []) (M1 := M) rfl ?_
  rw [show mv_w ((e : Int) - (q : Int)) = (e : Int) - (q : Int) from mv_w_id (by omega) (by omega)]
  refine mv_tt' (by omega) ?_
  refine mv_go' 4 (pc' := 22) (ls' := [mv_R 28, mv_R 220, mv_I 0]) (st' := [mv_R 220, mv_I 0]) (M1 := M) rfl ?_
  refine mv_callP (st2 := [mv_I 4, mv_I 0]) rfl (Or.inl rfl) rfl rfl rfl (sp_len10) (by first | decide | omega) ?_
  refine mv_go' 1 (pc' := if 0 < 4 then 28 else 55) (ls' := [mv_R 28, mv_R 220, mv_I 0]) (st' := []) (M1 := M) rfl ?_
  refine mv_tt' (by first | decide | omega) ?_
  refine mv_go' 4 (pc' := 36) (ls' := [mv_R 28, mv_R 220, mv_I 0]) (st' := [mv_I (M 28 4), mv_R 29]) (M1 := M) rfl ?_
  rw [show M 28 4 = (q : Int) from by exact h4]
  refine mv_go' 2 (pc' := 38) (ls' := [mv_R 28, mv_R 220, mv_I 0]) (st' := [mv_I (mv_w ((q : Int) + 0)), mv_R 29]) (M1 := M) rfl ?_
  rw [show mv_w ((q : Int) + 0) = (q : Int) from by (rw [show mv_w ((q : Int) + 0) = (q : Int) + 0 from mv_w_id (by omega) (by omega)]) <;> omega]
  refine mv_go' 1 (pc' := if 0 ≤ (q : Int) ∧ (q : Int) < 160 then 39 else mv_bad) (ls' := [mv_R 28, mv_R 220, mv_I 0]) (st' := [mv_I (M 29 q)]) (M1 := M) rfl ?_
  refine mv_tt' (by omega) ?_
  rw [show M 29 q = 121 from by exact k0]
  refine mv_go' 2 (pc' := 41) (ls' := [mv_R 28, mv_R 220, mv_I 0]) (st' := [mv_I 0, mv_R 220, mv_I 121]) (M1 := M) rfl ?_
  refine mv_callP (st2 := [mv_I 121, mv_I 121]) rfl (Or.inl rfl) rfl rfl rfl (sp_cha10 (j := 0) (by omega)) (by first | decide | omega) ?_
  refine mv_go' 1 (pc' := if 121 = 121 then 49 else 47) (ls' := [mv_R 28, mv_R 220, mv_I 0]) (st' := []) (M1 := M) rfl ?_
  refine mv_tt' (by first | decide | omega) ?_
  refine mv_go' 4 (pc' := 22) (ls' := [mv_R 28, mv_R 220, mv_I (mv_w (0 + 1))]) (st' := [mv_R 220, mv_I (mv_w (0 + 1))]) (M1 := M) rfl ?_
  rw [show mv_w (0 + 1) = 0 + 1 from mv_w_id (by omega) (by omega)]
  rw [show (0 + 1 : Int) = 1 from by decide]
  refine mv_callP (st2 := [mv_I 4, mv_I 1]) rfl (Or.inl rfl) rfl rfl rfl (sp_len10) (by first | decide | omega) ?_
  refine mv_go' 1 (pc' := if 1 < 4 then 28 else 55) (ls' := [mv_R 28, mv_R 220, mv_I 1]) (st' := []) (M1 := M) rfl ?_
  refine mv_tt' (by first | decide | omega) ?_
  refine mv_go' 4 (pc' := 36) (ls' := [mv_R 28, mv_R 220, mv_I 1]) (st' := [mv_I (M 28 4), mv_R 29]) (M1 := M) rfl ?_
  rw [show M 28 4 = (q : Int) from by exact h4]
  refine mv_go' 2 (pc' := 38) (ls' := [mv_R 28, mv_R 220, mv_I 1]) (st' := [mv_I (mv_w ((q : Int) + 1)), mv_R 29]) (M1 := M) rfl ?_
  rw [show mv_w ((q : Int) + 1) = ((q + 1 : Nat) : Int) from by (rw [show mv_w ((q : Int) + 1) = (q : Int) + 1 from mv_w_id (by omega) (by omega)]) <;> omega]
  refine mv_go' 1 (pc' := if 0 ≤ ((q + 1 : Nat) : Int) ∧ ((q + 1 : Nat) : Int) < 160 then 39 else mv_bad) (ls' := [mv_R 28, mv_R 220, mv_I 1]) (st' := [mv_I (M 29 (q + 1))]) (M1 := M) rfl ?_
  refine mv_tt' (by omega) ?_
  rw [show M 29 (q + 1) = 101 from by exact k1]
  refine mv_go' 2 (pc' := 41) (ls' := [mv_R 28, mv_R 220, mv_I 1]) (st' := [mv_I 1, mv_R 220, mv_I 101]) (M1 := M) rfl ?_
  refine mv_callP (st2 := [mv_I 101, mv_I 101]) rfl (Or.inl rfl) rfl rfl rfl (sp_cha10 (j := 1) (by omega)) (by first | decide | omega) ?_
  refine mv_go' 1 (pc' := if 101 = 101 then 49 else 47) (ls' := [mv_R 28, mv_R 220, mv_I 1]) (st' := []) (M1 := M) rfl ?_
  refine mv_tt' (by first | decide | omega) ?_
  refine mv_go' 4 (pc' := 22) (ls' := [mv_R 28, mv_R 220, mv_I (mv_w (1 + 1))]) (st' := [mv_R 220, mv_I (mv_w (1 + 1))]) (M1 := M) rfl ?_
  rw [show mv_w (1 + 1) = 1 + 1 from mv_w_id (by omega) (by omega)]
  rw [show (1 + 1 : Int) = 2 from by decide]
  refine mv_callP (st2 := [mv_I 4, mv_I 2]) rfl (Or.inl rfl) rfl rfl rfl (sp_len10) (by first | decide | omega) ?_
  refine mv_go' 1 (pc' := if 2 < 4 then 28 else 55) (ls' := [mv_R 28, mv_R 220, mv_I 2]) (st' := []) (M1 := M) rfl ?_
  refine mv_tt' (by first | decide | omega) ?_
  refine mv_go' 4 (pc' := 36) (ls' := [mv_R 28, mv_R 220, mv_I 2]) (st' := [mv_I (M 28 4), mv_R 29]) (M1 := M) rfl ?_
  rw [show M 28 4 = (q : Int) from by exact h4]
  refine mv_go' 2 (pc' := 38) (ls' := [mv_R 28, mv_R 220, mv_I 2]) (st' := [mv_I (mv_w ((q : Int) + 2)), mv_R 29]) (M1 := M) rfl ?_
  rw [show mv_w ((q : Int) + 2) = ((q + 2 : Nat) : Int) from by (rw [show mv_w ((q : Int) + 2) = (q : Int) + 2 from mv_w_id (by omega) (by omega)]) <;> omega]
  refine mv_go' 1 (pc' := if 0 ≤ ((q + 2 : Nat) : Int) ∧ ((q + 2 : Nat) : Int) < 160 then 39 else mv_bad) (ls' := [mv_R 28, mv_R 220, mv_I 2]) (st' := [mv_I (M 29 (q + 2))]) (M1 := M) rfl ?_
  refine mv_tt' (by omega) ?_
  rw [show M 29 (q + 2) = 97 from by exact k2]
  refine mv_go' 2 (pc' := 41) (ls' := [mv_R 28, mv_R 220, mv_I 2]) (st' := [mv_I 2, mv_R 220, mv_I 97]) (M1 := M) rfl ?_
  refine mv_callP (st2 := [mv_I 97, mv_I 97]) rfl (Or.inl rfl) rfl rfl rfl (sp_cha10 (j := 2) (by omega)) (by first | decide | omega) ?_
  refine mv_go' 1 (pc' := if 97 = 97 then 49 else 47) (ls' := [mv_R 28, mv_R 220, mv_I 2]) (st' := []) (M1 := M) rfl ?_
  refine mv_tt' (by first | decide | omega) ?_
  refine mv_go' 4 (pc' := 22) (ls' := [mv_R 28, mv_R 220, mv_I (mv_w (2 + 1))]) (st' := [mv_R 220, mv_I (mv_w (2 + 1))]) (M1 := M) rfl ?_
  rw [show mv_w (2 + 1) = 2 + 1 from mv_w_id (by omega) (by omega)]
  rw [show (2 + 1 : Int) = 3 from by decide]
  refine mv_callP (st2 := [mv_I 4, mv_I 3]) rfl (Or.inl rfl) rfl rfl rfl (sp_len10) (by first | decide | omega) ?_
  refine mv_go' 1 (pc' := if 3 < 4 then 28 else 55) (ls' := [mv_R 28, mv_R 220, mv_I 3]) (st' := []) (M1 := M) rfl ?_
  refine mv_tt' (by first | decide | omega) ?_
  refine mv_go' 4 (pc' := 36) (ls' := [mv_R 28, mv_R 220, mv_I 3]) (st' := [mv_I (M 28 4), mv_R 29]) (M1 := M) rfl ?_
  rw [show M 28 4 = (q : Int) from by exact h4]
  refine mv_go' 2 (pc' := 38) (ls' := [mv_R 28, mv_R 220, mv_I 3]) (st' := [mv_I (mv_w ((q : Int) + 3)), mv_R 29]) (M1 := M) rfl ?_
  rw [show mv_w ((q : Int) + 3) = ((q + 3 : Nat) : Int) from by (rw [show mv_w ((q : Int) + 3) = (q : Int) + 3 from mv_w_id (by omega) (by omega)]) <;> omega]
  refine mv_go' 1 (pc' := if 0 ≤ ((q + 3 : Nat) : Int) ∧ ((q + 3 : Nat) : Int) < 160 then 39 else mv_bad) (ls' := [mv_R 28, mv_R 220, mv_I 3]) (st' := [mv_I (M 29 (q + 3))]) (M1 := M) rfl ?_
  refine mv_tt' (by omega) ?_
  rw [show M 29 (q + 3) = 114 from by exact k3]
  refine mv_go' 2 (pc' := 41) (ls' := [mv_R 28, mv_R 220, mv_I 3]) (st' := [mv_I 3, mv_R 220, mv_I 114]) (M1 := M) rfl ?_
  refine mv_callP (st2 := [mv_I 114, mv_I 114]) rfl (Or.inl rfl) rfl rfl rfl (sp_cha10 (j := 3) (by omega)) (by first | decide | omega) ?_
  refine mv_go' 1 (pc' := if 114 = 114 then 49 else 47) (ls' := [mv_R 28, mv_R 220, mv_I 3]) (st' := []) (M1 := M) rfl ?_
  refine mv_tt' (by first | decide | omega) ?_
  refine mv_go' 4 (pc' := 22) (ls' := [mv_R 28, mv_R 220, mv_I (mv_w (3 + 1))]) (st' := [mv_R 220, mv_I (mv_w (3 + 1))]) (M1 := M) rfl ?_
  rw [show mv_w (3 + 1) = 3 + 1 from mv_w_id (by omega) (by omega)]
  rw [show (3 + 1 : Int) = 4 from by decide]
  refine mv_callP (st2 := [mv_I 4, mv_I 4]) rfl (Or.inl rfl) rfl rfl rfl (sp_len10) (by first | decide | omega) ?_
  refine mv_go' 1 (pc' := if 4 < 4 then 28 else 55) (ls' := [mv_R 28, mv_R 220, mv_I 4]) (st' := []) (M1 := M) rfl ?_
  refine mv_ff' (by first | decide | omega) ?_
  refine mv_go' 1 (pc' := 56) (ls' := [mv_R 28, mv_R 220, mv_I 4]) (st' := [mv_I 1]) (M1 := M) rfl ?_
  exact mv_ret (fun n => rfl) rfl
theorem sp_iw10_f {M : mv_M} {q e : Nat} (hq : q ≤ e) (he : e ≤ 160) (h4 : M 28 4 = (q : Int)) (h2 : M 28 2 = (e : Int)) (h : ¬ sp_wm 9 (M 29) q e) : mv_Ru 4 12 0 [mv_R 28, mv_R 220, mv_U] [] M (mv_I 0) (fun M1 => M1 = M) := by
  refine mv_go' 1 (pc' := 1) (ls' := [mv_R 28, mv_R 220, mv_U]) (st' := [mv_R 220]) (M1 := M) rfl ?_
  refine mv_callP (st2 := [mv_I 4]) rfl (Or.inl rfl) rfl rfl rfl (sp_len10) (by first | decide | omega) ?_
  refine mv_go' 2 (pc' := 8) (ls' := [mv_R 28, mv_R 220, mv_U]) (st' := [mv_I (M 28 2), mv_I 4]) (M1 := M) rfl ?_
  rw [show M 28 2 = (e : Int) from by exact h2]
  refine mv_go' 2 (pc' := 12) (ls' := [mv_R 28, mv_R 220, mv_U]) (st' := [mv_I (M 28 4), mv_I (e : Int), mv_I 4]) (M1 := M) rfl ?_
  rw [show M 28 4 = (q : Int) from by exact h4]
  refine mv_go' 2 (pc' := if 4 = (mv_w ((e : Int) - (q : Int))) then 18 else 16) (ls' := [mv_R 28, mv_R 220, mv_U]) (st' := []) (M1 := M) rfl ?_
  rw [show mv_w ((e : Int) - (q : Int)) = (e : Int) - (q : Int) from mv_w_id (by omega) (by omega)]
  refine mv_sp' (fun ha46 => ?_) (fun ha46 => ?_)
  · refine mv_go' 4 (pc' := 22) (ls' := [mv_R 28, mv_R 220, mv_I 0]) (st' := [mv_R 220, mv_I 0]) (M1 := M) rfl ?_
    refine mv_callP (st2 := [mv_I 4, mv_I 0]) rfl (Or.inl rfl) rfl rfl rfl (sp_len10) (by first | decide | omega) ?_
    refine mv_go' 1 (pc' := if 0 < 4 then 28 else 55) (ls' := [mv_R 28, mv_R 220, mv_I 0]) (st' := []) (M1 := M) rfl ?_
    refine mv_tt' (by first | decide | omega) ?_
    refine mv_go' 4 (pc' := 36) (ls' := [mv_R 28, mv_R 220, mv_I 0]) (st' := [mv_I (M 28 4), mv_R 29]) (M1 := M) rfl ?_
    rw [show M 28 4 = (q : Int) from by exact h4]
    refine mv_go' 2 (pc' := 38) (ls' := [mv_R 28, mv_R 220, mv_I 0]) (st' := [mv_I (mv_w ((q : Int) + 0)), mv_R 29]) (M1 := M) rfl ?_
    rw [show mv_w ((q : Int) + 0) = (q : Int) from by (rw [show mv_w ((q : Int) + 0) = (q : Int) + 0 from mv_w_id (by omega) (by omega)]) <;> omega]
    refine mv_go' 1 (pc' := if 0 ≤ (q : Int) ∧ (q : Int) < 160 then 39 else mv_bad) (ls' := [mv_R 28, mv_R 220, mv_I 0]) (st' := [mv_I (M 29 q)]) (M1 := M) rfl ?_
    refine mv_tt' (by omega) ?_
    refine mv_go' 2 (pc' := 41) (ls' := [mv_R 28, mv_R 220, mv_I 0]) (st' := [mv_I 0, mv_R 220, mv_I (M 29 q)]) (M1 := M) rfl ?_
    refine mv_callP (st2 := [mv_I 121, mv_I (M 29 q)]) rfl (Or.inl rfl) rfl rfl rfl (sp_cha10 (j := 0) (by omega)) (by first | decide | omega) ?_
    refine mv_go' 1 (pc' := if (M 29 q) = 121 then 49 else 47) (ls' := [mv_R 28, mv_R 220, mv_I 0]) (st' := []) (M1 := M) rfl ?_
    refine mv_sp' (fun ha47 => ?_) (fun ha47 => ?_)
    · refine mv_go' 4 (pc' := 22) (ls' := [mv_R 28, mv_R 220, mv_I (mv_w (0 + 1))]) (st' := [mv_R 220, mv_I (mv_w (0 + 1))]) (M1 := M) rfl ?_
      rw [show mv_w (0 + 1) = 0 + 1 from mv_w_id (by omega) (by omega)]
      rw [show (0 + 1 : Int) = 1 from by decide]
      refine mv_callP (st2 := [mv_I 4, mv_I 1]) rfl (Or.inl rfl) rfl rfl rfl (sp_len10) (by first | decide | omega) ?_
      refine mv_go' 1 (pc' := if 1 < 4 then 28 else 55) (ls' := [mv_R 28, mv_R 220, mv_I 1]) (st' := []) (M1 := M) rfl ?_
      refine mv_tt' (by first | decide | omega) ?_
      refine mv_go' 4 (pc' := 36) (ls' := [mv_R 28, mv_R 220, mv_I 1]) (st' := [mv_I (M 28 4), mv_R 29]) (M1 := M) rfl ?_
      rw [show M 28 4 = (q : Int) from by exact h4]
      refine mv_go' 2 (pc' := 38) (ls' := [mv_R 28, mv_R 220, mv_I 1]) (st' := [mv_I (mv_w ((q : Int) + 1)), mv_R 29]) (M1 := M) rfl ?_
      rw [show mv_w ((q : Int) + 1) = ((q + 1 : Nat) : Int) from by (rw [show mv_w ((q : Int) + 1) = (q : Int) + 1 from mv_w_id (by omega) (by omega)]) <;> omega]
      refine mv_go' 1 (pc' := if 0 ≤ ((q + 1 : Nat) : Int) ∧ ((q + 1 : Nat) : Int) < 160 then 39 else mv_bad) (ls' := [mv_R 28, mv_R 220, mv_I 1]) (st' := [mv_I (M 29 (q + 1))]) (M1 := M) rfl ?_
      refine mv_tt' (by omega) ?_
      refine mv_go' 2 (pc' := 41) (ls' := [mv_R 28, mv_R 220, mv_I 1]) (st' := [mv_I 1, mv_R 220, mv_I (M 29 (q + 1))]) (M1 := M) rfl ?_
      refine mv_callP (st2 := [mv_I 101, mv_I (M 29 (q + 1))]) rfl (Or.inl rfl) rfl rfl rfl (sp_cha10 (j := 1) (by omega)) (by first | decide | omega) ?_
      refine mv_go' 1 (pc' := if (M 29 (q + 1)) = 101 then 49 else 47) (ls' := [mv_R 28, mv_R 220, mv_I 1]) (st' := []) (M1 := M) rfl ?_
      refine mv_sp' (fun ha48 => ?_) (fun ha48 => ?_)
      · refine mv_go' 4 (pc' := 22) (ls' := [mv_R 28, mv_R 220, mv_I (mv_w (1 + 1))]) (st' := [mv_R 220, mv_I (mv_w (1 + 1))]) (M1 := M) rfl ?_
        rw [show mv_w (1 + 1) = 1 + 1 from mv_w_id (by omega) (by omega)]
        rw [show (1 + 1 : Int) = 2 from by decide]
        refine mv_callP (st2 := [mv_I 4, mv_I 2]) rfl (Or.inl rfl) rfl rfl rfl (sp_len10) (by first | decide | omega) ?_
        refine mv_go' 1 (pc' := if 2 < 4 then 28 else 55) (ls' := [mv_R 28, mv_R 220, mv_I 2]) (st' := []) (M1 := M) rfl ?_
        refine mv_tt' (by first | decide | omega) ?_
        refine mv_go' 4 (pc' := 36) (ls' := [mv_R 28, mv_R 220, mv_I 2]) (st' := [mv_I (M 28 4), mv_R 29]) (M1 := M) rfl ?_
        rw [show M 28 4 = (q : Int) from by exact h4]
        refine mv_go' 2 (pc' := 38) (ls' := [mv_R 28, mv_R 220, mv_I 2]) (st' := [mv_I (mv_w ((q : Int) + 2)), mv_R 29]) (M1 := M) rfl ?_
        rw [show mv_w ((q : Int) + 2) = ((q + 2 : Nat) : Int) from by (rw [show mv_w ((q : Int) + 2) = (q : Int) + 2 from mv_w_id (by omega) (by omega)]) <;> omega]
        refine mv_go' 1 (pc' := if 0 ≤ ((q + 2 : Nat) : Int) ∧ ((q + 2 : Nat) : Int) < 160 then 39 else mv_bad) (ls' := [mv_R 28, mv_R 220, mv_I 2]) (st' := [mv_I (M 29 (q + 2))]) (M1 := M) rfl ?_
        refine mv_tt' (by omega) ?_
        refine mv_go' 2 (pc' := 41) (ls' := [mv_R 28, mv_R 220, mv_I 2]) (st' := [mv_I 2, mv_R 220, mv_I (M 29 (q + 2))]) (M1 := M) rfl ?_
        refine mv_callP (st2 := [mv_I 97, mv_I (M 29 (q + 2))]) rfl (Or.inl rfl) rfl rfl rfl (sp_cha10 (j := 2) (by omega)) (by first | decide | omega) ?_
        refine mv_go' 1 (pc' := if (M 29 (q + 2)) = 97 then 49 else 47) (ls' := [mv_R 28, mv_R 220, mv_I 2]) (st' := []) (M1 := M) rfl ?_
        refine mv_sp' (fun ha49 => ?_) (fun ha49 => ?_)
        · refine mv_go' 4 (pc' := 22) (ls' := [mv_R 28, mv_R 220, mv_I (mv_w (2 + 1))]) (st' := [mv_R 220, mv_I (mv_w (2 + 1))]) (M1 := M) rfl ?_
          rw [show mv_w (2 + 1) = 2 + 1 from mv_w_id (by omega) (by omega)]
          rw [show (2 + 1 : Int) = 3 from by decide]
          refine mv_callP (st2 := [mv_I 4, mv_I 3]) rfl (Or.inl rfl) rfl rfl rfl (sp_len10) (by first | decide | omega) ?_
          refine mv_go' 1 (pc' := if 3 < 4 then 28 else 55) (ls' := [mv_R 28, mv_R 220, mv_I 3]) (st' := []) (M1 := M) rfl ?_
          refine mv_tt' (by first | decide | omega) ?_
          refine mv_go' 4 (pc' := 36) (ls' := [mv_R 28, mv_R 220, mv_I 3]) (st' := [mv_I (M 28 4), mv_R 29]) (M1 := M) rfl ?_
          rw [show M 28 4 = (q : Int) from by exact h4]
          refine mv_go' 2 (pc' := 38) (ls' := [mv_R 28, mv_R 220, mv_I 3]) (st' := [mv_I (mv_w ((q : Int) + 3)), mv_R 29]) (M1 := M) rfl ?_
          rw [show mv_w ((q : Int) + 3) = ((q + 3 : Nat) : Int) from by (rw [show mv_w ((q : Int) + 3) = (q : Int) + 3 from mv_w_id (by omega) (by omega)]) <;> omega]
          refine mv_go' 1 (pc' := if 0 ≤ ((q + 3 : Nat) : Int) ∧ ((q + 3 : Nat) : Int) < 160 then 39 else mv_bad) (ls' := [mv_R 28, mv_R 220, mv_I 3]) (st' := [mv_I (M 29 (q + 3))]) (M1 := M) rfl ?_
          refine mv_tt' (by omega) ?_
          refine mv_go' 2 (pc' := 41) (ls' := [mv_R 28, mv_R 220, mv_I 3]) (st' := [mv_I 3, mv_R 220, mv_I (M 29 (q + 3))]) (M1 := M) rfl ?_
          refine mv_callP (st2 := [mv_I 114, mv_I (M 29 (q + 3))]) rfl (Or.inl rfl) rfl rfl rfl (sp_cha10 (j := 3) (by omega)) (by first | decide | omega) ?_
          refine mv_go' 1 (pc' := if (M 29 (q + 3)) = 114 then 49 else 47) (ls' := [mv_R 28, mv_R 220, mv_I 3]) (st' := []) (M1 := M) rfl ?_
          refine mv_sp' (fun ha50 => ?_) (fun ha50 => ?_)
          · refine mv_go' 4 (pc' := 22) (ls' := [mv_R 28, mv_R 220, mv_I (mv_w (3 + 1))]) (st' := [mv_R 220, mv_I (mv_w (3 + 1))]) (M1 := M) rfl ?_
            rw [show mv_w (3 + 1) = 3 + 1 from mv_w_id (by omega) (by omega)]
            rw [show (3 + 1 : Int) = 4 from by decide]
            refine mv_callP (st2 := [mv_I 4, mv_I 4]) rfl (Or.inl rfl) rfl rfl rfl (sp_len10) (by first | decide | omega) ?_
            refine mv_go' 1 (pc' := if 4 < 4 then 28 else 55) (ls' := [mv_R 28, mv_R 220, mv_I 4]) (st' := []) (M1 := M) rfl ?_
            refine mv_ff' (by first | decide | omega) ?_
            refine mv_go' 1 (pc' := 56) (ls' := [mv_R 28, mv_R 220, mv_I 4]) (st' := [mv_I 1]) (M1 := M) rfl ?_
            exact mv_Ru.val (mv_ret (fun n => rfl) rfl) (congrArg mv_I (by first | with_reducible rfl | exact absurd (show sp_wm 9 (M 29) q e from ⟨by show e = q + 4; omega, by assumption, by assumption, by assumption, by assumption, trivial⟩) h))
          · refine mv_go' 1 (pc' := 48) (ls' := [mv_R 28, mv_R 220, mv_I 3]) (st' := [mv_I 0]) (M1 := M) rfl ?_
            exact mv_Ru.val (mv_ret (fun n => rfl) rfl) (congrArg mv_I (by first | with_reducible rfl | exact absurd (show sp_wm 9 (M 29) q e from ⟨by show e = q + 4; omega, by assumption, by assumption, by assumption, by assumption, trivial⟩) h))
        · refine mv_go' 1 (pc' := 48) (ls' := [mv_R 28, mv_R 220, mv_I 2]) (st' := [mv_I 0]) (M1 := M) rfl ?_
          exact mv_Ru.val (mv_ret (fun n => rfl) rfl) (congrArg mv_I (by first | with_reducible rfl | exact absurd (show sp_wm 9 (M 29) q e from ⟨by show e = q + 4; omega, by assumption, by assumption, by assumption, by assumption, trivial⟩) h))
      · refine mv_go' 1 (pc' := 48) (ls' := [mv_R 28, mv_R 220, mv_I 1]) (st' := [mv_I 0]) (M1 := M) rfl ?_
        exact mv_Ru.val (mv_ret (fun n => rfl) rfl) (congrArg mv_I (by first | with_reducible rfl | exact absurd (show sp_wm 9 (M 29) q e from ⟨by show e = q + 4; omega, by assumption, by assumption, by assumption, by assumption, trivial⟩) h))
    · refine mv_go' 1 (pc' := 48) (ls' := [mv_R 28, mv_R 220, mv_I 0]) (st' := [mv_I 0]) (M1 := M) rfl ?_
      exact mv_Ru.val (mv_ret (fun n => rfl) rfl) (congrArg mv_I (by first | with_reducible rfl | exact absurd (show sp_wm 9 (M 29) q e from ⟨by show e = q + 4; omega, by assumption, by assumption, by assumption, by assumption, trivial⟩) h))
  · refine mv_go' 1 (pc' := 17) (ls' := [mv_R 28, mv_R 220, mv_U]) (st' := [mv_I 0]) (M1 := M) rfl ?_
    exact mv_Ru.val (mv_ret (fun n => rfl) rfl) (congrArg mv_I (by first | with_reducible rfl | exact absurd (show sp_wm 9 (M 29) q e from ⟨by show e = q + 4; omega, by assumption, by assumption, by assumption, by assumption, trivial⟩) h))
theorem sp_iw11_t {M : mv_M} {q e : Nat} (he : e ≤ 160) (h4 : M 28 4 = (q : Int)) (h2 : M 28 2 = (e : Int)) (h : sp_wm 10 (M 29) q e) : mv_Ru 4 12 0 [mv_R 28, mv_R 221, mv_U] [] M (mv_I 1) (fun M1 => M1 = M) := by
  have h1 : e = q + 5 := h.1
  obtain ⟨_, k0, k1, k2, k3, k4, _⟩ := h
  refine mv_go' 1 (pc' := 1) (ls' := [mv_R 28, mv_R 221, mv_U]) (st' := [mv_R 221]) (M1 := M) rfl ?_
  refine mv_callP (st2 := [mv_I 5]) rfl (Or.inl rfl) rfl rfl rfl (sp_len11) (by first | decide | omega) ?_
  refine mv_go' 2 (pc' := 8) (ls' := [mv_R 28, mv_R 221, mv_U]) (st' := [mv_I (M 28 2), mv_I 5]) (M1 := M) rfl ?_
  rw [show M 28 2 = (e : Int) from by exact h2]
  refine mv_go' 2 (pc' := 12) (ls' := [mv_R 28, mv_R 221, mv_U]) (st' := [mv_I (M 28 4), mv_I (e : Int), mv_I 5]) (M1 := M) rfl ?_
  rw [show M 28 4 = (q : Int) from by exact h4]
  refine mv_go' 2 (pc' := if 5 = (mv_w ((e : Int) - (q : Int))) then 18 else 16) (ls' := [mv_R 28, mv_R 221, mv_U]) (st' := []) (M1 := M) rfl ?_
  rw [show mv_w ((e : Int) - (q : Int)) = (e : Int) - (q : Int) from mv_w_id (by omega) (by omega)]
  refine mv_tt' (by omega) ?_
  refine mv_go' 4 (pc' := 22) (ls' := [mv_R 28, mv_R 221, mv_I 0]) (st' := [mv_R 221, mv_I 0]) (M1 := M) rfl ?_
  refine mv_callP (st2 := [mv_I 5, mv_I 0]) rfl (Or.inl rfl) rfl rfl rfl (sp_len11) (by first | decide | omega) ?_
  refine mv_go' 1 (pc' := if 0 < 5 then 28 else 55) (ls' := [mv_R 28, mv_R 221, mv_I 0]) (st' := []) (M1 := M) rfl ?_
  refine mv_tt' (by first | decide | omega) ?_
  refine mv_go' 4 (pc' := 36) (ls' := [mv_R 28, mv_R 221, mv_I 0]) (st' := [mv_I (M 28 4), mv_R 29]) (M1 := M) rfl ?_
  rw [show M 28 4 = (q : Int) from by exact h4]
  refine mv_go' 2 (pc' := 38) (ls' := [mv_R 28, mv_R 221, mv_I 0]) (st' := [mv_I (mv_w ((q : Int) + 0)), mv_R 29]) (M1 := M) rfl ?_
  rw [show mv_w ((q : Int) + 0) = (q : Int) from by (rw [show mv_w ((q : Int) + 0) = (q : Int) + 0 from mv_w_id (by omega) (by omega)]) <;> omega]
  refine mv_go' 1 (pc' := if 0 ≤ (q : Int) ∧ (q : Int) < 160 then 39 else mv_bad) (ls' := [mv_R 28, mv_R 221, mv_I 0]) (st' := [mv_I (M 29 q)]) (M1 := M) rfl ?_
  refine mv_tt' (by omega) ?_
  rw [show M 29 q = 104 from by exact k0]
  refine mv_go' 2 (pc' := 41) (ls' := [mv_R 28, mv_R 221, mv_I 0]) (st' := [mv_I 0, mv_R 221, mv_I 104]) (M1 := M) rfl ?_
  refine mv_callP (st2 := [mv_I 104, mv_I 104]) rfl (Or.inl rfl) rfl rfl rfl (sp_cha11 (j := 0) (by omega)) (by first | decide | omega) ?_
  refine mv_go' 1 (pc' := if 104 = 104 then 49 else 47) (ls' := [mv_R 28, mv_R 221, mv_I 0]) (st' := []) (M1 := M) rfl ?_
  refine mv_tt' (by first | decide | omega) ?_
  refine mv_go' 4 (pc' := 22) (ls' := [mv_R 28, mv_R 221, mv_I (mv_w (0 + 1))]) (st' := [mv_R 221, mv_I (mv_w (0 + 1))]) (M1 := M) rfl ?_
  rw [show mv_w (0 + 1) = 0 + 1 from mv_w_id (by omega) (by omega)]
  rw [show (0 + 1 : Int) = 1 from by decide]
  refine mv_callP (st2 := [mv_I 5, mv_I 1]) rfl (Or.inl rfl) rfl rfl rfl (sp_len11) (by first | decide | omega) ?_
  refine mv_go' 1 (pc' := if 1 < 5 then 28 else 55) (ls' := [mv_R 28, mv_R 221, mv_I 1]) (st' := []) (M1 := M) rfl ?_
  refine mv_tt' (by first | decide | omega) ?_
  refine mv_go' 4 (pc' := 36) (ls' := [mv_R 28, mv_R 221, mv_I 1]) (st' := [mv_I (M 28 4), mv_R 29]) (M1 := M) rfl ?_
  rw [show M 28 4 = (q : Int) from by exact h4]
  refine mv_go' 2 (pc' := 38) (ls' := [mv_R 28, mv_R 221, mv_I 1]) (st' := [mv_I (mv_w ((q : Int) + 1)), mv_R 29]) (M1 := M) rfl ?_
  rw [show mv_w ((q : Int) + 1) = ((q + 1 : Nat) : Int) from by (rw [show mv_w ((q : Int) + 1) = (q : Int) + 1 from mv_w_id (by omega) (by omega)]) <;> omega]
  refine mv_go' 1 (pc' := if 0 ≤ ((q + 1 : Nat) : Int) ∧ ((q + 1 : Nat) : Int) < 160 then 39 else mv_bad) (ls' := [mv_R 28, mv_R 221, mv_I 1]) (st' := [mv_I (M 29 (q + 1))]) (M1 := M) rfl ?_
  refine mv_tt' (by omega) ?_
  rw [show M 29 (q + 1) = 105 from by exact k1]
  refine mv_go' 2 (pc' := 41) (ls' := [mv_R 28, mv_R 221, mv_I 1]) (st' := [mv_I 1, mv_R 221, mv_I 105]) (M1 := M) rfl ?_
  refine mv_callP (st2 := [mv_I 105, mv_I 105]) rfl (Or.inl rfl) rfl rfl rfl (sp_cha11 (j := 1) (by omega)) (by first | decide | omega) ?_
  refine mv_go' 1 (pc' := if 105 = 105 then 49 else 47) (ls' := [mv_R 28, mv_R 221, mv_I 1]) (st' := []) (M1 := M) rfl ?_
  refine mv_tt' (by first | decide | omega) ?_
  refine mv_go' 4 (pc' := 22) (ls' := [mv_R 28, mv_R 221, mv_I (mv_w (1 + 1))]) (st' := [mv_R 221, mv_I (mv_w (1 + 1))]) (M1 := M) rfl ?_
  rw [show mv_w (1 + 1) = 1 + 1 from mv_w_id (by omega) (by omega)]
  rw [show (1 + 1 : Int) = 2 from by decide]
  refine mv_callP (st2 := [mv_I 5, mv_I 2]) rfl (Or.inl rfl) rfl rfl rfl (sp_len11) (by first | decide | omega) ?_
  refine mv_go' 1 (pc' := if 2 < 5 then 28 else 55) (ls' := [mv_R 28, mv_R 221, mv_I 2]) (st' := []) (M1 := M) rfl ?_
  refine mv_tt' (by first | decide | omega) ?_
  refine mv_go' 4 (pc' := 36) (ls' := [mv_R 28, mv_R 221, mv_I 2]) (st' := [mv_I (M 28 4), mv_R 29]) (M1 := M) rfl ?_
  rw [show M 28 4 = (q : Int) from by exact h4]
  refine mv_go' 2 (pc' := 38) (ls' := [mv_R 28, mv_R 221, mv_I 2]) (st' := [mv_I (mv_w ((q : Int) + 2)), mv_R 29]) (M1 := M) rfl ?_
  rw [show mv_w ((q : Int) + 2) = ((q + 2 : Nat) : Int) from by (rw [show mv_w ((q : Int) + 2) = (q : Int) + 2 from mv_w_id (by omega) (by omega)]) <;> omega]
  refine mv_go' 1 (pc' := if 0 ≤ ((q + 2 : Nat) : Int) ∧ ((q + 2 : Nat) : Int) < 160 then 39 else mv_bad) (ls' := [mv_R 28, mv_R 221, mv_I 2]) (st' := [mv_I (M 29 (q + 2))]) (M1 := M) rfl ?_
  refine mv_tt' (by omega) ?_
  rw [show M 29 (q + 2) = 114 from by exact k2]
  refine mv_go' 2 (pc' := 41) (ls' := [mv_R 28, mv_R 221, mv_I 2]) (st' := [mv_I 2, mv_R 221, mv_I 114]) (M1 := M) rfl ?_
  refine mv_callP (st2 := [mv_I 114, mv_I 114]) rfl (Or.inl rfl) rfl rfl rfl (sp_cha11 (j := 2) (by omega)) (by first | decide | omega) ?_
  refine mv_go' 1 (pc' := if 114 = 114 then 49 else 47) (ls' := [mv_R 28, mv_R 221, mv_I 2]) (st' := []) (M1 := M) rfl ?_
  refine mv_tt' (by first | decide | omega) ?_
  refine mv_go' 4 (pc' := 22) (ls' := [mv_R 28, mv_R 221, mv_I (mv_w (2 + 1))]) (st' := [mv_R 221, mv_I (mv_w (2 + 1))]) (M1 := M) rfl ?_
  rw [show mv_w (2 + 1) = 2 + 1 from mv_w_id (by omega) (by omega)]
  rw [show (2 + 1 : Int) = 3 from by decide]
  refine mv_callP (st2 := [mv_I 5, mv_I 3]) rfl (Or.inl rfl) rfl rfl rfl (sp_len11) (by first | decide | omega) ?_
  refine mv_go' 1 (pc' := if 3 < 5 then 28 else 55) (ls' := [mv_R 28, mv_R 221, mv_I 3]) (st' := []) (M1 := M) rfl ?_
  refine mv_tt' (by first | decide | omega) ?_
  refine mv_go' 4 (pc' := 36) (ls' := [mv_R 28, mv_R 221, mv_I 3]) (st' := [mv_I (M 28 4), mv_R 29]) (M1 := M) rfl ?_
  rw [show M 28 4 = (q : Int) from by exact h4]
  refine mv_go' 2 (pc' := 38) (ls' := [mv_R 28, mv_R 221, mv_I 3]) (st' := [mv_I (mv_w ((q : Int) + 3)), mv_R 29]) (M1 := M) rfl ?_
  rw [show mv_w ((q : Int) + 3) = ((q + 3 : Nat) : Int) from by (rw [show mv_w ((q : Int) + 3) = (q : Int) + 3 from mv_w_id (by omega) (by omega)]) <;> omega]
  refine mv_go' 1 (pc' := if 0 ≤ ((q + 3 : Nat) : Int) ∧ ((q + 3 : Nat) : Int) < 160 then 39 else mv_bad) (ls' := [mv_R 28, mv_R 221, mv_I 3]) (st' := [mv_I (M 29 (q + 3))]) (M1 := M) rfl ?_
  refine mv_tt' (by omega) ?_
  rw [show M 29 (q + 3) = 101 from by exact k3]
  refine mv_go' 2 (pc' := 41) (ls' := [mv_R 28, mv_R 221, mv_I 3]) (st' := [mv_I 3, mv_R 221, mv_I 101]) (M1 := M) rfl ?_
  refine mv_callP (st2 := [mv_I 101, mv_I 101]) rfl (Or.inl rfl) rfl rfl rfl (sp_cha11 (j := 3) (by omega)) (by first | decide | omega) ?_
  refine mv_go' 1 (pc' := if 101 = 101 then 49 else 47) (ls' := [mv_R 28, mv_R 221, mv_I 3]) (st' := []) (M1 := M) rfl ?_
  refine mv_tt' (by first | decide | omega) ?_
  refine mv_go' 4 (pc' := 22) (ls' := [mv_R 28, mv_R 221, mv_I (mv_w (3 + 1))]) (st' := [mv_R 221, mv_I (mv_w (3 + 1))]) (M1 := M) rfl ?_
  rw [show mv_w (3 + 1) = 3 + 1 from mv_w_id (by omega) (by omega)]
  rw [show (3 + 1 : Int) = 4 from by decide]
  refine mv_callP (st2 := [mv_I 5, mv_I 4]) rfl (Or.inl rfl) rfl rfl rfl (sp_len11) (by first | decide | omega) ?_
  refine mv_go' 1 (pc' := if 4 < 5 then 28 else 55) (ls' := [mv_R 28, mv_R 221, mv_I 4]) (st' := []) (M1 := M) rfl ?_
  refine mv_tt' (by first | decide | omega) ?_
  refine mv_go' 4 (pc' := 36) (ls' := [mv_R 28, mv_R 221, mv_I 4]) (st' := [mv_I (M 28 4), mv_R 29]) (M1 := M) rfl ?_
  rw [show M 28 4 = (q : Int) from by exact h4]
  refine mv_go' 2 (pc' := 38) (ls' := [mv_R 28, mv_R 221, mv_I 4]) (st' := [mv_I (mv_w ((q : Int) + 4)), mv_R 29]) (M1 := M) rfl ?_
  rw [show mv_w ((q : Int) + 4) = ((q + 4 : Nat) : Int) from by (rw [show mv_w ((q : Int) + 4) = (q : Int) + 4 from mv_w_id (by omega) (by omega)]) <;> omega]
  refine mv_go' 1 (pc' := if 0 ≤ ((q + 4 : Nat) : Int) ∧ ((q + 4 : Nat) : Int) < 160 then 39 else mv_bad) (ls' := [mv_R 28, mv_R 221, mv_I 4]) (st' := [mv_I (M 29 (q + 4))]) (M1 := M) rfl ?_
  refine mv_tt' (by omega) ?_
  rw [show M 29 (q + 4) = 100 from by exact k4]
  refine mv_go' 2 (pc' := 41) (ls' := [mv_R 28, mv_R 221, mv_I 4]) (st' := [mv_I 4, mv_R 221, mv_I 100]) (M1 := M) rfl ?_
  refine mv_callP (st2 := [mv_I 100, mv_I 100]) rfl (Or.inl rfl) rfl rfl rfl (sp_cha11 (j := 4) (by omega)) (by first | decide | omega) ?_
  refine mv_go' 1 (pc' := if 100 = 100 then 49 else 47) (ls' := [mv_R 28, mv_R 221, mv_I 4]) (st' := []) (M1 := M) rfl ?_
  refine mv_tt' (by first | decide | omega) ?_
  refine mv_go' 4 (pc' := 22) (ls' := [mv_R 28, mv_R 221, mv_I (mv_w (4 + 1))]) (st' := [mv_R 221, mv_I (mv_w (4 + 1))]) (M1 := M) rfl ?_
  rw [show mv_w (4 + 1) = 4 + 1 from mv_w_id (by omega) (by omega)]
  rw [show (4 + 1 : Int) = 5 from by decide]
  refine mv_callP (st2 := [mv_I 5, mv_I 5]) rfl (Or.inl rfl) rfl rfl rfl (sp_len11) (by first | decide | omega) ?_
  refine mv_go' 1 (pc' := if 5 < 5 then 28 else 55) (ls' := [mv_R 28, mv_R 221, mv_I 5]) (st' := []) (M1 := M) rfl ?_
  refine mv_ff' (by first | decide | omega) ?_
  refine mv_go' 1 (pc' := 56) (ls' := [mv_R 28, mv_R 221, mv_I 5]) (st' := [mv_I 1]) (M1 := M) rfl ?_
  exact mv_ret (fun n => rfl) rfl
theorem sp_iw11_f {M : mv_M} {q e : Nat} (hq : q ≤ e) (he : e ≤ 160) (h4 : M 28 4 = (q : Int)) (h2 : M 28 2 = (e : Int)) (h : ¬ sp_wm 10 (M 29) q e) : mv_Ru 4 12 0 [mv_R 28, mv_R 221, mv_U] [] M (mv_I 0) (fun M1 => M1 = M) := by
  refine mv_go' 1 (pc' := 1) (ls' := [mv_R 28, mv_R 221, mv_U]) (st' := [mv_R 221]) (M1 := M) rfl ?_
  refine mv_callP (st2 := [mv_I 5]) rfl (Or.inl rfl) rfl rfl rfl (sp_len11) (by first | decide | omega) ?_
  refine mv_go' 2 (pc' := 8) (ls' := [mv_R 28, mv_R 221, mv_U]) (st' := [mv_I (M 28 2), mv_I 5]) (M1 := M) rfl ?_
  rw [show M 28 2 = (e : Int) from by exact h2]
  refine mv_go' 2 (pc' := 12) (ls' := [mv_R 28, mv_R 221, mv_U]) (st' := [mv_I (M 28 4), mv_I (e : Int), mv_I 5]) (M1 := M) rfl ?_
  rw [show M 28 4 = (q : Int) from by exact h4]
  refine mv_go' 2 (pc' := if 5 = (mv_w ((e : Int) - (q : Int))) then 18 else 16) (ls' := [mv_R 28, mv_R 221, mv_U]) (st' := []) (M1 := M) rfl ?_
  rw [show mv_w ((e : Int) - (q : Int)) = (e : Int) - (q : Int) from mv_w_id (by omega) (by omega)]
  refine mv_sp' (fun ha51 => ?_) (fun ha51 => ?_)
  · refine mv_go' 4 (pc' := 22) (ls' := [mv_R 28, mv_R 221, mv_I 0]) (st' := [mv_R 221, mv_I 0]) (M1 := M) rfl ?_
    refine mv_callP (st2 := [mv_I 5, mv_I 0]) rfl (Or.inl rfl) rfl rfl rfl (sp_len11) (by first | decide | omega) ?_
    refine mv_go' 1 (pc' := if 0 < 5 then 28 else 55) (ls' := [mv_R 28, mv_R 221, mv_I 0]) (st' := []) (M1 := M) rfl ?_
    refine mv_tt' (by first | decide | omega) ?_
    refine mv_go' 4 (pc' := 36) (ls' := [mv_R 28, mv_R 221, mv_I 0]) (st' := [mv_I (M 28 4), mv_R 29]) (M1 := M) rfl ?_
    rw [show M 28 4 = (q : Int) from by exact h4]
    refine mv_go' 2 (pc' := 38) (ls' := [mv_R 28, mv_R 221, mv_I 0]) (st' := [mv_I (mv_w ((q : Int) + 0)), mv_R 29]) (M1 := M) rfl ?_
    rw [show mv_w ((q : Int) + 0) = (q : Int) from by (rw [show mv_w ((q : Int) + 0) = (q : Int) + 0 from mv_w_id (by omega) (by omega)]) <;> omega]
    refine mv_go' 1 (pc' := if 0 ≤ (q : Int) ∧ (q : Int) < 160 then 39 else mv_bad) (ls' := [mv_R 28, mv_R 221, mv_I 0]) (st' := [mv_I (M 29 q)]) (M1 := M) rfl ?_
    refine mv_tt' (by omega) ?_
    refine mv_go' 2 (pc' := 41) (ls' := [mv_R 28, mv_R 221, mv_I 0]) (st' := [mv_I 0, mv_R 221, mv_I (M 29 q)]) (M1 := M) rfl ?_
    refine mv_callP (st2 := [mv_I 104, mv_I (M 29 q)]) rfl (Or.inl rfl) rfl rfl rfl (sp_cha11 (j := 0) (by omega)) (by first | decide | omega) ?_
    refine mv_go' 1 (pc' := if (M 29 q) = 104 then 49 else 47) (ls' := [mv_R 28, mv_R 221, mv_I 0]) (st' := []) (M1 := M) rfl ?_
    refine mv_sp' (fun ha52 => ?_) (fun ha52 => ?_)
    · refine mv_go' 4 (pc' := 22) (ls' := [mv_R 28, mv_R 221, mv_I (mv_w (0 + 1))]) (st' := [mv_R 221, mv_I (mv_w (0 + 1))]) (M1 := M) rfl ?_
      rw [show mv_w (0 + 1) = 0 + 1 from mv_w_id (by omega) (by omega)]
      rw [show (0 + 1 : Int) = 1 from by decide]
      refine mv_callP (st2 := [mv_I 5, mv_I 1]) rfl (Or.inl rfl) rfl rfl rfl (sp_len11) (by first | decide | omega) ?_
      refine mv_go' 1 (pc' := if 1 < 5 then 28 else 55) (ls' := [mv_R 28, mv_R 221, mv_I 1]) (st' := []) (M1 := M) rfl ?_
      refine mv_tt' (by first | decide | omega) ?_
      refine mv_go' 4 (pc' := 36) (ls' := [mv_R 28, mv_R 221, mv_I 1]) (st' := [mv_I (M 28 4), mv_R 29]) (M1 := M) rfl ?_
      rw [show M 28 4 = (q : Int) from by exact h4]
      refine mv_go' 2 (pc' := 38) (ls' := [mv_R 28, mv_R 221, mv_I 1]) (st' := [mv_I (mv_w ((q : Int) + 1)), mv_R 29]) (M1 := M) rfl ?_
      rw [show mv_w ((q : Int) + 1) = ((q + 1 : Nat) : Int) from by (rw [show mv_w ((q : Int) + 1) = (q : Int) + 1 from mv_w_id (by omega) (by omega)]) <;> omega]
      refine mv_go' 1 (pc' := if 0 ≤ ((q + 1 : Nat) : Int) ∧ ((q + 1 : Nat) : Int) < 160 then 39 else mv_bad) (ls' := [mv_R 28, mv_R 221, mv_I 1]) (st' := [mv_I (M 29 (q + 1))]) (M1 := M) rfl ?_
      refine mv_tt' (by omega) ?_
      refine mv_go' 2 (pc' := 41) (ls' := [mv_R 28, mv_R 221, mv_I 1]) (st' := [mv_I 1, mv_R 221, mv_I (M 29 (q + 1))]) (M1 := M) rfl ?_
      refine mv_callP (st2 := [mv_I 105, mv_I (M 29 (q + 1))]) rfl (Or.inl rfl) rfl rfl rfl (sp_cha11 (j := 1) (by omega)) (by first | decide | omega) ?_
      refine mv_go' 1 (pc' := if (M 29 (q + 1)) = 105 then 49 else 47) (ls' := [mv_R 28, mv_R 221, mv_I 1]) (st' := []) (M1 := M) rfl ?_
      refine mv_sp' (fun ha53 => ?_) (fun ha53 => ?_)
      · refine mv_go' 4 (pc' := 22) (ls' := [mv_R 28, mv_R 221, mv_I (mv_w (1 + 1))]) (st' := [mv_R 221, mv_I (mv_w (1 + 1))]) (M1 := M) rfl ?_
        rw [show mv_w (1 + 1) = 1 + 1 from mv_w_id (by omega) (by omega)]
        rw [show (1 + 1 : Int) = 2 from by decide]
        refine mv_callP (st2 := [mv_I 5, mv_I 2]) rfl (Or.inl rfl) rfl rfl rfl (sp_len11) (by first | decide | omega) ?_
        refine mv_go' 1 (pc' := if 2 < 5 then 28 else 55) (ls' := [mv_R 28, mv_R 221, mv_I 2]) (st' := []) (M1 := M) rfl ?_
        refine mv_tt' (by first | decide | omega) ?_
        refine mv_go' 4 (pc' := 36) (ls' := [mv_R 28, mv_R 221, mv_I 2]) (st' := [mv_I (M 28 4), mv_R 29]) (M1 := M) rfl ?_
        rw [show M 28 4 = (q : Int) from by exact h4]
        refine mv_go' 2 (pc' := 38) (ls' := [mv_R 28, mv_R 221, mv_I 2]) (st' := [mv_I (mv_w ((q : Int) + 2)), mv_R 29]) (M1 := M) rfl ?_
        rw [show mv_w ((q : Int) + 2) = ((q + 2 : Nat) : Int) from by (rw [show mv_w ((q : Int) + 2) = (q : Int) + 2 from mv_w_id (by omega) (by omega)]) <;> omega]
        refine mv_go' 1 (pc' := if 0 ≤ ((q + 2 : Nat) : Int) ∧ ((q + 2 : Nat) : Int) < 160 then 39 else mv_bad) (ls' := [mv_R 28, mv_R 221, mv_I 2]) (st' := [mv_I (M 29 (q + 2))]) (M1 := M) rfl ?_
        refine mv_tt' (by omega) ?_
        refine mv_go' 2 (pc' := 41) (ls' := [mv_R 28, mv_R 221, mv_I 2]) (st' := [mv_I 2, mv_R 221, mv_I (M 29 (q + 2))]) (M1 := M) rfl ?_
        refine mv_callP (st2 := [mv_I 114, mv_I (M 29 (q + 2))]) rfl (Or.inl rfl) rfl rfl rfl (sp_cha11 (j := 2) (by omega)) (by first | decide | omega) ?_
        refine mv_go' 1 (pc' := if (M 29 (q + 2)) = 114 then 49 else 47) (ls' := [mv_R 28, mv_R 221, mv_I 2]) (st' := []) (M1 := M) rfl ?_
        refine mv_sp' (fun ha54 => ?_) (fun ha54 => ?_)
        · refine mv_go' 4 (pc' := 22) (ls' := [mv_R 28, mv_R 221, mv_I (mv_w (2 + 1))]) (st' := [mv_R 221, mv_I (mv_w (2 + 1))]) (M1 := M) rfl ?_
          rw [show mv_w (2 + 1) = 2 + 1 from mv_w_id (by omega) (by omega)]
          rw [show (2 + 1 : Int) = 3 from by decide]
          refine mv_callP (st2 := [mv_I 5, mv_I 3]) rfl (Or.inl rfl) rfl rfl rfl (sp_len11) (by first | decide | omega) ?_
          refine mv_go' 1 (pc' := if 3 < 5 then 28 else 55) (ls' := [mv_R 28, mv_R 221, mv_I 3]) (st' := []) (M1 := M) rfl ?_
          refine mv_tt' (by first | decide | omega) ?_
          refine mv_go' 4 (pc' := 36) (ls' := [mv_R 28, mv_R 221, mv_I 3]) (st' := [mv_I (M 28 4), mv_R 29]) (M1 := M) rfl ?_
          rw [show M 28 4 = (q : Int) from by exact h4]
          refine mv_go' 2 (pc' := 38) (ls' := [mv_R 28, mv_R 221, mv_I 3]) (st' := [mv_I (mv_w ((q : Int) + 3)), mv_R 29]) (M1 := M) rfl ?_
          rw [show mv_w ((q : Int) + 3) = ((q + 3 : Nat) : Int) from by (rw [show mv_w ((q : Int) + 3) = (q : Int) + 3 from mv_w_id (by omega) (by omega)]) <;> omega]
          refine mv_go' 1 (pc' := if 0 ≤ ((q + 3 : Nat) : Int) ∧ ((q + 3 : Nat) : Int) < 160 then 39 else mv_bad) (ls' := [mv_R 28, mv_R 221, mv_I 3]) (st' := [mv_I (M 29 (q + 3))]) (M1 := M) rfl ?_
          refine mv_tt' (by omega) ?_
          refine mv_go' 2 (pc' := 41) (ls' := [mv_R 28, mv_R 221, mv_I 3]) (st' := [mv_I 3, mv_R 221, mv_I (M 29 (q + 3))]) (M1 := M) rfl ?_
          refine mv_callP (st2 := [mv_I 101, mv_I (M 29 (q + 3))]) rfl (Or.inl rfl) rfl rfl rfl (sp_cha11 (j := 3) (by omega)) (by first | decide | omega) ?_
          refine mv_go' 1 (pc' := if (M 29 (q + 3)) = 101 then 49 else 47) (ls' := [mv_R 28, mv_R 221, mv_I 3]) (st' := []) (M1 := M) rfl ?_
          refine mv_sp' (fun ha55 => ?_) (fun ha55 => ?_)
          · refine mv_go' 4 (pc' := 22) (ls' := [mv_R 28, mv_R 221, mv_I (mv_w (3 + 1))]) (st' := [mv_R 221, mv_I (mv_w (3 + 1))]) (M1 := M) rfl ?_
            rw [show mv_w (3 + 1) = 3 + 1 from mv_w_id (by omega) (by omega)]
            rw [show (3 + 1 : Int) = 4 from by decide]
            refine mv_callP (st2 := [mv_I 5, mv_I 4]) rfl (Or.inl rfl) rfl rfl rfl (sp_len11) (by first | decide | omega) ?_
            refine mv_go' 1 (pc' := if 4 < 5 then 28 else 55) (ls' := [mv_R 28, mv_R 221, mv_I 4]) (st' := []) (M1 := M) rfl ?_
            refine mv_tt' (by first | decide | omega) ?_
            refine mv_go' 4 (pc' := 36) (ls' := [mv_R 28, mv_R 221, mv_I 4]) (st' := [mv_I (M 28 4), mv_R 29]) (M1 := M) rfl ?_
            rw [show M 28 4 = (q : Int) from by exact h4]
            refine mv_go' 2 (pc' := 38) (ls' := [mv_R 28, mv_R 221, mv_I 4]) (st' := [mv_I (mv_w ((q : Int) + 4)), mv_R 29]) (M1 := M) rfl ?_
            rw [show mv_w ((q : Int) + 4) = ((q + 4 : Nat) : Int) from by (rw [show mv_w ((q : Int) + 4) = (q : Int) + 4 from mv_w_id (by omega) (by omega)]) <;> omega]
            refine mv_go' 1 (pc' := if 0 ≤ ((q + 4 : Nat) : Int) ∧ ((q + 4 : Nat) : Int) < 160 then 39 else mv_bad) (ls' := [mv_R 28, mv_R 221, mv_I 4]) (st' := [mv_I (M 29 (q + 4))]) (M1 := M) rfl ?_
            refine mv_tt' (by omega) ?_
            refine mv_go' 2 (pc' := 41) (ls' := [mv_R 28, mv_R 221, mv_I 4]) (st' := [mv_I 4, mv_R 221, mv_I (M 29 (q + 4))]) (M1 := M) rfl ?_
            refine mv_callP (st2 := [mv_I 100, mv_I (M 29 (q + 4))]) rfl (Or.inl rfl) rfl rfl rfl (sp_cha11 (j := 4) (by omega)) (by first | decide | omega) ?_
            refine mv_go' 1 (pc' := if (M 29 (q + 4)) = 100 then 49 else 47) (ls' := [mv_R 28, mv_R 221, mv_I 4]) (st' := []) (M1 := M) rfl ?_
            refine mv_sp' (fun ha56 => ?_) (fun ha56 => ?_)
            · refine mv_go' 4 (pc' := 22) (ls' := [mv_R 28, mv_R 221, mv_I (mv_w (4 + 1))]) (st' := [mv_R 221, mv_I (mv_w (4 + 1))]) (M1 := M) rfl ?_
              rw [show mv_w (4 + 1) = 4 + 1 from mv_w_id (by omega) (by omega)]
              rw [show (4 + 1 : Int) = 5 from by decide]
              refine mv_callP (st2 := [mv_I 5, mv_I 5]) rfl (Or.inl rfl) rfl rfl rfl (sp_len11) (by first | decide | omega) ?_
              refine mv_go' 1 (pc' := if 5 < 5 then 28 else 55) (ls' := [mv_R 28, mv_R 221, mv_I 5]) (st' := []) (M1 := M) rfl ?_
              refine mv_ff' (by first | decide | omega) ?_
              refine mv_go' 1 (pc' := 56) (ls' := [mv_R 28, mv_R 221, mv_I 5]) (st' := [mv_I 1]) (M1 := M) rfl ?_
              exact mv_Ru.val (mv_ret (fun n => rfl) rfl) (congrArg mv_I (by first | with_reducible rfl | exact absurd (show sp_wm 10 (M 29) q e from ⟨by show e = q + 5; omega, by assumption, by assumption, by assumption, by assumption, by assumption, trivial⟩) h))
            · refine mv_go' 1 (pc' := 48) (ls' := [mv_R 28, mv_R 221, mv_I 4]) (st' := [mv_I 0]) (M1 := M) rfl ?_
              exact mv_Ru.val (mv_ret (fun n => rfl) rfl) (congrArg mv_I (by first | with_reducible rfl | exact absurd (show sp_wm 10 (M 29) q e from ⟨by show e = q + 5; omega, by assumption, by assumption, by assumption, by assumption, by assumption, trivial⟩) h))
          · refine mv_go' 1 (pc' := 48) (ls' := [mv_R 28, mv_R 221, mv_I 3]) (st' := [mv_I 0]) (M1 := M) rfl ?_
            exact mv_Ru.val (mv_ret (fun n => rfl) rfl) (congrArg mv_I (by first | with_reducible rfl | exact absurd (show sp_wm 10 (M 29) q e from ⟨by show e = q + 5; omega, by assumption, by assumption, by assumption, by assumption, by assumption, trivial⟩) h))
        · refine mv_go' 1 (pc' := 48) (ls' := [mv_R 28, mv_R 221, mv_I 2]) (st' := [mv_I 0]) (M1 := M) rfl ?_
          exact mv_Ru.val (mv_ret (fun n => rfl) rfl) (congrArg mv_I (by first | with_reducible rfl | exact absurd (show sp_wm 10 (M 29) q e from ⟨by show e = q + 5; omega, by assumption, by assumption, by assumption, by assumption, by assumption, trivial⟩) h))
      · refine mv_go' 1 (pc' := 48) (ls' := [mv_R 28, mv_R 221, mv_I 1]) (st' := [mv_I 0]) (M1 := M) rfl ?_
        exact mv_Ru.val (mv_ret (fun n => rfl) rfl) (congrArg mv_I (by first | with_reducible rfl | exact absurd (show sp_wm 10 (M 29) q e from ⟨by show e = q + 5; omega, by assumption, by assumption, by assumption, by assumption, by assumption, trivial⟩) h))
    · refine mv_go' 1 (pc' := 48) (ls' := [mv_R 28, mv_R 221, mv_I 0]) (st' := [mv_I 0]) (M1 := M) rfl ?_
      exact mv_Ru.val (mv_ret (fun n => rfl) rfl) (congrArg mv_I (by first | with_reducible rfl | exact absurd (show sp_wm 10 (M 29) q e from ⟨by show e = q + 5; omega, by assumption, by assumption, by assumption, by assumption, by assumption, trivial⟩) h))
  · refine mv_go' 1 (pc' := 17) (ls' := [mv_R 28, mv_R 221, mv_U]) (st' := [mv_I 0]) (M1 := M) rfl ?_
    exact mv_Ru.val (mv_ret (fun n => rfl) rfl) (congrArg mv_I (by first | with_reducible rfl | exact absurd (show sp_wm 10 (M 29) q e from ⟨by show e = q + 5; omega, by assumption, by assumption, by assumption, by assumption, by assumption, trivial⟩) h))
theorem sp_iw12_t {M : mv_M} {q e : Nat} (he : e ≤ 160) (h4 : M 28 4 = (q : Int)) (h2 : M 28 2 = (e : Int)) (h : sp_wm 11 (M 29) q e) : mv_Ru 4 12 0 [mv_R 28, mv_R 222, mv_U] [] M (mv_I 1) (fun M1 => M1 = M) := by
  have h1 : e = q + 4 := h.1
  obtain ⟨_, k0, k1, k2, k3, _⟩ := h
  refine mv_go' 1 (pc' := 1) (ls' := [mv_R 28, mv_R 222, mv_U]) (st' := [mv_R 222]) (M1 := M) rfl ?_
  refine mv_callP (st2 := [mv_I 4]) rfl (Or.inl rfl) rfl rfl rfl (sp_len12) (by first | decide | omega) ?_
  refine mv_go' 2 (pc' := 8) (ls' := [mv_R 28, mv_R 222, mv_U]) (st' := [mv_I (M 28 2), mv_I 4]) (M1 := M) rfl ?_
  rw [show M 28 2 = (e : Int) from by exact h2]
  refine mv_go' 2 (pc' := 12) (ls' := [mv_R 28, mv_R 222, mv_U]) (st' := [mv_I (M 28 4), mv_I (e : Int), mv_I 4]) (M1 := M) rfl ?_
  rw [show M 28 4 = (q : Int) from by exact h4]
  refine mv_go' 2 (pc' := if 4 = (mv_w ((e : Int) - (q : Int))) then 18 else 16) (ls' := [mv_R 28, mv_R 222, mv_U]) (st' := []) (M1 := M) rfl ?_
  rw [show mv_w ((e : Int) - (q : Int)) = (e : Int) - (q : Int) from mv_w_id (by omega) (by omega)]
  refine mv_tt' (by omega) ?_
  refine mv_go' 4 (pc' := 22) (ls' := [mv_R 28, mv_R 222, mv_I 0]) (st' := [mv_R 222, mv_I 0]) (M1 := M) rfl ?_
  refine mv_callP (st2 := [mv_I 4, mv_I 0]) rfl (Or.inl rfl) rfl rfl rfl (sp_len12) (by first | decide | omega) ?_
  refine mv_go' 1 (pc' := if 0 < 4 then 28 else 55) (ls' := [mv_R 28, mv_R 222, mv_I 0]) (st' := []) (M1 := M) rfl ?_
  refine mv_tt' (by first | decide | omega) ?_
  refine mv_go' 4 (pc' := 36) (ls' := [mv_R 28, mv_R 222, mv_I 0]) (st' := [mv_I (M 28 4), mv_R 29]) (M1 := M) rfl ?_
  rw [show M 28 4 = (q : Int) from by exact h4]
  refine mv_go' 2 (pc' := 38) (ls' := [mv_R 28, mv_R 222, mv_I 0]) (st' := [mv_I (mv_w ((q : Int) + 0)), mv_R 29]) (M1 := M) rfl ?_
  rw [show mv_w ((q : Int) + 0) = (q : Int) from by (rw [show mv_w ((q : Int) + 0) = (q : Int) + 0 from mv_w_id (by omega) (by omega)]) <;> omega]
  refine mv_go' 1 (pc' := if 0 ≤ (q : Int) ∧ (q : Int) < 160 then 39 else mv_bad) (ls' := [mv_R 28, mv_R 222, mv_I 0]) (st' := [mv_I (M 29 q)]) (M1 := M) rfl ?_
  refine mv_tt' (by omega) ?_
  rw [show M 29 q = 109 from by exact k0]
  refine mv_go' 2 (pc' := 41) (ls' := [mv_R 28, mv_R 222, mv_I 0]) (st' := [mv_I 0, mv_R 222, mv_I 109]) (M1 := M) rfl ?_
  refine mv_callP (st2 := [mv_I 109, mv_I 109]) rfl (Or.inl rfl) rfl rfl rfl (sp_cha12 (j := 0) (by omega)) (by first | decide | omega) ?_
  refine mv_go' 1 (pc' := if 109 = 109 then 49 else 47) (ls' := [mv_R 28, mv_R 222, mv_I 0]) (st' := []) (M1 := M) rfl ?_
  refine mv_tt' (by first | decide | omega) ?_
  refine mv_go' 4 (pc' := 22) (ls' := [mv_R 28, mv_R 222, mv_I (mv_w (0 + 1))]) (st' := [mv_R 222, mv_I (mv_w (0 + 1))]) (M1 := M) rfl ?_
  rw [show mv_w (0 + 1) = 0 + 1 from mv_w_id (by omega) (by omega)]
  rw [show (0 + 1 : Int) = 1 from by decide]
  refine mv_callP (st2 := [mv_I 4, mv_I 1]) rfl (Or.inl rfl) rfl rfl rfl (sp_len12) (by first | decide | omega) ?_
  refine mv_go' 1 (pc' := if 1 < 4 then 28 else 55) (ls' := [mv_R 28, mv_R 222, mv_I 1]) (st' := []) (M1 := M) rfl ?_
  refine mv_tt' (by first | decide | omega) ?_
  refine mv_go' 4 (pc' := 36) (ls' := [mv_R 28, mv_R 222, mv_I 1]) (st' := [mv_I (M 28 4), mv_R 29]) (M1 := M) rfl ?_
  rw [show M 28 4 = (q : Int) from by exact h4]
  refine mv_go' 2 (pc' := 38) (ls' := [mv_R 28, mv_R 222, mv_I 1]) (st' := [mv_I (mv_w ((q : Int) + 1)), mv_R 29]) (M1 := M) rfl ?_
  rw [show mv_w ((q : Int) + 1) = ((q + 1 : Nat) : Int) from by (rw [show mv_w ((q : Int) + 1) = (q : Int) + 1 from mv_w_id (by omega) (by omega)]) <;> omega]
  refine mv_go' 1 (pc' := if 0 ≤ ((q + 1 : Nat) : Int) ∧ ((q + 1 : Nat) : Int) < 160 then 39 else mv_bad) (ls' := [mv_R 28, mv_R 222, mv_I 1]) (st' := [mv_I (M 29 (q + 1))]) (M1 := M) rfl ?_
  refine mv_tt' (by omega) ?_
  rw [show M 29 (q + 1) = 111 from by exact k1]
  refine mv_go' 2 (pc' := 41) (ls' := [mv_R 28, mv_R 222, mv_I 1]) (st' := [mv_I 1, mv_R 222, mv_I 111]) (M1 := M) rfl ?_
  refine mv_callP (st2 := [mv_I 111, mv_I 111]) rfl (Or.inl rfl) rfl rfl rfl (sp_cha12 (j := 1) (by omega)) (by first | decide | omega) ?_
  refine mv_go' 1 (pc' := if 111 = 111 then 49 else 47) (ls' := [mv_R 28, mv_R 222, mv_I 1]) (st' := []) (M1 := M) rfl ?_
  refine mv_tt' (by first | decide | omega) ?_
  refine mv_go' 4 (pc' := 22) (ls' := [mv_R 28, mv_R 222, mv_I (mv_w (1 + 1))]) (st' := [mv_R 222, mv_I (mv_w (1 + 1))]) (M1 := M) rfl ?_
  rw [show mv_w (1 + 1) = 1 + 1 from mv_w_id (by omega) (by omega)]
  rw [show (1 + 1 : Int) = 2 from by decide]
  refine mv_callP (st2 := [mv_I 4, mv_I 2]) rfl (Or.inl rfl) rfl rfl rfl (sp_len12) (by first | decide | omega) ?_
  refine mv_go' 1 (pc' := if 2 < 4 then 28 else 55) (ls' := [mv_R 28, mv_R 222, mv_I 2]) (st' := []) (M1 := M) rfl ?_
  refine mv_tt' (by first | decide | omega) ?_
  refine mv_go' 4 (pc' := 36) (ls' := [mv_R 28, mv_R 222, mv_I 2]) (st' := [mv_I (M 28 4), mv_R 29]) (M1 := M) rfl ?_
  rw [show M 28 4 = (q : Int) from by exact h4]
  refine mv_go' 2 (pc' := 38) (ls' := [mv_R 28, mv_R 222, mv_I 2]) (st' := [mv_I (mv_w ((q : Int) + 2)), mv_R 29]) (M1 := M) rfl ?_
  rw [show mv_w ((q : Int) + 2) = ((q + 2 : Nat) : Int) from by (rw [show mv_w ((q : Int) + 2) = (q : Int) + 2 from mv_w_id (by omega) (by omega)]) <;> omega]
  refine mv_go' 1 (pc' := if 0 ≤ ((q + 2 : Nat) : Int) ∧ ((q + 2 : Nat) : Int) < 160 then 39 else mv_bad) (ls' := [mv_R 28, mv_R 222, mv_I 2]) (st' := [mv_I (M 29 (q + 2))]) (M1 := M) rfl ?_
  refine mv_tt' (by omega) ?_
  rw [show M 29 (q + 2) = 114 from by exact k2]
  refine mv_go' 2 (pc' := 41) (ls' := [mv_R 28, mv_R 222, mv_I 2]) (st' := [mv_I 2, mv_R 222, mv_I 114]) (M1 := M) rfl ?_
  refine mv_callP (st2 := [mv_I 114, mv_I 114]) rfl (Or.inl rfl) rfl rfl rfl (sp_cha12 (j := 2) (by omega)) (by first | decide | omega) ?_
  refine mv_go' 1 (pc' := if 114 = 114 then 49 else 47) (ls' := [mv_R 28, mv_R 222, mv_I 2]) (st' := []) (M1 := M) rfl ?_
  refine mv_tt' (by first | decide | omega) ?_
  refine mv_go' 4 (pc' := 22) (ls' := [mv_R 28, mv_R 222, mv_I (mv_w (2 + 1))]) (st' := [mv_R 222, mv_I (mv_w (2 + 1))]) (M1 := M) rfl ?_
  rw [show mv_w (2 + 1) = 2 + 1 from mv_w_id (by omega) (by omega)]
  rw [show (2 + 1 : Int) = 3 from by decide]
  refine mv_callP (st2 := [mv_I 4, mv_I 3]) rfl (Or.inl rfl) rfl rfl rfl (sp_len12) (by first | decide | omega) ?_
  refine mv_go' 1 (pc' := if 3 < 4 then 28 else 55) (ls' := [mv_R 28, mv_R 222, mv_I 3]) (st' := []) (M1 := M) rfl ?_
  refine mv_tt' (by first | decide | omega) ?_
  refine mv_go' 4 (pc' := 36) (ls' := [mv_R 28, mv_R 222, mv_I 3]) (st' := [mv_I (M 28 4), mv_R 29]) (M1 := M) rfl ?_
  rw [show M 28 4 = (q : Int) from by exact h4]
  refine mv_go' 2 (pc' := 38) (ls' := [mv_R 28, mv_R 222, mv_I 3]) (st' := [mv_I (mv_w ((q : Int) + 3)), mv_R 29]) (M1 := M) rfl ?_
  rw [show mv_w ((q : Int) + 3) = ((q + 3 : Nat) : Int) from by (rw [show mv_w ((q : Int) + 3) = (q : Int) + 3 from mv_w_id (by omega) (by omega)]) <;> omega]
  refine mv_go' 1 (pc' := if 0 ≤ ((q + 3 : Nat) : Int) ∧ ((q + 3 : Nat) : Int) < 160 then 39 else mv_bad) (ls' := [mv_R 28, mv_R 222, mv_I 3]) (st' := [mv_I (M 29 (q + 3))]) (M1 := M) rfl ?_
  refine mv_tt' (by omega) ?_
  rw [show M 29 (q + 3) = 101 from by exact k3]
  refine mv_go' 2 (pc' := 41) (ls' := [mv_R 28, mv_R 222, mv_I 3]) (st' := [mv_I 3, mv_R 222, mv_I 101]) (M1 := M) rfl ?_
  refine mv_callP (st2 := [mv_I 101, mv_I 101]) rfl (Or.inl rfl) rfl rfl rfl (sp_cha12 (j := 3) (by omega)) (by first | decide | omega) ?_
  refine mv_go' 1 (pc' := if 101 = 101 then 49 else 47) (ls' := [mv_R 28, mv_R 222, mv_I 3]) (st' := []) (M1 := M) rfl ?_
  refine mv_tt' (by first | decide | omega) ?_
  refine mv_go' 4 (pc' := 22) (ls' := [mv_R 28, mv_R 222, mv_I (mv_w (3 + 1))]) (st' := [mv_R 222, mv_I (mv_w (3 + 1))]) (M1 := M) rfl ?_
  rw [show mv_w (3 + 1) = 3 + 1 from mv_w_id (by omega) (by omega)]
  rw [show (3 + 1 : Int) = 4 from by decide]
  refine mv_callP (st2 := [mv_I 4, mv_I 4]) rfl (Or.inl rfl) rfl rfl rfl (sp_len12) (by first | decide | omega) ?_
  refine mv_go' 1 (pc' := if 4 < 4 then 28 else 55) (ls' := [mv_R 28, mv_R 222, mv_I 4]) (st' := []) (M1 := M) rfl ?_
  refine mv_ff' (by first | decide | omega) ?_
  refine mv_go' 1 (pc' := 56) (ls' := [mv_R 28, mv_R 222, mv_I 4]) (st' := [mv_I 1]) (M1 := M) rfl ?_
  exact mv_ret (fun n => rfl) rfl
theorem sp_iw12_f {M : mv_M} {q e : Nat} (hq : q ≤ e) (he : e ≤ 160) (h4 : M 28 4 = (q : Int)) (h2 : M 28 2 = (e : Int)) (h : ¬ sp_wm 11 (M 29) q e) : mv_Ru 4 12 0 [mv_R 28, mv_R 222, mv_U] [] M (mv_I 0) (fun M1 => M1 = M) := by
  refine mv_go' 1 (pc' := 1) (ls' := [mv_R 28, mv_R 222, mv_U]) (st' := [mv_R 222]) (M1 := M) rfl ?_
  refine mv_callP (st2 := [mv_I 4]) rfl (Or.inl rfl) rfl rfl rfl (sp_len12) (by first | decide | omega) ?_
  refine mv_go' 2 (pc' := 8) (ls' := [mv_R 28, mv_R 222, mv_U]) (st' := [mv_I (M 28 2), mv_I 4]) (M1 := M) rfl ?_
  rw [show M 28 2 = (e : Int) from by exact h2]
  refine mv_go' 2 (pc' := 12) (ls' := [mv_R 28, mv_R 222, mv_U]) (st' := [mv_I (M 28 4), mv_I (e : Int), mv_I 4]) (M1 := M) rfl ?_
  rw [show M 28 4 = (q : Int) from by exact h4]
  refine mv_go' 2 (pc' := if 4 = (mv_w ((e : Int) - (q : Int))) then 18 else 16) (ls' := [mv_R 28, mv_R 222, mv_U]) (st' := []) (M1 := M) rfl ?_
  rw [show mv_w ((e : Int) - (q : Int)) = (e : Int) - (q : Int) from mv_w_id (by omega) (by omega)]
  refine mv_sp' (fun ha57 => ?_) (fun ha57 => ?_)
  · refine mv_go' 4 (pc' := 22) (ls' := [mv_R 28, mv_R 222, mv_I 0]) (st' := [mv_R 222, mv_I 0]) (M1 := M) rfl ?_
    refine mv_callP (st2 := [mv_I 4, mv_I 0]) rfl (Or.inl rfl) rfl rfl rfl (sp_len12) (by first | decide | omega) ?_
    refine mv_go' 1 (pc' := if 0 < 4 then 28 else 55) (ls' := [mv_R 28, mv_R 222, mv_I 0]) (st' := []) (M1 := M) rfl ?_
    refine mv_tt' (by first | decide | omega) ?_
    refine mv_go' 4 (pc' := 36) (ls' := [mv_R 28, mv_R 222, mv_I 0]) (st' := [mv_I (M 28 4), mv_R 29]) (M1 := M) rfl ?_
    rw [show M 28 4 = (q : Int) from by exact h4]
    refine mv_go' 2 (pc' := 38) (ls' := [mv_R 28, mv_R 222, mv_I 0]) (st' := [mv_I (mv_w ((q : Int) + 0)), mv_R 29]) (M1 := M) rfl ?_
    rw [show mv_w ((q : Int) + 0) = (q : Int) from by (rw [show mv_w ((q : Int) + 0) = (q : Int) + 0 from mv_w_id (by omega) (by omega)]) <;> omega]
    refine mv_go' 1 (pc' := if 0 ≤ (q : Int) ∧ (q : Int) < 160 then 39 else mv_bad) (ls' := [mv_R 28, mv_R 222, mv_I 0]) (st' := [mv_I (M 29 q)]) (M1 := M) rfl ?_
    refine mv_tt' (by omega) ?_
    refine mv_go' 2 (pc' := 41) (ls' := [mv_R 28, mv_R 222, mv_I 0]) (st' := [mv_I 0, mv_R 222, mv_I (M 29 q)]) (M1 := M) rfl ?_
    refine mv_callP (st2 := [mv_I 109, mv_I (M 29 q)]) rfl (Or.inl rfl) rfl rfl rfl (sp_cha12 (j := 0) (by omega)) (by first | decide | omega) ?_
    refine mv_go' 1 (pc' := if (M 29 q) = 109 then 49 else 47) (ls' := [mv_R 28, mv_R 222, mv_I 0]) (st' := []) (M1 := M) rfl ?_
    refine mv_sp' (fun ha58 => ?_) (fun ha58 => ?_)
    · refine mv_go' 4 (pc' := 22) (ls' := [mv_R 28, mv_R 222, mv_I (mv_w (0 + 1))]) (st' := [mv_R 222, mv_I (mv_w (0 + 1))]) (M1 := M) rfl ?_
      rw [show mv_w (0 + 1) = 0 + 1 from mv_w_id (by omega) (by omega)]
      rw [show (0 + 1 : Int) = 1 from by decide]
      refine mv_callP (st2 := [mv_I 4, mv_I 1]) rfl (Or.inl rfl) rfl rfl rfl (sp_len12) (by first | decide | omega) ?_
      refine mv_go' 1 (pc' := if 1 < 4 then 28 else 55) (ls' := [mv_R 28, mv_R 222, mv_I 1]) (st' := []) (M1 := M) rfl ?_
      refine mv_tt' (by first | decide | omega) ?_
      refine mv_go' 4 (pc' := 36) (ls' := [mv_R 28, mv_R 222, mv_I 1]) (st' := [mv_I (M 28 4), mv_R 29]) (M1 := M) rfl ?_
      rw [show M 28 4 = (q : Int) from by exact h4]
      refine mv_go' 2 (pc' := 38) (ls' := [mv_R 28, mv_R 222, mv_I 1]) (st' := [mv_I (mv_w ((q : Int) + 1)), mv_R 29]) (M1 := M) rfl ?_
      rw [show mv_w ((q : Int) + 1) = ((q + 1 : Nat) : Int) from by (rw [show mv_w ((q : Int) + 1) = (q : Int) + 1 from mv_w_id (by omega) (by omega)]) <;> omega]
      refine mv_go' 1 (pc' := if 0 ≤ ((q + 1 : Nat) : Int) ∧ ((q + 1 : Nat) : Int) < 160 then 39 else mv_bad) (ls' := [mv_R 28, mv_R 222, mv_I 1]) (st' := [mv_I (M 29 (q + 1))]) (M1 := M) rfl ?_
      refine mv_tt' (by omega) ?_
      refine mv_go' 2 (pc' := 41) (ls' := [mv_R 28, mv_R 222, mv_I 1]) (st' := [mv_I 1, mv_R 222, mv_I (M 29 (q + 1))]) (M1 := M) rfl ?_
      refine mv_callP (st2 := [mv_I 111, mv_I (M 29 (q + 1))]) rfl (Or.inl rfl) rfl rfl rfl (sp_cha12 (j := 1) (by omega)) (by first | decide | omega) ?_
      refine mv_go' 1 (pc' := if (M 29 (q + 1)) = 111 then 49 else 47) (ls' := [mv_R 28, mv_R 222, mv_I 1]) (st' := []) (M1 := M) rfl ?_
      refine mv_sp' (fun ha59 => ?_) (fun ha59 => ?_)
      · refine mv_go' 4 (pc' := 22) (ls' := [mv_R 28, mv_R 222, mv_I (mv_w (1 + 1))]) (st' := [mv_R 222, mv_I (mv_w (1 + 1))]) (M1 := M) rfl ?_
        rw [show mv_w (1 + 1) = 1 + 1 from mv_w_id (by omega) (by omega)]
        rw [show (1 + 1 : Int) = 2 from by decide]
        refine mv_callP (st2 := [mv_I 4, mv_I 2]) rfl (Or.inl rfl) rfl rfl rfl (sp_len12) (by first | decide | omega) ?_
        refine mv_go' 1 (pc' := if 2 < 4 then 28 else 55) (ls' := [mv_R 28, mv_R 222, mv_I 2]) (st' := []) (M1 := M) rfl ?_
        refine mv_tt' (by first | decide | omega) ?_
        refine mv_go' 4 (pc' := 36) (ls' := [mv_R 28, mv_R 222, mv_I 2]) (st' := [mv_I (M 28 4), mv_R 29]) (M1 := M) rfl ?_
        rw [show M 28 4 = (q : Int) from by exact h4]
        refine mv_go' 2 (pc' := 38) (ls' := [mv_R 28, mv_R 222, mv_I 2]) (st' := [mv_I (mv_w ((q : Int) + 2)), mv_R 29]) (M1 := M) rfl ?_
        rw [show mv_w ((q : Int) + 2) = ((q + 2 : Nat) : Int) from by (rw [show mv_w ((q : Int) + 2) = (q : Int) + 2 from mv_w_id (by omega) (by omega)]) <;> omega]
        refine mv_go' 1 (pc' := if 0 ≤ ((q + 2 : Nat) : Int) ∧ ((q + 2 : Nat) : Int) < 160 then 39 else mv_bad) (ls' := [mv_R 28, mv_R 222, mv_I 2]) (st' := [mv_I (M 29 (q + 2))]) (M1 := M) rfl ?_
        refine mv_tt' (by omega) ?_
        refine mv_go' 2 (pc' := 41) (ls' := [mv_R 28, mv_R 222, mv_I 2]) (st' := [mv_I 2, mv_R 222, mv_I (M 29 (q + 2))]) (M1 := M) rfl ?_
        refine mv_callP (st2 := [mv_I 114, mv_I (M 29 (q + 2))]) rfl (Or.inl rfl) rfl rfl rfl (sp_cha12 (j := 2) (by omega)) (by first | decide | omega) ?_
        refine mv_go' 1 (pc' := if (M 29 (q + 2)) = 114 then 49 else 47) (ls' := [mv_R 28, mv_R 222, mv_I 2]) (st' := []) (M1 := M) rfl ?_
        refine mv_sp' (fun ha60 => ?_) (fun ha60 => ?_)
        · refine mv_go' 4 (pc' := 22) (ls' := [mv_R 28, mv_R 222, mv_I (mv_w (2 + 1))]) (st' := [mv_R 222, mv_I (mv_w (2 + 1))]) (M1 := M) rfl ?_
          rw [show mv_w (2 + 1) = 2 + 1 from mv_w_id (by omega) (by omega)]
          rw [show (2 + 1 : Int) = 3 from by decide]
          refine mv_callP (st2 := [mv_I 4, mv_I 3]) rfl (Or.inl rfl) rfl rfl rfl (sp_len12) (by first | decide | omega) ?_
          refine mv_go' 1 (pc' := if 3 < 4 then 28 else 55) (ls' := [mv_R 28, mv_R 222, mv_I 3]) (st' := []) (M1 := M) rfl ?_
          refine mv_tt' (by first | decide | omega) ?_
          refine mv_go' 4 (pc' := 36) (ls' := [mv_R 28, mv_R 222, mv_I 3]) (st' := [mv_I (M 28 4), mv_R 29]) (M1 := M) rfl ?_
          rw [show M 28 4 = (q : Int) from by exact h4]
          refine mv_go' 2 (pc' := 38) (ls' := [mv_R 28, mv_R 222, mv_I 3]) (st' := [mv_I (mv_w ((q : Int) + 3)), mv_R 29]) (M1 := M) rfl ?_
          rw [show mv_w ((q : Int) + 3) = ((q + 3 : Nat) : Int) from by (rw [show mv_w ((q : Int) + 3) = (q : Int) + 3 from mv_w_id (by omega) (by omega)]) <;> omega]
          refine mv_go' 1 (pc' := if 0 ≤ ((q + 3 : Nat) : Int) ∧ ((q + 3 : Nat) : Int) < 160 then 39 else mv_bad) (ls' := [mv_R 28, mv_R 222, mv_I 3]) (st' := [mv_I (M 29 (q + 3))]) (M1 := M) rfl ?_
          refine mv_tt' (by omega) ?_
          refine mv_go' 2 (pc' := 41) (ls' := [mv_R 28, mv_R 222, mv_I 3]) (st' := [mv_I 3, mv_R 222, mv_I (M 29 (q + 3))]) (M1 := M) rfl ?_
          refine mv_callP (st2 := [mv_I 101, mv_I (M 29 (q + 3))]) rfl (Or.inl rfl) rfl rfl rfl (sp_cha12 (j := 3) (by omega)) (by first | decide | omega) ?_
          refine mv_go' 1 (pc' := if (M 29 (q + 3)) = 101 then 49 else 47) (ls' := [mv_R 28, mv_R 222, mv_I 3]) (st' := []) (M1 := M) rfl ?_
          refine mv_sp' (fun ha61 => ?_) (fun ha61 => ?_)
          · refine mv_go' 4 (pc' := 22) (ls' := [mv_R 28, mv_R 222, mv_I (mv_w (3 + 1))]) (st' := [mv_R 222, mv_I (mv_w (3 + 1))]) (M1 := M) rfl ?_
            rw [show mv_w (3 + 1) = 3 + 1 from mv_w_id (by omega) (by omega)]
            rw [show (3 + 1 : Int) = 4 from by decide]
            refine mv_callP (st2 := [mv_I 4, mv_I 4]) rfl (Or.inl rfl) rfl rfl rfl (sp_len12) (by first | decide | omega) ?_
            refine mv_go' 1 (pc' := if 4 < 4 then 28 else 55) (ls' := [mv_R 28, mv_R 222, mv_I 4]) (st' := []) (M1 := M) rfl ?_
            refine mv_ff' (by first | decide | omega) ?_
            refine mv_go' 1 (pc' := 56) (ls' := [mv_R 28, mv_R 222, mv_I 4]) (st' := [mv_I 1]) (M1 := M) rfl ?_
            exact mv_Ru.val (mv_ret (fun n => rfl) rfl) (congrArg mv_I (by first | with_reducible rfl | exact absurd (show sp_wm 11 (M 29) q e from ⟨by show e = q + 4; omega, by assumption, by assumption, by assumption, by assumption, trivial⟩) h))
          · refine mv_go' 1 (pc' := 48) (ls' := [mv_R 28, mv_R 222, mv_I 3]) (st' := [mv_I 0]) (M1 := M) rfl ?_
            exact mv_Ru.val (mv_ret (fun n => rfl) rfl) (congrArg mv_I (by first | with_reducible rfl | exact absurd (show sp_wm 11 (M 29) q e from ⟨by show e = q + 4; omega, by assumption, by assumption, by assumption, by assumption, trivial⟩) h))
        · refine mv_go' 1 (pc' := 48) (ls' := [mv_R 28, mv_R 222, mv_I 2]) (st' := [mv_I 0]) (M1 := M) rfl ?_
          exact mv_Ru.val (mv_ret (fun n => rfl) rfl) (congrArg mv_I (by first | with_reducible rfl | exact absurd (show sp_wm 11 (M 29) q e from ⟨by show e = q + 4; omega, by assumption, by assumption, by assumption, by assumption, trivial⟩) h))
      · refine mv_go' 1 (pc' := 48) (ls' := [mv_R 28, mv_R 222, mv_I 1]) (st' := [mv_I 0]) (M1 := M) rfl ?_
        exact mv_Ru.val (mv_ret (fun n => rfl) rfl) (congrArg mv_I (by first | with_reducible rfl | exact absurd (show sp_wm 11 (M 29) q e from ⟨by show e = q + 4; omega, by assumption, by assumption, by assumption, by assumption, trivial⟩) h))
    · refine mv_go' 1 (pc' := 48) (ls' := [mv_R 28, mv_R 222, mv_I 0]) (st' := [mv_I 0]) (M1 := M) rfl ?_
      exact mv_Ru.val (mv_ret (fun n => rfl) rfl) (congrArg mv_I (by first | with_reducible rfl | exact absurd (show sp_wm 11 (M 29) q e from ⟨by show e = q + 4; omega, by assumption, by assumption, by assumption, by assumption, trivial⟩) h))
  · refine mv_go' 1 (pc' := 17) (ls' := [mv_R 28, mv_R 222, mv_U]) (st' := [mv_I 0]) (M1 := M) rfl ?_
    exact mv_Ru.val (mv_ret (fun n => rfl) rfl) (congrArg mv_I (by first | with_reducible rfl | exact absurd (show sp_wm 11 (M 29) q e from ⟨by show e = q + 4; omega, by assumption, by assumption, by assumption, by assumption, trivial⟩) h))
