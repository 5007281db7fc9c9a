/-! sheets -/
theorem sp_fill_72_lp {z : Int} : ∀ (r k : Nat) (M : mv_M), k + r = 40 → (∀ j, j < k → M 72 j = z) → mv_Ru 0 206 5 [mv_R 72, mv_I z, mv_I (k : Int), mv_I 40] [] M mv_U (fun M1 => mv_ag [72] M M1 ∧ ∀ j, j < 40 → M1 72 j = z) := by
  intro r
  induction r with
  | zero =>
    intro k M hk h
    have hk : k = 40 := by omega
    subst hk
    refine mv_go' 3 (pc' := if ((40 : Nat) : Int) < 40 then 10 else 20) (ls' := [mv_R 72, mv_I z, mv_I ((40 : Nat) : Int), mv_I 40]) (st' := []) (M1 := M) rfl ?_
    refine mv_ff' (by decide) ?_
    exact mv_ret (fun n => rfl) (⟨mv_ag.rf, h⟩)
  | succ r ih =>
    intro k M hk h
    refine mv_go' 3 (pc' := if (k : Int) < 40 then 10 else 20) (ls' := [mv_R 72, mv_I z, mv_I (k : Int), mv_I 40]) (st' := []) (M1 := M) rfl ?_
    refine mv_tt' (by omega) ?_
    refine mv_go' 4 (pc' := if 0 ≤ (k : Int) ∧ (k : Int) < 40 then 14 else mv_bad) (ls' := [mv_R 72, mv_I z, mv_I (k : Int), mv_I 40]) (st' := []) (M1 := (mv_st M 72 (mv_up (M 72) k z))) rfl ?_
    refine mv_tt' (by omega) ?_
    refine mv_go' 2 (pc' := 5) (ls' := [mv_R 72, mv_I z, mv_I (mv_w ((k : Int) + 1)), mv_I 40]) (st' := []) (M1 := (mv_st M 72 (mv_up (M 72) k z))) rfl ?_
    rw [show mv_w ((k : Int) + 1) = ((k + 1 : Nat) : Int) from by (rw [show mv_w ((k : Int) + 1) = (k : Int) + 1 from mv_w_id (by omega) (by omega)]) <;> omega]
    refine (ih (k + 1) _ (by omega) (fun j hj => ?_)).imp (fun M1 h1 => ⟨mv_ag.tr (mv_ag.st mv_ag.rf (by decide)) h1.1, h1.2⟩)
    show mv_up (M 72) k z j = z
    by_cases q : j = k
    · rw [q, mv_up_s]
    · rw [mv_up_n _ _ q]; exact h j (by omega)
theorem sp_fill_72 {M : mv_M} {z : Int} : mv_Ru 0 206 0 [mv_R 72, mv_I z, mv_U, mv_U] [] M mv_U (fun M1 => mv_ag [72] M M1 ∧ ∀ j, j < 40 → M1 72 j = z) := by
  refine mv_go' 5 (pc' := 5) (ls' := [mv_R 72, mv_I z, mv_I 0, mv_I 40]) (st' := []) (M1 := M) rfl ?_
  exact sp_fill_72_lp 40 0 M (by omega) (fun j hj => absurd hj (by omega))
theorem sp_fill_74_lp {z : Int} : ∀ (r k : Nat) (M : mv_M), k + r = 40 → (∀ j, j < k → M 74 j = z) → mv_Ru 0 206 5 [mv_R 74, mv_I z, mv_I (k : Int), mv_I 40] [] M mv_U (fun M1 => mv_ag [74] M M1 ∧ ∀ j, j < 40 → M1 74 j = z) := by
  intro r
  induction r with
  | zero =>
    intro k M hk h
    have hk : k = 40 := by omega
    subst hk
    refine mv_go' 3 (pc' := if ((40 : Nat) : Int) < 40 then 10 else 20) (ls' := [mv_R 74, mv_I z, mv_I ((40 : Nat) : Int), mv_I 40]) (st' := []) (M1 := M) rfl ?_
    refine mv_ff' (by decide) ?_
    exact mv_ret (fun n => rfl) (⟨mv_ag.rf, h⟩)
  | succ r ih =>
    intro k M hk h
    refine mv_go' 3 (pc' := if (k : Int) < 40 then 10 else 20) (ls' := [mv_R 74, mv_I z, mv_I (k : Int), mv_I 40]) (st' := []) (M1 := M) rfl ?_
    refine mv_tt' (by omega) ?_
    refine mv_go' 4 (pc' := if 0 ≤ (k : Int) ∧ (k : Int) < 40 then 14 else mv_bad) (ls' := [mv_R 74, mv_I z, mv_I (k : Int), mv_I 40]) (st' := []) (M1 := (mv_st M 74 (mv_up (M 74) k z))) rfl ?_
    refine mv_tt' (by omega) ?_
    refine mv_go' 2 (pc' := 5) (ls' := [mv_R 74, mv_I z, mv_I (mv_w ((k : Int) + 1)), mv_I 40]) (st' := []) (M1 := (mv_st M 74 (mv_up (M 74) k z))) rfl ?_
    rw [show mv_w ((k : Int) + 1) = ((k + 1 : Nat) : Int) from by (rw [show mv_w ((k : Int) + 1) = (k : Int) + 1 from mv_w_id (by omega) (by omega)]) <;> omega]
    refine (ih (k + 1) _ (by omega) (fun j hj => ?_)).imp (fun M1 h1 => ⟨mv_ag.tr (mv_ag.st mv_ag.rf (by decide)) h1.1, h1.2⟩)
    show mv_up (M 74) k z j = z
    by_cases q : j = k
    · rw [q, mv_up_s]
    · rw [mv_up_n _ _ q]; exact h j (by omega)
theorem sp_fill_74 {M : mv_M} {z : Int} : mv_Ru 0 206 0 [mv_R 74, mv_I z, mv_U, mv_U] [] M mv_U (fun M1 => mv_ag [74] M M1 ∧ ∀ j, j < 40 → M1 74 j = z) := by
  refine mv_go' 5 (pc' := 5) (ls' := [mv_R 74, mv_I z, mv_I 0, mv_I 40]) (st' := []) (M1 := M) rfl ?_
  exact sp_fill_74_lp 40 0 M (by omega) (fun j hj => absurd hj (by omega))
theorem sp_fill_76_lp {z : Int} : ∀ (r k : Nat) (M : mv_M), k + r = 40 → (∀ j, j < k → M 76 j = z) → mv_Ru 0 206 5 [mv_R 76, mv_I z, mv_I (k : Int), mv_I 40] [] M mv_U (fun M1 => mv_ag [76] M M1 ∧ ∀ j, j < 40 → M1 76 j = z) := by
  intro r
  induction r with
  | zero =>
    intro k M hk h
    have hk : k = 40 := by omega
    subst hk
    refine mv_go' 3 (pc' := if ((40 : Nat) : Int) < 40 then 10 else 20) (ls' := [mv_R 76, mv_I z, mv_I ((40 : Nat) : Int), mv_I 40]) (st' := []) (M1 := M) rfl ?_
    refine mv_ff' (by decide) ?_
    exact mv_ret (fun n => rfl) (⟨mv_ag.rf, h⟩)
  | succ r ih =>
    intro k M hk h
    refine mv_go' 3 (pc' := if (k : Int) < 40 then 10 else 20) (ls' := [mv_R 76, mv_I z, mv_I (k : Int), mv_I 40]) (st' := []) (M1 := M) rfl ?_
    refine mv_tt' (by omega) ?_
    refine mv_go' 4 (pc' := if 0 ≤ (k : Int) ∧ (k : Int) < 40 then 14 else mv_bad) (ls' := [mv_R 76, mv_I z, mv_I (k : Int), mv_I 40]) (st' := []) (M1 := (mv_st M 76 (mv_up (M 76) k z))) rfl ?_
    refine mv_tt' (by omega) ?_
    refine mv_go' 2 (pc' := 5) (ls' := [mv_R 76, mv_I z, mv_I (mv_w ((k : Int) + 1)), mv_I 40]) (st' := []) (M1 := (mv_st M 76 (mv_up (M 76) k z))) rfl ?_
    rw [show mv_w ((k : Int) + 1) = ((k + 1 : Nat) : Int) from by (rw [show mv_w ((k : Int) + 1) = (k : Int) + 1 from mv_w_id (by omega) (by omega)]) <;> omega]
    refine (ih (k + 1) _ (by omega) (fun j hj => ?_)).imp (fun M1 h1 => ⟨mv_ag.tr (mv_ag.st mv_ag.rf (by decide)) h1.1, h1.2⟩)
    show mv_up (M 76) k z j = z
    by_cases q : j = k
    · rw [q, mv_up_s]
    · rw [mv_up_n _ _ q]; exact h j (by omega)
theorem sp_fill_76 {M : mv_M} {z : Int} : mv_Ru 0 206 0 [mv_R 76, mv_I z, mv_U, mv_U] [] M mv_U (fun M1 => mv_ag [76] M M1 ∧ ∀ j, j < 40 → M1 76 j = z) := by
  refine mv_go' 5 (pc' := 5) (ls' := [mv_R 76, mv_I z, mv_I 0, mv_I 40]) (st' := []) (M1 := M) rfl ?_
  exact sp_fill_76_lp 40 0 M (by omega) (fun j hj => absurd hj (by omega))
theorem sp_fill_78_lp {z : Int} : ∀ (r k : Nat) (M : mv_M), k + r = 40 → (∀ j, j < k → M 78 j = z) → mv_Ru 0 206 5 [mv_R 78, mv_I z, mv_I (k : Int), mv_I 40] [] M mv_U (fun M1 => mv_ag [78] M M1 ∧ ∀ j, j < 40 → M1 78 j = z) := by
  intro r
  induction r with
  | zero =>
    intro k M hk h
    have hk : k = 40 := by omega
    subst hk
    refine mv_go' 3 (pc' := if ((40 : Nat) : Int) < 40 then 10 else 20) (ls' := [mv_R 78, mv_I z, mv_I ((40 : Nat) : Int), mv_I 40]) (st' := []) (M1 := M) rfl ?_
    refine mv_ff' (by decide) ?_
    exact mv_ret (fun n => rfl) (⟨mv_ag.rf, h⟩)
  | succ r ih =>
    intro k M hk h
    refine mv_go' 3 (pc' := if (k : Int) < 40 then 10 else 20) (ls' := [mv_R 78, mv_I z, mv_I (k : Int), mv_I 40]) (st' := []) (M1 := M) rfl ?_
    refine mv_tt' (by omega) ?_
    refine mv_go' 4 (pc' := if 0 ≤ (k : Int) ∧ (k : Int) < 40 then 14 else mv_bad) (ls' := [mv_R 78, mv_I z, mv_I (k : Int), mv_I 40]) (st' := []) (M1 := (mv_st M 78 (mv_up (M 78) k z))) rfl ?_
    refine mv_tt' (by omega) ?_
    refine mv_go' 2 (pc' := 5) (ls' := [mv_R 78, mv_I z, mv_I (mv_w ((k : Int) + 1)), mv_I 40]) (st' := []) (M1 := (mv_st M 78 (mv_up (M 78) k z))) rfl ?_
    rw [show mv_w ((k : Int) + 1) = ((k + 1 : Nat) : Int) from by (rw [show mv_w ((k : Int) + 1) = (k : Int) + 1 from mv_w_id (by omega) (by omega)]) <;> omega]
    refine (ih (k + 1) _ (by omega) (fun j hj => ?_)).imp (fun M1 h1 => ⟨mv_ag.tr (mv_ag.st mv_ag.rf (by decide)) h1.1, h1.2⟩)
    show mv_up (M 78) k z j = z
    by_cases q : j = k
    · rw [q, mv_up_s]
    · rw [mv_up_n _ _ q]; exact h j (by omega)
theorem sp_fill_78 {M : mv_M} {z : Int} : mv_Ru 0 206 0 [mv_R 78, mv_I z, mv_U, mv_U] [] M mv_U (fun M1 => mv_ag [78] M M1 ∧ ∀ j, j < 40 → M1 78 j = z) := by
  refine mv_go' 5 (pc' := 5) (ls' := [mv_R 78, mv_I z, mv_I 0, mv_I 40]) (st' := []) (M1 := M) rfl ?_
  exact sp_fill_78_lp 40 0 M (by omega) (fun j hj => absurd hj (by omega))
theorem sp_fill_64_lp {z : Int} : ∀ (r k : Nat) (M : mv_M), k + r = 6 → (∀ j, j < k → M 64 j = z) → mv_Ru 0 206 5 [mv_R 64, mv_I z, mv_I (k : Int), mv_I 6] [] M mv_U (fun M1 => mv_ag [64] M M1 ∧ ∀ j, j < 6 → M1 64 j = z) := by
  intro r
  induction r with
  | zero =>
    intro k M hk h
    have hk : k = 6 := by omega
    subst hk
    refine mv_go' 3 (pc' := if ((6 : Nat) : Int) < 6 then 10 else 20) (ls' := [mv_R 64, mv_I z, mv_I ((6 : Nat) : Int), mv_I 6]) (st' := []) (M1 := M) rfl ?_
    refine mv_ff' (by decide) ?_
    exact mv_ret (fun n => rfl) (⟨mv_ag.rf, h⟩)
  | succ r ih =>
    intro k M hk h
    refine mv_go' 3 (pc' := if (k : Int) < 6 then 10 else 20) (ls' := [mv_R 64, mv_I z, mv_I (k : Int), mv_I 6]) (st' := []) (M1 := M) rfl ?_
    refine mv_tt' (by omega) ?_
    refine mv_go' 4 (pc' := if 0 ≤ (k : Int) ∧ (k : Int) < 6 then 14 else mv_bad) (ls' := [mv_R 64, mv_I z, mv_I (k : Int), mv_I 6]) (st' := []) (M1 := (mv_st M 64 (mv_up (M 64) k z))) rfl ?_
    refine mv_tt' (by omega) ?_
    refine mv_go' 2 (pc' := 5) (ls' := [mv_R 64, mv_I z, mv_I (mv_w ((k : Int) + 1)), mv_I 6]) (st' := []) (M1 := (mv_st M 64 (mv_up (M 64) k z))) rfl ?_
    rw [show mv_w ((k : Int) + 1) = ((k + 1 : Nat) : Int) from by (rw [show mv_w ((k : Int) + 1) = (k : Int) + 1 from mv_w_id (by omega) (by omega)]) <;> omega]
    refine (ih (k + 1) _ (by omega) (fun j hj => ?_)).imp (fun M1 h1 => ⟨mv_ag.tr (mv_ag.st mv_ag.rf (by decide)) h1.1, h1.2⟩)
    show mv_up (M 64) k z j = z
    by_cases q : j = k
    · rw [q, mv_up_s]
    · rw [mv_up_n _ _ q]; exact h j (by omega)
theorem sp_fill_64 {M : mv_M} {z : Int} : mv_Ru 0 206 0 [mv_R 64, mv_I z, mv_U, mv_U] [] M mv_U (fun M1 => mv_ag [64] M M1 ∧ ∀ j, j < 6 → M1 64 j = z) := by
  refine mv_go' 5 (pc' := 5) (ls' := [mv_R 64, mv_I z, mv_I 0, mv_I 6]) (st' := []) (M1 := M) rfl ?_
  exact sp_fill_64_lp 6 0 M (by omega) (fun j hj => absurd hj (by omega))
theorem sp_fill_65_lp {z : Int} : ∀ (r k : Nat) (M : mv_M), k + r = 6 → (∀ j, j < k → M 65 j = z) → mv_Ru 0 206 5 [mv_R 65, mv_I z, mv_I (k : Int), mv_I 6] [] M mv_U (fun M1 => mv_ag [65] M M1 ∧ ∀ j, j < 6 → M1 65 j = z) := by
  intro r
  induction r with
  | zero =>
    intro k M hk h
    have hk : k = 6 := by omega
    subst hk
    refine mv_go' 3 (pc' := if ((6 : Nat) : Int) < 6 then 10 else 20) (ls' := [mv_R 65, mv_I z, mv_I ((6 : Nat) : Int), mv_I 6]) (st' := []) (M1 := M) rfl ?_
    refine mv_ff' (by decide) ?_
    exact mv_ret (fun n => rfl) (⟨mv_ag.rf, h⟩)
  | succ r ih =>
    intro k M hk h
    refine mv_go' 3 (pc' := if (k : Int) < 6 then 10 else 20) (ls' := [mv_R 65, mv_I z, mv_I (k : Int), mv_I 6]) (st' := []) (M1 := M) rfl ?_
    refine mv_tt' (by omega) ?_
    refine mv_go' 4 (pc' := if 0 ≤ (k : Int) ∧ (k : Int) < 6 then 14 else mv_bad) (ls' := [mv_R 65, mv_I z, mv_I (k : Int), mv_I 6]) (st' := []) (M1 := (mv_st M 65 (mv_up (M 65) k z))) rfl ?_
    refine mv_tt' (by omega) ?_
    refine mv_go' 2 (pc' := 5) (ls' := [mv_R 65, mv_I z, mv_I (mv_w ((k : Int) + 1)), mv_I 6]) (st' := []) (M1 := (mv_st M 65 (mv_up (M 65) k z))) rfl ?_
    rw [show mv_w ((k : Int) + 1) = ((k + 1 : Nat) : Int) from by (rw [show mv_w ((k : Int) + 1) = (k : Int) + 1 from mv_w_id (by omega) (by omega)]) <;> omega]
    refine (ih (k + 1) _ (by omega) (fun j hj => ?_)).imp (fun M1 h1 => ⟨mv_ag.tr (mv_ag.st mv_ag.rf (by decide)) h1.1, h1.2⟩)
    show mv_up (M 65) k z j = z
    by_cases q : j = k
    · rw [q, mv_up_s]
    · rw [mv_up_n _ _ q]; exact h j (by omega)
theorem sp_fill_65 {M : mv_M} {z : Int} : mv_Ru 0 206 0 [mv_R 65, mv_I z, mv_U, mv_U] [] M mv_U (fun M1 => mv_ag [65] M M1 ∧ ∀ j, j < 6 → M1 65 j = z) := by
  refine mv_go' 5 (pc' := 5) (ls' := [mv_R 65, mv_I z, mv_I 0, mv_I 6]) (st' := []) (M1 := M) rfl ?_
  exact sp_fill_65_lp 6 0 M (by omega) (fun j hj => absurd hj (by omega))
theorem sp_fill_66_lp {z : Int} : ∀ (r k : Nat) (M : mv_M), k + r = 6 → (∀ j, j < k → M 66 j = z) → mv_Ru 0 206 5 [mv_R 66, mv_I z, mv_I (k : Int), mv_I 6] [] M mv_U (fun M1 => mv_ag [66] M M1 ∧ ∀ j, j < 6 → M1 66 j = z) := by
  intro r
  induction r with
  | zero =>
    intro k M hk h
    have hk : k = 6 := by omega
    subst hk
    refine mv_go' 3 (pc' := if ((6 : Nat) : Int) < 6 then 10 else 20) (ls' := [mv_R 66, mv_I z, mv_I ((6 : Nat) : Int), mv_I 6]) (st' := []) (M1 := M) rfl ?_
    refine mv_ff' (by decide) ?_
    exact mv_ret (fun n => rfl) (⟨mv_ag.rf, h⟩)
  | succ r ih =>
    intro k M hk h
    refine mv_go' 3 (pc' := if (k : Int) < 6 then 10 else 20) (ls' := [mv_R 66, mv_I z, mv_I (k : Int), mv_I 6]) (st' := []) (M1 := M) rfl ?_
    refine mv_tt' (by omega) ?_
    refine mv_go' 4 (pc' := if 0 ≤ (k : Int) ∧ (k : Int) < 6 then 14 else mv_bad) (ls' := [mv_R 66, mv_I z, mv_I (k : Int), mv_I 6]) (st' := []) (M1 := (mv_st M 66 (mv_up (M 66) k z))) rfl ?_
    refine mv_tt' (by omega) ?_
    refine mv_go' 2 (pc' := 5) (ls' := [mv_R 66, mv_I z, mv_I (mv_w ((k : Int) + 1)), mv_I 6]) (st' := []) (M1 := (mv_st M 66 (mv_up (M 66) k z))) rfl ?_
    rw [show mv_w ((k : Int) + 1) = ((k + 1 : Nat) : Int) from by (rw [show mv_w ((k : Int) + 1) = (k : Int) + 1 from mv_w_id (by omega) (by omega)]) <;> omega]
    refine (ih (k + 1) _ (by omega) (fun j hj => ?_)).imp (fun M1 h1 => ⟨mv_ag.tr (mv_ag.st mv_ag.rf (by decide)) h1.1, h1.2⟩)
    show mv_up (M 66) k z j = z
    by_cases q : j = k
    · rw [q, mv_up_s]
    · rw [mv_up_n _ _ q]; exact h j (by omega)
theorem sp_fill_66 {M : mv_M} {z : Int} : mv_Ru 0 206 0 [mv_R 66, mv_I z, mv_U, mv_U] [] M mv_U (fun M1 => mv_ag [66] M M1 ∧ ∀ j, j < 6 → M1 66 j = z) := by
  refine mv_go' 5 (pc' := 5) (ls' := [mv_R 66, mv_I z, mv_I 0, mv_I 6]) (st' := []) (M1 := M) rfl ?_
  exact sp_fill_66_lp 6 0 M (by omega) (fun j hj => absurd hj (by omega))
def sp_cut (s v : Int) : Int := if s = 0 then mv_i2b v else if s = 1 then mv_i2s v else v
theorem sp_sheetAt_n {M : mv_M} {s : Int} (h : ¬ (0 ≤ s ∧ s ≤ 3)) : mv_Ru 0 97 0 [mv_R 0, mv_I s] [] M mv_N (fun M1 => M1 = M) := by
  by_cases q : s < 0
  · refine mv_go' 2 (pc' := if s < 0 then 9 else 4) (ls' := [mv_R 0, mv_I s]) (st' := []) (M1 := M) rfl ?_
    refine mv_tt' (q) ?_
    refine mv_go' 2 (pc' := 19) (ls' := [mv_R 0, mv_I s]) (st' := [mv_N]) (M1 := M) rfl ?_
    exact mv_ret (fun n => rfl) (rfl)
  · refine mv_go' 2 (pc' := if s < 0 then 9 else 4) (ls' := [mv_R 0, mv_I s]) (st' := []) (M1 := M) rfl ?_
    refine mv_ff' (q) ?_
    refine mv_go' 3 (pc' := if s < 4 then 13 else 9) (ls' := [mv_R 0, mv_I s]) (st' := []) (M1 := M) rfl ?_
    refine mv_ff' (by omega) ?_
    refine mv_go' 2 (pc' := 19) (ls' := [mv_R 0, mv_I s]) (st' := [mv_N]) (M1 := M) rfl ?_
    exact mv_ret (fun n => rfl) (rfl)
theorem sp_sheetAt_0 {M : mv_M} : mv_Ru 0 97 0 [mv_R 0, mv_I 0] [] M (mv_R 71) (fun M1 => M1 = M) := by
  refine mv_go' 2 (pc' := if 0 < 0 then 9 else 4) (ls' := [mv_R 0, mv_I 0]) (st' := []) (M1 := M) rfl ?_
  refine mv_ff' (by decide) ?_
  refine mv_go' 3 (pc' := if 0 < 4 then 13 else 9) (ls' := [mv_R 0, mv_I 0]) (st' := []) (M1 := M) rfl ?_
  refine mv_tt' (by decide) ?_
  refine mv_go' 4 (pc' := if 0 ≤ 0 ∧ 0 < 4 then 19 else mv_bad) (ls' := [mv_R 0, mv_I 0]) (st' := [mv_R 71]) (M1 := M) rfl ?_
  refine mv_tt' (by omega) ?_
  exact mv_ret (fun n => rfl) (rfl)
theorem sp_isMiss_0_t {M : mv_M} (h : M 71 1 = -1) : mv_Ru 0 24 0 [mv_R 71] [] M (mv_I 1) (fun M1 => M1 = M) := by
  refine mv_go' 4 (pc' := if (M 71 1) = (-1) then 8 else 12) (ls' := [mv_R 71]) (st' := []) (M1 := M) rfl ?_
  refine mv_tt' (h) ?_
  refine mv_go' 2 (pc' := 13) (ls' := [mv_R 71]) (st' := [mv_I 1]) (M1 := M) rfl ?_
  exact mv_ret (fun n => rfl) (rfl)
theorem sp_isMiss_0_f {M : mv_M} (h : ¬ (M 71 1 = -1)) : mv_Ru 0 24 0 [mv_R 71] [] M (mv_I 0) (fun M1 => M1 = M) := by
  refine mv_go' 4 (pc' := if (M 71 1) = (-1) then 8 else 12) (ls' := [mv_R 71]) (st' := []) (M1 := M) rfl ?_
  refine mv_ff' (h) ?_
  refine mv_go' 1 (pc' := 13) (ls' := [mv_R 71]) (st' := [mv_I 0]) (M1 := M) rfl ?_
  exact mv_ret (fun n => rfl) (rfl)
theorem sp_hasRun_0_t {M : mv_M} {i n z : Int} (hz : M 71 2 = z) (z0 : 0 ≤ z) (z1 : z ≤ 40) (h : 0 ≤ n ∧ n ≤ z ∧ 0 ≤ i ∧ i ≤ z - n) : mv_Ru 0 25 0 [mv_R 71, mv_I i, mv_I n] [] M (mv_I 1) (fun M1 => M1 = M) := by
  refine mv_go' 2 (pc' := if n < 0 then 30 else 4) (ls' := [mv_R 71, mv_I i, mv_I n]) (st' := []) (M1 := M) rfl ?_
  refine mv_ff' (by omega) ?_
  refine mv_go' 3 (pc' := 9) (ls' := [mv_R 71, mv_I i, mv_I n]) (st' := [mv_I (M 71 2), mv_I n]) (M1 := M) rfl ?_
  rw [show M 71 2 = z from by exact hz]
  refine mv_go' 1 (pc' := if z < n then 30 else 12) (ls' := [mv_R 71, mv_I i, mv_I n]) (st' := []) (M1 := M) rfl ?_
  refine mv_ff' (by omega) ?_
  refine mv_go' 2 (pc' := if i < 0 then 30 else 16) (ls' := [mv_R 71, mv_I i, mv_I n]) (st' := []) (M1 := M) rfl ?_
  refine mv_ff' (by omega) ?_
  refine mv_go' 3 (pc' := 21) (ls' := [mv_R 71, mv_I i, mv_I n]) (st' := [mv_I (M 71 2), mv_I i]) (M1 := M) rfl ?_
  rw [show M 71 2 = z from by exact hz]
  refine mv_go' 3 (pc' := if (mv_w (z - n)) < i then 30 else 26) (ls' := [mv_R 71, mv_I i, mv_I n]) (st' := []) (M1 := M) rfl ?_
  rw [show mv_w (z - n) = z - n from mv_w_id (by omega) (by omega)]
  refine mv_ff' (by omega) ?_
  refine mv_go' 2 (pc' := 31) (ls' := [mv_R 71, mv_I i, mv_I n]) (st' := [mv_I 1]) (M1 := M) rfl ?_
  exact mv_ret (fun n => rfl) rfl
theorem sp_hasRun_0_f {M : mv_M} {i n z : Int} (hz : M 71 2 = z) (z0 : 0 ≤ z) (z1 : z ≤ 40) (h : ¬ (0 ≤ n ∧ n ≤ z ∧ 0 ≤ i ∧ i ≤ z - n)) : mv_Ru 0 25 0 [mv_R 71, mv_I i, mv_I n] [] M (mv_I 0) (fun M1 => M1 = M) := by
  refine mv_go' 2 (pc' := if n < 0 then 30 else 4) (ls' := [mv_R 71, mv_I i, mv_I n]) (st' := []) (M1 := M) rfl ?_
  refine mv_sp' (fun ha1 => ?_) (fun ha1 => ?_)
  · refine mv_go' 1 (pc' := 31) (ls' := [mv_R 71, mv_I i, mv_I n]) (st' := [mv_I 0]) (M1 := M) rfl ?_
    exact mv_ret (fun n => rfl) rfl
  · refine mv_go' 3 (pc' := 9) (ls' := [mv_R 71, mv_I i, mv_I n]) (st' := [mv_I (M 71 2), mv_I n]) (M1 := M) rfl ?_
    rw [show M 71 2 = z from by exact hz]
    refine mv_go' 1 (pc' := if z < n then 30 else 12) (ls' := [mv_R 71, mv_I i, mv_I n]) (st' := []) (M1 := M) rfl ?_
    refine mv_sp' (fun ha2 => ?_) (fun ha2 => ?_)
    · refine mv_go' 1 (pc' := 31) (ls' := [mv_R 71, mv_I i, mv_I n]) (st' := [mv_I 0]) (M1 := M) rfl ?_
      exact mv_ret (fun n => rfl) rfl
    · refine mv_go' 2 (pc' := if i < 0 then 30 else 16) (ls' := [mv_R 71, mv_I i, mv_I n]) (st' := []) (M1 := M) rfl ?_
      refine mv_sp' (fun ha3 => ?_) (fun ha3 => ?_)
      · refine mv_go' 1 (pc' := 31) (ls' := [mv_R 71, mv_I i, mv_I n]) (st' := [mv_I 0]) (M1 := M) rfl ?_
        exact mv_ret (fun n => rfl) rfl
      · refine mv_go' 3 (pc' := 21) (ls' := [mv_R 71, mv_I i, mv_I n]) (st' := [mv_I (M 71 2), mv_I i]) (M1 := M) rfl ?_
        rw [show M 71 2 = z from by exact hz]
        refine mv_go' 3 (pc' := if (mv_w (z - n)) < i then 30 else 26) (ls' := [mv_R 71, mv_I i, mv_I n]) (st' := []) (M1 := M) rfl ?_
        rw [show mv_w (z - n) = z - n from mv_w_id (by omega) (by omega)]
        refine mv_tt' (by omega) ?_
        refine mv_go' 1 (pc' := 31) (ls' := [mv_R 71, mv_I i, mv_I n]) (st' := [mv_I 0]) (M1 := M) rfl ?_
        exact mv_ret (fun n => rfl) rfl
theorem sp_write_0 {M : mv_M} {i : Nat} {v s : Int} (hs : M 71 1 = s) (h : i < 40) : mv_Ru 0 26 0 [mv_R 71, mv_I (i : Int), mv_I v] [] M mv_U (fun M1 => M1 = mv_st M 72 (mv_up (M 72) i (sp_cut s v))) := by
  by_cases e0 : s = 0
  · refine mv_go' 5 (pc' := 9) (ls' := [mv_R 71, mv_I (i : Int), mv_I v]) (st' := [mv_I (M 71 1), mv_I (i : Int), mv_R 72]) (M1 := M) rfl ?_
    rw [show M 71 1 = s from by exact hs]
    refine mv_go' 1 (pc' := if s = 0 then 12 else 17) (ls' := [mv_R 71, mv_I (i : Int), mv_I v]) (st' := [mv_I (i : Int), mv_R 72]) (M1 := M) rfl ?_
    refine mv_tt' (e0) ?_
    refine mv_go' 4 (pc' := if 0 ≤ (i : Int) ∧ (i : Int) < 40 then 32 else mv_bad) (ls' := [mv_R 71, mv_I (i : Int), mv_I v]) (st' := []) (M1 := (mv_st M 72 (mv_up (M 72) i (mv_i2b v)))) rfl ?_
    refine mv_tt' (by omega) ?_
    exact mv_ret (fun n => rfl) ((by rw [show sp_cut s v = mv_i2b v from if_pos e0]))
  · by_cases e1 : s = 1
    · refine mv_go' 5 (pc' := 9) (ls' := [mv_R 71, mv_I (i : Int), mv_I v]) (st' := [mv_I (M 71 1), mv_I (i : Int), mv_R 72]) (M1 := M) rfl ?_
      rw [show M 71 1 = s from by exact hs]
      refine mv_go' 1 (pc' := if s = 0 then 12 else 17) (ls' := [mv_R 71, mv_I (i : Int), mv_I v]) (st' := [mv_I (i : Int), mv_R 72]) (M1 := M) rfl ?_
      refine mv_ff' (e0) ?_
      refine mv_go' 2 (pc' := 21) (ls' := [mv_R 71, mv_I (i : Int), mv_I v]) (st' := [mv_I (M 71 1), mv_I (i : Int), mv_R 72]) (M1 := M) rfl ?_
      rw [show M 71 1 = s from by exact hs]
      refine mv_go' 2 (pc' := if s = 1 then 25 else 30) (ls' := [mv_R 71, mv_I (i : Int), mv_I v]) (st' := [mv_I (i : Int), mv_R 72]) (M1 := M) rfl ?_
      refine mv_tt' (e1) ?_
      refine mv_go' 4 (pc' := if 0 ≤ (i : Int) ∧ (i : Int) < 40 then 32 else mv_bad) (ls' := [mv_R 71, mv_I (i : Int), mv_I v]) (st' := []) (M1 := (mv_st M 72 (mv_up (M 72) i (mv_i2s v)))) rfl ?_
      refine mv_tt' (by omega) ?_
      exact mv_ret (fun n => rfl) ((by rw [show sp_cut s v = mv_i2s v from (if_neg e0).trans (if_pos e1)]))
    · refine mv_go' 5 (pc' := 9) (ls' := [mv_R 71, mv_I (i : Int), mv_I v]) (st' := [mv_I (M 71 1), mv_I (i : Int), mv_R 72]) (M1 := M) rfl ?_
      rw [show M 71 1 = s from by exact hs]
      refine mv_go' 1 (pc' := if s = 0 then 12 else 17) (ls' := [mv_R 71, mv_I (i : Int), mv_I v]) (st' := [mv_I (i : Int), mv_R 72]) (M1 := M) rfl ?_
      refine mv_ff' (e0) ?_
      refine mv_go' 2 (pc' := 21) (ls' := [mv_R 71, mv_I (i : Int), mv_I v]) (st' := [mv_I (M 71 1), mv_I (i : Int), mv_R 72]) (M1 := M) rfl ?_
      rw [show M 71 1 = s from by exact hs]
      refine mv_go' 2 (pc' := if s = 1 then 25 else 30) (ls' := [mv_R 71, mv_I (i : Int), mv_I v]) (st' := [mv_I (i : Int), mv_R 72]) (M1 := M) rfl ?_
      refine mv_ff' (e1) ?_
      refine mv_go' 2 (pc' := if 0 ≤ (i : Int) ∧ (i : Int) < 40 then 32 else mv_bad) (ls' := [mv_R 71, mv_I (i : Int), mv_I v]) (st' := []) (M1 := (mv_st M 72 (mv_up (M 72) i v))) rfl ?_
      refine mv_tt' (by omega) ?_
      exact mv_ret (fun n => rfl) ((by rw [show sp_cut s v = v from (if_neg e0).trans (if_neg e1)]))
theorem sp_shb_0 {M : mv_M} {a b : Int} : mv_Ru 1 23 0 [mv_R 71, mv_I a, mv_I b] [] M mv_U (fun M1 => mv_ag [71, 72] M M1 ∧ M1 71 = mv_up (mv_up (M 71) 1 a) 2 b ∧ ∀ j, j < 40 → M1 72 j = 0) := by
  refine mv_go' 9 (pc' := 15) (ls' := [mv_R 71, mv_I a, mv_I b]) (st' := [mv_I 0, mv_R 72]) (M1 := (mv_st (mv_st M 71 (mv_up (M 71) 1 a)) 71 (mv_up (mv_up (M 71) 1 a) 2 b))) rfl ?_
  refine mv_call (st2 := []) rfl (Or.inr rfl) rfl rfl rfl (sp_fill_72) (by first | decide | omega) (fun M1 h1 => ?_)
  exact mv_ret (fun n => rfl) (⟨((mv_ag.st (mv_ag.st mv_ag.rf (by decide)) (by decide)).tr (h1.1.wd (by decide))), (h1.1 71 (by decide)), h1.2⟩)
theorem sp_sheetAt_1 {M : mv_M} : mv_Ru 0 97 0 [mv_R 0, mv_I 1] [] M (mv_R 73) (fun M1 => M1 = M) := by
  refine mv_go' 2 (pc' := if 1 < 0 then 9 else 4) (ls' := [mv_R 0, mv_I 1]) (st' := []) (M1 := M) rfl ?_
  refine mv_ff' (by decide) ?_
  refine mv_go' 3 (pc' := if 1 < 4 then 13 else 9) (ls' := [mv_R 0, mv_I 1]) (st' := []) (M1 := M) rfl ?_
  refine mv_tt' (by decide) ?_
  refine mv_go' 4 (pc' := if 0 ≤ 1 ∧ 1 < 4 then 19 else mv_bad) (ls' := [mv_R 0, mv_I 1]) (st' := [mv_R 73]) (M1 := M) rfl ?_
  refine mv_tt' (by omega) ?_
  exact mv_ret (fun n => rfl) (rfl)
theorem sp_isMiss_1_t {M : mv_M} (h : M 73 1 = -1) : mv_Ru 0 24 0 [mv_R 73] [] M (mv_I 1) (fun M1 => M1 = M) := by
  refine mv_go' 4 (pc' := if (M 73 1) = (-1) then 8 else 12) (ls' := [mv_R 73]) (st' := []) (M1 := M) rfl ?_
  refine mv_tt' (h) ?_
  refine mv_go' 2 (pc' := 13) (ls' := [mv_R 73]) (st' := [mv_I 1]) (M1 := M) rfl ?_
  exact mv_ret (fun n => rfl) (rfl)
theorem sp_isMiss_1_f {M : mv_M} (h : ¬ (M 73 1 = -1)) : mv_Ru 0 24 0 [mv_R 73] [] M (mv_I 0) (fun M1 => M1 = M) := by
  refine mv_go' 4 (pc' := if (M 73 1) = (-1) then 8 else 12) (ls' := [mv_R 73]) (st' := []) (M1 := M) rfl ?_
  refine mv_ff' (h) ?_
  refine mv_go' 1 (pc' := 13) (ls' := [mv_R 73]) (st' := [mv_I 0]) (M1 := M) rfl ?_
  exact mv_ret (fun n => rfl) (rfl)
theorem sp_hasRun_1_t {M : mv_M} {i n z : Int} (hz : M 73 2 = z) (z0 : 0 ≤ z) (z1 : z ≤ 40) (h : 0 ≤ n ∧ n ≤ z ∧ 0 ≤ i ∧ i ≤ z - n) : mv_Ru 0 25 0 [mv_R 73, mv_I i, mv_I n] [] M (mv_I 1) (fun M1 => M1 = M) := by
  refine mv_go' 2 (pc' := if n < 0 then 30 else 4) (ls' := [mv_R 73, mv_I i, mv_I n]) (st' := []) (M1 := M) rfl ?_
  refine mv_ff' (by omega) ?_
  refine mv_go' 3 (pc' := 9) (ls' := [mv_R 73, mv_I i, mv_I n]) (st' := [mv_I (M 73 2), mv_I n]) (M1 := M) rfl ?_
  rw [show M 73 2 = z from by exact hz]
  refine mv_go' 1 (pc' := if z < n then 30 else 12) (ls' := [mv_R 73, mv_I i, mv_I n]) (st' := []) (M1 := M) rfl ?_
  refine mv_ff' (by omega) ?_
  refine mv_go' 2 (pc' := if i < 0 then 30 else 16) (ls' := [mv_R 73, mv_I i, mv_I n]) (st' := []) (M1 := M) rfl ?_
  refine mv_ff' (by omega) ?_
  refine mv_go' 3 (pc' := 21) (ls' := [mv_R 73, mv_I i, mv_I n]) (st' := [mv_I (M 73 2), mv_I i]) (M1 := M) rfl ?_
  rw [show M 73 2 = z from by exact hz]
  refine mv_go' 3 (pc' := if (mv_w (z - n)) < i then 30 else 26) (ls' := [mv_R 73, mv_I i, mv_I n]) (st' := []) (M1 := M) rfl ?_
  rw [show mv_w (z - n) = z - n from mv_w_id (by omega) (by omega)]
  refine mv_ff' (by omega) ?_
  refine mv_go' 2 (pc' := 31) (ls' := [mv_R 73, mv_I i, mv_I n]) (st' := [mv_I 1]) (M1 := M) rfl ?_
  exact mv_ret (fun n => rfl) rfl
theorem sp_hasRun_1_f {M : mv_M} {i n z : Int} (hz : M 73 2 = z) (z0 : 0 ≤ z) (z1 : z ≤ 40) (h : ¬ (0 ≤ n ∧ n ≤ z ∧ 0 ≤ i ∧ i ≤ z - n)) : mv_Ru 0 25 0 [mv_R 73, mv_I i, mv_I n] [] M (mv_I 0) (fun M1 => M1 = M) := by
  refine mv_go' 2 (pc' := if n < 0 then 30 else 4) (ls' := [mv_R 73, mv_I i, mv_I n]) (st' := []) (M1 := M) rfl ?_
  refine mv_sp' (fun ha4 => ?_) (fun ha4 => ?_)
  · refine mv_go' 1 (pc' := 31) (ls' := [mv_R 73, mv_I i, mv_I n]) (st' := [mv_I 0]) (M1 := M) rfl ?_
    exact mv_ret (fun n => rfl) rfl
  · refine mv_go' 3 (pc' := 9) (ls' := [mv_R 73, mv_I i, mv_I n]) (st' := [mv_I (M 73 2), mv_I n]) (M1 := M) rfl ?_
    rw [show M 73 2 = z from by exact hz]
    refine mv_go' 1 (pc' := if z < n then 30 else 12) (ls' := [mv_R 73, mv_I i, mv_I n]) (st' := []) (M1 := M) rfl ?_
    refine mv_sp' (fun ha5 => ?_) (fun ha5 => ?_)
    · refine mv_go' 1 (pc' := 31) (ls' := [mv_R 73, mv_I i, mv_I n]) (st' := [mv_I 0]) (M1 := M) rfl ?_
      exact mv_ret (fun n => rfl) rfl
    · refine mv_go' 2 (pc' := if i < 0 then 30 else 16) (ls' := [mv_R 73, mv_I i, mv_I n]) (st' := []) (M1 := M) rfl ?_
      refine mv_sp' (fun ha6 => ?_) (fun ha6 => ?_)
      · refine mv_go' 1 (pc' := 31) (ls' := [mv_R 73, mv_I i, mv_I n]) (st' := [mv_I 0]) (M1 := M) rfl ?_
        exact mv_ret (fun n => rfl) rfl
      · refine mv_go' 3 (pc' := 21) (ls' := [mv_R 73, mv_I i, mv_I n]) (st' := [mv_I (M 73 2), mv_I i]) (M1 := M) rfl ?_
        rw [show M 73 2 = z from by exact hz]
        refine mv_go' 3 (pc' := if (mv_w (z - n)) < i then 30 else 26) (ls' := [mv_R 73, mv_I i, mv_I n]) (st' := []) (M1 := M) rfl ?_
        rw [show mv_w (z - n) = z - n from mv_w_id (by omega) (by omega)]
        refine mv_tt' (by omega) ?_
        refine mv_go' 1 (pc' := 31) (ls' := [mv_R 73, mv_I i, mv_I n]) (st' := [mv_I 0]) (M1 := M) rfl ?_
        exact mv_ret (fun n => rfl) rfl
theorem sp_write_1 {M : mv_M} {i : Nat} {v s : Int} (hs : M 73 1 = s) (h : i < 40) : mv_Ru 0 26 0 [mv_R 73, mv_I (i : Int), mv_I v] [] M mv_U (fun M1 => M1 = mv_st M 74 (mv_up (M 74) i (sp_cut s v))) := by
  by_cases e0 : s = 0
  · refine mv_go' 5 (pc' := 9) (ls' := [mv_R 73, mv_I (i : Int), mv_I v]) (st' := [mv_I (M 73 1), mv_I (i : Int), mv_R 74]) (M1 := M) rfl ?_
    rw [show M 73 1 = s from by exact hs]
    refine mv_go' 1 (pc' := if s = 0 then 12 else 17) (ls' := [mv_R 73, mv_I (i : Int), mv_I v]) (st' := [mv_I (i : Int), mv_R 74]) (M1 := M) rfl ?_
    refine mv_tt' (e0) ?_
    refine mv_go' 4 (pc' := if 0 ≤ (i : Int) ∧ (i : Int) < 40 then 32 else mv_bad) (ls' := [mv_R 73, mv_I (i : Int), mv_I v]) (st' := []) (M1 := (mv_st M 74 (mv_up (M 74) i (mv_i2b v)))) rfl ?_
    refine mv_tt' (by omega) ?_
    exact mv_ret (fun n => rfl) ((by rw [show sp_cut s v = mv_i2b v from if_pos e0]))
  · by_cases e1 : s = 1
    · refine mv_go' 5 (pc' := 9) (ls' := [mv_R 73, mv_I (i : Int), mv_I v]) (st' := [mv_I (M 73 1), mv_I (i : Int), mv_R 74]) (M1 := M) rfl ?_
      rw [show M 73 1 = s from by exact hs]
      refine mv_go' 1 (pc' := if s = 0 then 12 else 17) (ls' := [mv_R 73, mv_I (i : Int), mv_I v]) (st' := [mv_I (i : Int), mv_R 74]) (M1 := M) rfl ?_
      refine mv_ff' (e0) ?_
      refine mv_go' 2 (pc' := 21) (ls' := [mv_R 73, mv_I (i : Int), mv_I v]) (st' := [mv_I (M 73 1), mv_I (i : Int), mv_R 74]) (M1 := M) rfl ?_
      rw [show M 73 1 = s from by exact hs]
      refine mv_go' 2 (pc' := if s = 1 then 25 else 30) (ls' := [mv_R 73, mv_I (i : Int), mv_I v]) (st' := [mv_I (i : Int), mv_R 74]) (M1 := M) rfl ?_
      refine mv_tt' (e1) ?_
      refine mv_go' 4 (pc' := if 0 ≤ (i : Int) ∧ (i : Int) < 40 then 32 else mv_bad) (ls' := [mv_R 73, mv_I (i : Int), mv_I v]) (st' := []) (M1 := (mv_st M 74 (mv_up (M 74) i (mv_i2s v)))) rfl ?_
      refine mv_tt' (by omega) ?_
      exact mv_ret (fun n => rfl) ((by rw [show sp_cut s v = mv_i2s v from (if_neg e0).trans (if_pos e1)]))
    · refine mv_go' 5 (pc' := 9) (ls' := [mv_R 73, mv_I (i : Int), mv_I v]) (st' := [mv_I (M 73 1), mv_I (i : Int), mv_R 74]) (M1 := M) rfl ?_
      rw [show M 73 1 = s from by exact hs]
      refine mv_go' 1 (pc' := if s = 0 then 12 else 17) (ls' := [mv_R 73, mv_I (i : Int), mv_I v]) (st' := [mv_I (i : Int), mv_R 74]) (M1 := M) rfl ?_
      refine mv_ff' (e0) ?_
      refine mv_go' 2 (pc' := 21) (ls' := [mv_R 73, mv_I (i : Int), mv_I v]) (st' := [mv_I (M 73 1), mv_I (i : Int), mv_R 74]) (M1 := M) rfl ?_
      rw [show M 73 1 = s from by exact hs]
      refine mv_go' 2 (pc' := if s = 1 then 25 else 30) (ls' := [mv_R 73, mv_I (i : Int), mv_I v]) (st' := [mv_I (i : Int), mv_R 74]) (M1 := M) rfl ?_
      refine mv_ff' (e1) ?_
      refine mv_go' 2 (pc' := if 0 ≤ (i : Int) ∧ (i : Int) < 40 then 32 else mv_bad) (ls' := [mv_R 73, mv_I (i : Int), mv_I v]) (st' := []) (M1 := (mv_st M 74 (mv_up (M 74) i v))) rfl ?_
      refine mv_tt' (by omega) ?_
      exact mv_ret (fun n => rfl) ((by rw [show sp_cut s v = v from (if_neg e0).trans (if_neg e1)]))
theorem sp_shb_1 {M : mv_M} {a b : Int} : mv_Ru 1 23 0 [mv_R 73, mv_I a, mv_I b] [] M mv_U (fun M1 => mv_ag [73, 74] M M1 ∧ M1 73 = mv_up (mv_up (M 73) 1 a) 2 b ∧ ∀ j, j < 40 → M1 74 j = 0) := by
  refine mv_go' 9 (pc' := 15) (ls' := [mv_R 73, mv_I a, mv_I b]) (st' := [mv_I 0, mv_R 74]) (M1 := (mv_st (mv_st M 73 (mv_up (M 73) 1 a)) 73 (mv_up (mv_up (M 73) 1 a) 2 b))) rfl ?_
  refine mv_call (st2 := []) rfl (Or.inr rfl) rfl rfl rfl (sp_fill_74) (by first | decide | omega) (fun M1 h1 => ?_)
  exact mv_ret (fun n => rfl) (⟨((mv_ag.st (mv_ag.st mv_ag.rf (by decide)) (by decide)).tr (h1.1.wd (by decide))), (h1.1 73 (by decide)), h1.2⟩)
theorem sp_sheetAt_2 {M : mv_M} : mv_Ru 0 97 0 [mv_R 0, mv_I 2] [] M (mv_R 75) (fun M1 => M1 = M) := by
  refine mv_go' 2 (pc' := if 2 < 0 then 9 else 4) (ls' := [mv_R 0, mv_I 2]) (st' := []) (M1 := M) rfl ?_
  refine mv_ff' (by decide) ?_
  refine mv_go' 3 (pc' := if 2 < 4 then 13 else 9) (ls' := [mv_R 0, mv_I 2]) (st' := []) (M1 := M) rfl ?_
  refine mv_tt' (by decide) ?_
  refine mv_go' 4 (pc' := if 0 ≤ 2 ∧ 2 < 4 then 19 else mv_bad) (ls' := [mv_R 0, mv_I 2]) (st' := [mv_R 75]) (M1 := M) rfl ?_
  refine mv_tt' (by omega) ?_
  exact mv_ret (fun n => rfl) (rfl)
theorem sp_isMiss_2_t {M : mv_M} (h : M 75 1 = -1) : mv_Ru 0 24 0 [mv_R 75] [] M (mv_I 1) (fun M1 => M1 = M) := by
  refine mv_go' 4 (pc' := if (M 75 1) = (-1) then 8 else 12) (ls' := [mv_R 75]) (st' := []) (M1 := M) rfl ?_
  refine mv_tt' (h) ?_
  refine mv_go' 2 (pc' := 13) (ls' := [mv_R 75]) (st' := [mv_I 1]) (M1 := M) rfl ?_
  exact mv_ret (fun n => rfl) (rfl)
theorem sp_isMiss_2_f {M : mv_M} (h : ¬ (M 75 1 = -1)) : mv_Ru 0 24 0 [mv_R 75] [] M (mv_I 0) (fun M1 => M1 = M) := by
  refine mv_go' 4 (pc' := if (M 75 1) = (-1) then 8 else 12) (ls' := [mv_R 75]) (st' := []) (M1 := M) rfl ?_
  refine mv_ff' (h) ?_
  refine mv_go' 1 (pc' := 13) (ls' := [mv_R 75]) (st' := [mv_I 0]) (M1 := M) rfl ?_
  exact mv_ret (fun n => rfl) (rfl)
theorem sp_hasRun_2_t {M : mv_M} {i n z : Int} (hz : M 75 2 = z) (z0 : 0 ≤ z) (z1 : z ≤ 40) (h : 0 ≤ n ∧ n ≤ z ∧ 0 ≤ i ∧ i ≤ z - n) : mv_Ru 0 25 0 [mv_R 75, mv_I i, mv_I n] [] M (mv_I 1) (fun M1 => M1 = M) := by
  refine mv_go' 2 (pc' := if n < 0 then 30 else 4) (ls' := [mv_R 75, mv_I i, mv_I n]) (st' := []) (M1 := M) rfl ?_
  refine mv_ff' (by omega) ?_
  refine mv_go' 3 (pc' := 9) (ls' := [mv_R 75, mv_I i, mv_I n]) (st' := [mv_I (M 75 2), mv_I n]) (M1 := M) rfl ?_
  rw [show M 75 2 = z from by exact hz]
  refine mv_go' 1 (pc' := if z < n then 30 else 12) (ls' := [mv_R 75, mv_I i, mv_I n]) (st' := []) (M1 := M) rfl ?_
  refine mv_ff' (by omega) ?_
  refine mv_go' 2 (pc' := if i < 0 then 30 else 16) (ls' := [mv_R 75, mv_I i, mv_I n]) (st' := []) (M1 := M) rfl ?_
  refine mv_ff' (by omega) ?_
  refine mv_go' 3 (pc' := 21) (ls' := [mv_R 75, mv_I i, mv_I n]) (st' := [mv_I (M 75 2), mv_I i]) (M1 := M) rfl ?_
  rw [show M 75 2 = z from by exact hz]
  refine mv_go' 3 (pc' := if (mv_w (z - n)) < i then 30 else 26) (ls' := [mv_R 75, mv_I i, mv_I n]) (st' := []) (M1 := M) rfl ?_
  rw [show mv_w (z - n) = z - n from mv_w_id (by omega) (by omega)]
  refine mv_ff' (by omega) ?_
  refine mv_go' 2 (pc' := 31) (ls' := [mv_R 75, mv_I i, mv_I n]) (st' := [mv_I 1]) (M1 := M) rfl ?_
  exact mv_ret (fun n => rfl) rfl
theorem sp_hasRun_2_f {M : mv_M} {i n z : Int} (hz : M 75 2 = z) (z0 : 0 ≤ z) (z1 : z ≤ 40) (h : ¬ (0 ≤ n ∧ n ≤ z ∧ 0 ≤ i ∧ i ≤ z - n)) : mv_Ru 0 25 0 [mv_R 75, mv_I i, mv_I n] [] M (mv_I 0) (fun M1 => M1 = M) := by
  refine mv_go' 2 (pc' := if n < 0 then 30 else 4) (ls' := [mv_R 75, mv_I i, mv_I n]) (st' := []) (M1 := M) rfl ?_
  refine mv_sp' (fun ha7 => ?_) (fun ha7 => ?_)
  · refine mv_go' 1 (pc' := 31) (ls' := [mv_R 75, mv_I i, mv_I n]) (st' := [mv_I 0]) (M1 := M) rfl ?_
    exact mv_ret (fun n => rfl) rfl
  · refine mv_go' 3 (pc' := 9) (ls' := [mv_R 75, mv_I i, mv_I n]) (st' := [mv_I (M 75 2), mv_I n]) (M1 := M) rfl ?_
    rw [show M 75 2 = z from by exact hz]
    refine mv_go' 1 (pc' := if z < n then 30 else 12) (ls' := [mv_R 75, mv_I i, mv_I n]) (st' := []) (M1 := M) rfl ?_
    refine mv_sp' (fun ha8 => ?_) (fun ha8 => ?_)
    · refine mv_go' 1 (pc' := 31) (ls' := [mv_R 75, mv_I i, mv_I n]) (st' := [mv_I 0]) (M1 := M) rfl ?_
      exact mv_ret (fun n => rfl) rfl
    · refine mv_go' 2 (pc' := if i < 0 then 30 else 16) (ls' := [mv_R 75, mv_I i, mv_I n]) (st' := []) (M1 := M) rfl ?_
      refine mv_sp' (fun ha9 => ?_) (fun ha9 => ?_)
      · refine mv_go' 1 (pc' := 31) (ls' := [mv_R 75, mv_I i, mv_I n]) (st' := [mv_I 0]) (M1 := M) rfl ?_
        exact mv_ret (fun n => rfl) rfl
      · refine mv_go' 3 (pc' := 21) (ls' := [mv_R 75, mv_I i, mv_I n]) (st' := [mv_I (M 75 2), mv_I i]) (M1 := M) rfl ?_
        rw [show M 75 2 = z from by exact hz]
        refine mv_go' 3 (pc' := if (mv_w (z - n)) < i then 30 else 26) (ls' := [mv_R 75, mv_I i, mv_I n]) (st' := []) (M1 := M) rfl ?_
        rw [show mv_w (z - n) = z - n from mv_w_id (by omega) (by omega)]
        refine mv_tt' (by omega) ?_
        refine mv_go' 1 (pc' := 31) (ls' := [mv_R 75, mv_I i, mv_I n]) (st' := [mv_I 0]) (M1 := M) rfl ?_
        exact mv_ret (fun n => rfl) rfl
theorem sp_write_2 {M : mv_M} {i : Nat} {v s : Int} (hs : M 75 1 = s) (h : i < 40) : mv_Ru 0 26 0 [mv_R 75, mv_I (i : Int), mv_I v] [] M mv_U (fun M1 => M1 = mv_st M 76 (mv_up (M 76) i (sp_cut s v))) := by
  by_cases e0 : s = 0
  · refine mv_go' 5 (pc' := 9) (ls' := [mv_R 75, mv_I (i : Int), mv_I v]) (st' := [mv_I (M 75 1), mv_I (i : Int), mv_R 76]) (M1 := M) rfl ?_
    rw [show M 75 1 = s from by exact hs]
    refine mv_go' 1 (pc' := if s = 0 then 12 else 17) (ls' := [mv_R 75, mv_I (i : Int), mv_I v]) (st' := [mv_I (i : Int), mv_R 76]) (M1 := M) rfl ?_
    refine mv_tt' (e0) ?_
    refine mv_go' 4 (pc' := if 0 ≤ (i : Int) ∧ (i : Int) < 40 then 32 else mv_bad) (ls' := [mv_R 75, mv_I (i : Int), mv_I v]) (st' := []) (M1 := (mv_st M 76 (mv_up (M 76) i (mv_i2b v)))) rfl ?_
    refine mv_tt' (by omega) ?_
    exact mv_ret (fun n => rfl) ((by rw [show sp_cut s v = mv_i2b v from if_pos e0]))
  · by_cases e1 : s = 1
    · refine mv_go' 5 (pc' := 9) (ls' := [mv_R 75, mv_I (i : Int), mv_I v]) (st' := [mv_I (M 75 1), mv_I (i : Int), mv_R 76]) (M1 := M) rfl ?_
      rw [show M 75 1 = s from by exact hs]
      refine mv_go' 1 (pc' := if s = 0 then 12 else 17) (ls' := [mv_R 75, mv_I (i : Int), mv_I v]) (st' := [mv_I (i : Int), mv_R 76]) (M1 := M) rfl ?_
      refine mv_ff' (e0) ?_
      refine mv_go' 2 (pc' := 21) (ls' := [mv_R 75, mv_I (i : Int), mv_I v]) (st' := [mv_I (M 75 1), mv_I (i : Int), mv_R 76]) (M1 := M) rfl ?_
      rw [show M 75 1 = s from by exact hs]
      refine mv_go' 2 (pc' := if s = 1 then 25 else 30) (ls' := [mv_R 75, mv_I (i : Int), mv_I v]) (st' := [mv_I (i : Int), mv_R 76]) (M1 := M) rfl ?_
      refine mv_tt' (e1) ?_
      refine mv_go' 4 (pc' := if 0 ≤ (i : Int) ∧ (i : Int) < 40 then 32 else mv_bad) (ls' := [mv_R 75, mv_I (i : Int), mv_I v]) (st' := []) (M1 := (mv_st M 76 (mv_up (M 76) i (mv_i2s v)))) rfl ?_
      refine mv_tt' (by omega) ?_
      exact mv_ret (fun n => rfl) ((by rw [show sp_cut s v = mv_i2s v from (if_neg e0).trans (if_pos e1)]))
    · refine mv_go' 5 (pc' := 9) (ls' := [mv_R 75, mv_I (i : Int), mv_I v]) (st' := [mv_I (M 75 1), mv_I (i : Int), mv_R 76]) (M1 := M) rfl ?_
      rw [show M 75 1 = s from by exact hs]
      refine mv_go' 1 (pc' := if s = 0 then 12 else 17) (ls' := [mv_R 75, mv_I (i : Int), mv_I v]) (st' := [mv_I (i : Int), mv_R 76]) (M1 := M) rfl ?_
      refine mv_ff' (e0) ?_
      refine mv_go' 2 (pc' := 21) (ls' := [mv_R 75, mv_I (i : Int), mv_I v]) (st' := [mv_I (M 75 1), mv_I (i : Int), mv_R 76]) (M1 := M) rfl ?_
      rw [show M 75 1 = s from by exact hs]
      refine mv_go' 2 (pc' := if s = 1 then 25 else 30) (ls' := [mv_R 75, mv_I (i : Int), mv_I v]) (st' := [mv_I (i : Int), mv_R 76]) (M1 := M) rfl ?_
      refine mv_ff' (e1) ?_
      refine mv_go' 2 (pc' := if 0 ≤ (i : Int) ∧ (i : Int) < 40 then 32 else mv_bad) (ls' := [mv_R 75, mv_I (i : Int), mv_I v]) (st' := []) (M1 := (mv_st M 76 (mv_up (M 76) i v))) rfl ?_
      refine mv_tt' (by omega) ?_
      exact mv_ret (fun n => rfl) ((by rw [show sp_cut s v = v from (if_neg e0).trans (if_neg e1)]))
theorem sp_shb_2 {M : mv_M} {a b : Int} : mv_Ru 1 23 0 [mv_R 75, mv_I a, mv_I b] [] M mv_U (fun M1 => mv_ag [75, 76] M M1 ∧ M1 75 = mv_up (mv_up (M 75) 1 a) 2 b ∧ ∀ j, j < 40 → M1 76 j = 0) := by
  refine mv_go' 9 (pc' := 15) (ls' := [mv_R 75, mv_I a, mv_I b]) (st' := [mv_I 0, mv_R 76]) (M1 := (mv_st (mv_st M 75 (mv_up (M 75) 1 a)) 75 (mv_up (mv_up (M 75) 1 a) 2 b))) rfl ?_
  refine mv_call (st2 := []) rfl (Or.inr rfl) rfl rfl rfl (sp_fill_76) (by first | decide | omega) (fun M1 h1 => ?_)
  exact mv_ret (fun n => rfl) (⟨((mv_ag.st (mv_ag.st mv_ag.rf (by decide)) (by decide)).tr (h1.1.wd (by decide))), (h1.1 75 (by decide)), h1.2⟩)
theorem sp_sheetAt_3 {M : mv_M} : mv_Ru 0 97 0 [mv_R 0, mv_I 3] [] M (mv_R 77) (fun M1 => M1 = M) := by
  refine mv_go' 2 (pc' := if 3 < 0 then 9 else 4) (ls' := [mv_R 0, mv_I 3]) (st' := []) (M1 := M) rfl ?_
  refine mv_ff' (by decide) ?_
  refine mv_go' 3 (pc' := if 3 < 4 then 13 else 9) (ls' := [mv_R 0, mv_I 3]) (st' := []) (M1 := M) rfl ?_
  refine mv_tt' (by decide) ?_
  refine mv_go' 4 (pc' := if 0 ≤ 3 ∧ 3 < 4 then 19 else mv_bad) (ls' := [mv_R 0, mv_I 3]) (st' := [mv_R 77]) (M1 := M) rfl ?_
  refine mv_tt' (by omega) ?_
  exact mv_ret (fun n => rfl) (rfl)
theorem sp_isMiss_3_t {M : mv_M} (h : M 77 1 = -1) : mv_Ru 0 24 0 [mv_R 77] [] M (mv_I 1) (fun M1 => M1 = M) := by
  refine mv_go' 4 (pc' := if (M 77 1) = (-1) then 8 else 12) (ls' := [mv_R 77]) (st' := []) (M1 := M) rfl ?_
  refine mv_tt' (h) ?_
  refine mv_go' 2 (pc' := 13) (ls' := [mv_R 77]) (st' := [mv_I 1]) (M1 := M) rfl ?_
  exact mv_ret (fun n => rfl) (rfl)
theorem sp_isMiss_3_f {M : mv_M} (h : ¬ (M 77 1 = -1)) : mv_Ru 0 24 0 [mv_R 77] [] M (mv_I 0) (fun M1 => M1 = M) := by
  refine mv_go' 4 (pc' := if (M 77 1) = (-1) then 8 else 12) (ls' := [mv_R 77]) (st' := []) (M1 := M) rfl ?_
  refine mv_ff' (h) ?_
  refine mv_go' 1 (pc' := 13) (ls' := [mv_R 77]) (st' := [mv_I 0]) (M1 := M) rfl ?_
  exact mv_ret (fun n => rfl) (rfl)
theorem sp_hasRun_3_t {M : mv_M} {i n z : Int} (hz : M 77 2 = z) (z0 : 0 ≤ z) (z1 : z ≤ 40) (h : 0 ≤ n ∧ n ≤ z ∧ 0 ≤ i ∧ i ≤ z - n) : mv_Ru 0 25 0 [mv_R 77, mv_I i, mv_I n] [] M (mv_I 1) (fun M1 => M1 = M) := by
  refine mv_go' 2 (pc' := if n < 0 then 30 else 4) (ls' := [mv_R 77, mv_I i, mv_I n]) (st' := []) (M1 := M) rfl ?_
  refine mv_ff' (by omega) ?_
  refine mv_go' 3 (pc' := 9) (ls' := [mv_R 77, mv_I i, mv_I n]) (st' := [mv_I (M 77 2), mv_I n]) (M1 := M) rfl ?_
  rw [show M 77 2 = z from by exact hz]
  refine mv_go' 1 (pc' := if z < n then 30 else 12) (ls' := [mv_R 77, mv_I i, mv_I n]) (st' := []) (M1 := M) rfl ?_
  refine mv_ff' (by omega) ?_
  refine mv_go' 2 (pc' := if i < 0 then 30 else 16) (ls' := [mv_R 77, mv_I i, mv_I n]) (st' := []) (M1 := M) rfl ?_
  refine mv_ff' (by omega) ?_
  refine mv_go' 3 (pc' := 21) (ls' := [mv_R 77, mv_I i, mv_I n]) (st' := [mv_I (M 77 2), mv_I i]) (M1 := M) rfl ?_
  rw [show M 77 2 = z from by exact hz]
  refine mv_go' 3 (pc' := if (mv_w (z - n)) < i then 30 else 26) (ls' := [mv_R 77, mv_I i, mv_I n]) (st' := []) (M1 := M) rfl ?_
  rw [show mv_w (z - n) = z - n from mv_w_id (by omega) (by omega)]
  refine mv_ff' (by omega) ?_
  refine mv_go' 2 (pc' := 31) (ls' := [mv_R 77, mv_I i, mv_I n]) (st' := [mv_I 1]) (M1 := M) rfl ?_
  exact mv_ret (fun n => rfl) rfl
theorem sp_hasRun_3_f {M : mv_M} {i n z : Int} (hz : M 77 2 = z) (z0 : 0 ≤ z) (z1 : z ≤ 40) (h : ¬ (0 ≤ n ∧ n ≤ z ∧ 0 ≤ i ∧ i ≤ z - n)) : mv_Ru 0 25 0 [mv_R 77, mv_I i, mv_I n] [] M (mv_I 0) (fun M1 => M1 = M) := by
  refine mv_go' 2 (pc' := if n < 0 then 30 else 4) (ls' := [mv_R 77, mv_I i, mv_I n]) (st' := []) (M1 := M) rfl ?_
  refine mv_sp' (fun ha10 => ?_) (fun ha10 => ?_)
  · refine mv_go' 1 (pc' := 31) (ls' := [mv_R 77, mv_I i, mv_I n]) (st' := [mv_I 0]) (M1 := M) rfl ?_
    exact mv_ret (fun n => rfl) rfl
  · refine mv_go' 3 (pc' := 9) (ls' := [mv_R 77, mv_I i, mv_I n]) (st' := [mv_I (M 77 2), mv_I n]) (M1 := M) rfl ?_
    rw [show M 77 2 = z from by exact hz]
    refine mv_go' 1 (pc' := if z < n then 30 else 12) (ls' := [mv_R 77, mv_I i, mv_I n]) (st' := []) (M1 := M) rfl ?_
    refine mv_sp' (fun ha11 => ?_) (fun ha11 => ?_)
    · refine mv_go' 1 (pc' := 31) (ls' := [mv_R 77, mv_I i, mv_I n]) (st' := [mv_I 0]) (M1 := M) rfl ?_
      exact mv_ret (fun n => rfl) rfl
    · refine mv_go' 2 (pc' := if i < 0 then 30 else 16) (ls' := [mv_R 77, mv_I i, mv_I n]) (st' := []) (M1 := M) rfl ?_
      refine mv_sp' (fun ha12 => ?_) (fun ha12 => ?_)
      · refine mv_go' 1 (pc' := 31) (ls' := [mv_R 77, mv_I i, mv_I n]) (st' := [mv_I 0]) (M1 := M) rfl ?_
        exact mv_ret (fun n => rfl) rfl
      · refine mv_go' 3 (pc' := 21) (ls' := [mv_R 77, mv_I i, mv_I n]) (st' := [mv_I (M 77 2), mv_I i]) (M1 := M) rfl ?_
        rw [show M 77 2 = z from by exact hz]
        refine mv_go' 3 (pc' := if (mv_w (z - n)) < i then 30 else 26) (ls' := [mv_R 77, mv_I i, mv_I n]) (st' := []) (M1 := M) rfl ?_
        rw [show mv_w (z - n) = z - n from mv_w_id (by omega) (by omega)]
        refine mv_tt' (by omega) ?_
        refine mv_go' 1 (pc' := 31) (ls' := [mv_R 77, mv_I i, mv_I n]) (st' := [mv_I 0]) (M1 := M) rfl ?_
        exact mv_ret (fun n => rfl) rfl
theorem sp_write_3 {M : mv_M} {i : Nat} {v s : Int} (hs : M 77 1 = s) (h : i < 40) : mv_Ru 0 26 0 [mv_R 77, mv_I (i : Int), mv_I v] [] M mv_U (fun M1 => M1 = mv_st M 78 (mv_up (M 78) i (sp_cut s v))) := by
  by_cases e0 : s = 0
  · refine mv_go' 5 (pc' := 9) (ls' := [mv_R 77, mv_I (i : Int), mv_I v]) (st' := [mv_I (M 77 1), mv_I (i : Int), mv_R 78]) (M1 := M) rfl ?_
    rw [show M 77 1 = s from by exact hs]
    refine mv_go' 1 (pc' := if s = 0 then 12 else 17) (ls' := [mv_R 77, mv_I (i : Int), mv_I v]) (st' := [mv_I (i : Int), mv_R 78]) (M1 := M) rfl ?_
    refine mv_tt' (e0) ?_
    refine mv_go' 4 (pc' := if 0 ≤ (i : Int) ∧ (i : Int) < 40 then 32 else mv_bad) (ls' := [mv_R 77, mv_I (i : Int), mv_I v]) (st' := []) (M1 := (mv_st M 78 (mv_up (M 78) i (mv_i2b v)))) rfl ?_
    refine mv_tt' (by omega) ?_
    exact mv_ret (fun n => rfl) ((by rw [show sp_cut s v = mv_i2b v from if_pos e0]))
  · by_cases e1 : s = 1
    · refine mv_go' 5 (pc' := 9) (ls' := [mv_R 77, mv_I (i : Int), mv_I v]) (st' := [mv_I (M 77 1), mv_I (i : Int), mv_R 78]) (M1 := M) rfl ?_
      rw [show M 77 1 = s from by exact hs]
      refine mv_go' 1 (pc' := if s = 0 then 12 else 17) (ls' := [mv_R 77, mv_I (i : Int), mv_I v]) (st' := [mv_I (i : Int), mv_R 78]) (M1 := M) rfl ?_
      refine mv_ff' (e0) ?_
      refine mv_go' 2 (pc' := 21) (ls' := [mv_R 77, mv_I (i : Int), mv_I v]) (st' := [mv_I (M 77 1), mv_I (i : Int), mv_R 78]) (M1 := M) rfl ?_
      rw [show M 77 1 = s from by exact hs]
      refine mv_go' 2 (pc' := if s = 1 then 25 else 30) (ls' := [mv_R 77, mv_I (i : Int), mv_I v]) (st' := [mv_I (i : Int), mv_R 78]) (M1 := M) rfl ?_
      refine mv_tt' (e1) ?_
      refine mv_go' 4 (pc' := if 0 ≤ (i : Int) ∧ (i : Int) < 40 then 32 else mv_bad) (ls' := [mv_R 77, mv_I (i : Int), mv_I v]) (st' := []) (M1 := (mv_st M 78 (mv_up (M 78) i (mv_i2s v)))) rfl ?_
      refine mv_tt' (by omega) ?_
      exact mv_ret (fun n => rfl) ((by rw [show sp_cut s v = mv_i2s v from (if_neg e0).trans (if_pos e1)]))
    · refine mv_go' 5 (pc' := 9) (ls' := [mv_R 77, mv_I (i : Int), mv_I v]) (st' := [mv_I (M 77 1), mv_I (i : Int), mv_R 78]) (M1 := M) rfl ?_
      rw [show M 77 1 = s from by exact hs]
      refine mv_go' 1 (pc' := if s = 0 then 12 else 17) (ls' := [mv_R 77, mv_I (i : Int), mv_I v]) (st' := [mv_I (i : Int), mv_R 78]) (M1 := M) rfl ?_
      refine mv_ff' (e0) ?_
      refine mv_go' 2 (pc' := 21) (ls' := [mv_R 77, mv_I (i : Int), mv_I v]) (st' := [mv_I (M 77 1), mv_I (i : Int), mv_R 78]) (M1 := M) rfl ?_
      rw [show M 77 1 = s from by exact hs]
      refine mv_go' 2 (pc' := if s = 1 then 25 else 30) (ls' := [mv_R 77, mv_I (i : Int), mv_I v]) (st' := [mv_I (i : Int), mv_R 78]) (M1 := M) rfl ?_
      refine mv_ff' (e1) ?_
      refine mv_go' 2 (pc' := if 0 ≤ (i : Int) ∧ (i : Int) < 40 then 32 else mv_bad) (ls' := [mv_R 77, mv_I (i : Int), mv_I v]) (st' := []) (M1 := (mv_st M 78 (mv_up (M 78) i v))) rfl ?_
      refine mv_tt' (by omega) ?_
      exact mv_ret (fun n => rfl) ((by rw [show sp_cut s v = v from (if_neg e0).trans (if_neg e1)]))
theorem sp_shb_3 {M : mv_M} {a b : Int} : mv_Ru 1 23 0 [mv_R 77, mv_I a, mv_I b] [] M mv_U (fun M1 => mv_ag [77, 78] M M1 ∧ M1 77 = mv_up (mv_up (M 77) 1 a) 2 b ∧ ∀ j, j < 40 → M1 78 j = 0) := by
  refine mv_go' 9 (pc' := 15) (ls' := [mv_R 77, mv_I a, mv_I b]) (st' := [mv_I 0, mv_R 78]) (M1 := (mv_st (mv_st M 77 (mv_up (M 77) 1 a)) 77 (mv_up (mv_up (M 77) 1 a) 2 b))) rfl ?_
  refine mv_call (st2 := []) rfl (Or.inr rfl) rfl rfl rfl (sp_fill_78) (by first | decide | omega) (fun M1 h1 => ?_)
  exact mv_ret (fun n => rfl) (⟨((mv_ag.st (mv_ag.st mv_ag.rf (by decide)) (by decide)).tr (h1.1.wd (by decide))), (h1.1 77 (by decide)), h1.2⟩)
/-- one sheet is another -/
theorem sp_R_sh {S : Nat} {V : mv_M} {P : Nat → Nat → List Int} {n : Int} {B : mv_M} {K : Int} {t : Nat} {M M2 : mv_M} (hS : S < 4) (h : sp_R V P n B K t M) (e : ∀ i, (i < 71 ∨ (78 < i ∧ i < 117) ∨ 119 < i) → M2 i = M i)
    (eo : ∀ s, s < 4 → s ≠ S → (M2 (71 + 2 * s) = M (71 + 2 * s) ∧ M2 (72 + 2 * s) = M (72 + 2 * s)) ∧ (M2 117 s = M 117 s ∧ M2 118 s = M 118 s) ∧ ∀ j, j < 40 → M2 119 (40 * s + j) = M 119 (40 * s + j))
    (en : (M2 (71 + 2 * S) 1 = M2 117 S ∧ -1 ≤ M2 117 S ∧ M2 117 S ≤ 2) ∧ (M2 (71 + 2 * S) 2 = M2 118 S ∧ 0 ≤ M2 118 S ∧ M2 118 S ≤ 40) ∧ ∀ j, j < 40 → M2 (72 + 2 * S) j = M2 119 (40 * S + j)) : sp_R V P n B K t M2 := by
  obtain ⟨⟨hc, hm, hok⟩, hn, ⟨hct, hmt, hn0, hn1⟩, hi, ht, hs, hw⟩ := h
  refine ⟨⟨?_, ?_, hok⟩, hn, ⟨?_, ?_, ?_, ?_⟩, ?_, ?_, ?_, ?_⟩
  · unfold sp_c
    rw [e 30 (by decide), e (30 + 1) (by decide), e (30 + 2) (by decide), e (30 + 3) (by decide), e (30 + 4) (by decide), e (30 + 5) (by decide)]
    exact hc
  · unfold sp_m
    rw [e 100 (by decide), e 102 (by decide), e 103 (by decide), e 104 (by decide), e 105 (by decide), e 106 (by decide)]
    exact hm
  · intro t ht
    unfold sp_ct
    rw [e _ (Or.inl (by omega : 10 + 3 * t + 1 < 71)), e _ (Or.inl (by omega : 10 + 3 * t + 2 < 71))]
    exact hct t ht
  · intro t ht
    unfold sp_mt
    rw [e 110 (by decide), e 111 (by decide)]
    exact hmt t ht
  · rw [e 0 (by decide)]; exact hn0
  · rw [e 100 (by decide)]; exact hn1
  · unfold sp_im sp_c sp_mi
    rw [e 0 (by decide), e 100 (by decide), e 40 (by decide), e (40 + 1) (by decide), e (40 + 2) (by decide), e (40 + 3) (by decide), e (40 + 4) (by decide), e (40 + 5) (by decide), e 115 (by decide), e 116 (by decide)]
    exact hi
  · unfold sp_tp
    rw [e 28 (by decide), e 100 (by decide), e 29 (by decide), e 108 (by decide)]
    exact ht
  · intro s hs4
    by_cases q : s = S
    · rw [q]; exact en
    · obtain ⟨⟨a1, a2⟩, ⟨a3, a4⟩, a5⟩ := eo s hs4 q
      have h1 := hs s hs4
      rw [a1, a2, a3, a4]
      exact ⟨h1.1, h1.2.1, fun j hj => (h1.2.2 j hj).trans (a5 j hj).symm⟩
  · rw [e 125 (by decide)]; exact hw
