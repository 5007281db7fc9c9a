/-! best: looksAt, from its start -/
theorem sp_mlz {d : Nat} {M0 : mv_M} {N U : Int} {Q : mv_M → Prop} {w : mv_V} (h9 : 0 ≤ U ∧ U ≤ 6) (hU : M0 100 1 = U) : ∀ (r k : Nat) (M : mv_M), (k : Int) + r = U → mv_ag [135] M0 M → (∀ j, j < k → M 135 j = 0) →
    (∀ (k : Nat) M2, mv_ag [135] M0 M2 → (∀ j : Nat, (j : Int) < U → M2 135 j = 0) → mv_Ru d 158 43 [mv_R 100, mv_I N, mv_I N, mv_I 1, mv_I 1, mv_I (k : Int), mv_U] [] M2 w Q) → mv_Ru d 158 20 [mv_R 100, mv_I N, mv_I N, mv_I 1, mv_I 1, mv_I (k : Int), mv_U] [] M w Q := by
  intro r
  induction r with
  | zero =>
    intro k M hk hag hj e
    have e9 : M 100 1 = (k : Int) := by rw [hag 100 (by decide), hU]; omega
    refine mv_go' 3 (pc' := 26) (ls' := [mv_R 100, mv_I N, mv_I N, mv_I 1, mv_I 1, mv_I (k : Int), mv_U]) (st' := [mv_I (M 100 1), mv_I (k : Int)]) (M1 := M) rfl ?_
    rw [show M 100 1 = (k : Int) from by exact e9]
    refine mv_go' 1 (pc' := if (k : Int) < (k : Int) then 29 else 43) (ls' := [mv_R 100, mv_I N, mv_I N, mv_I 1, mv_I 1, mv_I (k : Int), mv_U]) (st' := []) (M1 := M) rfl ?_
    refine mv_ff' (by omega) ?_
    exact e k M hag (fun j hj2 => hj j (by omega))
  | succ r ih =>
    intro k M hk hag hj e
    have e9 : M 100 1 = U := by rw [hag 100 (by decide), hU]
    refine mv_go' 3 (pc' := 26) (ls' := [mv_R 100, mv_I N, mv_I N, mv_I 1, mv_I 1, mv_I (k : Int), mv_U]) (st' := [mv_I (M 100 1), mv_I (k : Int)]) (M1 := M) rfl ?_
    rw [show M 100 1 = U from by exact e9]
    refine mv_go' 1 (pc' := if (k : Int) < U then 29 else 43) (ls' := [mv_R 100, mv_I N, mv_I N, mv_I 1, mv_I 1, mv_I (k : Int), mv_U]) (st' := []) (M1 := M) rfl ?_
    refine mv_tt' (by omega) ?_
    refine mv_go' 5 (pc' := if 0 ≤ (k : Int) ∧ (k : Int) < 6 then 37 else mv_bad) (ls' := [mv_R 100, mv_I N, mv_I N, mv_I 1, mv_I 1, mv_I (k : Int), mv_U]) (st' := []) (M1 := (mv_st M 135 (mv_up (M 135) k 0))) rfl ?_
    refine mv_tt' (by omega) ?_
    refine mv_go' 2 (pc' := 20) (ls' := [mv_R 100, mv_I N, mv_I N, mv_I 1, mv_I 1, mv_I (mv_w ((k : Int) + 1)), mv_U]) (st' := []) (M1 := (mv_st M 135 (mv_up (M 135) k 0))) rfl ?_
    rw [show mv_w ((k : Int) + 1) = ((k + 1 : Nat) : Int) from by (rw [show mv_w ((k : Int) + 1) = (k : Int) + 1 from mv_w_id (by omega) (by omega)]) <;> omega]
    refine ih (k + 1) _ (by omega) (hag.st (by decide)) (fun j hj2 => ?_) e
    show mv_up (M 135) k 0 j = 0
    by_cases q : j = k
    · rw [q, mv_up_s]
    · rw [mv_up_n _ _ q]; exact hj j (by omega)
theorem sp_mla {V M0 : mv_M} {P : Nat → Nat → List Int} {rm : Nat → Int} {b N d : Nat} (ho : sp_ok V) (hb : (b : Int) = V 0 9 + 1) (h100 : M0 100 0 = V 0 8 ∧ M0 100 1 = V 0 9) (hrm : ∀ u : Nat, (u : Int) < V 0 9 → M0 134 u = rm u) (ht : ∀ c u : Nat, (c : Int) < V 0 8 → (u : Int) < V 0 9 → M0 133 (6 * c + u) = sp_suits V P c u) (hN : N < 200000) :
    mv_Ru d 158 0 [mv_R 100, mv_I (N : Int), mv_U, mv_U, mv_U, mv_U, mv_U] [] M0 (mv_I (sp_kg rm b N (V 0 8).toNat)) (fun M1 => (mv_ag [100, 135] M0 M1 ∧ ∀ x, x ≠ 38 → x ≠ 39 → M1 100 x = M0 100 x) ∧ (sp_kg rm b N (V 0 8).toNat = 1 → M1 100 38 = sp_kd b N (V 0 8).toNat ∧ M1 100 39 = sp_ks V P b N (V 0 8).toNat)) := by
  have h8 := sp_ok_s8 ho
  have h9 := sp_ok_s9 ho
  refine mv_go' 14 (pc' := 20) (ls' := [mv_R 100, mv_I (N : Int), mv_I (N : Int), mv_I 1, mv_I 1, mv_I 0, mv_U]) (st' := []) (M1 := (mv_st (mv_st M0 100 (mv_up (M0 100) 38 0)) 100 (mv_up (mv_up (M0 100) 38 0) 39 0))) rfl ?_
  obtain ⟨MX, eX⟩ : ∃ MX, MX = (mv_st (mv_st M0 100 (mv_up (M0 100) 38 0)) 100 (mv_up (mv_up (M0 100) 38 0) 39 0)) := ⟨_, rfl⟩
  have a1 : mv_ag [100] M0 MX := by rw [eX]; repeat (first | exact mv_ag.rf | refine mv_ag.st ?_ (by decide))
  have a2 : ∀ j, j ≠ 38 → j ≠ 39 → MX 100 j = M0 100 j := fun j j1 j2 => by rw [eX]; exact (mv_up_n _ _ j2).trans (mv_up_n _ _ j1)
  have a3 : MX 100 38 = 0 := by rw [eX]; rfl
  have a4 : MX 100 39 = 0 := by rw [eX]; rfl
  rw [← eX]
  refine sp_mlz (M0 := MX) (U := V 0 9) h9 (by rw [a2 1 (by decide) (by decide)]; exact h100.2) (V 0 9).toNat 0 MX (by omega) mv_ag.rf (fun j hj => absurd hj (by omega)) (fun k M2 q1 q2 => ?_)
  have e100 : M2 100 = MX 100 := q1 100 (by decide)
  have e8 : M2 100 0 = V 0 8 := by rw [e100, a2 0 (by decide) (by decide)]; exact h100.1
  have hag : mv_ag [100, 135] M0 M2 := (a1.wd (by decide)).tr (q1.wd (by decide))
  refine mv_go' 2 (pc' := 47) (ls' := [mv_R 100, mv_I (N : Int), mv_I (N : Int), mv_I 1, mv_I 1, mv_I (k : Int), mv_U]) (st' := [mv_I (M2 100 0)]) (M1 := M2) rfl ?_
  rw [show M2 100 0 = V 0 8 from by exact e8]
  refine mv_go' 3 (pc' := 51) (ls' := [mv_R 100, mv_I (N : Int), mv_I (N : Int), mv_I 1, mv_I 1, mv_I (mv_w ((V 0 8) - 1)), mv_U]) (st' := []) (M1 := M2) rfl ?_
  rw [show mv_w ((V 0 8) - 1) = (((V 0 8).toNat : Nat) : Int) - 1 from by rw [mv_w_id (by omega) (by omega)]; omega]
  refine mv_eqs (ls2 := [mv_R 100, mv_I (N : Int), mv_I (sp_lf b N 0 : Int), mv_I (sp_tn 0), mv_I 1, mv_I (((V 0 8).toNat : Int) - 1), mv_U]) (by rw [show sp_lf b N 0 = N from by unfold sp_lf; simp]; rfl) rfl rfl ?_
  exact sp_mla_lp (M0 := M0) (rm := rm) ho hb h100.2 hrm ht hN (V 0 8).toNat 0 M2 mv_U (by omega) hag (fun x j1 j2 => by rw [e100]; exact a2 x j1 j2) (by rw [e100]; exact a3) (by rw [e100]; exact a4) (fun u hu => q2 u hu) rfl rfl
