/-! best: goesThrough, from its start -/
theorem sp_mgp {V M : mv_M} {b d : Nat} {Q : mv_M → Prop} {w : mv_V} (ho : sp_ok V) (hb : (b : Int) = V 0 9 + 1) (h100 : M 100 0 = V 0 8 ∧ M 100 1 = V 0 9) (e : mv_Ru d 159 27 [mv_R 100, mv_I ((b ^ (V 0 8).toNat : Nat) : Int), mv_I (V 0 8), mv_U] [] M w Q) :
    ∀ (r c : Nat), (c : Int) + r = V 0 8 → mv_Ru d 159 4 [mv_R 100, mv_I ((b ^ c : Nat) : Int), mv_I (c : Int), mv_U] [] M w Q := by
  have h8 := sp_ok_s8 ho
  have h9 := sp_ok_s9 ho
  intro r
  induction r with
  | zero =>
    intro c hk
    have e8 : M 100 0 = (c : Int) := by rw [h100.1]; omega
    rw [show V 0 8 = (c : Int) from by omega, Int.toNat_natCast] at e
    obtain ⟨p, hp⟩ : ∃ p, p = b ^ c := ⟨_, rfl⟩
    rw [← hp] at e ⊢
    refine mv_go' 3 (pc' := 9) (ls' := [mv_R 100, mv_I (p : Int), mv_I (c : Int), mv_U]) (st' := [mv_I (M 100 0), mv_I (c : Int)]) (M1 := M) rfl ?_
    rw [show M 100 0 = (c : Int) from by exact e8]
    refine mv_go' 1 (pc' := if (c : Int) < (c : Int) then 12 else 27) (ls' := [mv_R 100, mv_I (p : Int), mv_I (c : Int), mv_U]) (st' := []) (M1 := M) rfl ?_
    refine mv_ff' (by omega) ?_
    exact e
  | succ r ih =>
    intro c hk
    have hpw := sp_pw (b := b) (by omega) (c + 1) (by omega)
    have hm : mv_w (((b ^ c : Nat) : Int) * (b : Int)) = ((b ^ (c + 1) : Nat) : Int) := by
      rw [← Int.natCast_mul, show b ^ c * b = b ^ (c + 1) from (Nat.pow_succ b c).symm]
      exact mv_w_id (by omega) (by omega)
    have ih2 := ih (c + 1) (by omega)
    obtain ⟨p2, hp2⟩ : ∃ p, p = b ^ (c + 1) := ⟨_, rfl⟩
    rw [← hp2] at hm ih2
    obtain ⟨p, hp⟩ : ∃ p, p = b ^ c := ⟨_, rfl⟩
    rw [← hp] at hm ⊢
    refine mv_go' 3 (pc' := 9) (ls' := [mv_R 100, mv_I (p : Int), mv_I (c : Int), mv_U]) (st' := [mv_I (M 100 0), mv_I (c : Int)]) (M1 := M) rfl ?_
    rw [show M 100 0 = V 0 8 from by exact h100.1]
    refine mv_go' 1 (pc' := if (c : Int) < (V 0 8) then 12 else 27) (ls' := [mv_R 100, mv_I (p : Int), mv_I (c : Int), mv_U]) (st' := []) (M1 := M) rfl ?_
    refine mv_tt' (by omega) ?_
    refine mv_go' 3 (pc' := 17) (ls' := [mv_R 100, mv_I (p : Int), mv_I (c : Int), mv_U]) (st' := [mv_I (M 100 1), mv_I (p : Int)]) (M1 := M) rfl ?_
    rw [show M 100 1 = V 0 9 from by exact h100.2]
    refine mv_go' 2 (pc' := 19) (ls' := [mv_R 100, mv_I (p : Int), mv_I (c : Int), mv_U]) (st' := [mv_I (mv_w ((V 0 9) + 1)), mv_I (p : Int)]) (M1 := M) rfl ?_
    rw [show mv_w ((V 0 9) + 1) = (V 0 9) + 1 from mv_w_id (by omega) (by omega)]
    rw [show (V 0 9) + 1 = (b : Int) from by omega]
    refine mv_go' 1 (pc' := 20) (ls' := [mv_R 100, mv_I (p : Int), mv_I (c : Int), mv_U]) (st' := [mv_I (mv_w ((p : Int) * (b : Int)))]) (M1 := M) rfl ?_
    rw [show mv_w ((p : Int) * (b : Int)) = (p2 : Int) from by exact hm]
    refine mv_go' 3 (pc' := 4) (ls' := [mv_R 100, mv_I (p2 : Int), mv_I (mv_w ((c : Int) + 1)), mv_U]) (st' := []) (M1 := M) rfl ?_
    rw [show mv_w ((c : Int) + 1) = (c : Int) + 1 from mv_w_id (by omega) (by omega)]
    rw [show (c : Int) + 1 = ((c + 1 : Nat) : Int) from by omega]
    exact ih2
theorem sp_mgo2 {V M : mv_M} {P : Nat → Nat → List Int} {rm : Nat → Int} {b d : Nat} (ho : sp_ok V) (hb : (b : Int) = V 0 9 + 1) (h100 : M 100 0 = V 0 8 ∧ M 100 1 = V 0 9) (hrm : ∀ u : Nat, (u : Int) < V 0 9 → M 134 u = rm u) (ht : ∀ c u : Nat, (c : Int) < V 0 8 → (u : Int) < V 0 9 → M 133 (6 * c + u) = sp_suits V P c u) :
    mv_Ru (d + 1) 159 0 [mv_R 100, mv_U, mv_U, mv_U] [] M mv_U (fun M1 => (mv_ag [100, 135] M M1 ∧ ∀ x, (x ≠ 36 ∧ x ≠ 37 ∧ x ≠ 38 ∧ x ≠ 39) → M1 100 x = M 100 x) ∧ M1 100 36 = (sp_gt V P rm b (b ^ (V 0 8).toNat)).2.1 ∧ M1 100 37 = (sp_gt V P rm b (b ^ (V 0 8).toNat)).2.2) := by
  have h8 := sp_ok_s8 ho
  have h9 := sp_ok_s9 ho
  have hK := sp_pw (b := b) (by omega) (V 0 8).toNat (by omega)
  refine mv_go' 4 (pc' := 4) (ls' := [mv_R 100, mv_I 1, mv_I 0, mv_U]) (st' := []) (M1 := M) rfl ?_
  refine mv_eqs (ls2 := [mv_R 100, mv_I ((b ^ 0 : Nat) : Int), mv_I ((0 : Nat) : Int), mv_U]) (by rw [Nat.pow_zero]; rfl) rfl rfl ?_
  refine sp_mgp ho hb h100 ?_ (V 0 8).toNat 0 (by omega)
  obtain ⟨K, hKe⟩ : ∃ K, K = b ^ (V 0 8).toNat := ⟨_, rfl⟩
  rw [← hKe] at hK ⊢
  refine mv_go' 10 (pc' := 41) (ls' := [mv_R 100, mv_I (K : Int), mv_I 0, mv_I 0]) (st' := []) (M1 := (mv_st (mv_st M 100 (mv_up (M 100) 36 0)) 100 (mv_up (mv_up (M 100) 36 0) 37 0))) rfl ?_
  refine (sp_mgt (d := d) (M0 := (mv_st (mv_st M 100 (mv_up (M 100) 36 0)) 100 (mv_up (mv_up (M 100) 36 0) 37 0))) (rm := rm) (P := P) (b := b) ho hb h100 hrm ht hK K 0 (mv_st (mv_st M 100 (mv_up (M 100) 36 0)) 100 (mv_up (mv_up (M 100) 36 0) 37 0)) 0 (by omega) mv_ag.rf (fun _ _ => rfl) rfl rfl rfl).imp (fun M1 q => ⟨⟨?_, fun x hx => (q.1.2 x hx).trans ((mv_up_n _ _ hx.2.1).trans (mv_up_n _ _ hx.1))⟩, q.2⟩)
  exact (mv_ag.tr (S := [100, 135]) (by repeat (first | exact mv_ag.rf | refine mv_ag.st ?_ (by decide))) q.1.1)
