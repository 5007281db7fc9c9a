/-! the end of the model's constructor: the first law is read -/
theorem sp_X6l {M0 : mv_M} {v : mv_V} {Q : mv_M → Prop} (h120 : ∀ j, j < 53 → M0 120 j = sp_fir j) (e : ∀ M1, mv_ag [108] M0 M1 → (∀ j, j < 53 → M1 108 j = sp_fir j) → mv_Ru 13 210 1146 [mv_R 100, mv_I 53] [] M1 v Q) :
    ∀ (r i : Nat) (M : mv_M), i + r = 53 → mv_ag [108] M0 M → (∀ j, j < i → M 108 j = sp_fir j) → mv_Ru 13 210 1122 [mv_R 100, mv_I (i : Int)] [] M v Q := by
  intro r
  induction r with
  | zero =>
    intro i M hi h1 h2
    have hi : i = 53 := by omega
    subst hi
    have e := e M h1 h2
    show mv_Ru 13 210 1122 [mv_R 100, mv_I 53] [] M v Q
    refine mv_go' 3 (pc' := if 53 < 53 then 1128 else 1146) (ls' := [mv_R 100, mv_I 53]) (st' := []) (M1 := M) rfl ?_
    refine mv_ff' (by first | decide | omega) ?_
    exact e
  | succ r ih =>
    intro i M hi h1 h2
    have ih := fun M1 => ih (i + 1) M1 (by omega)
    have e120 : M 120 i = sp_fir i := by rw [h1 120 (by decide)]; exact h120 i (by omega)
    refine mv_go' 3 (pc' := if (i : Int) < 53 then 1128 else 1146) (ls' := [mv_R 100, mv_I (i : Int)]) (st' := []) (M1 := M) rfl ?_
    refine mv_tt' (by omega) ?_
    refine mv_go' 7 (pc' := if 0 ≤ (i : Int) ∧ (i : Int) < 53 then 1139 else mv_bad) (ls' := [mv_R 100, mv_I (i : Int)]) (st' := [mv_I (M 120 i), mv_I (i : Int), mv_R 108]) (M1 := M) rfl ?_
    refine mv_tt' (by omega) ?_
    refine mv_go' 1 (pc' := if 0 ≤ (i : Int) ∧ (i : Int) < 160 then 1140 else mv_bad) (ls' := [mv_R 100, mv_I (i : Int)]) (st' := []) (M1 := (mv_st M 108 (mv_up (M 108) i (M 120 i)))) rfl ?_
    refine mv_tt' (by omega) ?_
    refine mv_go' 2 (pc' := 1122) (ls' := [mv_R 100, mv_I (mv_w ((i : Int) + 1))]) (st' := []) (M1 := (mv_st M 108 (mv_up (M 108) i (M 120 i)))) rfl ?_
    rw [show mv_w ((i : Int) + 1) = (i : Int) + 1 from mv_w_id (by omega) (by omega)]
    rw [show (i : Int) + 1 = ((i + 1 : Nat) : Int) from by omega]
    refine ih _ (mv_ag.st h1 (by decide)) (fun j hj => ?_)
    rw [mv_st_s]
    by_cases q : j = i
    · rw [q, mv_up_s]
      exact e120
    · rw [mv_up_n _ _ q]
      exact h2 j (by omega)
def sp_X6q (M M1 : mv_M) : Prop := ∃ MA, (mv_ag [100, 108] M MA ∧ ∀ j, j ≠ 9 → MA 100 j = M 100 j) ∧ (∀ j, j < 53 → MA 108 j = sp_fir j) ∧ sp_mtq sp_fir 53 0 MA M1
theorem sp_X6e {M0 M : mv_M} (hw : sp_at (M0 125) 0 sp_words) (h12 : M0 100 12 = 0) (h1 : mv_ag [108] M0 M) (h2 : ∀ j, j < 53 → M 108 j = sp_fir j) : mv_Ru 13 210 1146 [mv_R 100, mv_I 53] [] M mv_U (sp_X6q M0) := by
  have e100 : M 100 = M0 100 := h1 100 (by decide)
  have ht := sp_mtx (f := sp_fir) (t := 53) (n := 0) (M := mv_st M 100 (mv_up (M 100) 9 53)) (by decide) (by decide) (fun j hj => by rw [mv_st_n _ _ (by decide)]; exact h2 j hj) (fun j _ => sp_fir_b j) (by rw [mv_st_n _ _ (by decide), h1 125 (by decide)]; exact hw) (by rw [mv_st_s, mv_up_s]; rfl) (by rw [mv_st_s, mv_up_n _ _ (by decide), e100]; exact h12)
  rw [show sp_tv sp_fir 53 0 = 0 from if_pos sp_fir_ok] at ht
  refine mv_go' 4 (pc' := 1153) (ls' := [mv_R 100, mv_I 53]) (st' := [mv_R 100]) (M1 := (mv_st M 100 (mv_up (M 100) 9 53))) rfl ?_
  refine mv_call (st2 := [mv_I 0]) rfl (Or.inl rfl) rfl rfl rfl (ht) (by first | decide | omega) (fun Ma1 hm2 => ?_)
  have hx := hm2
  refine mv_go' 1 (pc' := 1157) (ls' := [mv_R 100, mv_I 53]) (st' := []) (M1 := Ma1) rfl ?_
  refine mv_ret (fun n => rfl) ⟨_, ⟨mv_ag.st (h1.wd (by decide)) (by decide), fun j hj => ?_⟩, fun j hj => ?_, hx⟩
  · rw [mv_st_s, mv_up_n _ _ hj, e100]
  · rw [mv_st_n _ _ (by decide)]
    exact h2 j hj
theorem sp_X6 {M : mv_M} {x : mv_V} (h120 : ∀ j, j < 53 → M 120 j = sp_fir j) (hw : sp_at (M 125) 0 sp_words) (h12 : M 100 12 = 0) : mv_Ru 13 210 1120 [mv_R 100, x] [] M mv_U (sp_X6q M) := by
  refine mv_go' 2 rfl ?_
  exact sp_X6l (M0 := M) h120 (fun M1 a b => sp_X6e hw h12 a b) 53 0 M rfl mv_ag.rf (fun j hj => absurd hj (by omega))
