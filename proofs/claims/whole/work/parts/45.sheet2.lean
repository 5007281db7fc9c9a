/-! sheet, cell -/
theorem sp_sh_get {V : mv_M} {P : Nat → Nat → List Int} {n : Int} {B : mv_M} {K : Int} {t : Nat} {M : mv_M} (h : sp_R V P n B K t M) (S : Nat) (hS : S < 4) : ∃ so sz : Int, (M (71 + 2 * S) 1 = so ∧ M 117 S = so ∧ -1 ≤ so ∧ so ≤ 2) ∧ (M (71 + 2 * S) 2 = sz ∧ M 118 S = sz ∧ 0 ≤ sz ∧ sz ≤ 40) ∧ ∀ j, j < 40 → M (72 + 2 * S) j = M 119 (40 * S + j) := by
  obtain ⟨_, _, _, _, _, hs, _⟩ := h
  obtain ⟨⟨a1, a2, a3⟩, ⟨b1, b2, b3⟩, c⟩ := hs S hS
  exact ⟨M 117 S, M 118 S, ⟨a1, rfl, a2, a3⟩, ⟨b1, rfl, b2, b3⟩, c⟩
theorem sp_sh_k31 {S : Nat} {V : mv_M} {P : Nat → Nat → List Int} {n : Int} {B : mv_M} {K : Int} {t : Nat} {M Ma M2 : mv_M} {so sz : Int} (hS : S < 4) (h : sp_R V P n B K t M)
    (hx : mv_ag [71 + 2 * S, 72 + 2 * S] M Ma ∧ Ma (71 + 2 * S) = mv_up (mv_up (M (71 + 2 * S)) 1 so) 2 sz ∧ ∀ j, j < 40 → Ma (72 + 2 * S) j = 0)
    (h1 : mv_ag [119] (mv_st (mv_st Ma 117 (mv_up (Ma 117) S so)) 118 (mv_up (Ma 118) S sz)) M2) (h2 : ∀ j, j < 40 → M2 119 (40 * S + j) = 0) (h3 : ∀ j, (j < 40 * S ∨ 40 * S + 40 ≤ j) → M2 119 j = (mv_st (mv_st Ma 117 (mv_up (Ma 117) S so)) 118 (mv_up (Ma 118) S sz)) 119 j)
    (o1 : -1 ≤ so ∧ so ≤ 2) (o2 : 0 ≤ sz ∧ sz ≤ 40) : sp_Inv M2 := by
  obtain ⟨x1, x2, x3⟩ := hx
  have ea : ∀ i, i ≠ 71 + 2 * S → i ≠ 72 + 2 * S → Ma i = M i := fun i a b => x1 i (by simp only [List.mem_cons, List.not_mem_nil, or_false]; omega)
  have e2 : ∀ i, i ≠ 117 → i ≠ 118 → i ≠ 119 → M2 i = Ma i := fun i a b c => by rw [h1 i (by simpa using c), mv_st_n _ _ b, mv_st_n _ _ a]
  have e117 : M2 117 = mv_up (Ma 117) S so := by rw [h1 117 (by decide)]; rfl
  have e118 : M2 118 = mv_up (Ma 118) S sz := by rw [h1 118 (by decide)]; rfl
  refine ⟨V, P, n, B, K, t, sp_R_sh hS h (fun i hi => ?_) (fun s hs hn => ?_) ?_⟩
  · rw [e2 i (by omega) (by omega) (by omega), ea i (by omega) (by omega)]
  · rw [e2 _ (by omega) (by omega) (by omega), ea _ (by omega) (by omega), e2 _ (by omega) (by omega) (by omega), ea _ (by omega) (by omega), e117, e118, mv_up_n _ _ hn, mv_up_n _ _ hn, ea _ (by omega) (by omega), ea _ (by omega) (by omega)]
    refine ⟨⟨rfl, rfl⟩, ⟨rfl, rfl⟩, fun j hj => ?_⟩
    rw [h3 _ (by omega)]
    exact congrFun (ea 119 (by omega) (by omega)) _
  · rw [e2 (71 + 2 * S) (by omega) (by omega) (by omega), e2 (72 + 2 * S) (by omega) (by omega) (by omega), e117, e118, x2, mv_up_s, mv_up_s, mv_up_n _ _ (by decide), mv_up_s, mv_up_s]
    exact ⟨⟨rfl, o1.1, o1.2⟩, ⟨rfl, o2.1, o2.2⟩, fun j hj => by rw [x3 j hj, h2 j hj]⟩
theorem sp_sh_cell {S : Nat} {V : mv_M} {P : Nat → Nat → List Int} {n : Int} {B : mv_M} {K : Int} {t : Nat} {M Ma : mv_M} {so v w : Int} {i x : Nat} (hS : S < 4) (h : sp_R V P n B K t M) (hi : i < 40) (hw : w = sp_cut so v) (hx : Ma = mv_st M (72 + 2 * S) (mv_up (M (72 + 2 * S)) i (sp_cut so v))) (hk : x = 40 * S + i) : sp_Inv (mv_st Ma 119 (mv_up (Ma 119) x w)) := by
  have h' := h
  obtain ⟨_, _, _, _, _, hs, _⟩ := h'
  obtain ⟨a, b, c⟩ := hs S hS
  have ea : ∀ i, i ≠ 72 + 2 * S → Ma i = M i := fun i a => by rw [hx, mv_st_n _ _ a]
  have e2 : ∀ i, i ≠ 119 → mv_st Ma 119 (mv_up (Ma 119) x w) i = Ma i := fun i a => mv_st_n _ _ a
  have e119 : mv_st Ma 119 (mv_up (Ma 119) x w) 119 = mv_up (Ma 119) x w := mv_st_s _ _ _
  refine ⟨V, P, n, B, K, t, sp_R_sh hS h (fun i hi => ?_) (fun s hs hn => ?_) ?_⟩
  · rw [e2 i (by omega), ea i (by omega)]
  · rw [e2 _ (by omega), ea _ (by omega), e2 _ (by omega), ea _ (by omega), e2 _ (by omega), ea _ (by omega), e2 _ (by omega), ea _ (by omega)]
    refine ⟨⟨rfl, rfl⟩, ⟨rfl, rfl⟩, fun j hj => ?_⟩
    rw [e119, mv_up_n _ _ (by omega)]
    exact congrFun (ea 119 (by omega)) _
  · rw [e2 _ (by omega), ea _ (by omega), e2 _ (by omega), ea _ (by omega), e2 _ (by omega), ea _ (by omega), e2 (72 + 2 * S) (by omega), e119]
    refine ⟨a, b, fun j hj => ?_⟩
    rw [hx, mv_st_s, hk, hw]
    by_cases q : j = i
    · rw [q, mv_up_s, mv_up_s]
    · rw [mv_up_n _ _ q, mv_up_n _ _ (by omega), mv_st_n _ _ (by omega)]
      exact c j hj
