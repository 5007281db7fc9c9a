/-! where a constructor's cells become the small machine's -/
def cn_tb : List (Nat × Nat) → Nat → Nat
  | [], _ => 0
  | (k, a) :: r, i => bif Nat.beq i k then a else cn_tb r i
theorem arrV_cg {c : ClassId} {n : Nat} {f g : Nat → Value} (h : ∀ j, j < n → f j = g j) : arrV c n f = arrV c n g := by
  unfold arrV
  congr 2
  exact funext (fun j => h j.1 j.2)
theorem va_P.cg {D : va_G} {cl : List vw_C} {ws : va_W} {H : Heap} (h : va_P D cl ws H) (k : Nat) {a : Nat} {c : ClassId} {n : Nat} {f : Nat → Option Nat} (g : Nat → Option Nat) (hk : ws[k]? = some (a, .inl (c, n, .inr (.inr (.inr (.inr f)))))) (hfg : ∀ j, j < n → f j = g j) : va_P D cl (ws.set k (a, .inl (c, n, .inr (.inr (.inr (.inr g)))))) H := by
  intro i q hq
  by_cases e : i = k
  · subst e
    have hl : i < ws.length := (List.getElem?_eq_some_iff.mp hk).1
    rw [List.getElem?_set_self hl] at hq
    cases hq
    have h1 : H[a]? = some (vp_cell c (n, .inr (.inr (.inr (.inr f))))) := h i _ hk
    show H[a]? = some (vp_cell c (n, .inr (.inr (.inr (.inr g)))))
    rw [h1, vp_cell_q, vp_cell_q]
    exact congrArg some (arrV_cg (fun j hj => by rw [hfg j hj]))
  · rw [List.getElem?_set_ne (Ne.symm e)] at hq
    exact h i q hq
theorem va_D.cg {A : Nat → Prop} {ws : va_W} (h : va_D A ws) (k : Nat) {a : Nat} {e : va_E} (e2 : va_E) (hk : ws[k]? = some (a, e)) : va_D A (ws.set k (a, e2)) := by
  have key : ∀ (i : Nat) (q : Nat × va_E), (ws.set k (a, e2))[i]? = some q → ∃ q', ws[i]? = some q' ∧ q'.1 = q.1 := by
    intro i q hq
    by_cases c : i = k
    · subst c
      have hl : i < ws.length := (List.getElem?_eq_some_iff.mp hk).1
      rw [List.getElem?_set_self hl] at hq
      cases hq
      exact ⟨_, hk, rfl⟩
    · rw [List.getElem?_set_ne (Ne.symm c)] at hq
      exact ⟨q, hq, rfl⟩
  refine ⟨fun i j p q hp hq hpq => ?_, fun i q hq => ?_⟩
  · obtain ⟨p', h1, h2⟩ := key i p hp
    obtain ⟨q', h3, h4⟩ := key j q hq
    exact h.1 i j p' q' h1 h3 (by rw [h2, h4]; exact hpq)
  · obtain ⟨q', h1, h2⟩ := key i q hq
    rw [← h2]
    exact h.2 i q' h1
theorem mv_F.cg {ad ad0 : Nat → Nat} {x0 : Value} {L : Nat} {xs : Nat → Int32} {A : Nat → Prop} {U : State} {H : Heap} (e : ∀ i, 200 ≤ i → ad i = ad0 i) (h : mv_F ad0 x0 L xs A U H) : mv_F ad x0 L xs A U H := by
  unfold mv_F at h ⊢
  rw [e 200 (by decide), e 201 (by decide), e 202 (by decide), show (fun i => ad (210 + i)) = (fun i => ad0 (210 + i)) from funext (fun i => e (210 + i) (by omega)), show (fun i => ad (230 + i)) = (fun i => ad0 (230 + i)) from funext (fun i => e (230 + i) (by omega))]
  exact h
theorem mv_Fr.cg {ad ad0 : Nat → Nat} {U : State} (e : ∀ i, 200 ≤ i → ad i = ad0 i) (h : mv_Fr ad0 U) : mv_Fr ad U := fun k hk => by
  rw [e (210 + k) (by omega)]
  exact h k hk
theorem sp_A5_b (i j : Nat) : -1 ≤ sp_A5 i j ∧ sp_A5 i j ≤ 0 := by
  unfold sp_A5
  repeat' split
  all_goals decide
theorem sp_A5_287 : sp_A5 28 7 = -1 := rfl
def cn_M0 (A : mv_M) (L : Nat) (xs : Nat → Int32) : mv_M := mv_st (mv_st A 202 (fun j => (xs j).toInt)) 203 (fun _ => (L : Int))
theorem cn_M0_lo {A : mv_M} {L : Nat} {xs : Nat → Int32} {i : Nat} (h : i < 200) : cn_M0 A L xs i = A i := by
  unfold cn_M0
  rw [mv_st_n _ _ (by omega), mv_st_n _ _ (by omega)]
theorem cn_M0_n {K : Nat} {A : mv_M} {L : Nat} {xs : Nat → Int32} (hL : L < 2147483648) (hA : ∀ i j, (mv_ak i = 2 → mv_n64 (A i j)) ∧ (mv_ak i ≠ 2 → mv_n32 (A i j))) (h7 : mv_B K 28 = true → 0 ≤ A 28 7 → mv_B K (A 28 7).toNat = true) : mv_nM K (cn_M0 A L xs) := by
  refine ⟨fun i j => ?_, fun h1 h2 => ?_⟩
  · by_cases c : i = 203
    · subst c
      refine ⟨fun h => absurd h (by decide), fun _ => ?_⟩
      show mv_n32 (mv_st (mv_st A 202 _) 203 _ 203 j)
      rw [mv_st_s]
      unfold mv_n32
      omega
    · by_cases c2 : i = 202
      · subst c2
        refine ⟨fun h => absurd h (by decide), fun _ => ?_⟩
        show mv_n32 (mv_st (mv_st A 202 _) 203 _ 202 j)
        rw [mv_st_n _ _ (by decide), mv_st_s]
        exact mv_t32 _
      · unfold cn_M0
        rw [mv_st_n _ _ c, mv_st_n _ _ c2]
        exact hA i j
  · rw [cn_M0_lo (by decide)] at h2 ⊢
    exact h7 h1 h2
theorem cn_M0_sc {A : mv_M} {L : Nat} {xs : Nat → Int32} (hL : L < 2147483648) : mv_Sc L xs (cn_M0 A L xs) := by
  refine ⟨?_, hL, fun j _ => ?_⟩
  · unfold cn_M0
    rw [mv_st_s]
  · unfold cn_M0
    rw [mv_st_n _ _ (by decide), mv_st_s]
    exact mv_o32 _

