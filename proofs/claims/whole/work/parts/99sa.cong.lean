/-! the tokens hang on the tape's bytes alone -/
theorem sp_skp_cg {c : Int → Bool} {f g : Nat → Int} : ∀ r p : Nat, (∀ j, j < p + r → f j = g j) → sp_skp c f r p = sp_skp c g r p
  | 0, _, _ => rfl
  | r + 1, p, h => by
    rw [sp_skp, sp_skp, h p (by omega), sp_skp_cg r (p + 1) (fun j hj => h j (by omega))]
theorem sp_atb_cg {f g : Nat → Int} : ∀ (l : List Int) (i : Nat), (∀ j, j < i + l.length → f j = g j) → sp_atb f i l = sp_atb g i l
  | [], _, _ => rfl
  | x :: r, i, h => by
    rw [List.length_cons] at h
    rw [sp_atb, sp_atb, h i (by omega), sp_atb_cg r (i + 1) (fun j hj => h j (by omega))]
theorem sp_wi_cg {f g : Nat → Int} {q e : Nat} (h : ∀ j, j < e → f j = g j) : ∀ r w : Nat, sp_wi f q e r w = sp_wi g q e r w
  | 0, _ => rfl
  | r + 1, w => by
    have e1 : sp_wmb w f q e = sp_wmb w g q e := by
      unfold sp_wmb
      by_cases c : e = q + (sp_wl w).length
      · rw [sp_atb_cg (sp_wl w) q (fun j hj => h j (by omega))]
      · rw [decide_eq_false c]
        rfl
    rw [sp_wi, sp_wi, e1, sp_wi_cg h r (w + 1)]
theorem sp_nv_cg {f g : Nat → Int} {q : Nat} : ∀ n : Nat, (∀ j, j < q + n → f j = g j) → sp_nv f q n = sp_nv g q n
  | 0, _ => rfl
  | n + 1, h => by
    rw [sp_nv, sp_nv, sp_nv_cg n (fun j hj => h j (by omega)), h (q + n) (by omega)]
theorem tk_cg {f g : Nat → Int} {t p : Nat} (h : ∀ j, j < t → f j = g j) (hp : p ≤ t) : tk_Q f t p = tk_Q g t p ∧ tk_K f t p = tk_K g t p ∧ tk_N f t p = tk_N g t p ∧ ((tk_K g t p = 300 ∨ tk_K g t p = 301) → tk_W f t p = tk_W g t p) := by
  have eQ : tk_Q f t p = tk_Q g t p := sp_skp_cg (t - p) p (fun j hj => h j (by omega))
  have hqb := tk_Q_b g hp
  by_cases c : t ≤ tk_Q g t p
  · have a := tk_end c
    have b := tk_end (f := f) (t := t) (p := p) (by rw [eQ]; exact c)
    refine ⟨eQ, b.1.trans a.1.symm, by rw [a.2, b.2, eQ], fun z => ?_⟩
    rw [a.1] at z
    omega
  · have ef := h (tk_Q g t p) (by omega)
    have esk : ∀ cc : Int → Bool, sp_skp cc f (t - tk_Q g t p) (tk_Q g t p) = sp_skp cc g (t - tk_Q g t p) (tk_Q g t p) := fun cc => sp_skp_cg _ _ (fun j hj => h j (by omega))
    have eb := fun cc => sp_skp_b cc g (t - tk_Q g t p) (tk_Q g t p)
    by_cases cl : sp_isL (g (tk_Q g t p)) = true
    · have a := tk_let (by omega) cl
      have b := tk_let (f := f) (t := t) (p := p) (by rw [eQ]; omega) (by rw [eQ, ef]; exact cl)
      have ew : sp_word f (tk_Q g t p) (sp_skp sp_isL g (t - tk_Q g t p) (tk_Q g t p)) = sp_word g (tk_Q g t p) (sp_skp sp_isL g (t - tk_Q g t p) (tk_Q g t p)) := sp_wi_cg (fun j hj => h j (by have := eb sp_isL; omega)) 12 0
      rw [eQ, esk, ew] at b
      exact ⟨eQ, b.1.trans a.1.symm, b.2.1.trans a.2.1.symm, fun _ => b.2.2.trans a.2.2.symm⟩
    · by_cases cd : sp_isD (g (tk_Q g t p)) = true
      · have a := tk_dig (by omega) cl cd
        have b := tk_dig (f := f) (t := t) (p := p) (by rw [eQ]; omega) (by rw [eQ, ef]; exact cl) (by rw [eQ, ef]; exact cd)
        have en : sp_nv f (tk_Q g t p) (sp_skp sp_isD g (t - tk_Q g t p) (tk_Q g t p) - tk_Q g t p) = sp_nv g (tk_Q g t p) (sp_skp sp_isD g (t - tk_Q g t p) (tk_Q g t p) - tk_Q g t p) := sp_nv_cg _ (fun j hj => h j (by have := eb sp_isD; omega))
        rw [eQ, esk, en] at b
        exact ⟨eQ, b.1.trans a.1.symm, b.2.1.trans a.2.1.symm, fun _ => b.2.2.trans a.2.2.symm⟩
      · have a := tk_sig (by omega) cl cd
        have b := tk_sig (f := f) (t := t) (p := p) (by rw [eQ]; omega) (by rw [eQ, ef]; exact cl) (by rw [eQ, ef]; exact cd)
        rw [eQ, ef] at b
        refine ⟨eQ, b.1.trans a.1.symm, b.2.trans a.2.symm, fun z => ?_⟩
        exfalso
        rw [a.1] at z
        by_cases cg : sp_isG (g (tk_Q g t p)) = true
        · rw [if_pos cg] at z
          have := sp_isG_t.1 cg
          omega
        · rw [if_neg cg] at z
          omega
