/-! a fault's place lies in the tape -/
theorem sp_pz_q {t : Nat} {K W : Nat → Int} {N Q : Nat → Nat} (ht : sp_tks t K N) (hQ : ∀ p, p ≤ t → Q p ≤ t) : ∀ (n x d p : Nat), p ≤ t → (x < 6 ∨ x = 10 ∨ x = 11 ∨ x = 13 ∨ x = 14) → 16 * (t - p) + sp_lev x < n → (sp_pz K W N Q n x d p).2.1 ≤ t
  | 0, x, d, p, _, _, hf => absurd hf (by omega)
  | n + 1, x, d, p, hp, hx, hf => by
    have ih := sp_pz_q (W := W) ht hQ n
    have ok := fun x d p h1 h2 h3 => sp_pz_ok (W := W) (Q := Q) ht n x d p h1 h2 h3
    have hN := ht p hp
    by_cases x2 : x = 2
    · subst x2
      rw [sp_pz2]
      by_cases c : K p = 261 ∧ d < 5
      · rw [if_pos c]
        have hN2 := hN.2 (by omega)
        exact ih 2 (d + 1) (N p) hN.1 (by omega) (by unfold sp_lev at hf ⊢; rw [if_pos (by omega)] at hf ⊢; omega)
      · rw [if_neg c]
        have hl : 16 * (t - p) + sp_lev 3 < n := by unfold sp_lev at hf ⊢; rw [if_pos (by omega)] at hf ⊢; omega
        by_cases g : (sp_pz K W N Q n 3 d p).1 = true
        · rw [sp_thn_t g]
          have ok2 := ok 3 d p hp (by omega) hl g
          have hlt := ok2.1.2 (by omega)
          by_cases c2 : sp_opx 2 (K (sp_pz K W N Q n 3 d p).2.1) = 0
          · simp only [if_pos c2]
            exact ok2.2.1
          · simp only [if_neg c2]
            have hN1 := ht _ ok2.2.1
            have hN2 := hN1.2 (sp_opx_k c2).1
            exact ih 3 d (N (sp_pz K W N Q n 3 d p).2.1) hN1.1 (by omega) (by unfold sp_lev at hf ⊢; rw [if_pos (by omega)] at hf ⊢; omega)
        · rw [sp_thn_f g]
          exact ih 3 d p hp (by omega) hl
    · by_cases x5 : x = 5
      · subst x5
        rw [sp_pz5]
        by_cases c300 : K p = 300
        · rw [if_pos c300]; exact hN.1
        · rw [if_neg c300]
          by_cases c301 : K p = 301
          · rw [if_pos c301]; exact hN.1
          · rw [if_neg c301]
            by_cases c45 : K p = 45 ∧ d < 5
            · rw [if_pos c45]
              have hN2 := hN.2 (by omega)
              exact ih 5 (d + 1) (N p) hN.1 (by omega) (by unfold sp_lev at hf ⊢; rw [if_pos (by omega)] at hf ⊢; omega)
            · rw [if_neg c45]
              by_cases c40 : K p = 40 ∧ d < 5
              · rw [if_pos c40]
                have hN2 := hN.2 (by omega)
                have hl : 16 * (t - N p) + sp_lev 0 < n := by unfold sp_lev at hf ⊢; rw [if_pos (by omega)] at hf ⊢; omega
                by_cases g : (sp_pz K W N Q n 0 (d + 1) (N p)).1 = true
                · rw [sp_thn_t g]
                  have ok2 := ok 0 (d + 1) (N p) hN.1 (by omega) hl g
                  by_cases c41 : K (sp_pz K W N Q n 0 (d + 1) (N p)).2.1 = 41
                  · simp only [if_pos c41]
                    exact (ht _ ok2.2.1).1
                  · simp only [if_neg c41]
                    exact hQ _ ok2.2.1
                · rw [sp_thn_f g]
                  exact ih 0 (d + 1) (N p) hN.1 (by omega) hl
              · rw [if_neg c40]
                exact hQ p hp
      · by_cases x10 : x < 10
        · rw [sp_pzx _ _ _ _ _ _ _ (by omega)]
          have hl : 16 * (t - p) + sp_lev (x + 1) < n := by unfold sp_lev at hf ⊢; rw [if_pos (by omega)] at hf; rw [if_pos (by omega)]; omega
          by_cases g : (sp_pz K W N Q n (x + 1) d p).1 = true
          · rw [sp_thn_t g]
            have ok2 := ok (x + 1) d p hp (by omega) hl g
            have hlt := ok2.1.2 (by omega)
            exact ih (x + 10) d _ ok2.2.1 (by omega) (by unfold sp_lev at hf ⊢; rw [if_pos (by omega)] at hf; rw [if_neg (by omega)]; omega)
          · rw [sp_thn_f g]
            exact ih (x + 1) d p hp (by omega) hl
        · obtain ⟨y, rfl⟩ : ∃ y, x = y + 10 := ⟨x - 10, by omega⟩
          rw [sp_pzl]
          by_cases c : sp_opx y (K p) = 0
          · rw [if_pos c]; exact hp
          · rw [if_neg c]
            have hN2 := hN.2 (sp_opx_k c).1
            have hl : 16 * (t - N p) + sp_lev (y + 1) < n := by unfold sp_lev at hf ⊢; rw [if_neg (by omega)] at hf; rw [if_pos (by omega)]; omega
            by_cases g : (sp_pz K W N Q n (y + 1) d (N p)).1 = true
            · rw [sp_thn_t (r := sp_suf (sp_pz K W N Q n (y + 1) d (N p)) _) g]
              have ok2 := ok (y + 1) d (N p) hN.1 (by omega) hl g
              have hlt := ok2.1.1
              exact ih (y + 10) d (sp_pz K W N Q n (y + 1) d (N p)).2.1 ok2.2.1 (by omega) (by unfold sp_lev at hf ⊢; rw [if_neg (by omega)] at hf ⊢; omega)
            · rw [sp_thn_f (r := sp_suf (sp_pz K W N Q n (y + 1) d (N p)) _) g]
              exact ih (y + 1) d (N p) hN.1 (by omega) hl
theorem sp_Rt_q0 (f : Nat → Int) {t : Nat} (ht : t ≤ 160) : ∀ i : Nat, i ≤ 3 → (sp_Rt f t i).2.1 ≤ t
  | 0, _ => Nat.zero_le _
  | i + 1, hi => by
    have ih := sp_Rt_q0 f ht i (by omega)
    by_cases g : (sp_Rt f t i).1 = true
    · by_cases k : tk_K f t (sp_Rt f t i).2.1 = ((i + 256 : Nat) : Int)
      · rw [sp_Rt_t g k]
        have hN := tk_ok f t (sp_Rt f t i).2.1 ih
        show (sp_rr f t (tk_N f t (sp_Rt f t i).2.1)).2.1 ≤ t
        have h1 := sp_pz_q (W := tk_W f t) (Q := tk_Q f t) (tk_ok f t) (fun p hp => (tk_Q_b f hp).2) 2600 0 0 (tk_N f t (sp_Rt f t i).2.1) hN.1 (by omega) (by show 16 * (t - tk_N f t (sp_Rt f t i).2.1) + 6 < 2600; omega)
        unfold sp_rr
        by_cases g2 : (sp_pr f t 2600 0 0 (tk_N f t (sp_Rt f t i).2.1)).1 = true
        · rw [sp_thn_t g2]
          unfold sp_ex
          split
          · exact (tk_ok f t _ h1).1
          · exact (tk_Q_b f h1).2
        · rw [sp_thn_f g2]
          exact h1
      · rw [(sp_Rt_n g k).2]
        exact (tk_Q_b f ih).2
    · rw [sp_Rt_f g]
      exact ih
theorem sp_Rt_q (f : Nat → Int) {t : Nat} (ht : t ≤ 160) (i : Nat) (hi : i ≤ 3) : (sp_Rt f t i).2.1 ≤ 160 := Nat.le_trans (sp_Rt_q0 f ht i hi) ht
