/-! what is read works on a stack -/
theorem sp_wf_bin {s : Int} {rest : List Int} {h : Nat} (h1 : 20000 ≤ s ∧ s ≤ 20006) (hr : sp_wf rest (h + 1)) : sp_wf (s :: rest) (h + 2) := by
  refine ⟨⟨by omega, by omega⟩, ?_⟩
  rw [if_neg (by omega), if_neg (by omega)]
  exact ⟨by omega, hr⟩
theorem sp_wf_una {s : Int} {rest : List Int} {h : Nat} (h1 : s = 20007 ∨ s = 20008) (hr : sp_wf rest (h + 1)) : sp_wf (s :: rest) (h + 1) := by
  refine ⟨⟨by omega, by omega⟩, ?_⟩
  rw [if_neg (by omega), if_pos (by omega)]
  exact ⟨by omega, hr⟩
theorem sp_wf_num {s : Int} {rest : List Int} {h : Nat} (h1 : 0 ≤ s ∧ s < 10006) (h2 : h < 64) (hr : sp_wf rest (h + 1)) : sp_wf (s :: rest) h := by
  refine ⟨⟨by omega, by omega⟩, ?_⟩
  rw [if_pos (by omega)]
  exact ⟨by omega, h2, hr⟩
theorem sp_pz_wf {t : Nat} {K W : Nat → Int} {N Q : Nat → Nat} (ht : sp_tks t K N) (hW : ∀ p, p ≤ t → (K p = 300 ∨ K p = 301) → 0 ≤ W p ∧ W p ≤ 9999 ∧ (K p = 301 → W p ≤ 5)) :
    ∀ (n x d p h : Nat) (rest : List Int), p ≤ t → (x < 6 ∨ x = 10 ∨ x = 11 ∨ x = 13 ∨ x = 14) → 16 * (t - p) + sp_lev x < n → d ≤ 5 → (sp_pz K W N Q n x d p).1 = true → sp_wf rest (h + 1) →
      (x < 10 → h + 5 * (5 - d) + (6 - x) ≤ 64 → sp_wf ((sp_pz K W N Q n x d p).2.2 ++ rest) h) ∧ (10 ≤ x → h + 5 * (5 - d) + (16 - x) ≤ 64 → sp_wf ((sp_pz K W N Q n x d p).2.2 ++ rest) (h + 1))
  | 0, x, d, p, h, rest, _, _, hf, _, _, _ => absurd hf (by omega)
  | n + 1, x, d, p, h, rest, hp, hx, hf, hd, hg, hr => by
    have ih := sp_pz_wf (Q := Q) ht hW n
    have hN := ht p hp
    by_cases x2 : x = 2
    · subst x2
      refine ⟨fun _ hh => ?_, fun z => absurd z (by decide)⟩
      rw [sp_pz2] at hg ⊢
      by_cases c : K p = 261 ∧ d < 5
      · rw [if_pos c] at hg ⊢
        have hN2 := hN.2 (by omega)
        have i1 := (ih 2 (d + 1) (N p) h (20007 :: rest) hN.1 (by omega) (by unfold sp_lev at hf ⊢; rw [if_pos (by omega)] at hf ⊢; omega) (by omega) hg (sp_wf_una (Or.inl rfl) hr)).1 (by decide) (by omega)
        simpa [sp_suf, List.append_assoc] using i1
      · rw [if_neg c] at hg ⊢
        have ok1 := sp_pz_ok (W := W) (Q := Q) ht n 3 d p hp (by omega) (by unfold sp_lev at hf ⊢; rw [if_pos (by omega)] at hf ⊢; omega)
        have i1 := fun rest h => ih 3 d p h rest hp (by omega) (by unfold sp_lev at hf ⊢; rw [if_pos (by omega)] at hf ⊢; omega) hd
        obtain ⟨r1, hr1⟩ : ∃ r, r = sp_pz K W N Q n 3 d p := ⟨_, rfl⟩
        rw [← hr1] at i1 ok1 hg ⊢
        by_cases g : r1.1 = true
        · rw [sp_thn_t g] at hg ⊢
          have ok2 := ok1 g
          have hlt := ok2.1.2 (by omega)
          by_cases c2 : sp_opx 2 (K r1.2.1) = 0
          · simp only [if_pos c2] at hg ⊢
            have i2 := (i1 rest h g hr).1 (by decide) (by omega)
            simpa using i2
          · simp only [if_neg c2] at hg ⊢
            have hN1 := ht r1.2.1 ok2.2.1
            have ho := sp_opx_k c2
            have hN2 := hN1.2 ho.1
            have i2 := (ih 3 d (N r1.2.1) (h + 1) (sp_opx 2 (K r1.2.1) :: rest) hN1.1 (by omega) (by unfold sp_lev at hf ⊢; rw [if_pos (by omega)] at hf ⊢; omega) hd hg (sp_wf_bin ho.2.2 hr)).1 (by decide) (by omega)
            have i3 := (i1 _ h g i2).1 (by decide) (by omega)
            simpa [sp_suf, List.append_assoc] using i3
        · rw [sp_thn_f g] at hg
          exact absurd hg g
    · by_cases x5 : x = 5
      · subst x5
        refine ⟨fun _ hh => ?_, fun z => absurd z (by decide)⟩
        rw [sp_pz5] at hg ⊢
        by_cases c300 : K p = 300
        · rw [if_pos c300]
          have := hW p hp (Or.inl c300)
          exact sp_wf_num ⟨this.1, by omega⟩ (by omega) hr
        · rw [if_neg c300] at hg ⊢
          by_cases c301 : K p = 301
          · rw [if_pos c301]
            have := hW p hp (Or.inr c301)
            have h5 := this.2.2 c301
            exact sp_wf_num ⟨by omega, by omega⟩ (by omega) hr
          · rw [if_neg c301] at hg ⊢
            by_cases c45 : K p = 45 ∧ d < 5
            · rw [if_pos c45] at hg ⊢
              have hN2 := hN.2 (by omega)
              have i1 := (ih 5 (d + 1) (N p) h (20008 :: rest) hN.1 (by omega) (by unfold sp_lev at hf ⊢; rw [if_pos (by omega)] at hf ⊢; omega) (by omega) hg (sp_wf_una (Or.inr rfl) hr)).1 (by decide) (by omega)
              simpa [sp_suf, List.append_assoc] using i1
            · rw [if_neg c45] at hg ⊢
              by_cases c40 : K p = 40 ∧ d < 5
              · rw [if_pos c40] at hg ⊢
                have hN2 := hN.2 (by omega)
                have i1 := fun rest => ih 0 (d + 1) (N p) h rest hN.1 (by omega) (by unfold sp_lev at hf ⊢; rw [if_pos (by omega)] at hf ⊢; omega) (by omega)
                obtain ⟨r1, hr1⟩ : ∃ r, r = sp_pz K W N Q n 0 (d + 1) (N p) := ⟨_, rfl⟩
                rw [← hr1] at i1 hg ⊢
                by_cases g : r1.1 = true
                · rw [sp_thn_t g] at hg ⊢
                  by_cases c41 : K r1.2.1 = 41
                  · simp only [if_pos c41] at hg ⊢
                    have i2 := (i1 rest g hr).1 (by decide) (by omega)
                    simpa using i2
                  · simp only [if_neg c41] at hg
                    exact absurd hg Bool.false_ne_true
                · rw [sp_thn_f g] at hg
                  exact absurd hg g
              · rw [if_neg c40] at hg
                exact absurd hg Bool.false_ne_true
      · by_cases x10 : x < 10
        · refine ⟨fun _ hh => ?_, fun z => absurd z (by omega)⟩
          rw [sp_pzx _ _ _ _ _ _ _ (by omega)] at hg ⊢
          have ok1 := sp_pz_ok (W := W) (Q := Q) ht n (x + 1) d p hp (by omega) (by unfold sp_lev at hf ⊢; rw [if_pos (by omega)] at hf; rw [if_pos (by omega)]; omega)
          have i1 := fun rest => ih (x + 1) d p h rest hp (by omega) (by unfold sp_lev at hf ⊢; rw [if_pos (by omega)] at hf; rw [if_pos (by omega)]; omega) hd
          obtain ⟨r1, hr1⟩ : ∃ r, r = sp_pz K W N Q n (x + 1) d p := ⟨_, rfl⟩
          rw [← hr1] at i1 ok1 hg ⊢
          by_cases g : r1.1 = true
          · rw [sp_thn_t g] at hg ⊢
            have ok2 := ok1 g
            have hlt := ok2.1.2 (by omega)
            have i2 := (ih (x + 10) d r1.2.1 h rest ok2.2.1 (by omega) (by unfold sp_lev at hf ⊢; rw [if_pos (by omega)] at hf; rw [if_neg (by omega)]; omega) hd hg hr).2 (by omega) (by omega)
            have i3 := (i1 _ g i2).1 (by omega) (by omega)
            simpa [List.append_assoc] using i3
          · rw [sp_thn_f g] at hg
            exact absurd hg g
        · refine ⟨fun z => absurd z x10, fun _ hh => ?_⟩
          obtain ⟨y, rfl⟩ : ∃ y, x = y + 10 := ⟨x - 10, by omega⟩
          rw [sp_pzl] at hg ⊢
          by_cases c : sp_opx y (K p) = 0
          · rw [if_pos c]
            exact hr
          · rw [if_neg c] at hg ⊢
            have ho := sp_opx_k c
            have hN2 := hN.2 ho.1
            have ok1 := sp_pz_ok (W := W) (Q := Q) ht n (y + 1) d (N p) hN.1 (by omega) (by unfold sp_lev at hf ⊢; rw [if_neg (by omega)] at hf; rw [if_pos (by omega)]; omega)
            have i1 := fun rest => ih (y + 1) d (N p) (h + 1) rest hN.1 (by omega) (by unfold sp_lev at hf ⊢; rw [if_neg (by omega)] at hf; rw [if_pos (by omega)]; omega) hd
            obtain ⟨r1, hr1⟩ : ∃ r, r = sp_pz K W N Q n (y + 1) d (N p) := ⟨_, rfl⟩
            rw [← hr1] at i1 ok1 hg ⊢
            by_cases g : r1.1 = true
            · rw [sp_thn_t (r := sp_suf r1 _) g] at hg ⊢
              have ok2 := ok1 g
              have hlt := ok2.1.1
              have i2 := (ih (y + 10) d r1.2.1 h rest ok2.2.1 (by omega) (by unfold sp_lev at hf ⊢; rw [if_neg (by omega)] at hf ⊢; omega) hd hg hr).2 (by omega) (by omega)
              have i3 := (i1 (sp_opx y (K p) :: ((sp_pz K W N Q n (y + 10) d r1.2.1).2.2 ++ rest)) g (sp_wf_bin ho.2.2 i2)).1 (by omega) (by omega)
              show sp_wf (((r1.2.2 ++ [sp_opx y (K p)]) ++ (sp_pz K W N Q n (y + 10) d r1.2.1).2.2) ++ rest) (h + 1)
              simpa [List.append_assoc] using i3
            · rw [sp_thn_f (r := sp_suf r1 _) g] at hg
              exact absurd hg g
/-- a part's steps -/
theorem sp_rr_wf {f : Nat → Int} {t p : Nat} (ht : t ≤ 160) (hb : ∀ j, j < t → 0 ≤ f j ∧ f j ≤ 255) (hp : p ≤ t) (g : (sp_rr f t p).1 = true) : sp_wf (sp_rr f t p).2.2 0 := by
  have hwf := sp_pz_wf (W := tk_W f t) (Q := tk_Q f t) (tk_ok f t) (fun p hp z => tk_W_b f hp hb z) 2600 0 0 p 0 [] hp (by omega) (by show 16 * (t - p) + 6 < 2600; omega) (by omega)
  unfold sp_rr at g ⊢
  by_cases g1 : (sp_pr f t 2600 0 0 p).1 = true
  · rw [sp_thn_t g1] at g ⊢
    by_cases c : tk_K f t (sp_pr f t 2600 0 0 p).2.1 = 59
    · have e : sp_ex f t 59 (sp_pr f t 2600 0 0 p).2.1 = (true, tk_N f t (sp_pr f t 2600 0 0 p).2.1, []) := if_pos c
      rw [e]
      have := (hwf g1 rfl).1 (by decide) (by decide)
      exact this
    · have e : sp_ex f t 59 (sp_pr f t 2600 0 0 p).2.1 = (false, tk_Q f t (sp_pr f t 2600 0 0 p).2.1, []) := if_neg c
      rw [e] at g
      exact absurd g Bool.false_ne_true
  · rw [sp_thn_f g1] at g
    exact absurd g g1
/-- the parts of a text that is read -/
theorem sp_Rt_parts {f : Nat → Int} {t : Nat} (ht : t ≤ 160) (hb : ∀ j, j < t → 0 ≤ f j ∧ f j ≤ 255) (g : (sp_Rt f t 3).1 = true) : ∃ P : Nat → List Int, (sp_wf (P 0) 0 ∧ sp_wf (P 1) 0 ∧ sp_wf (P 2) 0) ∧ (sp_Rt f t 1).2.2 = P 0 ∧ (sp_Rt f t 2).2.2 = P 0 ++ P 1 ∧ (sp_Rt f t 3).2.2 = (P 0 ++ P 1) ++ P 2 ∧ (sp_Rt f t 3).2.2.length ≤ 160 := by
  have st : ∀ i, i < 3 → (sp_Rt f t (i + 1)).1 = true → (sp_Rt f t i).1 = true ∧ ∃ c, (sp_Rt f t (i + 1)).2.2 = (sp_Rt f t i).2.2 ++ c ∧ sp_wf c 0 := fun i hi gi => by
    by_cases g0 : (sp_Rt f t i).1 = true
    · have hok := sp_Rt_ok f ht i (by omega) g0
      by_cases k : tk_K f t (sp_Rt f t i).2.1 = ((i + 256 : Nat) : Int)
      · have e := sp_Rt_t g0 k
        rw [e] at gi
        rw [e]
        exact ⟨g0, _, rfl, sp_rr_wf ht hb (tk_ok f t _ hok.1).1 gi⟩
      · have e := sp_Rt_n g0 k
        rw [e.1] at gi
        cases gi
    · rw [sp_Rt_f g0] at gi
      exact absurd gi g0
  obtain ⟨g2, c2, e2, w2⟩ := st 2 (by decide) g
  obtain ⟨g1, c1, e1, w1⟩ := st 1 (by decide) g2
  obtain ⟨g0, c0, e0, w0⟩ := st 0 (by decide) g1
  have h3 := sp_Rt_ok f ht 3 (by decide) g
  have e0' : (sp_Rt f t 1).2.2 = c0 := e0
  refine ⟨fun i => if i = 0 then c0 else if i = 1 then c1 else c2, ⟨w0, w1, w2⟩, e0', ?_, ?_, by omega⟩
  · rw [e1, e0']
    rfl
  · rw [e2, e1, e0']
    rfl
