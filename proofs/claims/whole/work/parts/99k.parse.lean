/-! how a text is read: K the sort of the token at a place, W its value, N the place behind it, Q its own place -/
def sp_opx : Nat → Int → Int
  | 0, k => if k = 259 then 20000 else 0
  | 1, k => if k = 260 then 20001 else 0
  | 2, k => if k = 60 then 20002 else if k = 61 then 20003 else 0
  | 3, k => if k = 43 then 20004 else if k = 45 then 20005 else 0
  | 4, k => if k = 42 then 20006 else 0
  | _, _ => 0
def sp_suf (r : Bool × Nat × List Int) (s : Int) : Bool × Nat × List Int := (r.1, r.2.1, r.2.2 ++ [s])
def sp_thn (r : Bool × Nat × List Int) (k : Nat → Bool × Nat × List Int) : Bool × Nat × List Int := if r.1 = true then ((k r.2.1).1, (k r.2.1).2.1, r.2.2 ++ (k r.2.1).2.2) else r
/-- forms: 0 either, 1 both, 2 not, 3 sum, 4 term, 5 one; 10 and more: the rest of a row of such -/
def sp_pz (K W : Nat → Int) (N Q : Nat → Nat) : Nat → Nat → Nat → Nat → Bool × Nat × List Int
  | 0, _, _, _ => (false, 0, [])
  | n + 1, x, d, p =>
    if x = 2 then (if K p = 261 ∧ d < 5 then sp_suf (sp_pz K W N Q n 2 (d + 1) (N p)) 20007
      else sp_thn (sp_pz K W N Q n 3 d p) (fun p1 => if sp_opx 2 (K p1) = 0 then (true, p1, []) else sp_suf (sp_pz K W N Q n 3 d (N p1)) (sp_opx 2 (K p1))))
    else if x = 5 then (if K p = 300 then (true, N p, [W p]) else if K p = 301 then (true, N p, [10000 + W p])
      else if K p = 45 ∧ d < 5 then sp_suf (sp_pz K W N Q n 5 (d + 1) (N p)) 20008
      else if K p = 40 ∧ d < 5 then sp_thn (sp_pz K W N Q n 0 (d + 1) (N p)) (fun p1 => if K p1 = 41 then (true, N p1, []) else (false, Q p1, []))
      else (false, Q p, []))
    else if x < 10 then sp_thn (sp_pz K W N Q n (x + 1) d p) (fun p1 => sp_pz K W N Q n (x + 10) d p1)
    else if sp_opx (x - 10) (K p) = 0 then (true, p, [])
    else sp_thn (sp_suf (sp_pz K W N Q n (x - 9) d (N p)) (sp_opx (x - 10) (K p))) (fun p1 => sp_pz K W N Q n x d p1)
theorem sp_pz2 (K W : Nat → Int) (N Q : Nat → Nat) (n d p : Nat) : sp_pz K W N Q (n + 1) 2 d p = if K p = 261 ∧ d < 5 then sp_suf (sp_pz K W N Q n 2 (d + 1) (N p)) 20007
      else sp_thn (sp_pz K W N Q n 3 d p) (fun p1 => if sp_opx 2 (K p1) = 0 then (true, p1, []) else sp_suf (sp_pz K W N Q n 3 d (N p1)) (sp_opx 2 (K p1))) := by
  rw [sp_pz, if_pos rfl]
theorem sp_pz5 (K W : Nat → Int) (N Q : Nat → Nat) (n d p : Nat) : sp_pz K W N Q (n + 1) 5 d p = if K p = 300 then (true, N p, [W p]) else if K p = 301 then (true, N p, [10000 + W p])
      else if K p = 45 ∧ d < 5 then sp_suf (sp_pz K W N Q n 5 (d + 1) (N p)) 20008
      else if K p = 40 ∧ d < 5 then sp_thn (sp_pz K W N Q n 0 (d + 1) (N p)) (fun p1 => if K p1 = 41 then (true, N p1, []) else (false, Q p1, []))
      else (false, Q p, []) := by
  rw [sp_pz, if_neg (show ¬ (5 = 2) by decide), if_pos rfl]
theorem sp_pzx (K W : Nat → Int) (N Q : Nat → Nat) (n d p : Nat) {x : Nat} (hx : x = 0 ∨ x = 1 ∨ x = 3 ∨ x = 4) : sp_pz K W N Q (n + 1) x d p = sp_thn (sp_pz K W N Q n (x + 1) d p) (fun p1 => sp_pz K W N Q n (x + 10) d p1) := by
  rw [sp_pz, if_neg (show ¬ (x = 2) by omega), if_neg (show ¬ (x = 5) by omega), if_pos (show x < 10 by omega)]
theorem sp_pzl (K W : Nat → Int) (N Q : Nat → Nat) (n d p x : Nat) : sp_pz K W N Q (n + 1) (x + 10) d p = if sp_opx x (K p) = 0 then (true, p, [])
    else sp_thn (sp_suf (sp_pz K W N Q n (x + 1) d (N p)) (sp_opx x (K p))) (fun p1 => sp_pz K W N Q n (x + 10) d p1) := by
  rw [sp_pz, if_neg (show ¬ (x + 10 = 2) by omega), if_neg (show ¬ (x + 10 = 5) by omega), if_neg (show ¬ (x + 10 < 10) by omega), show x + 10 - 10 = x from by omega, show x + 10 - 9 = x + 1 from by omega]
def sp_lev (x : Nat) : Nat := if x < 6 then 6 - x else 0
/-- what the tokens keep -/
def sp_tks (t : Nat) (K : Nat → Int) (N : Nat → Nat) : Prop := ∀ p, p ≤ t → N p ≤ t ∧ (K p ≠ 302 → p < N p)
/-- what a reading that succeeds has read -/
def sp_pzok (t x p : Nat) (r : Bool × Nat × List Int) : Prop := r.1 = true → (p ≤ r.2.1 ∧ (x < 10 → p < r.2.1)) ∧ r.2.1 ≤ t ∧ r.2.2.length + p ≤ r.2.1
theorem sp_thn_t {r : Bool × Nat × List Int} {k : Nat → Bool × Nat × List Int} (h : r.1 = true) : sp_thn r k = ((k r.2.1).1, (k r.2.1).2.1, r.2.2 ++ (k r.2.1).2.2) := if_pos h
theorem sp_thn_f {r : Bool × Nat × List Int} {k : Nat → Bool × Nat × List Int} (h : ¬ r.1 = true) : sp_thn r k = r := if_neg h
theorem sp_opx_k {x : Nat} {k : Int} (h : sp_opx x k ≠ 0) : k ≠ 302 ∧ k ≠ 303 ∧ 20000 ≤ sp_opx x k ∧ sp_opx x k ≤ 20006 := by
  match x with
  | 0 => unfold sp_opx at h ⊢; revert h; repeat (first | omega | split)
  | 1 => unfold sp_opx at h ⊢; revert h; repeat (first | omega | split)
  | 2 => unfold sp_opx at h ⊢; revert h; repeat (first | omega | split)
  | 3 => unfold sp_opx at h ⊢; revert h; repeat (first | omega | split)
  | 4 => unfold sp_opx at h ⊢; revert h; repeat (first | omega | split)
  | x + 5 => exact absurd rfl h
theorem sp_pz_ok {t : Nat} {K W : Nat → Int} {N Q : Nat → Nat} (ht : sp_tks t K N) : ∀ (n x d p : Nat), p ≤ t → (x < 6 ∨ x = 10 ∨ x = 11 ∨ x = 13 ∨ x = 14) → 16 * (t - p) + sp_lev x < n → sp_pzok t x p (sp_pz K W N Q n x d p)
  | 0, x, d, p, _, _, h => absurd h (by omega)
  | n + 1, x, d, p, hp, hx, hf => by
    have ih := sp_pz_ok (W := W) (Q := Q) ht n
    have hN := ht p hp
    by_cases x2 : x = 2
    · subst x2
      rw [sp_pz2]
      by_cases c : K p = 261 ∧ d < 5
      · rw [if_pos c]
        have hN2 := hN.2 (by omega)
        have h1 := ih 2 (d + 1) (N p) hN.1 (by omega) (by unfold sp_lev at hf ⊢; simp at hf ⊢; omega)
        intro h
        have h1 := h1 h
        refine ⟨⟨Nat.le_trans (by omega) h1.1.1, fun _ => Nat.lt_of_lt_of_le hN2 h1.1.1⟩, h1.2.1, ?_⟩
        have := h1.2.2
        show ((sp_pz K W N Q n 2 (d + 1) (N p)).2.2 ++ [20007]).length + p ≤ (sp_pz K W N Q n 2 (d + 1) (N p)).2.1
        simp only [List.length_append, List.length_cons, List.length_nil]
        omega
      · rw [if_neg c]
        have h1 := ih 3 d p hp (by omega) (by unfold sp_lev at hf ⊢; simp at hf ⊢; omega)
        obtain ⟨r1, hr1⟩ : ∃ r, r = sp_pz K W N Q n 3 d p := ⟨_, rfl⟩
        rw [← hr1] at h1 ⊢
        by_cases g : r1.1 = true
        · have h1 := h1 g
          rw [sp_thn_t g]
          have hN1 := ht r1.2.1 h1.2.1
          by_cases c2 : sp_opx 2 (K r1.2.1) = 0
          · simp only [if_pos c2]
            intro _
            refine ⟨⟨h1.1.1, fun _ => h1.1.2 (by omega)⟩, h1.2.1, ?_⟩
            simp only [List.append_nil]
            exact h1.2.2
          · simp only [if_neg c2]
            have hN2 := hN1.2 (sp_opx_k c2).1
            have h2 := ih 3 d (N r1.2.1) hN1.1 (by omega) (by have := h1.1.1; unfold sp_lev at hf ⊢; simp at hf ⊢; omega)
            intro h
            have h2 := h2 h
            have e1 := h1.2.2
            have e2 := h2.2.2
            have e3 := h1.1.2 (by omega)
            refine ⟨⟨?_, fun _ => ?_⟩, h2.2.1, ?_⟩
            · show p ≤ (sp_pz K W N Q n 3 d (N r1.2.1)).2.1
              have := h2.1.1
              omega
            · show p < (sp_pz K W N Q n 3 d (N r1.2.1)).2.1
              have := h2.1.1
              omega
            · show (r1.2.2 ++ ((sp_pz K W N Q n 3 d (N r1.2.1)).2.2 ++ [sp_opx 2 (K r1.2.1)])).length + p ≤ (sp_pz K W N Q n 3 d (N r1.2.1)).2.1
              simp only [List.length_append, List.length_cons, List.length_nil]
              omega
        · rw [sp_thn_f g]
          intro h
          exact absurd h g
    · by_cases x5 : x = 5
      · subst x5
        rw [sp_pz5]
        by_cases c : K p = 300
        · rw [if_pos c]
          have := hN.2 (by omega)
          exact fun _ => ⟨⟨by show p ≤ N p; omega, fun _ => this⟩, hN.1, by show 1 + p ≤ N p; omega⟩
        · rw [if_neg c]
          by_cases c1 : K p = 301
          · rw [if_pos c1]
            have := hN.2 (by omega)
            exact fun _ => ⟨⟨by show p ≤ N p; omega, fun _ => this⟩, hN.1, by show 1 + p ≤ N p; omega⟩
          · rw [if_neg c1]
            by_cases c2 : K p = 45 ∧ d < 5
            · rw [if_pos c2]
              have hN2 := hN.2 (by omega)
              have h1 := ih 5 (d + 1) (N p) hN.1 (by omega) (by unfold sp_lev at hf ⊢; simp at hf ⊢; omega)
              intro h
              have h1 := h1 h
              refine ⟨⟨Nat.le_trans (by omega) h1.1.1, fun _ => Nat.lt_of_lt_of_le hN2 h1.1.1⟩, h1.2.1, ?_⟩
              have := h1.2.2
              show ((sp_pz K W N Q n 5 (d + 1) (N p)).2.2 ++ [20008]).length + p ≤ (sp_pz K W N Q n 5 (d + 1) (N p)).2.1
              simp only [List.length_append, List.length_cons, List.length_nil]
              omega
            · rw [if_neg c2]
              by_cases c3 : K p = 40 ∧ d < 5
              · rw [if_pos c3]
                have hN2 := hN.2 (by omega)
                have h1 := ih 0 (d + 1) (N p) hN.1 (by omega) (by unfold sp_lev at hf ⊢; simp at hf ⊢; omega)
                obtain ⟨r1, hr1⟩ : ∃ r, r = sp_pz K W N Q n 0 (d + 1) (N p) := ⟨_, rfl⟩
                rw [← hr1] at h1 ⊢
                by_cases g : r1.1 = true
                · have h1 := h1 g
                  rw [sp_thn_t g]
                  by_cases c4 : K r1.2.1 = 41
                  · simp only [if_pos c4]
                    have hN3 := ht r1.2.1 h1.2.1
                    have hN4 := hN3.2 (by omega)
                    intro _
                    have e1 := h1.1.1
                    have e2 := h1.2.2
                    refine ⟨⟨by show p ≤ N r1.2.1; omega, fun _ => by show p < N r1.2.1; omega⟩, hN3.1, ?_⟩
                    simp only [List.append_nil]
                    omega
                  · simp only [if_neg c4]
                    intro h
                    cases h
                · rw [sp_thn_f g]
                  intro h
                  exact absurd h g
              · rw [if_neg c3]
                intro h
                cases h
      · by_cases x10 : x < 10
        · rw [sp_pzx _ _ _ _ _ _ _ (by omega)]
          have h1 := ih (x + 1) d p hp (by omega) (by unfold sp_lev at hf ⊢; rw [if_pos (by omega)] at hf; rw [if_pos (by omega)]; omega)
          obtain ⟨r1, hr1⟩ : ∃ r, r = sp_pz K W N Q n (x + 1) d p := ⟨_, rfl⟩
          rw [← hr1] at h1 ⊢
          by_cases g : r1.1 = true
          · have h1 := h1 g
            have e3 := h1.1.2 (by omega)
            rw [sp_thn_t g]
            have h2 := ih (x + 10) d r1.2.1 h1.2.1 (by omega) (by unfold sp_lev at hf ⊢; rw [if_pos (by omega)] at hf; rw [if_neg (by omega)]; omega)
            intro h
            have h2 := h2 h
            have e1 := h1.2.2
            have e2 := h2.2.2
            have e4 := h2.1.1
            refine ⟨⟨?_, fun _ => ?_⟩, h2.2.1, ?_⟩
            · show p ≤ (sp_pz K W N Q n (x + 10) d r1.2.1).2.1
              omega
            · show p < (sp_pz K W N Q n (x + 10) d r1.2.1).2.1
              omega
            · show (r1.2.2 ++ (sp_pz K W N Q n (x + 10) d r1.2.1).2.2).length + p ≤ (sp_pz K W N Q n (x + 10) d r1.2.1).2.1
              simp only [List.length_append]
              omega
          · rw [sp_thn_f g]
            intro h
            exact absurd h g
        · obtain ⟨y, rfl⟩ : ∃ y, x = y + 10 := ⟨x - 10, by omega⟩
          rw [sp_pzl]
          by_cases c : sp_opx y (K p) = 0
          · rw [if_pos c]
            exact fun _ => ⟨⟨Nat.le_refl _, fun z => absurd z x10⟩, hp, by show 0 + p ≤ p; omega⟩
          · rw [if_neg c]
            have hN2 := hN.2 (sp_opx_k c).1
            have h1 := ih (y + 1) d (N p) hN.1 (by omega) (by unfold sp_lev at hf ⊢; rw [if_neg (by omega)] at hf; rw [if_pos (by omega)]; omega)
            obtain ⟨r1, hr1⟩ : ∃ r, r = sp_pz K W N Q n (y + 1) d (N p) := ⟨_, rfl⟩
            rw [← hr1] at h1 ⊢
            by_cases g : r1.1 = true
            · have h1 := h1 g
              rw [sp_thn_t (r := sp_suf r1 _) g]
              have e1 := h1.1.1
              have e2 := h1.2.2
              have h2 := ih (y + 10) d r1.2.1 h1.2.1 (by omega) (by unfold sp_lev at hf ⊢; rw [if_neg (by omega)] at hf ⊢; omega)
              intro h
              have h2 := h2 h
              have e3 := h2.1.1
              have e4 := h2.2.2
              refine ⟨⟨?_, fun z => absurd z x10⟩, h2.2.1, ?_⟩
              · show p ≤ (sp_pz K W N Q n (y + 10) d r1.2.1).2.1
                omega
              · show ((r1.2.2 ++ [sp_opx y (K p)]) ++ (sp_pz K W N Q n (y + 10) d r1.2.1).2.2).length + p ≤ (sp_pz K W N Q n (y + 10) d r1.2.1).2.1
                simp only [List.length_append, List.length_cons, List.length_nil]
                omega
            · rw [sp_thn_f (r := sp_suf r1 _) g]
              intro h
              exact absurd h g
