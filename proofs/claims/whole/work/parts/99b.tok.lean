/-! the tokens of a tape f of t bytes: K its sort (as the class numbers them), W its value, Q its place, N the place behind it -/
def sp_skp (c : Int → Bool) (f : Nat → Int) : Nat → Nat → Nat
  | 0, p => p
  | r + 1, p => if c (f p) = true then sp_skp c f r (p + 1) else p
theorem sp_skp_b (c : Int → Bool) (f : Nat → Int) : ∀ r p : Nat, p ≤ sp_skp c f r p ∧ sp_skp c f r p ≤ p + r
  | 0, p => ⟨Nat.le_refl _, Nat.le_refl _⟩
  | r + 1, p => by
    have h := sp_skp_b c f r (p + 1)
    rw [sp_skp]
    split <;> omega
theorem sp_skp_a (c : Int → Bool) (f : Nat → Int) : ∀ r p j : Nat, p ≤ j → j < sp_skp c f r p → c (f j) = true
  | 0, p, j, h1, h2 => by rw [sp_skp] at h2; omega
  | r + 1, p, j, h1, h2 => by
    rw [sp_skp] at h2
    by_cases q : c (f p) = true
    · rw [if_pos q] at h2
      by_cases e : j = p
      · rw [e]; exact q
      · exact sp_skp_a c f r (p + 1) j (by omega) h2
    · rw [if_neg q] at h2
      omega
theorem sp_skp_e (c : Int → Bool) (f : Nat → Int) : ∀ r p : Nat, sp_skp c f r p < p + r → c (f (sp_skp c f r p)) = false
  | 0, p, h => by rw [sp_skp] at h; omega
  | r + 1, p, h => by
    rw [sp_skp] at h ⊢
    by_cases q : c (f p) = true
    · rw [if_pos q] at h ⊢
      exact sp_skp_e c f r (p + 1) (by omega)
    · rw [if_neg q]
      simpa using q
def sp_isS (x : Int) : Bool := decide (x = 32 ∨ x = 10)
def sp_isL (x : Int) : Bool := decide (97 ≤ x ∧ x ≤ 122)
def sp_isD (x : Int) : Bool := decide (48 ≤ x ∧ x ≤ 57)
def sp_isG (x : Int) : Bool := decide (x = 40 ∨ x = 41 ∨ x = 59 ∨ x = 43 ∨ x = 45 ∨ x = 42 ∨ x = 60 ∨ x = 61)
theorem sp_isS_t {x : Int} : sp_isS x = true ↔ (x = 32 ∨ x = 10) := by unfold sp_isS; exact decide_eq_true_iff
theorem sp_isL_t {x : Int} : sp_isL x = true ↔ (97 ≤ x ∧ x ≤ 122) := by unfold sp_isL; exact decide_eq_true_iff
theorem sp_isD_t {x : Int} : sp_isD x = true ↔ (48 ≤ x ∧ x ≤ 57) := by unfold sp_isD; exact decide_eq_true_iff
theorem sp_isG_t {x : Int} : sp_isG x = true ↔ (x = 40 ∨ x = 41 ∨ x = 59 ∨ x = 43 ∨ x = 45 ∨ x = 42 ∨ x = 60 ∨ x = 61) := by unfold sp_isG; exact decide_eq_true_iff
def sp_wl : Nat → List Int
  | 0 => [115, 117, 105, 116, 115]
  | 1 => [108, 105, 107, 101, 115]
  | 2 => [116, 105, 114, 101, 115]
  | 3 => [111, 114]
  | 4 => [97, 110, 100]
  | 5 => [110, 111, 116]
  | 6 => [109, 97, 114, 107]
  | 7 => [110, 101, 101, 100]
  | 8 => [119, 104, 105, 99, 104]
  | 9 => [121, 101, 97, 114]
  | 10 => [104, 105, 114, 101, 100]
  | _ => [109, 111, 114, 101]
theorem sp_wl_i : ∀ a b : Fin 12, sp_wl a = sp_wl b → a = b := by decide
def sp_wm (w : Nat) (f : Nat → Int) (q e : Nat) : Prop := e = q + (sp_wl w).length ∧ sp_at f q (sp_wl w)
theorem sp_at_i {f : Nat → Int} : ∀ {q : Nat} {a b : List Int}, sp_at f q a → sp_at f q b → a.length = b.length → a = b
  | _, [], [], _, _, _ => rfl
  | _, [], _ :: _, _, _, h => by simp at h
  | _, _ :: _, [], _, _, h => by simp at h
  | q, x :: a, y :: b, h1, h2, h => by
    rw [← h1.1, ← h2.1, sp_at_i h1.2 h2.2 (by simpa using h)]
theorem sp_wm_i {f : Nat → Int} {q e a b : Nat} (ha : a < 12) (hb : b < 12) (h1 : sp_wm a f q e) (h2 : sp_wm b f q e) : a = b := by
  have h := sp_wl_i ⟨a, ha⟩ ⟨b, hb⟩ (sp_at_i h1.2 h2.2 (by have e1 := h1.1; have e2 := h2.1; show (sp_wl a).length = (sp_wl b).length; omega))
  exact congrArg Fin.val h
def sp_atb (f : Nat → Int) : Nat → List Int → Bool
  | _, [] => true
  | i, x :: r => decide (f i = x) && sp_atb f (i + 1) r
theorem sp_atb_t {f : Nat → Int} : ∀ {i : Nat} {l : List Int}, sp_atb f i l = true ↔ sp_at f i l
  | _, [] => ⟨fun _ => trivial, fun _ => rfl⟩
  | i, x :: r => by
    rw [sp_atb, Bool.and_eq_true, decide_eq_true_iff, sp_atb_t]
    exact Iff.rfl
def sp_wmb (w : Nat) (f : Nat → Int) (q e : Nat) : Bool := decide (e = q + (sp_wl w).length) && sp_atb f q (sp_wl w)
theorem sp_wmb_t {w : Nat} {f : Nat → Int} {q e : Nat} : sp_wmb w f q e = true ↔ sp_wm w f q e := by
  unfold sp_wmb
  rw [Bool.and_eq_true, decide_eq_true_iff, sp_atb_t]
  exact Iff.rfl
/-- the word from q to e; 12: none -/
def sp_wi (f : Nat → Int) (q e : Nat) : Nat → Nat → Nat
  | 0, _ => 12
  | r + 1, w => if sp_wmb w f q e = true then w else sp_wi f q e r (w + 1)
theorem sp_wi_b (f : Nat → Int) (q e : Nat) : ∀ r w : Nat, r + w = 12 → w ≤ sp_wi f q e r w ∧ sp_wi f q e r w ≤ 12 ∧ (sp_wi f q e r w < 12 → sp_wm (sp_wi f q e r w) f q e) ∧ (sp_wi f q e r w = 12 → ∀ j, w ≤ j → j < 12 → ¬ sp_wm j f q e)
  | 0, w, h => ⟨by rw [sp_wi]; omega, by rw [sp_wi]; omega, fun z => absurd z (by rw [sp_wi]; omega), fun _ j h1 h2 => absurd h2 (by omega)⟩
  | r + 1, w, h => by
    have ih := sp_wi_b f q e r (w + 1) (by omega)
    rw [sp_wi]
    by_cases c : sp_wmb w f q e = true
    · rw [if_pos c]
      exact ⟨Nat.le_refl _, by omega, fun _ => sp_wmb_t.1 c, fun z => absurd z (by omega)⟩
    · rw [if_neg c]
      refine ⟨by omega, ih.2.1, ih.2.2.1, fun z j h1 h2 => ?_⟩
      by_cases c2 : j = w
      · rw [c2]; exact fun z => c (sp_wmb_t.2 z)
      · exact ih.2.2.2 z j (by omega) h2
def sp_word (f : Nat → Int) (q e : Nat) : Nat := sp_wi f q e 12 0
theorem sp_word_e {f : Nat → Int} {q e w : Nat} (hw : w < 12) (h : sp_wm w f q e) : sp_word f q e = w := by
  have hb := sp_wi_b f q e 12 0 rfl
  unfold sp_word
  by_cases c : sp_wi f q e 12 0 = 12
  · exact absurd h (hb.2.2.2 c w (by omega) hw)
  · exact sp_wm_i (by omega) hw (hb.2.2.1 (by omega)) h
theorem sp_word_n {f : Nat → Int} {q e : Nat} (h : ∀ w, w < 12 → ¬ sp_wm w f q e) : sp_word f q e = 12 := by
  have hb := sp_wi_b f q e 12 0 rfl
  unfold sp_word
  by_cases c : sp_wi f q e 12 0 = 12
  · exact c
  · exact absurd (hb.2.2.1 (by omega)) (h _ (by omega))
/-- the sort of a word -/
def sp_rw (w : Nat) : Int := if w < 6 then 256 + (w : Int) else if w < 12 then 301 else 303
def sp_nv (f : Nat → Int) (q : Nat) : Nat → Int
  | 0 => 0
  | n + 1 => sp_nv f q n * 10 + f (q + n) - 48
def tk_Q (f : Nat → Int) (t p : Nat) : Nat := sp_skp sp_isS f (t - p) p
def tk_K (f : Nat → Int) (t p : Nat) : Int :=
  let q := tk_Q f t p
  if t ≤ q then 302
  else if sp_isL (f q) = true then (let w := sp_word f q (sp_skp sp_isL f (t - q) q); if w < 6 then 256 + (w : Int) else if w < 12 then 301 else 303)
  else if sp_isD (f q) = true then (if 4 < sp_skp sp_isD f (t - q) q - q then 303 else 300)
  else if sp_isG (f q) = true then f q else 303
def tk_W (f : Nat → Int) (t p : Nat) : Int :=
  let q := tk_Q f t p
  if sp_isL (f q) = true then (sp_word f q (sp_skp sp_isL f (t - q) q) : Int) - 6 else sp_nv f q (sp_skp sp_isD f (t - q) q - q)
def tk_N (f : Nat → Int) (t p : Nat) : Nat :=
  let q := tk_Q f t p
  if t ≤ q then q
  else if sp_isL (f q) = true then sp_skp sp_isL f (t - q) q
  else if sp_isD (f q) = true then sp_skp sp_isD f (t - q) q
  else q + 1
theorem tk_Q_b (f : Nat → Int) {t p : Nat} (h : p ≤ t) : p ≤ tk_Q f t p ∧ tk_Q f t p ≤ t := by
  have := sp_skp_b sp_isS f (t - p) p
  unfold tk_Q
  omega
theorem tk_N_b (f : Nat → Int) {t p : Nat} (h : p ≤ t) : p ≤ tk_N f t p ∧ tk_N f t p ≤ t ∧ (tk_K f t p ≠ 302 → p < tk_N f t p) ∧ tk_Q f t p ≤ tk_N f t p := by
  have hq := tk_Q_b f h
  have hl := sp_skp_b sp_isL f (t - tk_Q f t p) (tk_Q f t p)
  have hd := sp_skp_b sp_isD f (t - tk_Q f t p) (tk_Q f t p)
  unfold tk_N tk_K
  by_cases c : t ≤ tk_Q f t p
  · simp only [if_pos c]
    exact ⟨by omega, by omega, fun z => absurd rfl z, Nat.le_refl _⟩
  · simp only [if_neg c]
    obtain ⟨r, hr⟩ : ∃ r, t - tk_Q f t p = r + 1 := ⟨t - tk_Q f t p - 1, by omega⟩
    rw [hr] at hl hd ⊢
    by_cases c1 : sp_isL (f (tk_Q f t p)) = true
    · simp only [if_pos c1]
      have e : sp_skp sp_isL f (r + 1) (tk_Q f t p) = sp_skp sp_isL f r (tk_Q f t p + 1) := by rw [sp_skp, if_pos c1]
      have h2 := sp_skp_b sp_isL f r (tk_Q f t p + 1)
      rw [e]
      exact ⟨by omega, by omega, fun _ => by omega, by omega⟩
    · simp only [if_neg c1]
      by_cases c2 : sp_isD (f (tk_Q f t p)) = true
      · simp only [if_pos c2]
        have e : sp_skp sp_isD f (r + 1) (tk_Q f t p) = sp_skp sp_isD f r (tk_Q f t p + 1) := by rw [sp_skp, if_pos c2]
        have h2 := sp_skp_b sp_isD f r (tk_Q f t p + 1)
        rw [e]
        exact ⟨by omega, by omega, fun _ => by omega, by omega⟩
      · simp only [if_neg c2]
        exact ⟨by omega, by omega, fun _ => by omega, by omega⟩
theorem sp_nv_b {f : Nat → Int} {q : Nat} : ∀ n : Nat, (∀ j, j < n → 48 ≤ f (q + j) ∧ f (q + j) ≤ 57) → 0 ≤ sp_nv f q n ∧ (n ≤ 4 → sp_nv f q n ≤ 9999) ∧ (n ≤ 3 → sp_nv f q n ≤ 999) ∧ (n ≤ 2 → sp_nv f q n ≤ 99) ∧ (n ≤ 1 → sp_nv f q n ≤ 9) ∧ (n = 0 → sp_nv f q n = 0)
  | 0, _ => ⟨Int.le_refl _, fun _ => by simp [sp_nv], fun _ => by simp [sp_nv], fun _ => by simp [sp_nv], fun _ => by simp [sp_nv], fun _ => rfl⟩
  | n + 1, h => by
    have ih := sp_nv_b (f := f) (q := q) n (fun j hj => h j (by omega))
    have h1 := h n (by omega)
    rw [sp_nv]
    omega
theorem tk_end {f : Nat → Int} {t p : Nat} (h : t ≤ tk_Q f t p) : tk_K f t p = 302 ∧ tk_N f t p = tk_Q f t p := by
  unfold tk_K tk_N
  simp only [if_pos h]
  exact ⟨trivial, trivial⟩
theorem tk_let {f : Nat → Int} {t p : Nat} (h : tk_Q f t p < t) (hl : sp_isL (f (tk_Q f t p)) = true) :
    tk_K f t p = sp_rw (sp_word f (tk_Q f t p) (sp_skp sp_isL f (t - tk_Q f t p) (tk_Q f t p))) ∧ tk_N f t p = sp_skp sp_isL f (t - tk_Q f t p) (tk_Q f t p) ∧ tk_W f t p = (sp_word f (tk_Q f t p) (sp_skp sp_isL f (t - tk_Q f t p) (tk_Q f t p)) : Int) - 6 := by
  have h2 : ¬ (t ≤ tk_Q f t p) := by omega
  unfold tk_K tk_N tk_W
  simp only [if_neg h2, if_pos hl]
  exact ⟨rfl, trivial, trivial⟩
theorem tk_dig {f : Nat → Int} {t p : Nat} (h : tk_Q f t p < t) (hl : ¬ sp_isL (f (tk_Q f t p)) = true) (hd : sp_isD (f (tk_Q f t p)) = true) :
    tk_K f t p = (if 4 < sp_skp sp_isD f (t - tk_Q f t p) (tk_Q f t p) - tk_Q f t p then 303 else 300) ∧ tk_N f t p = sp_skp sp_isD f (t - tk_Q f t p) (tk_Q f t p) ∧ tk_W f t p = sp_nv f (tk_Q f t p) (sp_skp sp_isD f (t - tk_Q f t p) (tk_Q f t p) - tk_Q f t p) := by
  have h2 : ¬ (t ≤ tk_Q f t p) := by omega
  unfold tk_K tk_N tk_W
  simp only [if_neg h2, if_neg hl, if_pos hd]
  exact ⟨trivial, trivial, trivial⟩
theorem tk_sig {f : Nat → Int} {t p : Nat} (h : tk_Q f t p < t) (hl : ¬ sp_isL (f (tk_Q f t p)) = true) (hd : ¬ sp_isD (f (tk_Q f t p)) = true) :
    tk_K f t p = (if sp_isG (f (tk_Q f t p)) = true then f (tk_Q f t p) else 303) ∧ tk_N f t p = tk_Q f t p + 1 := by
  have h2 : ¬ (t ≤ tk_Q f t p) := by omega
  unfold tk_K tk_N
  simp only [if_neg h2, if_neg hl, if_neg hd]
  exact ⟨trivial, trivial⟩
