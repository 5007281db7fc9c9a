/-! both read a text alike -/
theorem sp_mE_fu {K W : Nat → Int} {N Q : Nat → Nat} {t : Nat} (ht : sp_tks t K N) : ∀ (m m2 p : Nat) (w y : Bool) (h k : List Int), p ≤ t → t - p < m → t - p < m2 → sp_mE K W N Q m p w y h k = sp_mE K W N Q m2 p w y h k
  | 0, _, _, _, _, _, _, _, h1, _ => absurd h1 (by omega)
  | _ + 1, 0, _, _, _, _, _, _, _, h2 => absurd h2 (by omega)
  | m + 1, m2 + 1, p, w, y, h, k, hp, h1, h2 => by
    rw [sp_mE, sp_mE]
    by_cases hk : K p = 302
    · rw [hk]
      simp [show sp_sgk 302 = -1 from rfl]
    · have hN := ht p hp
      have hN2 := hN.2 hk
      have r : ∀ (w y : Bool) (h k : List Int), sp_mE K W N Q m (N p) w y h k = sp_mE K W N Q m2 (N p) w y h k := fun w y h k => sp_mE_fu ht m m2 (N p) w y h k hN.1 (by omega) (by omega)
      simp only [r]
def sp_E (K W : Nat → Int) (N Q : Nat → Nat) (t p : Nat) (w y : Bool) (h k : List Int) : Bool × Nat × List Int := sp_mE K W N Q (t + 1 - p) p w y h k
theorem sp_E_302 {K W : Nat → Int} {N Q : Nat → Nat} {t p : Nat} {w y : Bool} {h k : List Int} (hp : p ≤ t) (hk : K p = 302) : sp_E K W N Q t p w y h k = (false, Q p, []) := by
  unfold sp_E
  rw [show t + 1 - p = (t - p) + 1 from by omega, sp_mE, hk]
  simp [show sp_sgk 302 = -1 from rfl]
theorem sp_E_u {K W : Nat → Int} {N Q : Nat → Nat} {t p : Nat} (ht : sp_tks t K N) (w y : Bool) (h k : List Int) (hp : p ≤ t) (hk : K p ≠ 302) : sp_E K W N Q t p w y h k =
    if w = true then
      (if K p = 300 then sp_E K W N Q t (N p) false y (sp_uwh 7 h) ((k ++ [100000 + W p]) ++ sp_uwc 7 h)
      else if K p = 301 then sp_E K W N Q t (N p) false y (sp_uwh 7 h) ((k ++ [W p]) ++ sp_uwc 7 h)
      else if K p = 261 ∧ y = true then (if sp_kz h = 5 then (false, Q p, []) else sp_E K W N Q t (N p) true y (13 :: h) k)
      else if K p = 45 then (if sp_kz h = 5 then (false, Q p, []) else sp_E K W N Q t (N p) true false (19 :: h) k)
      else if K p = 40 then (if sp_kz h = 5 then (false, Q p, []) else sp_E K W N Q t (N p) true true (0 :: h) k)
      else (false, Q p, []))
    else if K p = 59 then (if (sp_uwh 1 h).length = 0 then (true, N p, k ++ sp_uwc 1 h) else (false, Q p, []))
    else if K p = 41 then (if (sp_uwh 1 h).length = 0 then (false, Q p, []) else sp_E K W N Q t (N p) false y (sp_uwh 7 (sp_uwh 1 h).tail) ((k ++ sp_uwc 1 h) ++ sp_uwc 7 (sp_uwh 1 h).tail))
    else if sp_sgk (K p) = -1 then (false, Q p, [])
    else if sp_rnk (sp_sgk (K p)) = 4 ∧ sp_tp4 (sp_uwh (sp_lst (sp_sgk (K p))) h) = true then (false, Q p, [])
    else sp_E K W N Q t (N p) true (decide (sp_sgk (K p) ≤ 12)) (sp_sgk (K p) :: sp_uwh (sp_lst (sp_sgk (K p))) h) (k ++ sp_uwc (sp_lst (sp_sgk (K p))) h) := by
  have hN := ht p hp
  have hN2 := hN.2 hk
  have r : ∀ (w y : Bool) (h k : List Int), sp_mE K W N Q (t - p) (N p) w y h k = sp_E K W N Q t (N p) w y h k := fun w y h k => sp_mE_fu ht _ _ (N p) w y h k hN.1 (by omega) (by omega)
  show sp_mE K W N Q (t + 1 - p) p w y h k = _
  rw [show t + 1 - p = (t - p) + 1 from by omega, sp_mE]
  simp only [r]
/-- the top of what is held binds less -/
def sp_tr : List Int → Int → Prop
  | [], _ => True
  | s :: _, z => sp_rnk s < z
theorem sp_tr_le {h : List Int} {a b : Int} (hh : sp_tr h a) (hab : a ≤ b) : sp_tr h b := by
  cases h with
  | nil => trivial
  | cons s r =>
    have h2 : sp_rnk s < a := hh
    show sp_rnk s < b
    omega
theorem sp_uw_app {z : Int} {h0 : List Int} (ht : sp_tr h0 z) : ∀ s : List Int, (∀ a ∈ s, z ≤ sp_rnk a) → sp_uwh z (s ++ h0) = h0 ∧ sp_uwc z (s ++ h0) = s
  | [], _ => by
    cases h0 with
    | nil => exact ⟨rfl, rfl⟩
    | cons s r =>
      have h2 : sp_rnk s < z := ht
      show sp_uwh z (s :: r) = s :: r ∧ sp_uwc z (s :: r) = []
      rw [sp_uwh, sp_uwc, if_pos h2, if_pos h2]
      exact ⟨rfl, rfl⟩
  | a :: s, hs => by
    have h1 := hs a (by simp)
    have ih := sp_uw_app ht s (fun b hb => hs b (by simp [hb]))
    show sp_uwh z (a :: (s ++ h0)) = h0 ∧ sp_uwc z (a :: (s ++ h0)) = a :: s
    rw [sp_uwh, sp_uwc, if_neg (by omega), if_neg (by omega), ih.1, ih.2]
    exact ⟨rfl, rfl⟩
theorem sp_kz_app : ∀ (a b : List Int), sp_kz (a ++ b) = sp_kz a + sp_kz b
  | [], b => by simp [sp_kz]
  | s :: a, b => by
    show sp_kz (s :: (a ++ b)) = _
    simp only [sp_kz]
    rw [sp_kz_app a b]
    omega
theorem sp_kz_rep : ∀ j : Nat, sp_kz (List.replicate j 19) = (j : Int)
  | 0 => rfl
  | j + 1 => by
    rw [List.replicate_succ]
    simp only [sp_kz]
    rw [sp_kz_rep j]
    simp
def sp_thr : Nat → Int
  | 0 => 1
  | 1 => 2
  | 2 => 4
  | 3 => 5
  | 4 => 6
  | _ => 7
def sp_bnd : Nat → Int
  | 0 => 1
  | 1 => 2
  | 2 => 3
  | 3 => 5
  | 4 => 6
  | _ => 8
def sp_inf (x : Nat) (k : Int) (h : List Int) : Prop := (x < 5 → k ≠ 42) ∧ (x < 4 → k ≠ 43 ∧ k ≠ 45) ∧ (x ≤ 2 → (k = 60 ∨ k = 61) → sp_tp4 (sp_uwh 5 h) = true) ∧ (x ≤ 1 → k ≠ 260) ∧ (x = 0 → k ≠ 259)
/-- a reading of a form and the model's -/
def sp_sim (K W : Nat → Int) (N Q : Nat → Nat) (t x p : Nat) (w y : Bool) (s0 js h0 k : List Int) (r : Bool × Nat × List Int) : Prop :=
  (r.1 = true → ∃ (s k1 : List Int) (y1 : Bool), (∀ a ∈ s, sp_bnd x ≤ sp_rnk a) ∧ k1 ++ s = ((k ++ s0) ++ r.2.2.map sp_en) ++ js ∧ sp_E K W N Q t p w y (s0 ++ (js ++ h0)) k = sp_E K W N Q t r.2.1 false y1 (s ++ h0) k1 ∧ sp_inf x (K r.2.1) (s ++ h0)) ∧
  (¬ r.1 = true → sp_E K W N Q t p w y (s0 ++ (js ++ h0)) k = (false, r.2.1, []))
def sp_SX (K W : Nat → Int) (N Q : Nat → Nat) (t n x : Nat) : Prop := ∀ (d p j : Nat) (h0 k : List Int) (y : Bool), d ≤ 5 → p ≤ t → 16 * (t - p) + (6 - x) < n → (x < 5 → j = 0) → (j : Int) + sp_kz h0 = (d : Int) → sp_tr h0 (sp_thr x) → (x ≤ 2 → y = true) → (3 ≤ x → K p = 261 → y = true → d = 5) →
  sp_sim K W N Q t x p true y [] (List.replicate j 19) h0 k (sp_pz K W N Q n x d p)
def sp_SL (K W : Nat → Int) (N Q : Nat → Nat) (t n x : Nat) : Prop := ∀ (d p : Nat) (s h0 k : List Int) (y : Bool), d ≤ 5 → p ≤ t → 16 * (t - p) < n → sp_kz h0 = (d : Int) → sp_tr h0 (sp_thr x) → (∀ a ∈ s, sp_bnd x ≤ sp_rnk a) → sp_inf (x + 1) (K p) (s ++ h0) →
  sp_sim K W N Q t x p false y s [] h0 k (sp_pz K W N Q n (x + 10) d p)
theorem sp_bt {x : Nat} (hx : x = 0 ∨ x = 1 ∨ x = 3 ∨ x = 4) : sp_thr x ≤ sp_thr (x + 1) ∧ sp_bnd x ≤ sp_bnd (x + 1) ∧ sp_bnd x = sp_thr x := by
  rcases hx with q | q | q | q <;> subst q <;> decide
/-- an operator between two -/
theorem sp_opx_s {x : Nat} {k : Int} (hx : x = 0 ∨ x = 1 ∨ x = 3 ∨ x = 4) (h : sp_opx x k ≠ 0) : sp_sgk k ≠ -1 ∧ sp_en (sp_opx x k) = sp_sgk k ∧ k ≠ 59 ∧ k ≠ 41 ∧ k ≠ 302 ∧ sp_lst (sp_sgk k) = sp_thr x ∧ sp_rnk (sp_sgk k) = sp_thr x ∧ sp_rnk (sp_sgk k) ≠ 4 ∧ sp_rnk (sp_sgk k) < sp_thr (x + 1) ∧ (sp_sgk k ≠ 0 ∧ sp_sgk k ≠ 13 ∧ sp_sgk k ≠ 19) ∧ (x + 1 ≤ 2 → sp_sgk k ≤ 12) ∧ (3 ≤ x + 1 → ¬ sp_sgk k ≤ 12) := by
  rcases hx with q | q | q | q <;> subst q
  · have e : k = 259 := by
      by_cases c : k = 259
      · exact c
      · exact absurd (show (if k = 259 then (20000 : Int) else 0) = 0 from if_neg c) h
    subst e
    decide
  · have e : k = 260 := by
      by_cases c : k = 260
      · exact c
      · exact absurd (show (if k = 260 then (20001 : Int) else 0) = 0 from if_neg c) h
    subst e
    decide
  · have e : k = 43 ∨ k = 45 := by
      by_cases c : k = 43
      · exact Or.inl c
      · by_cases c2 : k = 45
        · exact Or.inr c2
        · exact absurd (show (if k = 43 then (20004 : Int) else if k = 45 then 20005 else 0) = 0 from by rw [if_neg c, if_neg c2]) h
    rcases e with e | e <;> subst e <;> decide
  · have e : k = 42 := by
      by_cases c : k = 42
      · exact c
      · exact absurd (show (if k = 42 then (20006 : Int) else 0) = 0 from if_neg c) h
    subst e
    decide
theorem sp_opx_n {x : Nat} {k : Int} {h : List Int} (hx : x = 0 ∨ x = 1 ∨ x = 3 ∨ x = 4) (h0 : sp_opx x k = 0) (hi : sp_inf (x + 1) k h) : sp_inf x k h := by
  obtain ⟨i1, i2, i3, i4, i5⟩ := hi
  rcases hx with q | q | q | q <;> subst q
  · have c : ¬ k = 259 := fun c => by rw [c] at h0; exact absurd h0 (by decide)
    exact ⟨fun _ => i1 (by decide), fun _ => i2 (by decide), fun _ => i3 (by decide), fun _ => i4 (by decide), fun _ => c⟩
  · have c : ¬ k = 260 := fun c => by rw [c] at h0; exact absurd h0 (by decide)
    exact ⟨fun _ => i1 (by decide), fun _ => i2 (by decide), fun _ => i3 (by decide), fun _ => c, fun z => absurd z (by decide)⟩
  · have c : ¬ k = 43 := fun c => by rw [c] at h0; exact absurd h0 (by decide)
    have c2 : ¬ k = 45 := fun c => by rw [c] at h0; exact absurd h0 (by decide)
    exact ⟨fun _ => i1 (by decide), fun _ => ⟨c, c2⟩, fun z => absurd z (by decide), fun z => absurd z (by decide), fun z => absurd z (by decide)⟩
  · have c : ¬ k = 42 := fun c => by rw [c] at h0; exact absurd h0 (by decide)
    exact ⟨fun _ => c, fun z => absurd z (by decide), fun z => absurd z (by decide), fun z => absurd z (by decide), fun z => absurd z (by decide)⟩
theorem sp_sX_row {K W : Nat → Int} {N Q : Nat → Nat} {t n x : Nat} (ht : sp_tks t K N) (hx : x = 0 ∨ x = 1 ∨ x = 3 ∨ x = 4) (h1 : sp_SX K W N Q t n (x + 1)) (hL : sp_SL K W N Q t n x) : sp_SX K W N Q t (n + 1) x := by
  intro d p j h0 k y hd hp hf hj hkz htr hy h261
  have hj0 : j = 0 := hj (by omega)
  subst hj0
  have hbt := sp_bt hx
  have ok1 := sp_pz_ok (W := W) (Q := Q) ht n (x + 1) d p hp (by omega) (by unfold sp_lev; rw [if_pos (by omega)]; omega)
  have s1 := h1 d p 0 h0 k y hd hp (by omega) (fun _ => rfl) hkz (sp_tr_le htr hbt.1) (fun z => hy (by omega)) (fun z => h261 (by omega))
  rw [sp_pzx _ _ _ _ _ _ _ hx]
  obtain ⟨r1, hr1⟩ : ∃ r, r = sp_pz K W N Q n (x + 1) d p := ⟨_, rfl⟩
  rw [← hr1] at s1 ok1 ⊢
  by_cases g : r1.1 = true
  · rw [sp_thn_t g]
    have ok2 := ok1 g
    have hlt := ok2.1.2 (by omega)
    obtain ⟨s, k1, y1, a1, a2, a3, a4⟩ := s1.1 g
    have s2 := hL d r1.2.1 s h0 k1 y1 hd ok2.2.1 (by omega) (by simpa using hkz) htr (fun a ha => Int.le_trans hbt.2.1 (a1 a ha)) a4
    obtain ⟨r2, hr2⟩ : ∃ r, r = sp_pz K W N Q n (x + 10) d r1.2.1 := ⟨_, rfl⟩
    rw [← hr2] at s2 ⊢
    refine ⟨fun g2 => ?_, fun g2 => ?_⟩
    · obtain ⟨s', k1', y1', b1, b2, b3, b4⟩ := s2.1 g2
      refine ⟨s', k1', y1', b1, ?_, a3.trans b3, b4⟩
      rw [b2, a2]
      simp [List.append_assoc]
    · exact a3.trans (s2.2 g2)
  · rw [sp_thn_f g]
    exact ⟨fun g2 => absurd g2 g, fun _ => s1.2 g⟩
theorem sp_sL_row {K W : Nat → Int} {N Q : Nat → Nat} {t n x : Nat} (ht : sp_tks t K N) (hx : x = 0 ∨ x = 1 ∨ x = 3 ∨ x = 4) (h1 : sp_SX K W N Q t n (x + 1)) (hL : sp_SL K W N Q t n x) : sp_SL K W N Q t (n + 1) x := by
  intro d p s h0 k y hd hp hf hkz htr hs hinf
  have hbt := sp_bt hx
  rw [sp_pzl]
  by_cases c : sp_opx x (K p) = 0
  · rw [if_pos c]
    exact ⟨fun _ => ⟨s, k, y, hs, by simp, rfl, sp_opx_n hx c hinf⟩, fun g => absurd rfl g⟩
  · rw [if_neg c]
    obtain ⟨o1, o2, o3, o4, o5, o6, o7, o8, o9, o10, o11, o12⟩ := sp_opx_s hx c
    have hN := ht p hp
    have hN2 := hN.2 o5
    have huw := sp_uw_app htr s (fun a ha => by have := hs a ha; omega)
    have e : sp_E K W N Q t p false y (s ++ ([] ++ h0)) k = sp_E K W N Q t (N p) true (decide (sp_sgk (K p) ≤ 12)) (sp_sgk (K p) :: h0) (k ++ s) := by
      rw [List.nil_append, sp_E_u ht _ _ _ _ hp o5, if_neg Bool.false_ne_true, if_neg o3, if_neg o4, if_neg o1, if_neg (fun z => o8 z.1), o6, huw.1, huw.2]
    have ok1 := sp_pz_ok (W := W) (Q := Q) ht n (x + 1) d (N p) hN.1 (by omega) (by unfold sp_lev; rw [if_pos (by omega)]; omega)
    have s1 := h1 d (N p) 0 (sp_sgk (K p) :: h0) (k ++ s) (decide (sp_sgk (K p) ≤ 12)) hd hN.1 (by omega) (fun _ => rfl) (by rw [sp_kz, if_neg (by omega)]; simpa using hkz) o9 (fun z => decide_eq_true (o11 z)) (fun z _ z2 => absurd (of_decide_eq_true z2) (o12 z))
    obtain ⟨r1, hr1⟩ : ∃ r, r = sp_pz K W N Q n (x + 1) d (N p) := ⟨_, rfl⟩
    rw [← hr1] at s1 ok1 ⊢
    by_cases g : r1.1 = true
    · rw [sp_thn_t (r := sp_suf r1 _) g]
      have ok2 := ok1 g
      have hlt := ok2.1.2 (by omega)
      obtain ⟨s2, k1, y1, a1, a2, a3, a4⟩ := s1.1 g
      have s3 := hL d r1.2.1 (s2 ++ [sp_sgk (K p)]) h0 k1 y1 hd ok2.2.1 (by omega) hkz htr (fun a ha => by
        rcases List.mem_append.1 ha with ha | ha
        · exact Int.le_trans hbt.2.1 (a1 a ha)
        · rw [List.mem_singleton.1 ha, o7, hbt.2.2]
          exact Int.le_refl _) (by rw [List.append_assoc]; exact a4)
      obtain ⟨r2, hr2⟩ : ∃ r, r = sp_pz K W N Q n (x + 10) d r1.2.1 := ⟨_, rfl⟩
      have er : sp_pz K W N Q n (x + 10) d (sp_suf r1 (sp_opx x (K p))).2.1 = r2 := hr2.symm
      rw [← hr2] at s3
      rw [er]
      have a5 : sp_E K W N Q t (N p) true (decide (sp_sgk (K p) ≤ 12)) (sp_sgk (K p) :: h0) (k ++ s) = sp_E K W N Q t r1.2.1 false y1 ((s2 ++ [sp_sgk (K p)]) ++ ([] ++ h0)) k1 := by
        have a6 := a3
        simp only [List.replicate_zero, List.nil_append] at a6
        rw [a6]
        simp [List.append_assoc]
      refine ⟨fun g2 => ?_, fun g2 => ?_⟩
      · obtain ⟨s', k1', y1', b1, b2, b3, b4⟩ := s3.1 g2
        refine ⟨s', k1', y1', b1, ?_, e.trans (a5.trans b3), b4⟩
        rw [b2]
        have a7 : k1 ++ (s2 ++ [sp_sgk (K p)]) = ((k ++ s) ++ r1.2.2.map sp_en) ++ [sp_sgk (K p)] := by
          rw [← List.append_assoc, a2]
          simp [List.append_assoc]
        rw [a7]
        simp [sp_suf, List.append_assoc, o2]
      · exact e.trans (a5.trans (s3.2 g2))
    · rw [sp_thn_f (r := sp_suf r1 _) g]
      refine ⟨fun g2 => absurd g2 g, fun _ => ?_⟩
      have a3 := s1.2 g
      simp only [List.replicate_zero, List.nil_append] at a3
      exact e.trans a3
