/-! best: the greatest of all rows -/
def sp_sm (f : Nat → Int) : Nat → Int
  | 0 => 0
  | n + 1 => sp_sm f n + f n
theorem sp_sm_c {f g : Nat → Int} : ∀ n : Nat, (∀ c, c < n → f c = g c) → sp_sm f n = sp_sm g n
  | 0, _ => rfl
  | n + 1, h => by
    simp only [sp_sm]
    rw [sp_sm_c n (fun c hc => h c (by omega)), h n (by omega)]
theorem sp_sm_a (f g : Nat → Int) : ∀ n : Nat, sp_sm (fun c => f c + g c) n = sp_sm f n + sp_sm g n
  | 0 => rfl
  | n + 1 => by
    simp only [sp_sm]
    rw [sp_sm_a f g n]
    omega
theorem sp_sm_m (z : Int) (f : Nat → Int) : ∀ n : Nat, sp_sm (fun c => z * f c) n = z * sp_sm f n
  | 0 => by simp [sp_sm]
  | n + 1 => by
    simp only [sp_sm]
    rw [sp_sm_m z f n, Int.mul_add]
theorem sp_sm_f (f : Nat → Int) : ∀ n : Nat, sp_sm f (n + 1) = f 0 + sp_sm (fun c => f (c + 1)) n
  | 0 => by simp [sp_sm]
  | n + 1 => by
    rw [sp_sm, sp_sm_f f n]
    simp only [sp_sm]
    omega
theorem sp_sm_r : ∀ (n : Nat) (f : Nat → Int), sp_sm (fun j => f (n - 1 - j)) n = sp_sm f n
  | 0, _ => rfl
  | n + 1, f => by
    rw [sp_sm_f]
    have h := sp_sm_r n f
    rw [show sp_sm (fun c => f (n + 1 - 1 - (c + 1))) n = sp_sm (fun j => f (n - 1 - j)) n from sp_sm_c n (fun c hc => by rw [show n + 1 - 1 - (c + 1) = n - 1 - c from by omega]), h]
    simp only [sp_sm]
    rw [show n + 1 - 1 - 0 = n from by omega]
    omega
theorem sp_sm_0 {f : Nat → Int} : ∀ n : Nat, (∀ c, c < n → f c = 0) → sp_sm f n = 0
  | 0, _ => rfl
  | n + 1, h => by
    simp only [sp_sm]
    rw [sp_sm_0 n (fun c hc => h c (by omega)), h n (by omega)]
    rfl
theorem sp_gb_sm (g : Nat → Int) (t : Nat) : ∀ n : Nat, sp_gb g t n = sp_sm (fun c => if Nat.testBit t c = true then g c else 0) n
  | 0 => rfl
  | n + 1 => by
    simp only [sp_gb, sp_sm]
    rw [sp_gb_sm g t n]
theorem sp_bc_sm (t : Nat) : ∀ n : Nat, (sp_bc t n : Int) = sp_sm (fun c => if Nat.testBit t c = true then 1 else 0) n
  | 0 => rfl
  | n + 1 => by
    simp only [sp_bc, sp_sm]
    rw [← sp_bc_sm t n]
    split <;> simp
/-- the set of the children below n of which p holds -/
def sp_mask (p : Nat → Bool) : Nat → Nat
  | 0 => 0
  | n + 1 => if p n = true then 2 ^ n + sp_mask p n else sp_mask p n
theorem sp_mask_b (p : Nat → Bool) : ∀ n : Nat, sp_mask p n < 2 ^ n
  | 0 => by simp [sp_mask]
  | n + 1 => by
    have h := sp_mask_b p n
    rw [sp_mask, Nat.pow_succ]
    split <;> omega
theorem sp_mask_t (p : Nat → Bool) (c : Nat) : ∀ n : Nat, Nat.testBit (sp_mask p n) c = (decide (c < n) && p c)
  | 0 => by simp [sp_mask]
  | n + 1 => by
    have h := sp_mask_t p c n
    have hb := sp_mask_b p n
    rw [sp_mask]
    rcases Nat.lt_trichotomy c n with q | q | q
    · rw [show decide (c < n + 1) = decide (c < n) from by rw [decide_eq_true (show c < n + 1 by omega), decide_eq_true q], ← h]
      split
      · exact Nat.testBit_two_pow_add_gt q _
      · rfl
    · subst q
      rw [decide_eq_true (show c < c + 1 by omega), Bool.true_and]
      split
      · rename_i hp
        rw [Nat.testBit_two_pow_add_eq, hp, Nat.testBit_lt_two_pow hb]
        rfl
      · rename_i hp
        rw [Nat.testBit_lt_two_pow hb]
        cases hq : p c
        · rfl
        · exact absurd hq hp
    · rw [decide_eq_false (show ¬ (c < n + 1) by omega), Bool.false_and]
      have hp2 : 2 ^ (n + 1) ≤ 2 ^ c := Nat.pow_le_pow_right (by omega) (by omega)
      rw [Nat.pow_succ] at hp2
      split
      · exact Nat.testBit_lt_two_pow (by omega)
      · exact Nat.testBit_lt_two_pow (by omega)
/-! sp_in goes through all parts of a set -/
theorem sp_all_d : ∀ (s k : Fin 64), ((k : Nat) + 1) &&& (s : Nat) = (k : Nat) + 1 → ∀ h : Fin 64, (h : Nat) &&& (s : Nat) = (h : Nat) → (h : Nat) ≤ (k : Nat) → (h : Nat) ≤ (k : Nat) &&& (s : Nat) := by decide +kernel
theorem sp_in_m (old g : Nat → Int) (rm : Int) (s : Nat) : ∀ (r k : Nat) (acc : Int), acc ≤ sp_in old g rm s r k acc
  | 0, _, acc => Int.le_refl _
  | _ + 1, 0, acc => Int.le_refl _
  | r + 1, k + 1, acc => by
    rw [sp_in]
    refine Int.le_trans ?_ (sp_in_m old g rm s r (k &&& s) _)
    split
    · unfold sp_mxi
      split <;> omega
    · exact Int.le_refl _
theorem sp_in_a (old g : Nat → Int) (rm : Int) {s : Nat} (hs : s < 64) : ∀ (r k : Nat) (acc : Int), k ≤ r → k ≤ s → k &&& s = k → ∀ h : Nat, h ≤ k → h &&& s = h → h ≠ 0 → (sp_bc h 6 : Int) ≤ rm → old (s ^^^ h) + g h ≤ sp_in old g rm s r k acc
  | 0, k, _, hk, _, _, h, hh, _, h0, _ => absurd hh (by omega)
  | _ + 1, 0, _, _, _, _, h, hh, _, h0, _ => absurd hh (by omega)
  | r + 1, k + 1, acc, hk, hks, hsub, h, hh, hhs, h0, hr => by
    rw [sp_in]
    have hsu := sp_sub hs (by omega) hsub
    by_cases q : h = k + 1
    · rw [← q, if_pos hr]
      refine Int.le_trans ?_ (sp_in_m old g rm s r (k &&& s) _)
      unfold sp_mxi
      split <;> omega
    · exact sp_in_a old g rm hs r (k &&& s) _ (by omega) (by omega) hsu.2.2 h (sp_all_d ⟨s, hs⟩ ⟨k, by omega⟩ hsub ⟨h, by omega⟩ hhs (by show h ≤ k; omega)) hhs h0 hr
theorem sp_in_e (old g : Nat → Int) (rm : Int) {s : Nat} (hs : s < 64) : ∀ (r k : Nat) (acc : Int), k ≤ s → k &&& s = k → sp_in old g rm s r k acc = acc ∨ ∃ h : Nat, h ≤ s ∧ h &&& s = h ∧ h ≠ 0 ∧ (sp_bc h 6 : Int) ≤ rm ∧ sp_in old g rm s r k acc = old (s ^^^ h) + g h
  | 0, _, _, _, _ => Or.inl rfl
  | _ + 1, 0, _, _, _ => Or.inl rfl
  | r + 1, k + 1, acc, hks, hsub => by
    rw [sp_in]
    have hsu := sp_sub hs (by omega) hsub
    rcases sp_in_e old g rm hs r (k &&& s) (if (sp_bc (k + 1) 6 : Int) ≤ rm then sp_mxi acc (old (s ^^^ (k + 1)) + g (k + 1)) else acc) (by omega) hsu.2.2 with q | q
    · rw [q]
      by_cases q2 : (sp_bc (k + 1) 6 : Int) ≤ rm
      · rw [if_pos q2]
        unfold sp_mxi
        split
        · exact Or.inl rfl
        · exact Or.inr ⟨k + 1, hks, hsub, by omega, q2, rfl⟩
      · rw [if_neg q2]
        exact Or.inl rfl
    · exact Or.inr q
/-! the rows -/
def sp_vl (G : Nat → Nat → Int) (D : Nat → Int) (n : Nat) : Int := sp_sm (fun c => if D c = -1 then 0 else G (D c).toNat c) n
def sp_ct1 (D : Nat → Int) (u n : Nat) : Int := sp_sm (fun c => if D c = (u : Int) then 1 else 0) n
def sp_row (rm : Nat → Int) (w : Int) (D : Nat → Int) (n k t : Nat) : Prop := (∀ c, c < n → D c = -1 ∨ (0 ≤ D c ∧ D c < (k : Int) ∧ D c ≠ w ∧ Nat.testBit t c = true)) ∧ ∀ u : Nat, u < k → (u : Int) ≠ w → sp_ct1 D u n ≤ rm u
theorem sp_row_up {V : mv_M} {P : Nat → Nat → List Int} {w : Int} (ho : sp_ok V) : ∀ (k t : Nat) (D : Nat → Int), t < 2 ^ (V 0 8).toNat → sp_row (sp_room V) w D (V 0 8).toNat k t → sp_vl (sp_G V P) D (V 0 8).toNat ≤ sp_mo V P w k t
  | 0, t, D, ht, h => by
    have e : sp_vl (sp_G V P) D (V 0 8).toNat = 0 := sp_sm_0 _ (fun c hc => by
      rcases h.1 c hc with q | q
      · rw [if_pos q]
      · omega)
    rw [e]
    exact Int.le_refl _
  | k + 1, t, D, ht, h => by
    have h8 := sp_ok_s8 ho
    obtain ⟨n, hn⟩ : ∃ n, n = (V 0 8).toNat := ⟨_, rfl⟩
    have hn6 : n ≤ 6 := by omega
    have IH := sp_row_up (P := P) (w := w) ho k
    rw [← hn] at ht h IH ⊢
    by_cases qw : (k : Int) = w
    · have e : sp_mo V P w (k + 1) t = sp_mo V P w k t := by simp only [sp_mo]; rw [if_pos qw]
      rw [e]
      refine IH t D ht ⟨fun c hc => ?_, fun u hu hw => h.2 u (by omega) hw⟩
      rcases h.1 c hc with q | ⟨q1, q2, q3, q4⟩
      · exact Or.inl q
      · exact Or.inr ⟨q1, by omega, q3, q4⟩
    · have e : sp_mo V P w (k + 1) t = sp_of (sp_mo V P w k) (fun t => sp_gb (sp_G V P k) t n) (sp_room V k) t := by simp only [sp_mo]; rw [if_neg qw, hn]
      rw [e]
      have h64 : t < 64 := Nat.lt_of_lt_of_le ht (Nat.le_trans (Nat.pow_le_pow_right (by omega) hn6) (by decide))
      obtain ⟨m, hm⟩ : ∃ m, m = sp_mask (fun c => decide (D c = (k : Int))) n := ⟨_, rfl⟩
      have hmt : ∀ c, Nat.testBit m c = (decide (c < n) && decide (D c = (k : Int))) := fun c => by rw [hm]; exact sp_mask_t _ c n
      have hsub : m &&& t = m := Nat.eq_of_testBit_eq (fun c => by
        rw [Nat.testBit_and, hmt c]
        by_cases q1 : c < n
        · by_cases q2 : D c = (k : Int)
          · rcases h.1 c q1 with q | ⟨_, _, _, q4⟩
            · omega
            · rw [q4]; simp
          · rw [decide_eq_false q2]; simp
        · rw [decide_eq_false q1]; simp)
      have hmle : m ≤ t := by
        have := Nat.and_le_right (n := m) (m := t)
        omega
      have ed : sp_vl (sp_G V P) D n = sp_vl (sp_G V P) (fun c => if D c = (k : Int) then -1 else D c) n + sp_gb (sp_G V P k) m n := by
        rw [sp_gb_sm]
        unfold sp_vl
        rw [← sp_sm_a]
        refine sp_sm_c n (fun c hc => ?_)
        show _ = (if (if D c = (k : Int) then -1 else D c) = -1 then 0 else sp_G V P (if D c = (k : Int) then -1 else D c).toNat c) + (if Nat.testBit m c = true then sp_G V P k c else 0)
        rw [hmt c, decide_eq_true hc, Bool.true_and]
        by_cases q : D c = (k : Int)
        · rw [if_neg (show ¬ (D c = -1) by omega)]
          simp only [q, decide_true, if_true]
          rw [Int.toNat_natCast]
          omega
        · simp only [q, decide_false, if_false]
          simp
      have hr : sp_row (sp_room V) w (fun c => if D c = (k : Int) then -1 else D c) n k (t ^^^ m) := by
        refine ⟨fun c hc => ?_, fun u hu hw => ?_⟩
        · show (if D c = (k : Int) then -1 else D c) = -1 ∨ (0 ≤ (if D c = (k : Int) then -1 else D c) ∧ (if D c = (k : Int) then -1 else D c) < (k : Int) ∧ (if D c = (k : Int) then -1 else D c) ≠ w ∧ _)
          by_cases q : D c = (k : Int)
          · rw [if_pos q]; exact Or.inl rfl
          · rw [if_neg q]
            rcases h.1 c hc with q5 | ⟨q1, q2, q3, q4⟩
            · exact Or.inl q5
            · refine Or.inr ⟨q1, by omega, q3, ?_⟩
              rw [Nat.testBit_xor, q4, hmt c, decide_eq_false q]
              simp
        · have hq := h.2 u (by omega) hw
          refine Int.le_trans (Int.le_of_eq ?_) hq
          refine sp_sm_c n (fun c hc => ?_)
          show (if (if D c = (k : Int) then -1 else D c) = (u : Int) then (1 : Int) else 0) = (if D c = (u : Int) then 1 else 0)
          by_cases q : D c = (k : Int)
          · rw [if_pos q, if_neg (show ¬ ((-1 : Int) = (u : Int)) by omega), if_neg (show ¬ (D c = (u : Int)) by omega)]
          · rw [if_neg q]
      have htx : t ^^^ m < 2 ^ n := by
        rcases (by omega : m = 0 ∨ 0 < m) with q | q
        · rw [q, Nat.xor_zero]; exact ht
        · obtain ⟨x, rfl⟩ : ∃ x, m = x + 1 := ⟨m - 1, by omega⟩
          have := (sp_sub h64 (by omega) hsub).1
          omega
      have hb := IH (t ^^^ m) _ htx hr
      rw [ed]
      rcases (by omega : m = 0 ∨ 0 < m) with q | q
      · rw [q, Nat.xor_zero] at hb
        have e0 : sp_gb (sp_G V P k) m n = 0 := by
          rw [sp_gb_sm, q]
          exact sp_sm_0 n (fun c _ => by simp)
        rw [e0]
        have := sp_in_m (sp_mo V P w k) (fun t => sp_gb (sp_G V P k) t n) (sp_room V k) t t t (sp_mo V P w k t)
        unfold sp_of
        omega
      · have hbc : (sp_bc m 6 : Int) ≤ sp_room V k := by
          have hq := h.2 k (by omega) qw
          refine Int.le_trans (Int.le_of_eq ?_) hq
          rw [show (6 : Nat) = n + (6 - n) from by omega]
          have : ∀ r : Nat, (sp_bc m (n + r) : Int) = sp_ct1 D k n := by
            intro r
            induction r with
            | zero =>
              rw [Nat.add_zero, sp_bc_sm]
              refine sp_sm_c n (fun c hc => ?_)
              show (if Nat.testBit m c = true then (1 : Int) else 0) = (if D c = (k : Int) then 1 else 0)
              rw [hmt c, decide_eq_true hc, Bool.true_and]
              by_cases q : D c = (k : Int)
              · simp only [q, decide_true, if_true]
              · simp only [q, decide_false, if_false]
                simp
            | succ r ih =>
              show ((sp_bc m (n + r) + (if Nat.testBit m (n + r) = true then 1 else 0) : Nat) : Int) = _
              rw [hmt (n + r), decide_eq_false (show ¬ (n + r < n) by omega), Bool.false_and]
              simpa using ih
          exact this (6 - n)
        have := sp_in_a (sp_mo V P w k) (fun t => sp_gb (sp_G V P k) t n) (sp_room V k) h64 t t (sp_mo V P w k t) (Nat.le_refl _) (Nat.le_refl _) (Nat.and_self t) m hmle hsub (by omega) hbc
        unfold sp_of
        have h3 := Int.add_le_add_right hb (sp_gb (sp_G V P k) m n)
        exact Int.le_trans h3 this
