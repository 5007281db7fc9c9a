/-! best: the numbers of the rows -/
theorem sp_lf_b {b N : Nat} (j : Nat) : sp_lf b N (j + 1) = sp_lf b (N / b) j := by
  unfold sp_lf
  rw [Nat.pow_succ, Nat.mul_comm, Nat.div_div_eq_div_mul]
theorem sp_d1_s (b N j : Nat) : sp_d1 b N (j + 1) = sp_d1 b (N / b) j := by
  unfold sp_d1
  rw [sp_lf_b]
theorem sp_kd_sm (b N : Nat) : ∀ j : Nat, sp_kd b N j = sp_sm (fun j => sp_tn j * (sp_d1 b N j + 1)) j
  | 0 => rfl
  | j + 1 => by
    simp only [sp_kd, sp_sm]
    rw [sp_kd_sm b N j]
theorem sp_ks_sm (V : mv_M) (P : Nat → Nat → List Int) (b N : Nat) : ∀ j : Nat, sp_ks V P b N j = sp_sm (fun j => if sp_d1 b N j = -1 then 0 else sp_suits V P ((V 0 8).toNat - 1 - j) (sp_d1 b N j).toNat) j
  | 0 => rfl
  | j + 1 => by
    simp only [sp_ks, sp_sm]
    rw [sp_ks_sm V P b N j]
theorem sp_kh_sm {b : Nat} (hb : 0 < b) (N u : Nat) : ∀ j : Nat, sp_kh b N j u = sp_sm (fun j => if sp_d1 b N j = (u : Int) then 1 else 0) j
  | 0 => rfl
  | j + 1 => by
    have hd := sp_d1_b hb N j
    simp only [sp_kh, sp_sm]
    rw [← sp_kh_sm hb N u j]
    by_cases q : sp_d1 b N j = -1
    · rw [if_pos q, if_neg (by omega)]
      omega
    · rw [if_neg q]
      by_cases q2 : sp_d1 b N j = (u : Int)
      · rw [q2, Int.toNat_natCast, mv_up_s, if_pos rfl]
      · rw [if_neg q2, mv_up_n _ _ (show u ≠ (sp_d1 b N j).toNat by omega)]
        omega
/-- the digits of a row by Horner -/
theorem sp_kd_h (b N n : Nat) : sp_kd b N (n + 1) = ((N % b : Nat) : Int) + 10 * sp_kd b (N / b) n := by
  rw [sp_kd_sm, sp_kd_sm, sp_sm_f, ← sp_sm_m]
  rw [show sp_tn 0 * (sp_d1 b N 0 + 1) = ((N % b : Nat) : Int) from by
    show (1 : Int) * (((sp_lf b N 0 % b : Nat) : Int) - 1 + 1) = _
    have : sp_lf b N 0 = N := by unfold sp_lf; simp
    rw [this]; omega]
  congr 1
  refine sp_sm_c n (fun j hj => ?_)
  show 10 * sp_tn j * (sp_d1 b N (j + 1) + 1) = 10 * (sp_tn j * (sp_d1 b (N / b) j + 1))
  rw [sp_d1_s, Int.mul_assoc]
theorem sp_kd_lt {b : Nat} (hb : 0 < b) (hb7 : b ≤ 7) : ∀ (n N1 N2 : Nat), N1 < N2 → N2 < b ^ n → sp_kd b N1 n < sp_kd b N2 n
  | 0, N1, N2, h1, h2 => by rw [Nat.pow_zero] at h2; omega
  | n + 1, N1, N2, h1, h2 => by
    rw [sp_kd_h, sp_kd_h]
    have m1 := Nat.mod_lt N1 hb
    have m2 := Nat.mod_lt N2 hb
    have d1 := Nat.div_add_mod N1 b
    have d2 := Nat.div_add_mod N2 b
    have hle : N1 / b ≤ N2 / b := Nat.div_le_div_right (Nat.le_of_lt h1)
    have hq : N2 / b < b ^ n := by
      rw [Nat.div_lt_iff_lt_mul hb, ← Nat.pow_succ]
      exact h2
    rcases Nat.lt_or_eq_of_le hle with q | q
    · have := sp_kd_lt hb hb7 n _ _ q hq
      omega
    · rw [q] at d1 ⊢
      omega
/-- a number of which the digits are told -/
def sp_num (b : Nat) : (Nat → Nat) → Nat → Nat
  | _, 0 => 0
  | e, n + 1 => e 0 + b * sp_num b (fun j => e (j + 1)) n
theorem sp_num_b {b : Nat} (hb : 0 < b) : ∀ (n : Nat) (e : Nat → Nat), (∀ j, j < n → e j < b) → sp_num b e n < b ^ n
  | 0, _, _ => by simp [sp_num]
  | n + 1, e, h => by
    have h1 := sp_num_b hb n (fun j => e (j + 1)) (fun j hj => h (j + 1) (by omega))
    have h0 := h 0 (by omega)
    rw [sp_num, Nat.pow_succ]
    have h2 := Nat.mul_le_mul_left b (show sp_num b (fun j => e (j + 1)) n + 1 ≤ b ^ n from h1)
    rw [Nat.mul_add, Nat.mul_one] at h2
    rw [Nat.mul_comm (b ^ n) b]
    omega
theorem sp_num_d {b : Nat} (hb : 0 < b) : ∀ (n : Nat) (e : Nat → Nat), (∀ j, j < n → e j < b) → ∀ j, j < n → sp_d1 b (sp_num b e n) j = (e j : Int) - 1
  | 0, _, _, j, hj => absurd hj (by omega)
  | n + 1, e, h, 0, _ => by
    have h0 := h 0 (by omega)
    unfold sp_d1 sp_lf
    rw [Nat.pow_zero, Nat.div_one, sp_num, Nat.add_mul_mod_self_left, Nat.mod_eq_of_lt h0]
  | n + 1, e, h, j + 1, hj => by
    have h0 := h 0 (by omega)
    rw [sp_d1_s, sp_num, Nat.add_mul_div_left _ _ hb, Nat.div_eq_of_lt h0, Nat.zero_add]
    exact sp_num_d hb n (fun j => e (j + 1)) (fun j hj => h (j + 1) (by omega)) j (by omega)
/-- whether there is room for a row -/
theorem sp_kg_c {b : Nat} (hb : 0 < b) (rm : Nat → Int) (hr : ∀ u, u + 1 < b → 0 ≤ rm u) (N : Nat) : ∀ j : Nat, sp_kg rm b N j = 1 ↔ ∀ u : Nat, u + 1 < b → sp_kh b N j u ≤ rm u
  | 0 => ⟨fun _ u hu => hr u hu, fun _ => rfl⟩
  | j + 1 => by
    have ih := sp_kg_c hb rm hr N j
    have hd := sp_d1_b hb N j
    have hkg := sp_kg_b rm b N j
    by_cases q : sp_d1 b N j = -1
    · have e1 : sp_kg rm b N (j + 1) = if sp_kg rm b N j = 1 then 1 else 0 := by simp only [sp_kg]; rw [if_pos q]
      have e2 : sp_kh b N (j + 1) = sp_kh b N j := by simp only [sp_kh]; rw [if_pos q]
      rw [e1, e2, ← ih]
      rcases hkg with g | g <;> rw [g] <;> decide
    · obtain ⟨v, hv⟩ : ∃ v : Nat, sp_d1 b N j = (v : Int) := ⟨(sp_d1 b N j).toNat, by omega⟩
      have hvb : v + 1 < b := by omega
      have e2 : sp_kh b N (j + 1) = mv_up (sp_kh b N j) v (sp_kh b N j v + 1) := by simp only [sp_kh]; rw [if_neg q, hv, Int.toNat_natCast]
      have e1 : sp_kg rm b N (j + 1) = if sp_kg rm b N j = 1 then (if rm v < sp_kh b N j v + 1 then 0 else 1) else 0 := by
        rw [sp_kg, if_neg q, e2, hv, Int.toNat_natCast, mv_up_s]
      constructor
      · intro h u hu
        have g1 : sp_kg rm b N j = 1 := by
          rcases hkg with g | g
          · rw [e1, g, if_neg (show ¬ ((0 : Int) = 1) by decide)] at h; exact absurd h (by decide)
          · exact g
        rw [e1, if_pos g1] at h
        rw [e2]
        by_cases q3 : u = v
        · rw [q3, mv_up_s]
          by_cases q4 : rm v < sp_kh b N j v + 1
          · rw [if_pos q4] at h; exact absurd h (by decide)
          · omega
        · rw [mv_up_n _ _ q3]
          exact ih.1 g1 u hu
      · intro h
        have g1 : sp_kg rm b N j = 1 := ih.2 (fun u hu => by
          have := h u hu
          rw [e2] at this
          by_cases q3 : u = v
          · rw [q3, mv_up_s] at this
            rw [q3]; omega
          · rw [mv_up_n _ _ q3] at this
            exact this)
        have := h v hvb
        rw [e2, mv_up_s] at this
        rw [e1, if_pos g1, if_neg (by omega)]
/-- goesThrough finds the first of the greatest -/
theorem sp_gt_m (V : mv_M) (P : Nat → Nat → List Int) (rm : Nat → Int) (b : Nat) : ∀ k : Nat, 0 < k → sp_kg rm b 0 (V 0 8).toNat = 1 →
    ∃ N0 : Nat, N0 < k ∧ sp_kg rm b N0 (V 0 8).toNat = 1 ∧ sp_gt V P rm b k = (1, sp_kd b N0 (V 0 8).toNat, sp_ks V P b N0 (V 0 8).toNat) ∧ (∀ N, N < k → sp_kg rm b N (V 0 8).toNat = 1 → sp_ks V P b N (V 0 8).toNat ≤ sp_ks V P b N0 (V 0 8).toNat) ∧ ∀ N, N < N0 → sp_kg rm b N (V 0 8).toNat = 1 → sp_ks V P b N (V 0 8).toNat < sp_ks V P b N0 (V 0 8).toNat
  | 0, h, _ => absurd h (by omega)
  | 1, _, h => by
    refine ⟨0, by omega, h, ?_, fun N hN _ => by rw [show N = 0 from by omega]; exact Int.le_refl _, fun N hN => absurd hN (by omega)⟩
    show (if sp_kg rm b 0 (V 0 8).toNat = 1 ∧ ((0 : Int) = 0 ∨ _) then _ else _) = _
    exact if_pos ⟨h, Or.inl rfl⟩
  | k + 2, _, h => by
    obtain ⟨N0, h1, h2, h3, h4, h5⟩ := sp_gt_m V P rm b (k + 1) (by omega) h
    have e : sp_gt V P rm b (k + 2) = if sp_kg rm b (k + 1) (V 0 8).toNat = 1 ∧ ((sp_gt V P rm b (k + 1)).1 = 0 ∨ (sp_gt V P rm b (k + 1)).2.2 < sp_ks V P b (k + 1) (V 0 8).toNat) then (1, sp_kd b (k + 1) (V 0 8).toNat, sp_ks V P b (k + 1) (V 0 8).toNat) else sp_gt V P rm b (k + 1) := rfl
    rw [h3] at e
    by_cases q : sp_kg rm b (k + 1) (V 0 8).toNat = 1 ∧ sp_ks V P b N0 (V 0 8).toNat < sp_ks V P b (k + 1) (V 0 8).toNat
    · rw [if_pos ⟨q.1, Or.inr q.2⟩] at e
      refine ⟨k + 1, by omega, q.1, e, fun N hN hg => ?_, fun N hN hg => ?_⟩
      · by_cases q2 : N = k + 1
        · rw [q2]; exact Int.le_refl _
        · exact Int.le_trans (h4 N (by omega) hg) (Int.le_of_lt q.2)
      · exact Int.lt_of_le_of_lt (h4 N (by omega) hg) q.2
    · rw [if_neg (fun z => q ⟨z.1, by
        rcases z.2 with z2 | z2
        · have z3 : (1 : Int) = 0 := z2
          omega
        · exact z2⟩)] at e
      refine ⟨N0, by omega, h2, e, fun N hN hg => ?_, h5⟩
      by_cases q2 : N = k + 1
      · subst q2
        exact Int.not_lt.1 (fun z => q ⟨hg, z⟩)
      · exact h4 N (by omega) hg
