/-! best: a number as a row, in the model -/
def sp_lf (b N j : Nat) : Nat := N / b ^ j
theorem sp_lf_s (b N j : Nat) : sp_lf b N (j + 1) = sp_lf b N j / b := by
  unfold sp_lf
  rw [Nat.pow_succ, Nat.div_div_eq_div_mul]
def sp_d1 (b N j : Nat) : Int := ((sp_lf b N j % b : Nat) : Int) - 1
def sp_kd (b N : Nat) : Nat → Int
  | 0 => 0
  | j + 1 => sp_kd b N j + sp_tn j * (sp_d1 b N j + 1)
def sp_ks (V : mv_M) (P : Nat → Nat → List Int) (b N : Nat) : Nat → Int
  | 0 => 0
  | j + 1 => sp_ks V P b N j + (if sp_d1 b N j = -1 then 0 else sp_suits V P ((V 0 8).toNat - 1 - j) (sp_d1 b N j).toNat)
def sp_kh (b N : Nat) : Nat → Nat → Int
  | 0 => fun _ => 0
  | j + 1 => if sp_d1 b N j = -1 then sp_kh b N j else mv_up (sp_kh b N j) (sp_d1 b N j).toNat (sp_kh b N j (sp_d1 b N j).toNat + 1)
def sp_kg (rm : Nat → Int) (b N : Nat) : Nat → Int
  | 0 => 1
  | j + 1 => if sp_kg rm b N j = 1 then (if sp_d1 b N j = -1 then 1 else if rm (sp_d1 b N j).toNat < sp_kh b N (j + 1) (sp_d1 b N j).toNat then 0 else 1) else 0
theorem sp_kg_0 (rm : Nat → Int) (b N : Nat) : ∀ r j : Nat, sp_kg rm b N j = 0 → sp_kg rm b N (j + r) = 0
  | 0, _, h => h
  | r + 1, j, h => by
    have h2 := sp_kg_0 rm b N r j h
    show sp_kg rm b N (j + r + 1) = 0
    simp only [sp_kg]
    rw [h2]
    rfl
theorem sp_d1_b {b : Nat} (hb : 0 < b) (N j : Nat) : -1 ≤ sp_d1 b N j ∧ sp_d1 b N j < (b : Int) - 1 := by
  have := Nat.mod_lt (sp_lf b N j) hb
  unfold sp_d1
  omega
theorem sp_kh_b (b N u : Nat) : ∀ j : Nat, 0 ≤ sp_kh b N j u ∧ sp_kh b N j u ≤ j
  | 0 => ⟨Int.le_refl _, Int.le_refl _⟩
  | j + 1 => by
    have h := sp_kh_b b N u j
    have h2 := sp_kh_b b N (sp_d1 b N j).toNat j
    simp only [sp_kh]
    split
    · omega
    · unfold mv_up
      split <;> omega
theorem sp_kd_b {b : Nat} (hb : 0 < b) (hb7 : b ≤ 7) (N : Nat) : ∀ j : Nat, j ≤ 6 → 0 ≤ sp_kd b N j ∧ sp_kd b N j ≤ sp_t6 j
  | 0, _ => ⟨Int.le_refl _, Int.le_refl _⟩
  | j + 1, hj => by
    have h := sp_kd_b hb hb7 N j (by omega)
    have hd := sp_d1_b hb N j
    have ht := (sp_tn_r (k := j) (by omega)).2
    have h6 : sp_t6 (j + 1) = sp_t6 j + 6 * sp_tn j := by
      rcases (by omega : j = 0 ∨ j = 1 ∨ j = 2 ∨ j = 3 ∨ j = 4 ∨ j = 5) with q | q | q | q | q | q <;> subst q <;> decide
    have m1 := Int.mul_nonneg (show 0 ≤ sp_tn j by omega) (show 0 ≤ sp_d1 b N j + 1 by omega)
    have m2 := Int.mul_le_mul_of_nonneg_left (show sp_d1 b N j + 1 ≤ 6 by omega) (show 0 ≤ sp_tn j by omega)
    simp only [sp_kd]
    omega
theorem sp_ks_b {V : mv_M} (P : Nat → Nat → List Int) (ho : sp_ok V) {b : Nat} (hb : (b : Int) = V 0 9 + 1) (N : Nat) : ∀ j : Nat, -1200 * (j : Int) ≤ sp_ks V P b N j ∧ sp_ks V P b N j ≤ 1200 * (j : Int)
  | 0 => by simp [sp_ks]
  | j + 1 => by
    have h := sp_ks_b P ho hb N j
    have h9 := sp_ok_s9 ho
    have hd := sp_d1_b (b := b) (by omega) N j
    simp only [sp_ks]
    split
    · omega
    · have := sp_suits_b P ho ((V 0 8).toNat - 1 - j) (u := (sp_d1 b N j).toNat) (by omega)
      omega
