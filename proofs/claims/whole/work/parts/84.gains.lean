/-! best: what a set of children brings with one uncle -/
def sp_tn : Nat → Int
  | 0 => 1
  | k + 1 => 10 * sp_tn k
theorem sp_tn_r {k : Nat} (h : k < 6) : mv_ro 201 k = sp_tn k ∧ 1 ≤ sp_tn k ∧ sp_tn k ≤ 100000 := by
  rcases (by omega : k = 0 ∨ k = 1 ∨ k = 2 ∨ k = 3 ∨ k = 4 ∨ k = 5) with q | q | q | q | q | q <;> subst q <;> decide
theorem sp_p2 {c : Nat} (h : c < 6) : 1 ≤ 2 ^ c ∧ 2 ^ c ≤ 32 ∧ mv_shl 1 (c : Int) = ((2 ^ c : Nat) : Int) := by
  rcases (by omega : c = 0 ∨ c = 1 ∨ c = 2 ∨ c = 3 ∨ c = 4 ∨ c = 5) with q | q | q | q | q | q <;> subst q <;> decide
/-- a child with an uncle, above 20 bits, less its digit of the row -/
def sp_G (V : mv_M) (P : Nat → Nat → List Int) (u c : Nat) : Int := sp_suits V P c u * 1048576 - ((u : Int) + 1) * sp_tn ((V 0 8).toNat - 1 - c)
def sp_gb (g : Nat → Int) (set : Nat) : Nat → Int
  | 0 => 0
  | c + 1 => sp_gb g set c + (if Nat.testBit set c = true then g c else 0)
theorem sp_gb_b (g : Nat → Int) (set : Nat) (hg : ∀ c, -2000000000 ≤ g c ∧ g c ≤ 2000000000) : ∀ c : Nat, -2000000000 * (c : Int) ≤ sp_gb g set c ∧ sp_gb g set c ≤ 2000000000 * (c : Int)
  | 0 => by simp [sp_gb]
  | c + 1 => by
    have h := sp_gb_b g set hg c
    have h2 := hg c
    simp only [sp_gb]
    split <;> omega
theorem sp_gb_c (g : Nat → Int) (s t : Nat) : ∀ c : Nat, (∀ j, j < c → Nat.testBit s j = Nat.testBit t j) → sp_gb g s c = sp_gb g t c
  | 0, _ => rfl
  | c + 1, h => by
    simp only [sp_gb]
    rw [sp_gb_c g s t c (fun j hj => h j (by omega)), h c (by omega)]
theorem sp_gb_lo (g : Nat → Int) {s c : Nat} (h : s < 2 ^ c) : sp_gb g s (c + 1) = sp_gb g s c := by
  simp only [sp_gb]
  rw [Nat.testBit_lt_two_pow h]
  simp
theorem sp_gb_hi (g : Nat → Int) {s c : Nat} (h : s < 2 ^ c) : sp_gb g (2 ^ c + s) (c + 1) = sp_gb g s c + g c := by
  simp only [sp_gb]
  rw [sp_gb_c g (2 ^ c + s) s c (fun j hj => Nat.testBit_two_pow_add_gt hj s), Nat.testBit_two_pow_add_eq, Nat.testBit_lt_two_pow h]
  simp
theorem sp_cag1 {M0 : mv_M} {g : Nat → Int} {u c d : Nat} {Q : mv_M → Prop} (hc : c < 6) (hg : ∀ c, -2000000000 ≤ g c ∧ g c ≤ 2000000000) :
    ∀ (r s : Nat) (M : mv_M), s + r = 2 ^ c → mv_ag [68] M0 M → (∀ t, t < 2 ^ c → M 68 t = sp_gb g t c) → (∀ t, t < s → M 68 (2 ^ c + t) = sp_gb g t c + g c) →
      (∀ (M2 : mv_M) (l6 : mv_V), mv_ag [68] M0 M2 → (∀ t, t < 2 ^ (c + 1) → M2 68 t = sp_gb g t (c + 1)) → mv_isL l6 = false → mv_Ru d 36 92 [mv_R 60, mv_I (u : Int), mv_I (c : Int), mv_L (g c), mv_U, mv_I ((2 ^ c : Nat) : Int), l6] [] M2 mv_U Q) →
      mv_Ru d 36 60 [mv_R 60, mv_I (u : Int), mv_I (c : Int), mv_L (g c), mv_U, mv_I ((2 ^ c : Nat) : Int), mv_I (s : Int)] [] M mv_U Q := by
  have hp := sp_p2 hc
  have hgc := hg c
  intro r
  induction r with
  | zero =>
    intro s M hk hag hlo hhi e
    have hq := fun l6 h6 => e M l6 hag (fun t ht => by
      by_cases q : t < 2 ^ c
      · rw [hlo t q, sp_gb_lo g q]
      · have ht2 : t < 2 ^ c + 2 ^ c := by rw [Nat.pow_succ] at ht; omega
        obtain ⟨x, rfl⟩ : ∃ x, t = 2 ^ c + x := ⟨t - 2 ^ c, by omega⟩
        rw [hhi x (by omega), sp_gb_hi g (by omega)]) h6
    obtain ⟨b, hb⟩ : ∃ b, b = 2 ^ c := ⟨_, rfl⟩
    rw [← hb] at hk hq hp ⊢
    refine mv_go' 3 (pc' := if (s : Int) < (b : Int) then 67 else 92) (ls' := [mv_R 60, mv_I (u : Int), mv_I (c : Int), mv_L (g c), mv_U, mv_I (b : Int), mv_I (s : Int)]) (st' := []) (M1 := M) rfl ?_
    refine mv_ff' (by omega) ?_
    exact hq _ rfl
  | succ r ih =>
    intro s M hk hag hlo hhi e
    have es := hlo s (by omega)
    have hgb := sp_gb_b g s hg c
    obtain ⟨b, hb⟩ : ∃ b, b = 2 ^ c := ⟨_, rfl⟩
    rw [← hb] at hk hlo hhi hp e ih ⊢
    refine mv_go' 3 (pc' := if (s : Int) < (b : Int) then 67 else 92) (ls' := [mv_R 60, mv_I (u : Int), mv_I (c : Int), mv_L (g c), mv_U, mv_I (b : Int), mv_I (s : Int)]) (st' := []) (M1 := M) rfl ?_
    refine mv_tt' (by omega) ?_
    refine mv_go' 9 (pc' := if 0 ≤ (s : Int) ∧ (s : Int) < 64 then 83 else mv_bad) (ls' := [mv_R 60, mv_I (u : Int), mv_I (c : Int), mv_L (g c), mv_U, mv_I (b : Int), mv_I (s : Int)]) (st' := [mv_L (M 68 s), mv_I (mv_w ((b : Int) + (s : Int))), mv_R 68]) (M1 := M) rfl ?_
    refine mv_tt' (by omega) ?_
    rw [show M 68 s = sp_gb g s c from by exact es]
    refine mv_go' 2 (pc' := 85) (ls' := [mv_R 60, mv_I (u : Int), mv_I (c : Int), mv_L (g c), mv_U, mv_I (b : Int), mv_I (s : Int)]) (st' := [mv_L (mv_wl ((sp_gb g s c) + (g c))), mv_I (mv_w ((b : Int) + (s : Int))), mv_R 68]) (M1 := M) rfl ?_
    rw [show mv_w ((b : Int) + (s : Int)) = ((b + s : Nat) : Int) from by (rw [show mv_w ((b : Int) + (s : Int)) = (b : Int) + (s : Int) from mv_w_id (by omega) (by omega)]) <;> omega]
    refine mv_go' 1 (pc' := if 0 ≤ ((b + s : Nat) : Int) ∧ ((b + s : Nat) : Int) < 64 then 86 else mv_bad) (ls' := [mv_R 60, mv_I (u : Int), mv_I (c : Int), mv_L (g c), mv_U, mv_I (b : Int), mv_I (s : Int)]) (st' := []) (M1 := (mv_st M 68 (mv_up (M 68) (b + s) (mv_wl ((sp_gb g s c) + (g c)))))) rfl ?_
    refine mv_tt' (by omega) ?_
    refine mv_go' 2 (pc' := 60) (ls' := [mv_R 60, mv_I (u : Int), mv_I (c : Int), mv_L (g c), mv_U, mv_I (b : Int), mv_I (mv_w ((s : Int) + 1))]) (st' := []) (M1 := (mv_st M 68 (mv_up (M 68) (b + s) (mv_wl ((sp_gb g s c) + (g c)))))) rfl ?_
    rw [show mv_w ((s : Int) + 1) = (s : Int) + 1 from mv_w_id (by omega) (by omega)]
    rw [show mv_wl ((sp_gb g s c) + (g c)) = (sp_gb g s c) + (g c) from mv_wl_id (by omega) (by omega)]
    rw [show (s : Int) + 1 = ((s + 1 : Nat) : Int) from by omega]
    refine ih (s + 1) _ (by omega) (hag.st (by decide)) (fun t ht => ?_) (fun t ht => ?_) e
    · show mv_up (M 68) (b + s) _ t = _
      rw [mv_up_n _ _ (by omega)]; exact hlo t ht
    · show mv_up (M 68) (b + s) _ (b + t) = _
      by_cases q : t = s
      · rw [q, mv_up_s]
      · rw [mv_up_n _ _ (by omega)]; exact hhi t (by omega)
