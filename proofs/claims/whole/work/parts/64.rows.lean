/-! rows -/
def sp_rs (s : Nat → Nat → Int) (D : Nat → Int) : Nat → Int
  | 0 => 0
  | k + 1 => sp_rs s D k + (if D k = -1 then 0 else s k (D k).toNat)
def sp_rd (D : Nat → Int) : Nat → Int
  | 0 => 0
  | k + 1 => 10 * sp_rd D k + D k + 1
def sp_ra (D : Nat → Int) : Nat → Int
  | 0 => 0
  | k + 1 => sp_ra D k + (if D k = -1 then 0 else 1)
def sp_t6 : Nat → Int
  | 0 => 0
  | k + 1 => 10 * sp_t6 k + 6
theorem sp_t6_b : ∀ k : Nat, k ≤ 6 → 0 ≤ sp_t6 k ∧ sp_t6 k ≤ 666666 := by
  intro k hk
  rcases (by omega : k = 0 ∨ k = 1 ∨ k = 2 ∨ k = 3 ∨ k = 4 ∨ k = 5 ∨ k = 6) with q | q | q | q | q | q | q <;> subst q <;> decide
theorem sp_rd_b (D : Nat → Int) : ∀ k : Nat, (∀ j, j < k → -1 ≤ D j ∧ D j ≤ 5) → 0 ≤ sp_rd D k ∧ sp_rd D k ≤ sp_t6 k
  | 0, _ => ⟨Int.le_refl _, Int.le_refl _⟩
  | k + 1, h => by
    have h1 := sp_rd_b D k (fun j hj => h j (by omega))
    have h2 := h k (by omega)
    simp only [sp_rd, sp_t6]
    omega
theorem sp_rd_c (D E : Nat → Int) : ∀ k : Nat, (∀ j, j < k → D j = E j) → sp_rd D k = sp_rd E k
  | 0, _ => rfl
  | k + 1, h => by
    simp only [sp_rd]
    rw [sp_rd_c D E k (fun j hj => h j (by omega)), h k (by omega)]
theorem sp_rs_c (s : Nat → Nat → Int) (D E : Nat → Int) : ∀ k : Nat, (∀ j, j < k → D j = E j) → sp_rs s D k = sp_rs s E k
  | 0, _ => rfl
  | k + 1, h => by
    simp only [sp_rs]
    rw [sp_rs_c s D E k (fun j hj => h j (by omega)), h k (by omega)]
theorem sp_ra_b (D : Nat → Int) : ∀ k : Nat, 0 ≤ sp_ra D k ∧ sp_ra D k ≤ k
  | 0 => ⟨Int.le_refl _, Int.le_refl _⟩
  | k + 1 => by
    have h := sp_ra_b D k
    simp only [sp_ra]
    split <;> omega
theorem sp_rs_b {V : mv_M} {P : Nat → Nat → List Int} (ho : sp_ok V) (D : Nat → Int) : ∀ k : Nat, (∀ j, j < k → -1 ≤ D j ∧ D j < V 0 9) → -1200 * k ≤ sp_rs (sp_suits V P) D k ∧ sp_rs (sp_suits V P) D k ≤ 1200 * k
  | 0, _ => by simp [sp_rs]
  | k + 1, h => by
    have h1 := sp_rs_b (P := P) ho D k (fun j hj => h j (by omega))
    have h2 := h k (by omega)
    simp only [sp_rs]
    split
    · omega
    · have h3 := sp_suits_b P ho k (u := (D k).toNat) (by omega)
      omega
theorem sp_csb_64_lp {V M : mv_M} {P : Nat → Nat → List Int} {D : Nat → Int} (ho : sp_ok V) (ht : sp_tb V P M) (hD : ∀ j : Nat, (j : Int) < V 0 8 → M 64 j = D j ∧ -1 ≤ D j ∧ D j < V 0 9) :
    ∀ (r c : Nat), (c : Int) + r = V 0 8 → mv_Ru 0 29 4 [mv_R 60, mv_R 64, mv_I (sp_rs (sp_suits V P) D c), mv_I (c : Int)] [] M (mv_I (sp_rs (sp_suits V P) D (V 0 8).toNat)) (fun M1 => M1 = M) := by
  have h8 := sp_ok_s8 ho
  have h9 := sp_ok_s9 ho
  intro r
  induction r with
  | zero =>
    intro c hk
    have e8 : M 60 8 = (c : Int) := by rw [ht.1.1]; omega
    rw [show (V 0 8).toNat = c from by omega]
    refine mv_go' 3 (pc' := 9) (ls' := [mv_R 60, mv_R 64, mv_I (sp_rs (sp_suits V P) D c), mv_I (c : Int)]) (st' := [mv_I (M 60 8), mv_I (c : Int)]) (M1 := M) rfl ?_
    rw [show M 60 8 = (c : Int) from by exact e8]
    refine mv_go' 1 (pc' := if (c : Int) < (c : Int) then 12 else 45) (ls' := [mv_R 60, mv_R 64, mv_I (sp_rs (sp_suits V P) D c), mv_I (c : Int)]) (st' := []) (M1 := M) rfl ?_
    refine mv_ff' (by omega) ?_
    refine mv_go' 1 (pc' := 46) (ls' := [mv_R 60, mv_R 64, mv_I (sp_rs (sp_suits V P) D c), mv_I (c : Int)]) (st' := [mv_I (sp_rs (sp_suits V P) D c)]) (M1 := M) rfl ?_
    exact mv_ret (fun n => rfl) rfl
  | succ r ih =>
    intro c hk
    have hb := sp_rs_b (P := P) ho D c (fun j hj => (hD j (by omega)).2)
    have hDc := hD c (by omega)
    by_cases hd0 : D c = -1
    · refine mv_go' 3 (pc' := 9) (ls' := [mv_R 60, mv_R 64, mv_I (sp_rs (sp_suits V P) D c), mv_I (c : Int)]) (st' := [mv_I (M 60 8), mv_I (c : Int)]) (M1 := M) rfl ?_
      rw [show M 60 8 = V 0 8 from by exact ht.1.1]
      refine mv_go' 1 (pc' := if (c : Int) < (V 0 8) then 12 else 45) (ls' := [mv_R 60, mv_R 64, mv_I (sp_rs (sp_suits V P) D c), mv_I (c : Int)]) (st' := []) (M1 := M) rfl ?_
      refine mv_tt' (by omega) ?_
      refine mv_go' 4 (pc' := if 0 ≤ (c : Int) ∧ (c : Int) < 6 then 16 else mv_bad) (ls' := [mv_R 60, mv_R 64, mv_I (sp_rs (sp_suits V P) D c), mv_I (c : Int)]) (st' := [mv_I (M 64 c), mv_I (sp_rs (sp_suits V P) D c)]) (M1 := M) rfl ?_
      refine mv_tt' (by omega) ?_
      rw [show M 64 c = D c from by exact hDc.1]
      refine mv_go' 2 (pc' := if (D c) = (-1) then 20 else 24) (ls' := [mv_R 60, mv_R 64, mv_I (sp_rs (sp_suits V P) D c), mv_I (c : Int)]) (st' := [mv_I (sp_rs (sp_suits V P) D c)]) (M1 := M) rfl ?_
      refine mv_tt' (by omega) ?_
      refine mv_go' 6 (pc' := 4) (ls' := [mv_R 60, mv_R 64, mv_I (mv_w ((sp_rs (sp_suits V P) D c) + 0)), mv_I (mv_w ((c : Int) + 1))]) (st' := []) (M1 := M) rfl ?_
      rw [show mv_w ((sp_rs (sp_suits V P) D c) + 0) = (sp_rs (sp_suits V P) D c) + 0 from mv_w_id (by omega) (by omega)]
      rw [show mv_w ((c : Int) + 1) = (c : Int) + 1 from mv_w_id (by omega) (by omega)]
      rw [show (c : Int) + 1 = ((c + 1 : Nat) : Int) from by omega]
      refine mv_eqs (ls2 := [mv_R 60, mv_R 64, mv_I (sp_rs (sp_suits V P) D (c + 1)), mv_I ((c + 1 : Nat) : Int)]) (by rw [show (sp_rs (sp_suits V P) D c) + 0 = sp_rs (sp_suits V P) D (c + 1) from by simp only [sp_rs]; first | rw [if_pos hd0] | (rw [if_neg hd0, hd, Int.toNat_natCast])]) rfl rfl (ih (c + 1) (by omega))
    · obtain ⟨dn, hd⟩ : ∃ x : Nat, D c = (x : Int) := ⟨(D c).toNat, by omega⟩
      have hs := sp_suits_b P ho c (u := dn) (by omega)
      have hr := ht.2.2 c dn (by omega) (by omega)
      refine mv_go' 3 (pc' := 9) (ls' := [mv_R 60, mv_R 64, mv_I (sp_rs (sp_suits V P) D c), mv_I (c : Int)]) (st' := [mv_I (M 60 8), mv_I (c : Int)]) (M1 := M) rfl ?_
      rw [show M 60 8 = V 0 8 from by exact ht.1.1]
      refine mv_go' 1 (pc' := if (c : Int) < (V 0 8) then 12 else 45) (ls' := [mv_R 60, mv_R 64, mv_I (sp_rs (sp_suits V P) D c), mv_I (c : Int)]) (st' := []) (M1 := M) rfl ?_
      refine mv_tt' (by omega) ?_
      refine mv_go' 4 (pc' := if 0 ≤ (c : Int) ∧ (c : Int) < 6 then 16 else mv_bad) (ls' := [mv_R 60, mv_R 64, mv_I (sp_rs (sp_suits V P) D c), mv_I (c : Int)]) (st' := [mv_I (M 64 c), mv_I (sp_rs (sp_suits V P) D c)]) (M1 := M) rfl ?_
      refine mv_tt' (by omega) ?_
      rw [show M 64 c = (dn : Int) from by rw [hDc.1]; exact hd]
      refine mv_go' 2 (pc' := if (dn : Int) = (-1) then 20 else 24) (ls' := [mv_R 60, mv_R 64, mv_I (sp_rs (sp_suits V P) D c), mv_I (c : Int)]) (st' := [mv_I (sp_rs (sp_suits V P) D c)]) (M1 := M) rfl ?_
      refine mv_ff' (by omega) ?_
      refine mv_go' 8 (pc' := if 0 ≤ (c : Int) ∧ (c : Int) < 6 then 35 else mv_bad) (ls' := [mv_R 60, mv_R 64, mv_I (sp_rs (sp_suits V P) D c), mv_I (c : Int)]) (st' := [mv_I (M 64 c), mv_I (mv_w ((c : Int) * 6)), mv_R 61, mv_I (sp_rs (sp_suits V P) D c)]) (M1 := M) rfl ?_
      refine mv_tt' (by omega) ?_
      rw [show M 64 c = (dn : Int) from by rw [hDc.1]; exact hd]
      refine mv_go' 1 (pc' := 36) (ls' := [mv_R 60, mv_R 64, mv_I (sp_rs (sp_suits V P) D c), mv_I (c : Int)]) (st' := [mv_I (mv_w ((mv_w ((c : Int) * 6)) + (dn : Int))), mv_R 61, mv_I (sp_rs (sp_suits V P) D c)]) (M1 := M) rfl ?_
      rw [show mv_w ((mv_w ((c : Int) * 6)) + (dn : Int)) = ((6 * c + dn : Nat) : Int) from by (rw [show mv_w ((c : Int) * 6) = (c : Int) * 6 from mv_w_id (by omega) (by omega), show mv_w (((c : Int) * 6) + (dn : Int)) = ((c : Int) * 6) + (dn : Int) from mv_w_id (by omega) (by omega)]) <;> omega]
      refine mv_go' 1 (pc' := if 0 ≤ ((6 * c + dn : Nat) : Int) ∧ ((6 * c + dn : Nat) : Int) < 36 then 37 else mv_bad) (ls' := [mv_R 60, mv_R 64, mv_I (sp_rs (sp_suits V P) D c), mv_I (c : Int)]) (st' := [mv_I (M 61 (6 * c + dn)), mv_I (sp_rs (sp_suits V P) D c)]) (M1 := M) rfl ?_
      refine mv_tt' (by omega) ?_
      rw [show M 61 (6 * c + dn) = sp_suits V P c dn from by exact hr]
      refine mv_go' 4 (pc' := 4) (ls' := [mv_R 60, mv_R 64, mv_I (mv_w ((sp_rs (sp_suits V P) D c) + (sp_suits V P c dn))), mv_I (mv_w ((c : Int) + 1))]) (st' := []) (M1 := M) rfl ?_
      rw [show mv_w ((sp_rs (sp_suits V P) D c) + (sp_suits V P c dn)) = (sp_rs (sp_suits V P) D c) + (sp_suits V P c dn) from mv_w_id (by omega) (by omega)]
      rw [show mv_w ((c : Int) + 1) = (c : Int) + 1 from mv_w_id (by omega) (by omega)]
      rw [show (c : Int) + 1 = ((c + 1 : Nat) : Int) from by omega]
      refine mv_eqs (ls2 := [mv_R 60, mv_R 64, mv_I (sp_rs (sp_suits V P) D (c + 1)), mv_I ((c + 1 : Nat) : Int)]) (by rw [show (sp_rs (sp_suits V P) D c) + (sp_suits V P c dn) = sp_rs (sp_suits V P) D (c + 1) from by simp only [sp_rs]; first | rw [if_pos hd0] | (rw [if_neg hd0, hd, Int.toNat_natCast])]) rfl rfl (ih (c + 1) (by omega))
theorem sp_csb_64 {V M : mv_M} {P : Nat → Nat → List Int} {D : Nat → Int} (ho : sp_ok V) (ht : sp_tb V P M) (hD : ∀ j : Nat, (j : Int) < V 0 8 → M 64 j = D j ∧ -1 ≤ D j ∧ D j < V 0 9) :
    mv_Ru 0 29 0 [mv_R 60, mv_R 64, mv_U, mv_U] [] M (mv_I (sp_rs (sp_suits V P) D (V 0 8).toNat)) (fun M1 => M1 = M) := by
  have h8 := sp_ok_s8 ho
  refine mv_go' 4 (pc' := 4) (ls' := [mv_R 60, mv_R 64, mv_I 0, mv_I 0]) (st' := []) (M1 := M) rfl ?_
  exact sp_csb_64_lp ho ht hD (V 0 8).toNat 0 (by omega)
theorem sp_csb_32_lp {V M : mv_M} {P : Nat → Nat → List Int} {D : Nat → Int} (ho : sp_ok V) (ht : sp_tb V P M) (hD : ∀ j : Nat, (j : Int) < V 0 8 → M 32 j = D j ∧ -1 ≤ D j ∧ D j < V 0 9) :
    ∀ (r c : Nat), (c : Int) + r = V 0 8 → mv_Ru 0 29 4 [mv_R 60, mv_R 32, mv_I (sp_rs (sp_suits V P) D c), mv_I (c : Int)] [] M (mv_I (sp_rs (sp_suits V P) D (V 0 8).toNat)) (fun M1 => M1 = M) := by
  have h8 := sp_ok_s8 ho
  have h9 := sp_ok_s9 ho
  intro r
  induction r with
  | zero =>
    intro c hk
    have e8 : M 60 8 = (c : Int) := by rw [ht.1.1]; omega
    rw [show (V 0 8).toNat = c from by omega]
    refine mv_go' 3 (pc' := 9) (ls' := [mv_R 60, mv_R 32, mv_I (sp_rs (sp_suits V P) D c), mv_I (c : Int)]) (st' := [mv_I (M 60 8), mv_I (c : Int)]) (M1 := M) rfl ?_
    rw [show M 60 8 = (c : Int) from by exact e8]
    refine mv_go' 1 (pc' := if (c : Int) < (c : Int) then 12 else 45) (ls' := [mv_R 60, mv_R 32, mv_I (sp_rs (sp_suits V P) D c), mv_I (c : Int)]) (st' := []) (M1 := M) rfl ?_
    refine mv_ff' (by omega) ?_
    refine mv_go' 1 (pc' := 46) (ls' := [mv_R 60, mv_R 32, mv_I (sp_rs (sp_suits V P) D c), mv_I (c : Int)]) (st' := [mv_I (sp_rs (sp_suits V P) D c)]) (M1 := M) rfl ?_
    exact mv_ret (fun n => rfl) rfl
  | succ r ih =>
    intro c hk
    have hb := sp_rs_b (P := P) ho D c (fun j hj => (hD j (by omega)).2)
    have hDc := hD c (by omega)
    by_cases hd0 : D c = -1
    · refine mv_go' 3 (pc' := 9) (ls' := [mv_R 60, mv_R 32, mv_I (sp_rs (sp_suits V P) D c), mv_I (c : Int)]) (st' := [mv_I (M 60 8), mv_I (c : Int)]) (M1 := M) rfl ?_
      rw [show M 60 8 = V 0 8 from by exact ht.1.1]
      refine mv_go' 1 (pc' := if (c : Int) < (V 0 8) then 12 else 45) (ls' := [mv_R 60, mv_R 32, mv_I (sp_rs (sp_suits V P) D c), mv_I (c : Int)]) (st' := []) (M1 := M) rfl ?_
      refine mv_tt' (by omega) ?_
      refine mv_go' 4 (pc' := if 0 ≤ (c : Int) ∧ (c : Int) < 6 then 16 else mv_bad) (ls' := [mv_R 60, mv_R 32, mv_I (sp_rs (sp_suits V P) D c), mv_I (c : Int)]) (st' := [mv_I (M 32 c), mv_I (sp_rs (sp_suits V P) D c)]) (M1 := M) rfl ?_
      refine mv_tt' (by omega) ?_
      rw [show M 32 c = D c from by exact hDc.1]
      refine mv_go' 2 (pc' := if (D c) = (-1) then 20 else 24) (ls' := [mv_R 60, mv_R 32, mv_I (sp_rs (sp_suits V P) D c), mv_I (c : Int)]) (st' := [mv_I (sp_rs (sp_suits V P) D c)]) (M1 := M) rfl ?_
      refine mv_tt' (by omega) ?_
      refine mv_go' 6 (pc' := 4) (ls' := [mv_R 60, mv_R 32, mv_I (mv_w ((sp_rs (sp_suits V P) D c) + 0)), mv_I (mv_w ((c : Int) + 1))]) (st' := []) (M1 := M) rfl ?_
      rw [show mv_w ((sp_rs (sp_suits V P) D c) + 0) = (sp_rs (sp_suits V P) D c) + 0 from mv_w_id (by omega) (by omega)]
      rw [show mv_w ((c : Int) + 1) = (c : Int) + 1 from mv_w_id (by omega) (by omega)]
      rw [show (c : Int) + 1 = ((c + 1 : Nat) : Int) from by omega]
      refine mv_eqs (ls2 := [mv_R 60, mv_R 32, mv_I (sp_rs (sp_suits V P) D (c + 1)), mv_I ((c + 1 : Nat) : Int)]) (by rw [show (sp_rs (sp_suits V P) D c) + 0 = sp_rs (sp_suits V P) D (c + 1) from by simp only [sp_rs]; first | rw [if_pos hd0] | (rw [if_neg hd0, hd, Int.toNat_natCast])]) rfl rfl (ih (c + 1) (by omega))
    · obtain ⟨dn, hd⟩ : ∃ x : Nat, D c = (x : Int) := ⟨(D c).toNat, by omega⟩
      have hs := sp_suits_b P ho c (u := dn) (by omega)
      have hr := ht.2.2 c dn (by omega) (by omega)
      refine mv_go' 3 (pc' := 9) (ls' := [mv_R 60, mv_R 32, mv_I (sp_rs (sp_suits V P) D c), mv_I (c : Int)]) (st' := [mv_I (M 60 8), mv_I (c : Int)]) (M1 := M) rfl ?_
      rw [show M 60 8 = V 0 8 from by exact ht.1.1]
      refine mv_go' 1 (pc' := if (c : Int) < (V 0 8) then 12 else 45) (ls' := [mv_R 60, mv_R 32, mv_I (sp_rs (sp_suits V P) D c), mv_I (c : Int)]) (st' := []) (M1 := M) rfl ?_
      refine mv_tt' (by omega) ?_
      refine mv_go' 4 (pc' := if 0 ≤ (c : Int) ∧ (c : Int) < 6 then 16 else mv_bad) (ls' := [mv_R 60, mv_R 32, mv_I (sp_rs (sp_suits V P) D c), mv_I (c : Int)]) (st' := [mv_I (M 32 c), mv_I (sp_rs (sp_suits V P) D c)]) (M1 := M) rfl ?_
      refine mv_tt' (by omega) ?_
      rw [show M 32 c = (dn : Int) from by rw [hDc.1]; exact hd]
      refine mv_go' 2 (pc' := if (dn : Int) = (-1) then 20 else 24) (ls' := [mv_R 60, mv_R 32, mv_I (sp_rs (sp_suits V P) D c), mv_I (c : Int)]) (st' := [mv_I (sp_rs (sp_suits V P) D c)]) (M1 := M) rfl ?_
      refine mv_ff' (by omega) ?_
      refine mv_go' 8 (pc' := if 0 ≤ (c : Int) ∧ (c : Int) < 6 then 35 else mv_bad) (ls' := [mv_R 60, mv_R 32, mv_I (sp_rs (sp_suits V P) D c), mv_I (c : Int)]) (st' := [mv_I (M 32 c), mv_I (mv_w ((c : Int) * 6)), mv_R 61, mv_I (sp_rs (sp_suits V P) D c)]) (M1 := M) rfl ?_
      refine mv_tt' (by omega) ?_
      rw [show M 32 c = (dn : Int) from by rw [hDc.1]; exact hd]
      refine mv_go' 1 (pc' := 36) (ls' := [mv_R 60, mv_R 32, mv_I (sp_rs (sp_suits V P) D c), mv_I (c : Int)]) (st' := [mv_I (mv_w ((mv_w ((c : Int) * 6)) + (dn : Int))), mv_R 61, mv_I (sp_rs (sp_suits V P) D c)]) (M1 := M) rfl ?_
      rw [show mv_w ((mv_w ((c : Int) * 6)) + (dn : Int)) = ((6 * c + dn : Nat) : Int) from by (rw [show mv_w ((c : Int) * 6) = (c : Int) * 6 from mv_w_id (by omega) (by omega), show mv_w (((c : Int) * 6) + (dn : Int)) = ((c : Int) * 6) + (dn : Int) from mv_w_id (by omega) (by omega)]) <;> omega]
      refine mv_go' 1 (pc' := if 0 ≤ ((6 * c + dn : Nat) : Int) ∧ ((6 * c + dn : Nat) : Int) < 36 then 37 else mv_bad) (ls' := [mv_R 60, mv_R 32, mv_I (sp_rs (sp_suits V P) D c), mv_I (c : Int)]) (st' := [mv_I (M 61 (6 * c + dn)), mv_I (sp_rs (sp_suits V P) D c)]) (M1 := M) rfl ?_
      refine mv_tt' (by omega) ?_
      rw [show M 61 (6 * c + dn) = sp_suits V P c dn from by exact hr]
      refine mv_go' 4 (pc' := 4) (ls' := [mv_R 60, mv_R 32, mv_I (mv_w ((sp_rs (sp_suits V P) D c) + (sp_suits V P c dn))), mv_I (mv_w ((c : Int) + 1))]) (st' := []) (M1 := M) rfl ?_
      rw [show mv_w ((sp_rs (sp_suits V P) D c) + (sp_suits V P c dn)) = (sp_rs (sp_suits V P) D c) + (sp_suits V P c dn) from mv_w_id (by omega) (by omega)]
      rw [show mv_w ((c : Int) + 1) = (c : Int) + 1 from mv_w_id (by omega) (by omega)]
      rw [show (c : Int) + 1 = ((c + 1 : Nat) : Int) from by omega]
      refine mv_eqs (ls2 := [mv_R 60, mv_R 32, mv_I (sp_rs (sp_suits V P) D (c + 1)), mv_I ((c + 1 : Nat) : Int)]) (by rw [show (sp_rs (sp_suits V P) D c) + (sp_suits V P c dn) = sp_rs (sp_suits V P) D (c + 1) from by simp only [sp_rs]; first | rw [if_pos hd0] | (rw [if_neg hd0, hd, Int.toNat_natCast])]) rfl rfl (ih (c + 1) (by omega))
theorem sp_csb_32 {V M : mv_M} {P : Nat → Nat → List Int} {D : Nat → Int} (ho : sp_ok V) (ht : sp_tb V P M) (hD : ∀ j : Nat, (j : Int) < V 0 8 → M 32 j = D j ∧ -1 ≤ D j ∧ D j < V 0 9) :
    mv_Ru 0 29 0 [mv_R 60, mv_R 32, mv_U, mv_U] [] M (mv_I (sp_rs (sp_suits V P) D (V 0 8).toNat)) (fun M1 => M1 = M) := by
  have h8 := sp_ok_s8 ho
  refine mv_go' 4 (pc' := 4) (ls' := [mv_R 60, mv_R 32, mv_I 0, mv_I 0]) (st' := []) (M1 := M) rfl ?_
  exact sp_csb_32_lp ho ht hD (V 0 8).toNat 0 (by omega)
theorem sp_crsd {V M : mv_M} {P : Nat → Nat → List Int} {D : Nat → Int} (ho : sp_ok V) (ht : sp_tb V P M) (hD : ∀ j : Nat, (j : Int) < V 0 8 → M 64 j = D j ∧ -1 ≤ D j ∧ D j < V 0 9) :
    mv_Ru 1 30 0 [mv_R 60] [] M (mv_I (sp_rs (sp_suits V P) D (V 0 8).toNat)) (fun M1 => M1 = M) := by
  refine mv_go' 3 (pc' := 5) (ls' := [mv_R 60]) (st' := [mv_R 64, mv_R 60]) (M1 := M) rfl ?_
  refine mv_callP (st2 := [mv_I (sp_rs (sp_suits V P) D (V 0 8).toNat)]) rfl (Or.inl rfl) rfl rfl rfl (sp_csb_64 ho ht hD) (by first | decide | omega) ?_
  exact mv_ret (fun n => rfl) rfl
theorem sp_crdg_lp {V M : mv_M} {D : Nat → Int} (ho : sp_ok V) (h60 : M 60 8 = V 0 8) (hD : ∀ j : Nat, (j : Int) < V 0 8 → M 64 j = D j ∧ -1 ≤ D j ∧ D j < V 0 9) :
    ∀ (r c : Nat), (c : Int) + r = V 0 8 → mv_Ru 0 31 4 [mv_R 60, mv_I (sp_rd D c), mv_I (c : Int)] [] M (mv_I (sp_rd D (V 0 8).toNat)) (fun M1 => M1 = M) := by
  have h8 := sp_ok_s8 ho
  have h9 := sp_ok_s9 ho
  intro r
  induction r with
  | zero =>
    intro c hk
    have e8 : M 60 8 = (c : Int) := by rw [h60]; omega
    rw [show (V 0 8).toNat = c from by omega]
    refine mv_go' 3 (pc' := 9) (ls' := [mv_R 60, mv_I (sp_rd D c), mv_I (c : Int)]) (st' := [mv_I (M 60 8), mv_I (c : Int)]) (M1 := M) rfl ?_
    rw [show M 60 8 = (c : Int) from by exact e8]
    refine mv_go' 1 (pc' := if (c : Int) < (c : Int) then 12 else 32) (ls' := [mv_R 60, mv_I (sp_rd D c), mv_I (c : Int)]) (st' := []) (M1 := M) rfl ?_
    refine mv_ff' (by omega) ?_
    refine mv_go' 1 (pc' := 33) (ls' := [mv_R 60, mv_I (sp_rd D c), mv_I (c : Int)]) (st' := [mv_I (sp_rd D c)]) (M1 := M) rfl ?_
    exact mv_ret (fun n => rfl) rfl
  | succ r ih =>
    intro c hk
    have hb := sp_rd_b D c
    have h6 := sp_t6_b c (by omega)
    have hDc := hD c (by omega)
    have hD5 : ∀ j, j < c → -1 ≤ D j ∧ D j ≤ 5 := fun j hj => by have := hD j (by omega); omega
    try have hb := hb hD5
    refine mv_go' 3 (pc' := 9) (ls' := [mv_R 60, mv_I (sp_rd D c), mv_I (c : Int)]) (st' := [mv_I (M 60 8), mv_I (c : Int)]) (M1 := M) rfl ?_
    rw [show M 60 8 = V 0 8 from by exact h60]
    refine mv_go' 1 (pc' := if (c : Int) < (V 0 8) then 12 else 32) (ls' := [mv_R 60, mv_I (sp_rd D c), mv_I (c : Int)]) (st' := []) (M1 := M) rfl ?_
    refine mv_tt' (by omega) ?_
    refine mv_go' 7 (pc' := if 0 ≤ (c : Int) ∧ (c : Int) < 6 then 22 else mv_bad) (ls' := [mv_R 60, mv_I (sp_rd D c), mv_I (c : Int)]) (st' := [mv_I (M 64 c), mv_I (mv_w ((sp_rd D c) * 10))]) (M1 := M) rfl ?_
    refine mv_tt' (by omega) ?_
    rw [show M 64 c = D c from by exact hDc.1]
    refine mv_go' 6 (pc' := 4) (ls' := [mv_R 60, mv_I (mv_w ((mv_w ((mv_w ((sp_rd D c) * 10)) + (D c))) + 1)), mv_I (mv_w ((c : Int) + 1))]) (st' := []) (M1 := M) rfl ?_
    rw [show mv_w ((sp_rd D c) * 10) = (sp_rd D c) * 10 from mv_w_id (by omega) (by omega)]
    rw [show mv_w (((sp_rd D c) * 10) + (D c)) = ((sp_rd D c) * 10) + (D c) from mv_w_id (by omega) (by omega)]
    rw [show mv_w ((((sp_rd D c) * 10) + (D c)) + 1) = (((sp_rd D c) * 10) + (D c)) + 1 from mv_w_id (by omega) (by omega)]
    rw [show mv_w ((c : Int) + 1) = (c : Int) + 1 from mv_w_id (by omega) (by omega)]
    rw [show (c : Int) + 1 = ((c + 1 : Nat) : Int) from by omega]
    refine mv_eqs (ls2 := [mv_R 60, mv_I (sp_rd D (c + 1)), mv_I ((c + 1 : Nat) : Int)]) (by rw [show (((sp_rd D c) * 10) + (D c)) + 1 = sp_rd D (c + 1) from by simp only [sp_rd]; (try split) <;> omega]) rfl rfl (ih (c + 1) (by omega))
theorem sp_crdg {V M : mv_M} {D : Nat → Int} (ho : sp_ok V) (h60 : M 60 8 = V 0 8) (hD : ∀ j : Nat, (j : Int) < V 0 8 → M 64 j = D j ∧ -1 ≤ D j ∧ D j < V 0 9) :
    mv_Ru 0 31 0 [mv_R 60, mv_U, mv_U] [] M (mv_I (sp_rd D (V 0 8).toNat)) (fun M1 => M1 = M) := by
  have h8 := sp_ok_s8 ho
  refine mv_go' 4 (pc' := 4) (ls' := [mv_R 60, mv_I 0, mv_I 0]) (st' := []) (M1 := M) rfl ?_
  exact sp_crdg_lp ho h60 hD (V 0 8).toNat 0 (by omega)
theorem sp_crap_lp {V M : mv_M} {D : Nat → Int} (ho : sp_ok V) (h60 : M 60 8 = V 0 8) (hD : ∀ j : Nat, (j : Int) < V 0 8 → M 64 j = D j ∧ -1 ≤ D j ∧ D j < V 0 9) :
    ∀ (r c : Nat), (c : Int) + r = V 0 8 → mv_Ru 0 32 4 [mv_R 60, mv_I (sp_ra D c), mv_I (c : Int)] [] M (mv_I (sp_ra D (V 0 8).toNat)) (fun M1 => M1 = M) := by
  have h8 := sp_ok_s8 ho
  have h9 := sp_ok_s9 ho
  intro r
  induction r with
  | zero =>
    intro c hk
    have e8 : M 60 8 = (c : Int) := by rw [h60]; omega
    rw [show (V 0 8).toNat = c from by omega]
    refine mv_go' 3 (pc' := 9) (ls' := [mv_R 60, mv_I (sp_ra D c), mv_I (c : Int)]) (st' := [mv_I (M 60 8), mv_I (c : Int)]) (M1 := M) rfl ?_
    rw [show M 60 8 = (c : Int) from by exact e8]
    refine mv_go' 1 (pc' := if (c : Int) < (c : Int) then 12 else 36) (ls' := [mv_R 60, mv_I (sp_ra D c), mv_I (c : Int)]) (st' := []) (M1 := M) rfl ?_
    refine mv_ff' (by omega) ?_
    refine mv_go' 1 (pc' := 37) (ls' := [mv_R 60, mv_I (sp_ra D c), mv_I (c : Int)]) (st' := [mv_I (sp_ra D c)]) (M1 := M) rfl ?_
    exact mv_ret (fun n => rfl) rfl
  | succ r ih =>
    intro c hk
    have hb := sp_ra_b D c
    skip
    have hDc := hD c (by omega)
    have hD5 : ∀ j, j < c → -1 ≤ D j ∧ D j ≤ 5 := fun j hj => by have := hD j (by omega); omega
    try have hb := hb hD5
    refine mv_go' 3 (pc' := 9) (ls' := [mv_R 60, mv_I (sp_ra D c), mv_I (c : Int)]) (st' := [mv_I (M 60 8), mv_I (c : Int)]) (M1 := M) rfl ?_
    rw [show M 60 8 = V 0 8 from by exact h60]
    refine mv_go' 1 (pc' := if (c : Int) < (V 0 8) then 12 else 36) (ls' := [mv_R 60, mv_I (sp_ra D c), mv_I (c : Int)]) (st' := []) (M1 := M) rfl ?_
    refine mv_tt' (by omega) ?_
    refine mv_go' 5 (pc' := if 0 ≤ (c : Int) ∧ (c : Int) < 6 then 19 else mv_bad) (ls' := [mv_R 60, mv_I (sp_ra D c), mv_I (c : Int)]) (st' := [mv_I (M 64 c), mv_I (sp_ra D c)]) (M1 := M) rfl ?_
    refine mv_tt' (by omega) ?_
    rw [show M 64 c = D c from by exact hDc.1]
    refine mv_go' 2 (pc' := if (D c) = (-1) then 23 else 27) (ls' := [mv_R 60, mv_I (sp_ra D c), mv_I (c : Int)]) (st' := [mv_I (sp_ra D c)]) (M1 := M) rfl ?_
    refine mv_sp' (fun ha1 => ?_) (fun ha1 => ?_)
    · refine mv_go' 6 (pc' := 4) (ls' := [mv_R 60, mv_I (mv_w ((sp_ra D c) + 0)), mv_I (mv_w ((c : Int) + 1))]) (st' := []) (M1 := M) rfl ?_
      rw [show mv_w ((sp_ra D c) + 0) = (sp_ra D c) + 0 from mv_w_id (by omega) (by omega)]
      rw [show mv_w ((c : Int) + 1) = (c : Int) + 1 from mv_w_id (by omega) (by omega)]
      rw [show (c : Int) + 1 = ((c + 1 : Nat) : Int) from by omega]
      refine mv_eqs (ls2 := [mv_R 60, mv_I (sp_ra D (c + 1)), mv_I ((c + 1 : Nat) : Int)]) (by rw [show (sp_ra D c) + 0 = sp_ra D (c + 1) from by simp only [sp_ra]; (try split) <;> omega]) rfl rfl (ih (c + 1) (by omega))
    · refine mv_go' 5 (pc' := 4) (ls' := [mv_R 60, mv_I (mv_w ((sp_ra D c) + 1)), mv_I (mv_w ((c : Int) + 1))]) (st' := []) (M1 := M) rfl ?_
      rw [show mv_w ((sp_ra D c) + 1) = (sp_ra D c) + 1 from mv_w_id (by omega) (by omega)]
      rw [show mv_w ((c : Int) + 1) = (c : Int) + 1 from mv_w_id (by omega) (by omega)]
      rw [show (c : Int) + 1 = ((c + 1 : Nat) : Int) from by omega]
      refine mv_eqs (ls2 := [mv_R 60, mv_I (sp_ra D (c + 1)), mv_I ((c + 1 : Nat) : Int)]) (by rw [show (sp_ra D c) + 1 = sp_ra D (c + 1) from by simp only [sp_ra]; (try split) <;> omega]) rfl rfl (ih (c + 1) (by omega))
theorem sp_crap {V M : mv_M} {D : Nat → Int} (ho : sp_ok V) (h60 : M 60 8 = V 0 8) (hD : ∀ j : Nat, (j : Int) < V 0 8 → M 64 j = D j ∧ -1 ≤ D j ∧ D j < V 0 9) :
    mv_Ru 0 32 0 [mv_R 60, mv_U, mv_U] [] M (mv_I (sp_ra D (V 0 8).toNat)) (fun M1 => M1 = M) := by
  have h8 := sp_ok_s8 ho
  refine mv_go' 4 (pc' := 4) (ls' := [mv_R 60, mv_I 0, mv_I 0]) (st' := []) (M1 := M) rfl ?_
  exact sp_crap_lp ho h60 hD (V 0 8).toNat 0 (by omega)
