/-! sets of uncles as bits; ranks -/
theorem mv_bit_d : ∀ (n : Fin 64) (u : Fin 6), mv_and (mv_shr ((n : Nat) : Int) ((u : Nat) : Int)) 1 = if Nat.testBit n u = true then 1 else 0 := by decide +kernel
theorem mv_sor_d : ∀ (n : Fin 64) (u : Fin 6), mv_or ((n : Nat) : Int) (mv_shl 1 ((u : Nat) : Int)) = (((n : Nat) ||| 1 <<< (u : Nat) : Nat) : Int) ∧ ((n : Nat) ||| 1 <<< (u : Nat)) < 64 := by decide +kernel
theorem mv_tb_d : ∀ (n : Fin 64) (u v : Fin 6), Nat.testBit ((n : Nat) ||| 1 <<< (u : Nat)) v = (Nat.testBit n v || decide ((v : Nat) = u)) := by decide +kernel
theorem mv_bit {n u : Nat} (hn : n < 64) (hu : u < 6) : mv_and (mv_shr (n : Int) (u : Int)) 1 = if Nat.testBit n u = true then 1 else 0 := mv_bit_d ⟨n, hn⟩ ⟨u, hu⟩
theorem mv_sor {n u : Nat} (hn : n < 64) (hu : u < 6) : mv_or (n : Int) (mv_shl 1 (u : Int)) = ((n ||| 1 <<< u : Nat) : Int) ∧ (n ||| 1 <<< u) < 64 := mv_sor_d ⟨n, hn⟩ ⟨u, hu⟩
theorem mv_tb {n u v : Nat} (hn : n < 64) (hu : u < 6) (hv : v < 6) : Nat.testBit (n ||| 1 <<< u) v = (Nat.testBit n v || decide (v = u)) := mv_tb_d ⟨n, hn⟩ ⟨u, hu⟩ ⟨v, hv⟩
/-- of those whose bit isn't set, the first one of the most -/
def sp_ms (s : Nat → Int) (n : Nat) : Nat → Int
  | 0 => -1
  | k + 1 => if Nat.testBit n k = true then sp_ms s n k else if sp_ms s n k = -1 ∨ s (sp_ms s n k).toNat < s k then (k : Int) else sp_ms s n k
theorem sp_ms_b (s : Nat → Int) (n : Nat) : ∀ k : Nat, -1 ≤ sp_ms s n k ∧ sp_ms s n k < k
  | 0 => by simp [sp_ms]
  | k + 1 => by
    have h := sp_ms_b s n k
    simp only [sp_ms]
    repeat (first | omega | split)
theorem sp_ms_0 (s : Nat → Int) (n : Nat) : ∀ k : Nat, sp_ms s n k = -1 → ∀ j, j < k → Nat.testBit n j = true
  | 0, _, j, hj => absurd hj (by omega)
  | k + 1, h, j, hj => by
    simp only [sp_ms] at h
    by_cases q : Nat.testBit n k = true
    · rw [if_pos q] at h
      by_cases q2 : j = k
      · rw [q2]; exact q
      · exact sp_ms_0 s n k h j (by omega)
    · rw [if_neg q] at h
      by_cases q2 : sp_ms s n k = -1 ∨ s (sp_ms s n k).toNat < s k
      · rw [if_pos q2] at h; omega
      · rw [if_neg q2] at h; exact absurd (Or.inl h) q2
theorem sp_ms_t (s : Nat → Int) (n : Nat) : ∀ (k m : Nat), sp_ms s n k = (m : Int) → Nat.testBit n m = false
  | 0, m, h => by simp only [sp_ms] at h; omega
  | k + 1, m, h => by
    simp only [sp_ms] at h
    by_cases q : Nat.testBit n k = true
    · rw [if_pos q] at h; exact sp_ms_t s n k m h
    · rw [if_neg q] at h
      by_cases q2 : sp_ms s n k = -1 ∨ s (sp_ms s n k).toNat < s k
      · rw [if_pos q2] at h
        rw [show m = k from by omega]
        simpa using q
      · rw [if_neg q2] at h; exact sp_ms_t s n k m h
def sp_bc (n : Nat) : Nat → Nat
  | 0 => 0
  | k + 1 => sp_bc n k + (if Nat.testBit n k = true then 1 else 0)
theorem sp_bc_a (n : Nat) : ∀ k : Nat, (∀ j, j < k → Nat.testBit n j = true) → sp_bc n k = k
  | 0, _ => rfl
  | k + 1, h => by
    simp only [sp_bc]
    rw [sp_bc_a n k (fun j hj => h j (by omega)), if_pos (h k (by omega))]
theorem sp_bc_u {n u : Nat} (hn : n < 64) (hu : u < 6) (h : Nat.testBit n u = false) : ∀ k : Nat, k ≤ 6 → sp_bc (n ||| 1 <<< u) k = sp_bc n k + (if u < k then 1 else 0)
  | 0, _ => rfl
  | k + 1, hk => by
    simp only [sp_bc]
    rw [sp_bc_u hn hu h k (by omega), mv_tb hn hu (by omega)]
    by_cases q : k = u
    · subst q
      rw [h, if_neg (show ¬ k < k by omega), if_pos (show k < k + 1 by omega)]
      simp
    · have t : (u < k + 1) = (u < k) := propext ⟨fun _ => by omega, fun _ => by omega⟩
      rw [show decide (k = u) = false from decide_eq_false q, Bool.or_false]
      simp only [t]
      omega
/-- after k rounds: the set of those that were ranked, and the digits -/
def sp_rk (s : Nat → Int) (U : Nat) : Nat → Nat × Int
  | 0 => (0, 0)
  | k + 1 => ((sp_rk s U k).1 ||| 1 <<< (sp_ms s (sp_rk s U k).1 U).toNat, 10 * (sp_rk s U k).2 + sp_ms s (sp_rk s U k).1 U + 1)
theorem sp_rk_b (s : Nat → Int) {U : Nat} (hU : U ≤ 6) : ∀ k : Nat, k ≤ U → (sp_rk s U k).1 < 64 ∧ sp_bc (sp_rk s U k).1 U = k ∧ (0 ≤ (sp_rk s U k).2 ∧ (sp_rk s U k).2 ≤ sp_t6 k)
  | 0, _ => by
    refine ⟨(show (0 : Nat) < 64 by decide), ?_, by simp [sp_rk, sp_t6]⟩
    show sp_bc 0 U = 0
    have h : ∀ k, sp_bc 0 k = 0 := fun k => by
      induction k with
      | zero => rfl
      | succ k ih => simp [sp_bc, ih]
    exact h U
  | k + 1, hk => by
    obtain ⟨a, b, c⟩ := sp_rk_b s hU k (by omega)
    have hms := sp_ms_b s (sp_rk s U k).1 U
    have hne : sp_ms s (sp_rk s U k).1 U ≠ -1 := fun q => by
      have := sp_bc_a _ U (sp_ms_0 s _ U q)
      omega
    obtain ⟨m, hm⟩ : ∃ m : Nat, sp_ms s (sp_rk s U k).1 U = (m : Int) := ⟨(sp_ms s (sp_rk s U k).1 U).toNat, by omega⟩
    have ht := sp_ms_t s _ U m hm
    refine ⟨?_, ?_, ?_⟩
    · show ((sp_rk s U k).1 ||| 1 <<< (sp_ms s (sp_rk s U k).1 U).toNat) < 64
      rw [hm]
      exact (mv_sor a (by omega)).2
    · show sp_bc ((sp_rk s U k).1 ||| 1 <<< (sp_ms s (sp_rk s U k).1 U).toNat) U = k + 1
      rw [hm, Int.toNat_natCast, sp_bc_u a (by omega) ht U hU, b, if_pos (by omega)]
    · show 0 ≤ 10 * (sp_rk s U k).2 + sp_ms s (sp_rk s U k).1 U + 1 ∧ 10 * (sp_rk s U k).2 + sp_ms s (sp_rk s U k).1 U + 1 ≤ sp_t6 (k + 1)
      simp only [sp_t6]
      omega
theorem sp_rk_n (s : Nat → Int) {U k : Nat} (hU : U ≤ 6) (hk : k < U) : ∃ m : Nat, sp_ms s (sp_rk s U k).1 U = (m : Int) ∧ m < U := by
  obtain ⟨a, b, c⟩ := sp_rk_b s hU k (by omega)
  have hms := sp_ms_b s (sp_rk s U k).1 U
  have hne : sp_ms s (sp_rk s U k).1 U ≠ -1 := fun q => by
    have := sp_bc_a _ U (sp_ms_0 s _ U q)
    omega
  exact ⟨(sp_ms s (sp_rk s U k).1 U).toNat, by omega, by omega⟩
theorem sp_cms_lp {V M : mv_M} {P : Nat → Nat → List Int} {c n : Nat} (ho : sp_ok V) (ht : sp_tb V P M) (hc : (c : Int) < V 0 8) (hn : n < 64) :
    ∀ (r k : Nat) (l5 : mv_V), (k : Int) + r = V 0 9 → mv_isL l5 = false → mv_Ru 0 33 5 [mv_R 60, mv_I (c : Int), mv_I (n : Int), mv_I (sp_ms (sp_suits V P c) n k), mv_I (k : Int), l5] [] M (mv_I (sp_ms (sp_suits V P c) n (V 0 9).toNat)) (fun M1 => M1 = M) := by
  have h8 := sp_ok_s8 ho
  have h9 := sp_ok_s9 ho
  intro r
  induction r with
  | zero =>
    intro k l5 hk h5
    have e9 : M 60 9 = (k : Int) := by rw [ht.1.2]; omega
    rw [show (V 0 9).toNat = k from by omega]
    refine mv_go' 3 (pc' := 11) (ls' := [mv_R 60, mv_I (c : Int), mv_I (n : Int), mv_I (sp_ms (sp_suits V P c) n k), mv_I (k : Int), l5]) (st' := [mv_I (M 60 9), mv_I (k : Int)]) (M1 := M) rfl ?_
    rw [show M 60 9 = (k : Int) from by exact e9]
    refine mv_go' 1 (pc' := if (k : Int) < (k : Int) then 14 else 75) (ls' := [mv_R 60, mv_I (c : Int), mv_I (n : Int), mv_I (sp_ms (sp_suits V P c) n k), mv_I (k : Int), l5]) (st' := []) (M1 := M) rfl ?_
    refine mv_ff' (by omega) ?_
    refine mv_go' 1 (pc' := 76) (ls' := [mv_R 60, mv_I (c : Int), mv_I (n : Int), mv_I (sp_ms (sp_suits V P c) n k), mv_I (k : Int), l5]) (st' := [mv_I (sp_ms (sp_suits V P c) n k)]) (M1 := M) rfl ?_
    exact mv_ret (fun n => rfl) rfl
  | succ r ih =>
    intro k l5 hk h5
    have hb := sp_ms_b (sp_suits V P c) n k
    have hs := ht.2.2 c k hc (by omega)
    have hbit := mv_bit hn (show k < 6 by omega)
    by_cases hbt : Nat.testBit n k = true
    · rw [if_pos hbt] at hbit
      refine mv_go' 3 (pc' := 11) (ls' := [mv_R 60, mv_I (c : Int), mv_I (n : Int), mv_I (sp_ms (sp_suits V P c) n k), mv_I (k : Int), l5]) (st' := [mv_I (M 60 9), mv_I (k : Int)]) (M1 := M) rfl ?_
      rw [show M 60 9 = V 0 9 from by exact ht.1.2]
      refine mv_go' 1 (pc' := if (k : Int) < (V 0 9) then 14 else 75) (ls' := [mv_R 60, mv_I (c : Int), mv_I (n : Int), mv_I (sp_ms (sp_suits V P c) n k), mv_I (k : Int), l5]) (st' := []) (M1 := M) rfl ?_
      refine mv_tt' (by omega) ?_
      refine mv_go' 5 (pc' := 20) (ls' := [mv_R 60, mv_I (c : Int), mv_I (n : Int), mv_I (sp_ms (sp_suits V P c) n k), mv_I (k : Int), l5]) (st' := [mv_I (mv_and (mv_shr (n : Int) (k : Int)) 1)]) (M1 := M) rfl ?_
      rw [show mv_and (mv_shr (n : Int) (k : Int)) 1 = 1 from by exact hbit]
      refine mv_go' 1 (pc' := if 1 = 0 then 23 else 27) (ls' := [mv_R 60, mv_I (c : Int), mv_I (n : Int), mv_I (sp_ms (sp_suits V P c) n k), mv_I (k : Int), l5]) (st' := []) (M1 := M) rfl ?_
      refine mv_ff' (by first | decide | omega) ?_
      refine mv_go' 4 (pc' := if 0 = 0 then 69 else 35) (ls' := [mv_R 60, mv_I (c : Int), mv_I (n : Int), mv_I (sp_ms (sp_suits V P c) n k), mv_I (k : Int), mv_I 0]) (st' := []) (M1 := M) rfl ?_
      refine mv_tt' (by first | decide | omega) ?_
      refine mv_go' 2 (pc' := 5) (ls' := [mv_R 60, mv_I (c : Int), mv_I (n : Int), mv_I (sp_ms (sp_suits V P c) n k), mv_I (mv_w ((k : Int) + 1)), mv_I 0]) (st' := []) (M1 := M) rfl ?_
      rw [show mv_w ((k : Int) + 1) = (k : Int) + 1 from mv_w_id (by omega) (by omega)]
      rw [show (k : Int) + 1 = ((k + 1 : Nat) : Int) from by omega]
      refine mv_Ru.val ((mv_eqs (ls2 := [mv_R 60, mv_I (c : Int), mv_I (n : Int), mv_I (sp_ms (sp_suits V P c) n (k + 1)), mv_I ((k + 1 : Nat) : Int), mv_I 0]) (by rw [show sp_ms (sp_suits V P c) n k = sp_ms (sp_suits V P c) n (k + 1) from by simp only [sp_ms]; first | rw [if_pos hbt] | (rw [if_neg hbt]; first | rw [if_pos (by omega)] | (rw [if_neg (by first | omega | (rw [hf, Int.toNat_natCast]; omega))] <;> exact hf.symm) | (rw [hf, Int.toNat_natCast]; first | rw [if_pos (by omega)] | rw [if_neg (by omega)]))]) rfl rfl (ih (k + 1) _ (by omega) rfl))) rfl
    · rw [if_neg hbt] at hbit
      by_cases q : sp_ms (sp_suits V P c) n k = -1
      · refine mv_go' 3 (pc' := 11) (ls' := [mv_R 60, mv_I (c : Int), mv_I (n : Int), mv_I (sp_ms (sp_suits V P c) n k), mv_I (k : Int), l5]) (st' := [mv_I (M 60 9), mv_I (k : Int)]) (M1 := M) rfl ?_
        rw [show M 60 9 = V 0 9 from by exact ht.1.2]
        refine mv_go' 1 (pc' := if (k : Int) < (V 0 9) then 14 else 75) (ls' := [mv_R 60, mv_I (c : Int), mv_I (n : Int), mv_I (sp_ms (sp_suits V P c) n k), mv_I (k : Int), l5]) (st' := []) (M1 := M) rfl ?_
        refine mv_tt' (by omega) ?_
        refine mv_go' 5 (pc' := 20) (ls' := [mv_R 60, mv_I (c : Int), mv_I (n : Int), mv_I (sp_ms (sp_suits V P c) n k), mv_I (k : Int), l5]) (st' := [mv_I (mv_and (mv_shr (n : Int) (k : Int)) 1)]) (M1 := M) rfl ?_
        rw [show mv_and (mv_shr (n : Int) (k : Int)) 1 = 0 from by exact hbit]
        refine mv_go' 1 (pc' := if 0 = 0 then 23 else 27) (ls' := [mv_R 60, mv_I (c : Int), mv_I (n : Int), mv_I (sp_ms (sp_suits V P c) n k), mv_I (k : Int), l5]) (st' := []) (M1 := M) rfl ?_
        refine mv_tt' (by first | decide | omega) ?_
        refine mv_go' 5 (pc' := if 1 = 0 then 69 else 35) (ls' := [mv_R 60, mv_I (c : Int), mv_I (n : Int), mv_I (sp_ms (sp_suits V P c) n k), mv_I (k : Int), mv_I 1]) (st' := []) (M1 := M) rfl ?_
        refine mv_ff' (by first | decide | omega) ?_
        refine mv_go' 3 (pc' := if (sp_ms (sp_suits V P c) n k) = (-1) then 66 else 40) (ls' := [mv_R 60, mv_I (c : Int), mv_I (n : Int), mv_I (sp_ms (sp_suits V P c) n k), mv_I (k : Int), mv_I 1]) (st' := []) (M1 := M) rfl ?_
        refine mv_tt' (by omega) ?_
        refine mv_go' 4 (pc' := 5) (ls' := [mv_R 60, mv_I (c : Int), mv_I (n : Int), mv_I (k : Int), mv_I (mv_w ((k : Int) + 1)), mv_I 1]) (st' := []) (M1 := M) rfl ?_
        rw [show mv_w ((k : Int) + 1) = (k : Int) + 1 from mv_w_id (by omega) (by omega)]
        rw [show (k : Int) + 1 = ((k + 1 : Nat) : Int) from by omega]
        refine mv_Ru.val ((mv_eqs (ls2 := [mv_R 60, mv_I (c : Int), mv_I (n : Int), mv_I (sp_ms (sp_suits V P c) n (k + 1)), mv_I ((k + 1 : Nat) : Int), mv_I 1]) (by rw [show (k : Int) = sp_ms (sp_suits V P c) n (k + 1) from by simp only [sp_ms]; first | rw [if_pos hbt] | (rw [if_neg hbt]; first | rw [if_pos (by omega)] | (rw [if_neg (by first | omega | (rw [hf, Int.toNat_natCast]; omega))] <;> exact hf.symm) | (rw [hf, Int.toNat_natCast]; first | rw [if_pos (by omega)] | rw [if_neg (by omega)]))]) rfl rfl (ih (k + 1) _ (by omega) rfl))) rfl
      · obtain ⟨f, hf⟩ : ∃ f : Nat, sp_ms (sp_suits V P c) n k = (f : Int) := ⟨(sp_ms (sp_suits V P c) n k).toNat, by omega⟩
        have hs2 := ht.2.2 c f hc (by omega)
        refine mv_go' 3 (pc' := 11) (ls' := [mv_R 60, mv_I (c : Int), mv_I (n : Int), mv_I (sp_ms (sp_suits V P c) n k), mv_I (k : Int), l5]) (st' := [mv_I (M 60 9), mv_I (k : Int)]) (M1 := M) rfl ?_
        rw [show M 60 9 = V 0 9 from by exact ht.1.2]
        refine mv_go' 1 (pc' := if (k : Int) < (V 0 9) then 14 else 75) (ls' := [mv_R 60, mv_I (c : Int), mv_I (n : Int), mv_I (sp_ms (sp_suits V P c) n k), mv_I (k : Int), l5]) (st' := []) (M1 := M) rfl ?_
        refine mv_tt' (by omega) ?_
        refine mv_go' 5 (pc' := 20) (ls' := [mv_R 60, mv_I (c : Int), mv_I (n : Int), mv_I (sp_ms (sp_suits V P c) n k), mv_I (k : Int), l5]) (st' := [mv_I (mv_and (mv_shr (n : Int) (k : Int)) 1)]) (M1 := M) rfl ?_
        rw [show mv_and (mv_shr (n : Int) (k : Int)) 1 = 0 from by exact hbit]
        refine mv_go' 1 (pc' := if 0 = 0 then 23 else 27) (ls' := [mv_R 60, mv_I (c : Int), mv_I (n : Int), mv_I (sp_ms (sp_suits V P c) n k), mv_I (k : Int), l5]) (st' := []) (M1 := M) rfl ?_
        refine mv_tt' (by first | decide | omega) ?_
        refine mv_go' 5 (pc' := if 1 = 0 then 69 else 35) (ls' := [mv_R 60, mv_I (c : Int), mv_I (n : Int), mv_I (sp_ms (sp_suits V P c) n k), mv_I (k : Int), mv_I 1]) (st' := []) (M1 := M) rfl ?_
        refine mv_ff' (by first | decide | omega) ?_
        refine mv_go' 1 (pc' := 36) (ls' := [mv_R 60, mv_I (c : Int), mv_I (n : Int), mv_I (sp_ms (sp_suits V P c) n k), mv_I (k : Int), mv_I 1]) (st' := [mv_I (sp_ms (sp_suits V P c) n k)]) (M1 := M) rfl ?_
        rw [show sp_ms (sp_suits V P c) n k = (f : Int) from by exact hf]
        refine mv_go' 2 (pc' := if (f : Int) = (-1) then 66 else 40) (ls' := [mv_R 60, mv_I (c : Int), mv_I (n : Int), mv_I (f : Int), mv_I (k : Int), mv_I 1]) (st' := []) (M1 := M) rfl ?_
        refine mv_ff' (by omega) ?_
        refine mv_go' 7 (pc' := 51) (ls' := [mv_R 60, mv_I (c : Int), mv_I (n : Int), mv_I (f : Int), mv_I (k : Int), mv_I 1]) (st' := [mv_I (mv_w ((mv_w ((c : Int) * 6)) + (k : Int))), mv_R 61]) (M1 := M) rfl ?_
        rw [show mv_w ((mv_w ((c : Int) * 6)) + (k : Int)) = ((6 * c + k : Nat) : Int) from by (rw [show mv_w ((c : Int) * 6) = (c : Int) * 6 from mv_w_id (by omega) (by omega), show mv_w (((c : Int) * 6) + (k : Int)) = ((c : Int) * 6) + (k : Int) from mv_w_id (by omega) (by omega)]) <;> omega]
        refine mv_go' 1 (pc' := if 0 ≤ ((6 * c + k : Nat) : Int) ∧ ((6 * c + k : Nat) : Int) < 36 then 52 else mv_bad) (ls' := [mv_R 60, mv_I (c : Int), mv_I (n : Int), mv_I (f : Int), mv_I (k : Int), mv_I 1]) (st' := [mv_I (M 61 (6 * c + k))]) (M1 := M) rfl ?_
        refine mv_tt' (by omega) ?_
        rw [show M 61 (6 * c + k) = sp_suits V P c k from by exact hs]
        refine mv_go' 7 (pc' := 62) (ls' := [mv_R 60, mv_I (c : Int), mv_I (n : Int), mv_I (f : Int), mv_I (k : Int), mv_I 1]) (st' := [mv_I (mv_w ((mv_w ((c : Int) * 6)) + (f : Int))), mv_R 61, mv_I (sp_suits V P c k)]) (M1 := M) rfl ?_
        rw [show mv_w ((mv_w ((c : Int) * 6)) + (f : Int)) = ((6 * c + f : Nat) : Int) from by (rw [show mv_w ((c : Int) * 6) = (c : Int) * 6 from mv_w_id (by omega) (by omega), show mv_w (((c : Int) * 6) + (f : Int)) = ((c : Int) * 6) + (f : Int) from mv_w_id (by omega) (by omega)]) <;> omega]
        refine mv_go' 1 (pc' := if 0 ≤ ((6 * c + f : Nat) : Int) ∧ ((6 * c + f : Nat) : Int) < 36 then 63 else mv_bad) (ls' := [mv_R 60, mv_I (c : Int), mv_I (n : Int), mv_I (f : Int), mv_I (k : Int), mv_I 1]) (st' := [mv_I (M 61 (6 * c + f)), mv_I (sp_suits V P c k)]) (M1 := M) rfl ?_
        refine mv_tt' (by omega) ?_
        rw [show M 61 (6 * c + f) = sp_suits V P c f from by exact hs2]
        refine mv_go' 1 (pc' := if (sp_suits V P c f) < (sp_suits V P c k) then 66 else 69) (ls' := [mv_R 60, mv_I (c : Int), mv_I (n : Int), mv_I (f : Int), mv_I (k : Int), mv_I 1]) (st' := []) (M1 := M) rfl ?_
        refine mv_sp' (fun ha1 => ?_) (fun ha1 => ?_)
        · refine mv_go' 4 (pc' := 5) (ls' := [mv_R 60, mv_I (c : Int), mv_I (n : Int), mv_I (k : Int), mv_I (mv_w ((k : Int) + 1)), mv_I 1]) (st' := []) (M1 := M) rfl ?_
          rw [show mv_w ((k : Int) + 1) = (k : Int) + 1 from mv_w_id (by omega) (by omega)]
          rw [show (k : Int) + 1 = ((k + 1 : Nat) : Int) from by omega]
          refine mv_Ru.val ((mv_eqs (ls2 := [mv_R 60, mv_I (c : Int), mv_I (n : Int), mv_I (sp_ms (sp_suits V P c) n (k + 1)), mv_I ((k + 1 : Nat) : Int), mv_I 1]) (by rw [show (k : Int) = sp_ms (sp_suits V P c) n (k + 1) from by simp only [sp_ms]; first | rw [if_pos hbt] | (rw [if_neg hbt]; first | rw [if_pos (by omega)] | (rw [if_neg (by first | omega | (rw [hf, Int.toNat_natCast]; omega))] <;> exact hf.symm) | (rw [hf, Int.toNat_natCast]; first | rw [if_pos (by omega)] | rw [if_neg (by omega)]))]) rfl rfl (ih (k + 1) _ (by omega) rfl))) rfl
        · refine mv_go' 2 (pc' := 5) (ls' := [mv_R 60, mv_I (c : Int), mv_I (n : Int), mv_I (f : Int), mv_I (mv_w ((k : Int) + 1)), mv_I 1]) (st' := []) (M1 := M) rfl ?_
          rw [show mv_w ((k : Int) + 1) = (k : Int) + 1 from mv_w_id (by omega) (by omega)]
          rw [show (k : Int) + 1 = ((k + 1 : Nat) : Int) from by omega]
          refine mv_Ru.val ((mv_eqs (ls2 := [mv_R 60, mv_I (c : Int), mv_I (n : Int), mv_I (sp_ms (sp_suits V P c) n (k + 1)), mv_I ((k + 1 : Nat) : Int), mv_I 1]) (by rw [show (f : Int) = sp_ms (sp_suits V P c) n (k + 1) from by simp only [sp_ms]; first | rw [if_pos hbt] | (rw [if_neg hbt]; first | rw [if_pos (by omega)] | (rw [if_neg (by first | omega | (rw [hf, Int.toNat_natCast]; omega))] <;> exact hf.symm) | (rw [hf, Int.toNat_natCast]; first | rw [if_pos (by omega)] | rw [if_neg (by omega)]))]) rfl rfl (ih (k + 1) _ (by omega) rfl))) rfl
theorem sp_cms {V M : mv_M} {P : Nat → Nat → List Int} {c n : Nat} (ho : sp_ok V) (ht : sp_tb V P M) (hc : (c : Int) < V 0 8) (hn : n < 64) :
    mv_Ru 0 33 0 [mv_R 60, mv_I (c : Int), mv_I (n : Int), mv_U, mv_U, mv_U] [] M (mv_I (sp_ms (sp_suits V P c) n (V 0 9).toNat)) (fun M1 => M1 = M) := by
  have h9 := sp_ok_s9 ho
  refine mv_go' 4 (pc' := 5) (ls' := [mv_R 60, mv_I (c : Int), mv_I (n : Int), mv_I (-1), mv_I 0, mv_U]) (st' := []) (M1 := M) rfl ?_
  exact sp_cms_lp ho ht hc hn (V 0 9).toNat 0 mv_U (by omega) rfl
