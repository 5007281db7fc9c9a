/-! settled: the model asks -/
def sp_mp (s : Nat → Int) (a : Nat) : Nat → Int
  | 0 => -1
  | k + 1 => if Nat.testBit a k = true ∨ s k ≤ 0 then sp_mp s a k else if sp_mp s a k = -1 ∨ s (sp_mp s a k).toNat < s k then (k : Int) else sp_mp s a k
theorem sp_nx_w {s : Nat → Int} {a k w : Nat} (h : sp_ms s a k = (w : Int)) : sp_nx s a k = if s w ≤ 0 then -1 else (w : Int) := by
  unfold sp_nx
  simp only [h, Int.toNat_natCast]
  by_cases q : s w ≤ 0
  · rw [if_pos q, if_pos (Or.inr q)]
  · rw [if_neg q, if_neg (by omega)]
theorem sp_mp_nx (s : Nat → Int) (a : Nat) : ∀ k : Nat, sp_mp s a k = sp_nx s a k
  | 0 => by simp [sp_mp, sp_nx, sp_ms]
  | k + 1 => by
    have h := sp_mp_nx s a k
    have hb := sp_ms_b s a k
    have e0 : sp_mp s a (k + 1) = if Nat.testBit a k = true ∨ s k ≤ 0 then sp_mp s a k else if sp_mp s a k = -1 ∨ s (sp_mp s a k).toNat < s k then (k : Int) else sp_mp s a k := rfl
    by_cases q : Nat.testBit a k = true
    · have e : sp_ms s a (k + 1) = sp_ms s a k := by simp only [sp_ms]; rw [if_pos q]
      rw [e0, if_pos (Or.inl q), h]
      simp only [sp_nx, e]
    · have e : sp_ms s a (k + 1) = if sp_ms s a k = -1 ∨ s (sp_ms s a k).toNat < s k then (k : Int) else sp_ms s a k := by simp only [sp_ms]; rw [if_neg q]
      by_cases q1 : sp_ms s a k = -1
      · have hk : sp_mp s a k = -1 := by rw [h]; exact sp_nx_0 q1
        have e2 : sp_ms s a (k + 1) = (k : Int) := by rw [e, if_pos (Or.inl q1)]
        rw [sp_nx_w e2, e0]
        by_cases q2 : s k ≤ 0
        · rw [if_pos (Or.inr q2), if_pos q2, hk]
        · rw [if_neg (fun z => z.elim q q2), if_pos (Or.inl hk), if_neg q2]
      · obtain ⟨w, hw⟩ : ∃ w : Nat, sp_ms s a k = (w : Int) := ⟨(sp_ms s a k).toNat, by omega⟩
        have hk : sp_mp s a k = if s w ≤ 0 then -1 else (w : Int) := by rw [h]; exact sp_nx_w hw
        rw [hw, Int.toNat_natCast] at e
        by_cases q3 : s w < s k
        · have e2 : sp_ms s a (k + 1) = (k : Int) := by rw [e, if_pos (Or.inr q3)]
          rw [sp_nx_w e2, e0]
          by_cases q2 : s k ≤ 0
          · rw [if_pos (Or.inr q2), if_pos q2, hk, if_pos (by omega)]
          · rw [if_neg (fun z => z.elim q q2), if_neg q2]
            by_cases q4 : s w ≤ 0
            · rw [if_pos q4] at hk
              rw [if_pos (Or.inl hk)]
            · rw [if_neg q4] at hk
              rw [hk, Int.toNat_natCast, if_pos (Or.inr q3)]
        · have e2 : sp_ms s a (k + 1) = (w : Int) := by rw [e, if_neg (by omega)]
          rw [sp_nx_w e2, e0]
          by_cases q2 : s k ≤ 0
          · rw [if_pos (Or.inr q2), hk]
          · have q4 : ¬ s w ≤ 0 := by omega
            rw [if_neg q4] at hk
            rw [if_neg (fun z => z.elim q q2), hk, Int.toNat_natCast, if_neg (by omega), if_neg q4]
theorem sp_masn_lp {V M : mv_M} {P : Nat → Nat → List Int} {c a : Nat} (hU : M 100 1 = V 0 9) (ho : sp_ok V) (ht : sp_tmm V P M) (hc : (c : Int) < V 0 8) (ha : a < 64) (e141 : M 141 c = (a : Int)) :
    ∀ (r k : Nat) (l4 : mv_V), (k : Int) + r = V 0 9 → mv_isL l4 = false → mv_Ru 1 161 4 [mv_R 100, mv_I (c : Int), mv_I (sp_mp (sp_suits V P c) a k), mv_I (k : Int), l4] [] M (mv_I (sp_mp (sp_suits V P c) a (V 0 9).toNat)) (fun M1 => M1 = M) := by
  have h8 := sp_ok_s8 ho
  have h9 := sp_ok_s9 ho
  intro r
  induction r with
  | zero =>
    intro k l4 hk h4
    have e9 : M 100 1 = (k : Int) := by rw [hU]; omega
    rw [show (V 0 9).toNat = k from by omega]
    refine mv_go' 3 (pc' := 9) (ls' := [mv_R 100, mv_I (c : Int), mv_I (sp_mp (sp_suits V P c) a k), mv_I (k : Int), l4]) (st' := [mv_I (M 100 1), mv_I (k : Int)]) (M1 := M) rfl ?_
    rw [show M 100 1 = (k : Int) from by exact e9]
    refine mv_go' 1 (pc' := if (k : Int) < (k : Int) then 12 else 94) (ls' := [mv_R 100, mv_I (c : Int), mv_I (sp_mp (sp_suits V P c) a k), mv_I (k : Int), l4]) (st' := []) (M1 := M) rfl ?_
    refine mv_ff' (by omega) ?_
    refine mv_go' 1 (pc' := 95) (ls' := [mv_R 100, mv_I (c : Int), mv_I (sp_mp (sp_suits V P c) a k), mv_I (k : Int), l4]) (st' := [mv_I (sp_mp (sp_suits V P c) a k)]) (M1 := M) rfl ?_
    exact mv_ret (fun n => rfl) rfl
  | succ r ih =>
    intro k l4 hk h4
    have hb : -1 ≤ sp_mp (sp_suits V P c) a k ∧ sp_mp (sp_suits V P c) a k < k := by rw [sp_mp_nx]; exact sp_nx_b _ _ _
    have hs := ht.2 c k hc (by omega)
    have hbit := mv_bit ha (show k < 6 by omega)
    by_cases hbt : Nat.testBit a k = true
    · rw [if_pos hbt] at hbit
      refine mv_go' 3 (pc' := 9) (ls' := [mv_R 100, mv_I (c : Int), mv_I (sp_mp (sp_suits V P c) a k), mv_I (k : Int), l4]) (st' := [mv_I (M 100 1), mv_I (k : Int)]) (M1 := M) rfl ?_
      rw [show M 100 1 = V 0 9 from by exact hU]
      refine mv_go' 1 (pc' := if (k : Int) < (V 0 9) then 12 else 94) (ls' := [mv_R 100, mv_I (c : Int), mv_I (sp_mp (sp_suits V P c) a k), mv_I (k : Int), l4]) (st' := []) (M1 := M) rfl ?_
      refine mv_tt' (by omega) ?_
      refine mv_go' 4 (pc' := if 0 ≤ (c : Int) ∧ (c : Int) < 6 then 18 else mv_bad) (ls' := [mv_R 100, mv_I (c : Int), mv_I (sp_mp (sp_suits V P c) a k), mv_I (k : Int), l4]) (st' := [mv_I (M 141 c)]) (M1 := M) rfl ?_
      refine mv_tt' (by omega) ?_
      rw [show M 141 c = (a : Int) from by exact e141]
      refine mv_go' 4 (pc' := 22) (ls' := [mv_R 100, mv_I (c : Int), mv_I (sp_mp (sp_suits V P c) a k), mv_I (k : Int), l4]) (st' := [mv_I (mv_and (mv_shr (a : Int) (k : Int)) 1)]) (M1 := M) rfl ?_
      rw [show mv_and (mv_shr (a : Int) (k : Int)) 1 = 1 from by exact hbit]
      refine mv_go' 1 (pc' := if 1 = 0 then 25 else 43) (ls' := [mv_R 100, mv_I (c : Int), mv_I (sp_mp (sp_suits V P c) a k), mv_I (k : Int), l4]) (st' := []) (M1 := M) rfl ?_
      refine mv_ff' (by first | decide | omega) ?_
      refine mv_go' 4 (pc' := if 0 = 0 then 88 else 51) (ls' := [mv_R 100, mv_I (c : Int), mv_I (sp_mp (sp_suits V P c) a k), mv_I (k : Int), mv_I 0]) (st' := []) (M1 := M) rfl ?_
      refine mv_tt' (by first | decide | omega) ?_
      refine mv_go' 2 (pc' := 4) (ls' := [mv_R 100, mv_I (c : Int), mv_I (sp_mp (sp_suits V P c) a k), mv_I (mv_w ((k : Int) + 1)), mv_I 0]) (st' := []) (M1 := M) rfl ?_
      rw [show mv_w ((k : Int) + 1) = (k : Int) + 1 from mv_w_id (by omega) (by omega)]
      rw [show (k : Int) + 1 = ((k + 1 : Nat) : Int) from by omega]
      exact (mv_eqs (ls2 := [mv_R 100, mv_I (c : Int), mv_I (sp_mp (sp_suits V P c) a (k + 1)), mv_I ((k + 1 : Nat) : Int), mv_I 0]) (by rw [show sp_mp (sp_suits V P c) a k = sp_mp (sp_suits V P c) a (k + 1) from by simp only [sp_mp]; first | rw [if_pos (Or.inl hbt)] | (rw [if_pos (Or.inr (by omega))] <;> exact hf.symm) | rw [if_pos (Or.inr (by omega))] | (rw [if_neg (fun z => z.elim hbt (by omega))]; first | rw [if_pos (by omega)] | (simp only [hf, Int.toNat_natCast]; first | rw [if_pos (by omega)] | rw [if_neg (by omega)]))]) rfl rfl (ih (k + 1) _ (by omega) rfl))
    · rw [if_neg hbt] at hbit
      by_cases q : sp_mp (sp_suits V P c) a k = -1
      · refine mv_go' 3 (pc' := 9) (ls' := [mv_R 100, mv_I (c : Int), mv_I (sp_mp (sp_suits V P c) a k), mv_I (k : Int), l4]) (st' := [mv_I (M 100 1), mv_I (k : Int)]) (M1 := M) rfl ?_
        rw [show M 100 1 = V 0 9 from by exact hU]
        refine mv_go' 1 (pc' := if (k : Int) < (V 0 9) then 12 else 94) (ls' := [mv_R 100, mv_I (c : Int), mv_I (sp_mp (sp_suits V P c) a k), mv_I (k : Int), l4]) (st' := []) (M1 := M) rfl ?_
        refine mv_tt' (by omega) ?_
        refine mv_go' 4 (pc' := if 0 ≤ (c : Int) ∧ (c : Int) < 6 then 18 else mv_bad) (ls' := [mv_R 100, mv_I (c : Int), mv_I (sp_mp (sp_suits V P c) a k), mv_I (k : Int), l4]) (st' := [mv_I (M 141 c)]) (M1 := M) rfl ?_
        refine mv_tt' (by omega) ?_
        rw [show M 141 c = (a : Int) from by exact e141]
        refine mv_go' 4 (pc' := 22) (ls' := [mv_R 100, mv_I (c : Int), mv_I (sp_mp (sp_suits V P c) a k), mv_I (k : Int), l4]) (st' := [mv_I (mv_and (mv_shr (a : Int) (k : Int)) 1)]) (M1 := M) rfl ?_
        rw [show mv_and (mv_shr (a : Int) (k : Int)) 1 = 0 from by exact hbit]
        refine mv_go' 1 (pc' := if 0 = 0 then 25 else 43) (ls' := [mv_R 100, mv_I (c : Int), mv_I (sp_mp (sp_suits V P c) a k), mv_I (k : Int), l4]) (st' := []) (M1 := M) rfl ?_
        refine mv_tt' (by first | decide | omega) ?_
        refine mv_go' 7 (pc' := 35) (ls' := [mv_R 100, mv_I (c : Int), mv_I (sp_mp (sp_suits V P c) a k), mv_I (k : Int), l4]) (st' := [mv_I (mv_w ((mv_w (6 * (c : Int))) + (k : Int))), mv_R 133]) (M1 := M) rfl ?_
        rw [show mv_w ((mv_w (6 * (c : Int))) + (k : Int)) = ((6 * c + k : Nat) : Int) from by (rw [show mv_w (6 * (c : Int)) = 6 * (c : Int) from mv_w_id (by omega) (by omega), show mv_w ((6 * (c : Int)) + (k : Int)) = (6 * (c : Int)) + (k : Int) from mv_w_id (by omega) (by omega)]) <;> omega]
        refine mv_go' 1 (pc' := if 0 ≤ ((6 * c + k : Nat) : Int) ∧ ((6 * c + k : Nat) : Int) < 36 then 36 else mv_bad) (ls' := [mv_R 100, mv_I (c : Int), mv_I (sp_mp (sp_suits V P c) a k), mv_I (k : Int), l4]) (st' := [mv_I (M 133 (6 * c + k))]) (M1 := M) rfl ?_
        refine mv_tt' (by omega) ?_
        rw [show M 133 (6 * c + k) = sp_suits V P c k from by exact hs]
        refine mv_go' 1 (pc' := if 0 < (sp_suits V P c k) then 39 else 43) (ls' := [mv_R 100, mv_I (c : Int), mv_I (sp_mp (sp_suits V P c) a k), mv_I (k : Int), l4]) (st' := []) (M1 := M) rfl ?_
        refine mv_sp' (fun ha1 => ?_) (fun ha1 => ?_)
        · refine mv_go' 5 (pc' := if 1 = 0 then 88 else 51) (ls' := [mv_R 100, mv_I (c : Int), mv_I (sp_mp (sp_suits V P c) a k), mv_I (k : Int), mv_I 1]) (st' := []) (M1 := M) rfl ?_
          refine mv_ff' (by first | decide | omega) ?_
          refine mv_go' 3 (pc' := if (sp_mp (sp_suits V P c) a k) = (-1) then 86 else 56) (ls' := [mv_R 100, mv_I (c : Int), mv_I (sp_mp (sp_suits V P c) a k), mv_I (k : Int), mv_I 1]) (st' := []) (M1 := M) rfl ?_
          refine mv_tt' (by omega) ?_
          refine mv_go' 4 (pc' := 4) (ls' := [mv_R 100, mv_I (c : Int), mv_I (k : Int), mv_I (mv_w ((k : Int) + 1)), mv_I 1]) (st' := []) (M1 := M) rfl ?_
          rw [show mv_w ((k : Int) + 1) = (k : Int) + 1 from mv_w_id (by omega) (by omega)]
          rw [show (k : Int) + 1 = ((k + 1 : Nat) : Int) from by omega]
          exact (mv_eqs (ls2 := [mv_R 100, mv_I (c : Int), mv_I (sp_mp (sp_suits V P c) a (k + 1)), mv_I ((k + 1 : Nat) : Int), mv_I 1]) (by rw [show (k : Int) = sp_mp (sp_suits V P c) a (k + 1) from by simp only [sp_mp]; first | rw [if_pos (Or.inl hbt)] | (rw [if_pos (Or.inr (by omega))] <;> exact hf.symm) | rw [if_pos (Or.inr (by omega))] | (rw [if_neg (fun z => z.elim hbt (by omega))]; first | rw [if_pos (by omega)] | (simp only [hf, Int.toNat_natCast]; first | rw [if_pos (by omega)] | rw [if_neg (by omega)]))]) rfl rfl (ih (k + 1) _ (by omega) rfl))
        · refine mv_go' 4 (pc' := if 0 = 0 then 88 else 51) (ls' := [mv_R 100, mv_I (c : Int), mv_I (sp_mp (sp_suits V P c) a k), mv_I (k : Int), mv_I 0]) (st' := []) (M1 := M) rfl ?_
          refine mv_tt' (by first | decide | omega) ?_
          refine mv_go' 2 (pc' := 4) (ls' := [mv_R 100, mv_I (c : Int), mv_I (sp_mp (sp_suits V P c) a k), mv_I (mv_w ((k : Int) + 1)), mv_I 0]) (st' := []) (M1 := M) rfl ?_
          rw [show mv_w ((k : Int) + 1) = (k : Int) + 1 from mv_w_id (by omega) (by omega)]
          rw [show (k : Int) + 1 = ((k + 1 : Nat) : Int) from by omega]
          exact (mv_eqs (ls2 := [mv_R 100, mv_I (c : Int), mv_I (sp_mp (sp_suits V P c) a (k + 1)), mv_I ((k + 1 : Nat) : Int), mv_I 0]) (by rw [show sp_mp (sp_suits V P c) a k = sp_mp (sp_suits V P c) a (k + 1) from by simp only [sp_mp]; first | rw [if_pos (Or.inl hbt)] | (rw [if_pos (Or.inr (by omega))] <;> exact hf.symm) | rw [if_pos (Or.inr (by omega))] | (rw [if_neg (fun z => z.elim hbt (by omega))]; first | rw [if_pos (by omega)] | (simp only [hf, Int.toNat_natCast]; first | rw [if_pos (by omega)] | rw [if_neg (by omega)]))]) rfl rfl (ih (k + 1) _ (by omega) rfl))
      · obtain ⟨f, hf⟩ : ∃ f : Nat, sp_mp (sp_suits V P c) a k = (f : Int) := ⟨(sp_mp (sp_suits V P c) a k).toNat, by omega⟩
        have hs2 := ht.2 c f hc (by omega)
        rw [hf]
        refine mv_go' 3 (pc' := 9) (ls' := [mv_R 100, mv_I (c : Int), mv_I (f : Int), mv_I (k : Int), l4]) (st' := [mv_I (M 100 1), mv_I (k : Int)]) (M1 := M) rfl ?_
        rw [show M 100 1 = V 0 9 from by exact hU]
        refine mv_go' 1 (pc' := if (k : Int) < (V 0 9) then 12 else 94) (ls' := [mv_R 100, mv_I (c : Int), mv_I (f : Int), mv_I (k : Int), l4]) (st' := []) (M1 := M) rfl ?_
        refine mv_tt' (by omega) ?_
        refine mv_go' 4 (pc' := if 0 ≤ (c : Int) ∧ (c : Int) < 6 then 18 else mv_bad) (ls' := [mv_R 100, mv_I (c : Int), mv_I (f : Int), mv_I (k : Int), l4]) (st' := [mv_I (M 141 c)]) (M1 := M) rfl ?_
        refine mv_tt' (by omega) ?_
        rw [show M 141 c = (a : Int) from by exact e141]
        refine mv_go' 4 (pc' := 22) (ls' := [mv_R 100, mv_I (c : Int), mv_I (f : Int), mv_I (k : Int), l4]) (st' := [mv_I (mv_and (mv_shr (a : Int) (k : Int)) 1)]) (M1 := M) rfl ?_
        rw [show mv_and (mv_shr (a : Int) (k : Int)) 1 = 0 from by exact hbit]
        refine mv_go' 1 (pc' := if 0 = 0 then 25 else 43) (ls' := [mv_R 100, mv_I (c : Int), mv_I (f : Int), mv_I (k : Int), l4]) (st' := []) (M1 := M) rfl ?_
        refine mv_tt' (by first | decide | omega) ?_
        refine mv_go' 7 (pc' := 35) (ls' := [mv_R 100, mv_I (c : Int), mv_I (f : Int), mv_I (k : Int), l4]) (st' := [mv_I (mv_w ((mv_w (6 * (c : Int))) + (k : Int))), mv_R 133]) (M1 := M) rfl ?_
        rw [show mv_w ((mv_w (6 * (c : Int))) + (k : Int)) = ((6 * c + k : Nat) : Int) from by (rw [show mv_w (6 * (c : Int)) = 6 * (c : Int) from mv_w_id (by omega) (by omega), show mv_w ((6 * (c : Int)) + (k : Int)) = (6 * (c : Int)) + (k : Int) from mv_w_id (by omega) (by omega)]) <;> omega]
        refine mv_go' 1 (pc' := if 0 ≤ ((6 * c + k : Nat) : Int) ∧ ((6 * c + k : Nat) : Int) < 36 then 36 else mv_bad) (ls' := [mv_R 100, mv_I (c : Int), mv_I (f : Int), mv_I (k : Int), l4]) (st' := [mv_I (M 133 (6 * c + k))]) (M1 := M) rfl ?_
        refine mv_tt' (by omega) ?_
        rw [show M 133 (6 * c + k) = sp_suits V P c k from by exact hs]
        refine mv_go' 1 (pc' := if 0 < (sp_suits V P c k) then 39 else 43) (ls' := [mv_R 100, mv_I (c : Int), mv_I (f : Int), mv_I (k : Int), l4]) (st' := []) (M1 := M) rfl ?_
        refine mv_sp' (fun ha2 => ?_) (fun ha2 => ?_)
        · refine mv_go' 5 (pc' := if 1 = 0 then 88 else 51) (ls' := [mv_R 100, mv_I (c : Int), mv_I (f : Int), mv_I (k : Int), mv_I 1]) (st' := []) (M1 := M) rfl ?_
          refine mv_ff' (by first | decide | omega) ?_
          refine mv_go' 3 (pc' := if (f : Int) = (-1) then 86 else 56) (ls' := [mv_R 100, mv_I (c : Int), mv_I (f : Int), mv_I (k : Int), mv_I 1]) (st' := []) (M1 := M) rfl ?_
          refine mv_ff' (by omega) ?_
          refine mv_go' 7 (pc' := 66) (ls' := [mv_R 100, mv_I (c : Int), mv_I (f : Int), mv_I (k : Int), mv_I 1]) (st' := [mv_I (mv_w ((mv_w (6 * (c : Int))) + (k : Int))), mv_R 133]) (M1 := M) rfl ?_
          rw [show mv_w ((mv_w (6 * (c : Int))) + (k : Int)) = ((6 * c + k : Nat) : Int) from by (rw [show mv_w (6 * (c : Int)) = 6 * (c : Int) from mv_w_id (by omega) (by omega), show mv_w ((6 * (c : Int)) + (k : Int)) = (6 * (c : Int)) + (k : Int) from mv_w_id (by omega) (by omega)]) <;> omega]
          refine mv_go' 1 (pc' := if 0 ≤ ((6 * c + k : Nat) : Int) ∧ ((6 * c + k : Nat) : Int) < 36 then 67 else mv_bad) (ls' := [mv_R 100, mv_I (c : Int), mv_I (f : Int), mv_I (k : Int), mv_I 1]) (st' := [mv_I (M 133 (6 * c + k))]) (M1 := M) rfl ?_
          refine mv_tt' (by omega) ?_
          rw [show M 133 (6 * c + k) = sp_suits V P c k from by exact hs]
          refine mv_go' 8 (pc' := 78) (ls' := [mv_R 100, mv_I (c : Int), mv_I (f : Int), mv_I (k : Int), mv_I 1]) (st' := [mv_I 5, mv_I 0, mv_I (f : Int), mv_I (mv_w (6 * (c : Int))), mv_R 133, mv_I (sp_suits V P c k)]) (M1 := M) rfl ?_
          rw [show mv_w (6 * (c : Int)) = 6 * (c : Int) from mv_w_id (by omega) (by omega)]
          rw [show 6 * (c : Int) = ((6 * c : Nat) : Int) from by omega]
          refine mv_callP (st2 := [mv_I (f : Int), mv_I ((6 * c : Nat) : Int), mv_R 133, mv_I (sp_suits V P c k)]) rfl (Or.inr rfl) rfl rfl rfl ((mv_Ru.val sp_mwithin (congrArg mv_I (sp_cl_id (by omega) (by omega))))) (by first | decide | omega) ?_
          refine mv_go' 1 (pc' := 82) (ls' := [mv_R 100, mv_I (c : Int), mv_I (f : Int), mv_I (k : Int), mv_I 1]) (st' := [mv_I (mv_w (((6 * c : Nat) : Int) + (f : Int))), mv_R 133, mv_I (sp_suits V P c k)]) (M1 := M) rfl ?_
          rw [show mv_w (((6 * c : Nat) : Int) + (f : Int)) = ((6 * c + f : Nat) : Int) from by (rw [show mv_w (((6 * c : Nat) : Int) + (f : Int)) = ((6 * c : Nat) : Int) + (f : Int) from mv_w_id (by omega) (by omega)]) <;> omega]
          refine mv_go' 1 (pc' := if 0 ≤ ((6 * c + f : Nat) : Int) ∧ ((6 * c + f : Nat) : Int) < 36 then 83 else mv_bad) (ls' := [mv_R 100, mv_I (c : Int), mv_I (f : Int), mv_I (k : Int), mv_I 1]) (st' := [mv_I (M 133 (6 * c + f)), mv_I (sp_suits V P c k)]) (M1 := M) rfl ?_
          refine mv_tt' (by omega) ?_
          rw [show M 133 (6 * c + f) = sp_suits V P c f from by exact hs2]
          refine mv_go' 1 (pc' := if (sp_suits V P c f) < (sp_suits V P c k) then 86 else 88) (ls' := [mv_R 100, mv_I (c : Int), mv_I (f : Int), mv_I (k : Int), mv_I 1]) (st' := []) (M1 := M) rfl ?_
          refine mv_sp' (fun ha3 => ?_) (fun ha3 => ?_)
          · refine mv_go' 4 (pc' := 4) (ls' := [mv_R 100, mv_I (c : Int), mv_I (k : Int), mv_I (mv_w ((k : Int) + 1)), mv_I 1]) (st' := []) (M1 := M) rfl ?_
            rw [show mv_w ((k : Int) + 1) = (k : Int) + 1 from mv_w_id (by omega) (by omega)]
            rw [show (k : Int) + 1 = ((k + 1 : Nat) : Int) from by omega]
            exact (mv_eqs (ls2 := [mv_R 100, mv_I (c : Int), mv_I (sp_mp (sp_suits V P c) a (k + 1)), mv_I ((k + 1 : Nat) : Int), mv_I 1]) (by rw [show (k : Int) = sp_mp (sp_suits V P c) a (k + 1) from by simp only [sp_mp]; first | rw [if_pos (Or.inl hbt)] | (rw [if_pos (Or.inr (by omega))] <;> exact hf.symm) | rw [if_pos (Or.inr (by omega))] | (rw [if_neg (fun z => z.elim hbt (by omega))]; first | rw [if_pos (by omega)] | (simp only [hf, Int.toNat_natCast]; first | rw [if_pos (by omega)] | rw [if_neg (by omega)]))]) rfl rfl (ih (k + 1) _ (by omega) rfl))
          · refine mv_go' 2 (pc' := 4) (ls' := [mv_R 100, mv_I (c : Int), mv_I (f : Int), mv_I (mv_w ((k : Int) + 1)), mv_I 1]) (st' := []) (M1 := M) rfl ?_
            rw [show mv_w ((k : Int) + 1) = (k : Int) + 1 from mv_w_id (by omega) (by omega)]
            rw [show (k : Int) + 1 = ((k + 1 : Nat) : Int) from by omega]
            exact (mv_eqs (ls2 := [mv_R 100, mv_I (c : Int), mv_I (sp_mp (sp_suits V P c) a (k + 1)), mv_I ((k + 1 : Nat) : Int), mv_I 1]) (by rw [show (f : Int) = sp_mp (sp_suits V P c) a (k + 1) from by simp only [sp_mp]; first | rw [if_pos (Or.inl hbt)] | (rw [if_pos (Or.inr (by omega))] <;> exact hf.symm) | rw [if_pos (Or.inr (by omega))] | (rw [if_neg (fun z => z.elim hbt (by omega))]; first | rw [if_pos (by omega)] | (simp only [hf, Int.toNat_natCast]; first | rw [if_pos (by omega)] | rw [if_neg (by omega)]))]) rfl rfl (ih (k + 1) _ (by omega) rfl))
        · refine mv_go' 4 (pc' := if 0 = 0 then 88 else 51) (ls' := [mv_R 100, mv_I (c : Int), mv_I (f : Int), mv_I (k : Int), mv_I 0]) (st' := []) (M1 := M) rfl ?_
          refine mv_tt' (by first | decide | omega) ?_
          refine mv_go' 2 (pc' := 4) (ls' := [mv_R 100, mv_I (c : Int), mv_I (f : Int), mv_I (mv_w ((k : Int) + 1)), mv_I 0]) (st' := []) (M1 := M) rfl ?_
          rw [show mv_w ((k : Int) + 1) = (k : Int) + 1 from mv_w_id (by omega) (by omega)]
          rw [show (k : Int) + 1 = ((k + 1 : Nat) : Int) from by omega]
          exact (mv_eqs (ls2 := [mv_R 100, mv_I (c : Int), mv_I (sp_mp (sp_suits V P c) a (k + 1)), mv_I ((k + 1 : Nat) : Int), mv_I 0]) (by rw [show (f : Int) = sp_mp (sp_suits V P c) a (k + 1) from by simp only [sp_mp]; first | rw [if_pos (Or.inl hbt)] | (rw [if_pos (Or.inr (by omega))] <;> exact hf.symm) | rw [if_pos (Or.inr (by omega))] | (rw [if_neg (fun z => z.elim hbt (by omega))]; first | rw [if_pos (by omega)] | (simp only [hf, Int.toNat_natCast]; first | rw [if_pos (by omega)] | rw [if_neg (by omega)]))]) rfl rfl (ih (k + 1) _ (by omega) rfl))
theorem sp_masn {V M : mv_M} {P : Nat → Nat → List Int} {c a : Nat} (hU : M 100 1 = V 0 9) (ho : sp_ok V) (ht : sp_tmm V P M) (hc : (c : Int) < V 0 8) (ha : a < 64) (e141 : M 141 c = (a : Int)) :
    mv_Ru 1 161 0 [mv_R 100, mv_I (c : Int), mv_U, mv_U, mv_U] [] M (mv_I (sp_nx (sp_suits V P c) a (V 0 9).toNat)) (fun M1 => M1 = M) := by
  have h9 := sp_ok_s9 ho
  rw [← sp_mp_nx]
  refine mv_go' 4 (pc' := 4) (ls' := [mv_R 100, mv_I (c : Int), mv_I (-1), mv_I 0, mv_U]) (st' := []) (M1 := M) rfl ?_
  exact sp_masn_lp hU ho ht hc ha e141 (V 0 9).toNat 0 mv_U (by omega) rfl
