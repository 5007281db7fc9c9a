/-! ranks: the call -/
theorem sp_rk_s (s : Nat → Int) {U k n m : Nat} {dg : Int} (hn : n = (sp_rk s U k).1) (hd : dg = (sp_rk s U k).2) (hm : sp_ms s n U = (m : Int)) : n ||| 1 <<< m = (sp_rk s U (k + 1)).1 ∧ 10 * dg + m + 1 = (sp_rk s U (k + 1)).2 := by
  subst hn; subst hd
  simp only [sp_rk]
  rw [hm, Int.toNat_natCast]
  exact ⟨rfl, rfl⟩
theorem sp_crk {V M : mv_M} {P : Nat → Nat → List Int} {c d : Nat} {Q : mv_V → mv_M → Prop} (h30 : M 30 9 = V 0 9) (ho : sp_ok V) (ht : sp_tb V P M) (hc : (c : Int) < V 0 8) :
    ∀ (r k n : Nat) (dg : Int) (l5 : mv_V), (k : Int) + r = V 0 9 → n = (sp_rk (sp_suits V P c) (V 0 9).toNat k).1 → dg = (sp_rk (sp_suits V P c) (V 0 9).toNat k).2 → mv_isL l5 = false →
      (∀ (l2 l5 : mv_V), mv_W (d + 2) 79 84 [mv_R 0, mv_I (c : Int), l2, mv_I (sp_rk (sp_suits V P c) (V 0 9).toNat (V 0 9).toNat).2, mv_I (V 0 9), l5] [] M Q) →
      mv_W (d + 2) 79 32 [mv_R 0, mv_I (c : Int), mv_I (n : Int), mv_I dg, mv_I (k : Int), l5] [] M Q := by
  have h8 := sp_ok_s8 ho
  have h9 := sp_ok_s9 ho
  intro r
  induction r with
  | zero =>
    intro k n dg l5 hk hn hd h5 hQ
    have e9 : M 30 9 = (k : Int) := by rw [h30]; omega
    have ek : (V 0 9).toNat = k := by omega
    have hq := hQ (mv_I (n : Int)) l5
    rw [show V 0 9 = (k : Int) from by omega, Int.toNat_natCast] at hq
    rw [ek] at hd
    rw [← hd] at hq
    refine mv_goW 4 (pc' := 41) (ls' := [mv_R 0, mv_I (c : Int), mv_I (n : Int), mv_I dg, mv_I (k : Int), l5]) (st' := [mv_I (M 30 9), mv_I (k : Int)]) (M1 := M) rfl ?_
    rw [show M 30 9 = (k : Int) from by exact e9]
    refine mv_goW 1 (pc' := if (k : Int) < (k : Int) then 44 else 84) (ls' := [mv_R 0, mv_I (c : Int), mv_I (n : Int), mv_I dg, mv_I (k : Int), l5]) (st' := []) (M1 := M) rfl ?_
    refine mv_ffW (by omega) ?_
    exact hq
  | succ r ih =>
    intro k n dg l5 hk hn hd h5 hQ
    obtain ⟨m, hm, hmU⟩ := sp_rk_n (sp_suits V P c) (U := (V 0 9).toNat) (k := k) (by omega) (by omega)
    obtain ⟨hn64, _, hdb⟩ := sp_rk_b (sp_suits V P c) (U := (V 0 9).toNat) (by omega) k (by omega)
    have ht6 := sp_t6_b k (by omega)
    rw [← hn] at hm hn64
    rw [← hd] at hdb
    have hst := sp_rk_s (sp_suits V P c) hn hd hm
    have hor := (mv_sor hn64 (show m < 6 by omega)).1
    refine mv_goW 4 (pc' := 41) (ls' := [mv_R 0, mv_I (c : Int), mv_I (n : Int), mv_I dg, mv_I (k : Int), l5]) (st' := [mv_I (M 30 9), mv_I (k : Int)]) (M1 := M) rfl ?_
    rw [show M 30 9 = V 0 9 from by exact h30]
    refine mv_goW 1 (pc' := if (k : Int) < (V 0 9) then 44 else 84) (ls' := [mv_R 0, mv_I (c : Int), mv_I (n : Int), mv_I dg, mv_I (k : Int), l5]) (st' := []) (M1 := M) rfl ?_
    refine mv_ttW (by omega) ?_
    refine mv_goW 4 (pc' := 50) (ls' := [mv_R 0, mv_I (c : Int), mv_I (n : Int), mv_I dg, mv_I (k : Int), l5]) (st' := [mv_I (n : Int), mv_I (c : Int), mv_R 60]) (M1 := M) rfl ?_
    refine mv_callPW (st2 := [mv_I (m : Int)]) rfl (Or.inl rfl) rfl rfl rfl ((mv_Ru.val (sp_cms ho ht hc hn64) (congrArg mv_I hm))) (by first | decide | omega) ?_
    refine mv_goW 4 (pc' := if (m : Int) = (-1) then 78 else 61) (ls' := [mv_R 0, mv_I (c : Int), mv_I (n : Int), mv_I dg, mv_I (k : Int), mv_I (m : Int)]) (st' := []) (M1 := M) rfl ?_
    refine mv_ffW (by omega) ?_
    refine mv_goW 5 (pc' := 67) (ls' := [mv_R 0, mv_I (c : Int), mv_I (n : Int), mv_I dg, mv_I (k : Int), mv_I (m : Int)]) (st' := [mv_I (mv_or (n : Int) (mv_shl 1 (m : Int)))]) (M1 := M) rfl ?_
    rw [show mv_or (n : Int) (mv_shl 1 (m : Int)) = ((n ||| 1 <<< m : Nat) : Int) from by exact hor]
    refine mv_goW 11 (pc' := 32) (ls' := [mv_R 0, mv_I (c : Int), mv_I ((n ||| 1 <<< m : Nat) : Int), mv_I (mv_w ((mv_w ((mv_w (dg * 10)) + (m : Int))) + 1)), mv_I (mv_w ((k : Int) + 1)), mv_I (m : Int)]) (st' := []) (M1 := M) rfl ?_
    rw [show mv_w (dg * 10) = dg * 10 from mv_w_id (by omega) (by omega)]
    rw [show mv_w ((dg * 10) + (m : Int)) = (dg * 10) + (m : Int) from mv_w_id (by omega) (by omega)]
    rw [show mv_w (((dg * 10) + (m : Int)) + 1) = ((dg * 10) + (m : Int)) + 1 from mv_w_id (by omega) (by omega)]
    rw [show mv_w ((k : Int) + 1) = (k : Int) + 1 from mv_w_id (by omega) (by omega)]
    rw [show (k : Int) + 1 = ((k + 1 : Nat) : Int) from by omega]
    exact ih (k + 1) _ _ _ (by omega) hst.1 (by rw [← hst.2]; omega) rfl hQ
theorem sp_mms {V M : mv_M} {P : Nat → Nat → List Int} {c n d : Nat} {dg y : Int} {Q : mv_V → mv_M → Prop} (hm : sp_m M V) (ho : sp_ok V) (ht : sp_tmm V P M) (hc : (c : Int) < V 0 8) (hn : n < 64) :
    ∀ (r k : Nat) (l7 : mv_V), (k : Int) + r = V 0 9 → mv_isL l7 = false →
      (∀ l7, mv_isL l7 = false → mv_W (d + 1) 169 115 [mv_R 100, mv_I (c : Int), mv_I dg, mv_I (n : Int), mv_I y, mv_I (sp_ms (sp_suits V P c) n (V 0 9).toNat), mv_I (V 0 9), l7] [] M Q) →
      mv_W (d + 1) 169 37 [mv_R 100, mv_I (c : Int), mv_I dg, mv_I (n : Int), mv_I y, mv_I (sp_ms (sp_suits V P c) n k), mv_I (k : Int), l7] [] M Q := by
  have h8 := sp_ok_s8 ho
  have h9 := sp_ok_s9 ho
  intro r
  induction r with
  | zero =>
    intro k l7 hk h7 hQ
    have e9 : M 100 1 = (k : Int) := by rw [sp_m_s9 hm]; omega
    have hq := hQ l7 h7
    rw [show V 0 9 = (k : Int) from by omega, Int.toNat_natCast] at hq
    refine mv_goW 3 (pc' := 43) (ls' := [mv_R 100, mv_I (c : Int), mv_I dg, mv_I (n : Int), mv_I y, mv_I (sp_ms (sp_suits V P c) n k), mv_I (k : Int), l7]) (st' := [mv_I (M 100 1), mv_I (k : Int)]) (M1 := M) rfl ?_
    rw [show M 100 1 = (k : Int) from by exact e9]
    refine mv_goW 1 (pc' := if (k : Int) < (k : Int) then 46 else 115) (ls' := [mv_R 100, mv_I (c : Int), mv_I dg, mv_I (n : Int), mv_I y, mv_I (sp_ms (sp_suits V P c) n k), mv_I (k : Int), l7]) (st' := []) (M1 := M) rfl ?_
    refine mv_ffW (by omega) ?_
    exact hq
  | succ r ih =>
    intro k l7 hk h7 hQ
    have hb := sp_ms_b (sp_suits V P c) n k
    have hs := ht.2 c k hc (by omega)
    have hbit := mv_bit hn (show k < 6 by omega)
    by_cases hbt : Nat.testBit n k = true
    · rw [if_pos hbt] at hbit
      refine mv_goW 3 (pc' := 43) (ls' := [mv_R 100, mv_I (c : Int), mv_I dg, mv_I (n : Int), mv_I y, mv_I (sp_ms (sp_suits V P c) n k), mv_I (k : Int), l7]) (st' := [mv_I (M 100 1), mv_I (k : Int)]) (M1 := M) rfl ?_
      rw [show M 100 1 = V 0 9 from by exact sp_m_s9 hm]
      refine mv_goW 1 (pc' := if (k : Int) < (V 0 9) then 46 else 115) (ls' := [mv_R 100, mv_I (c : Int), mv_I dg, mv_I (n : Int), mv_I y, mv_I (sp_ms (sp_suits V P c) n k), mv_I (k : Int), l7]) (st' := []) (M1 := M) rfl ?_
      refine mv_ttW (by omega) ?_
      refine mv_goW 5 (pc' := 52) (ls' := [mv_R 100, mv_I (c : Int), mv_I dg, mv_I (n : Int), mv_I y, mv_I (sp_ms (sp_suits V P c) n k), mv_I (k : Int), l7]) (st' := [mv_I (mv_and (mv_shr (n : Int) (k : Int)) 1)]) (M1 := M) rfl ?_
      rw [show mv_and (mv_shr (n : Int) (k : Int)) 1 = 1 from by exact hbit]
      refine mv_goW 1 (pc' := if 1 = 0 then 55 else 59) (ls' := [mv_R 100, mv_I (c : Int), mv_I dg, mv_I (n : Int), mv_I y, mv_I (sp_ms (sp_suits V P c) n k), mv_I (k : Int), l7]) (st' := []) (M1 := M) rfl ?_
      refine mv_ffW (by first | decide | omega) ?_
      refine mv_goW 4 (pc' := if 0 = 0 then 109 else 67) (ls' := [mv_R 100, mv_I (c : Int), mv_I dg, mv_I (n : Int), mv_I y, mv_I (sp_ms (sp_suits V P c) n k), mv_I (k : Int), mv_I 0]) (st' := []) (M1 := M) rfl ?_
      refine mv_ttW (by first | decide | omega) ?_
      refine mv_goW 2 (pc' := 37) (ls' := [mv_R 100, mv_I (c : Int), mv_I dg, mv_I (n : Int), mv_I y, mv_I (sp_ms (sp_suits V P c) n k), mv_I (mv_w ((k : Int) + 1)), mv_I 0]) (st' := []) (M1 := M) rfl ?_
      rw [show mv_w ((k : Int) + 1) = (k : Int) + 1 from mv_w_id (by omega) (by omega)]
      rw [show (k : Int) + 1 = ((k + 1 : Nat) : Int) from by omega]
      exact (mv_eqsW (ls2 := [mv_R 100, mv_I (c : Int), mv_I dg, mv_I (n : Int), mv_I y, mv_I (sp_ms (sp_suits V P c) n (k + 1)), mv_I ((k + 1 : Nat) : Int), mv_I 0]) (by rw [show sp_ms (sp_suits V P c) n k = sp_ms (sp_suits V P c) n (k + 1) from by simp only [sp_ms]; first | rw [if_pos hbt] | (rw [if_neg hbt]; first | rw [if_pos (by omega)] | (rw [if_neg (by first | omega | (rw [hf, Int.toNat_natCast]; omega))] <;> exact hf.symm) | (rw [hf, Int.toNat_natCast]; first | rw [if_pos (by omega)] | rw [if_neg (by omega)]))]) rfl rfl (ih (k + 1) _ (by omega) rfl hQ))
    · rw [if_neg hbt] at hbit
      by_cases q : sp_ms (sp_suits V P c) n k = -1
      · refine mv_goW 3 (pc' := 43) (ls' := [mv_R 100, mv_I (c : Int), mv_I dg, mv_I (n : Int), mv_I y, mv_I (sp_ms (sp_suits V P c) n k), mv_I (k : Int), l7]) (st' := [mv_I (M 100 1), mv_I (k : Int)]) (M1 := M) rfl ?_
        rw [show M 100 1 = V 0 9 from by exact sp_m_s9 hm]
        refine mv_goW 1 (pc' := if (k : Int) < (V 0 9) then 46 else 115) (ls' := [mv_R 100, mv_I (c : Int), mv_I dg, mv_I (n : Int), mv_I y, mv_I (sp_ms (sp_suits V P c) n k), mv_I (k : Int), l7]) (st' := []) (M1 := M) rfl ?_
        refine mv_ttW (by omega) ?_
        refine mv_goW 5 (pc' := 52) (ls' := [mv_R 100, mv_I (c : Int), mv_I dg, mv_I (n : Int), mv_I y, mv_I (sp_ms (sp_suits V P c) n k), mv_I (k : Int), l7]) (st' := [mv_I (mv_and (mv_shr (n : Int) (k : Int)) 1)]) (M1 := M) rfl ?_
        rw [show mv_and (mv_shr (n : Int) (k : Int)) 1 = 0 from by exact hbit]
        refine mv_goW 1 (pc' := if 0 = 0 then 55 else 59) (ls' := [mv_R 100, mv_I (c : Int), mv_I dg, mv_I (n : Int), mv_I y, mv_I (sp_ms (sp_suits V P c) n k), mv_I (k : Int), l7]) (st' := []) (M1 := M) rfl ?_
        refine mv_ttW (by first | decide | omega) ?_
        refine mv_goW 5 (pc' := if 1 = 0 then 109 else 67) (ls' := [mv_R 100, mv_I (c : Int), mv_I dg, mv_I (n : Int), mv_I y, mv_I (sp_ms (sp_suits V P c) n k), mv_I (k : Int), mv_I 1]) (st' := []) (M1 := M) rfl ?_
        refine mv_ffW (by first | decide | omega) ?_
        refine mv_goW 3 (pc' := if (sp_ms (sp_suits V P c) n k) = (-1) then 105 else 73) (ls' := [mv_R 100, mv_I (c : Int), mv_I dg, mv_I (n : Int), mv_I y, mv_I (sp_ms (sp_suits V P c) n k), mv_I (k : Int), mv_I 1]) (st' := []) (M1 := M) rfl ?_
        refine mv_ttW (by omega) ?_
        refine mv_goW 4 (pc' := 37) (ls' := [mv_R 100, mv_I (c : Int), mv_I dg, mv_I (n : Int), mv_I y, mv_I (k : Int), mv_I (mv_w ((k : Int) + 1)), mv_I 1]) (st' := []) (M1 := M) rfl ?_
        rw [show mv_w ((k : Int) + 1) = (k : Int) + 1 from mv_w_id (by omega) (by omega)]
        rw [show (k : Int) + 1 = ((k + 1 : Nat) : Int) from by omega]
        exact (mv_eqsW (ls2 := [mv_R 100, mv_I (c : Int), mv_I dg, mv_I (n : Int), mv_I y, mv_I (sp_ms (sp_suits V P c) n (k + 1)), mv_I ((k + 1 : Nat) : Int), mv_I 1]) (by rw [show (k : Int) = sp_ms (sp_suits V P c) n (k + 1) from by simp only [sp_ms]; first | rw [if_pos hbt] | (rw [if_neg hbt]; first | rw [if_pos (by omega)] | (rw [if_neg (by first | omega | (rw [hf, Int.toNat_natCast]; omega))] <;> exact hf.symm) | (rw [hf, Int.toNat_natCast]; first | rw [if_pos (by omega)] | rw [if_neg (by omega)]))]) rfl rfl (ih (k + 1) _ (by omega) rfl hQ))
      · obtain ⟨f, hf⟩ : ∃ f : Nat, sp_ms (sp_suits V P c) n k = (f : Int) := ⟨(sp_ms (sp_suits V P c) n k).toNat, by omega⟩
        have hs2 := ht.2 c f hc (by omega)
        refine mv_goW 3 (pc' := 43) (ls' := [mv_R 100, mv_I (c : Int), mv_I dg, mv_I (n : Int), mv_I y, mv_I (sp_ms (sp_suits V P c) n k), mv_I (k : Int), l7]) (st' := [mv_I (M 100 1), mv_I (k : Int)]) (M1 := M) rfl ?_
        rw [show M 100 1 = V 0 9 from by exact sp_m_s9 hm]
        refine mv_goW 1 (pc' := if (k : Int) < (V 0 9) then 46 else 115) (ls' := [mv_R 100, mv_I (c : Int), mv_I dg, mv_I (n : Int), mv_I y, mv_I (sp_ms (sp_suits V P c) n k), mv_I (k : Int), l7]) (st' := []) (M1 := M) rfl ?_
        refine mv_ttW (by omega) ?_
        refine mv_goW 5 (pc' := 52) (ls' := [mv_R 100, mv_I (c : Int), mv_I dg, mv_I (n : Int), mv_I y, mv_I (sp_ms (sp_suits V P c) n k), mv_I (k : Int), l7]) (st' := [mv_I (mv_and (mv_shr (n : Int) (k : Int)) 1)]) (M1 := M) rfl ?_
        rw [show mv_and (mv_shr (n : Int) (k : Int)) 1 = 0 from by exact hbit]
        refine mv_goW 1 (pc' := if 0 = 0 then 55 else 59) (ls' := [mv_R 100, mv_I (c : Int), mv_I dg, mv_I (n : Int), mv_I y, mv_I (sp_ms (sp_suits V P c) n k), mv_I (k : Int), l7]) (st' := []) (M1 := M) rfl ?_
        refine mv_ttW (by first | decide | omega) ?_
        refine mv_goW 5 (pc' := if 1 = 0 then 109 else 67) (ls' := [mv_R 100, mv_I (c : Int), mv_I dg, mv_I (n : Int), mv_I y, mv_I (sp_ms (sp_suits V P c) n k), mv_I (k : Int), mv_I 1]) (st' := []) (M1 := M) rfl ?_
        refine mv_ffW (by first | decide | omega) ?_
        refine mv_goW 1 (pc' := 69) (ls' := [mv_R 100, mv_I (c : Int), mv_I dg, mv_I (n : Int), mv_I y, mv_I (sp_ms (sp_suits V P c) n k), mv_I (k : Int), mv_I 1]) (st' := [mv_I (sp_ms (sp_suits V P c) n k)]) (M1 := M) rfl ?_
        rw [show sp_ms (sp_suits V P c) n k = (f : Int) from by exact hf]
        refine mv_goW 2 (pc' := if (f : Int) = (-1) then 105 else 73) (ls' := [mv_R 100, mv_I (c : Int), mv_I dg, mv_I (n : Int), mv_I y, mv_I (f : Int), mv_I (k : Int), mv_I 1]) (st' := []) (M1 := M) rfl ?_
        refine mv_ffW (by omega) ?_
        refine mv_goW 7 (pc' := 84) (ls' := [mv_R 100, mv_I (c : Int), mv_I dg, mv_I (n : Int), mv_I y, mv_I (f : Int), mv_I (k : Int), mv_I 1]) (st' := [mv_I (mv_w ((mv_w (6 * (c : Int))) + (k : Int))), mv_R 133]) (M1 := M) rfl ?_
        rw [show mv_w ((mv_w (6 * (c : Int))) + (k : Int)) = ((6 * c + k : Nat) : Int) from by (rw [show mv_w (6 * (c : Int)) = 6 * (c : Int) from mv_w_id (by omega) (by omega), show mv_w ((6 * (c : Int)) + (k : Int)) = (6 * (c : Int)) + (k : Int) from mv_w_id (by omega) (by omega)]) <;> omega]
        refine mv_goW 1 (pc' := if 0 ≤ ((6 * c + k : Nat) : Int) ∧ ((6 * c + k : Nat) : Int) < 36 then 85 else mv_bad) (ls' := [mv_R 100, mv_I (c : Int), mv_I dg, mv_I (n : Int), mv_I y, mv_I (f : Int), mv_I (k : Int), mv_I 1]) (st' := [mv_I (M 133 (6 * c + k))]) (M1 := M) rfl ?_
        refine mv_ttW (by omega) ?_
        rw [show M 133 (6 * c + k) = sp_suits V P c k from by exact hs]
        refine mv_goW 8 (pc' := 97) (ls' := [mv_R 100, mv_I (c : Int), mv_I dg, mv_I (n : Int), mv_I y, mv_I (f : Int), mv_I (k : Int), mv_I 1]) (st' := [mv_I 5, mv_I 0, mv_I (f : Int), mv_I (mv_w (6 * (c : Int))), mv_R 133, mv_I (sp_suits V P c k)]) (M1 := M) rfl ?_
        rw [show mv_w (6 * (c : Int)) = 6 * (c : Int) from mv_w_id (by omega) (by omega)]
        rw [show 6 * (c : Int) = ((6 * c : Nat) : Int) from by omega]
        refine mv_callPW (st2 := [mv_I (f : Int), mv_I ((6 * c : Nat) : Int), mv_R 133, mv_I (sp_suits V P c k)]) rfl (Or.inr rfl) rfl rfl rfl ((mv_Ru.val sp_mwithin (congrArg mv_I (sp_cl_id (by omega) (by omega))))) (by first | decide | omega) ?_
        refine mv_goW 1 (pc' := 101) (ls' := [mv_R 100, mv_I (c : Int), mv_I dg, mv_I (n : Int), mv_I y, mv_I (f : Int), mv_I (k : Int), mv_I 1]) (st' := [mv_I (mv_w (((6 * c : Nat) : Int) + (f : Int))), mv_R 133, mv_I (sp_suits V P c k)]) (M1 := M) rfl ?_
        rw [show mv_w (((6 * c : Nat) : Int) + (f : Int)) = ((6 * c + f : Nat) : Int) from by (rw [show mv_w (((6 * c : Nat) : Int) + (f : Int)) = ((6 * c : Nat) : Int) + (f : Int) from mv_w_id (by omega) (by omega)]) <;> omega]
        refine mv_goW 1 (pc' := if 0 ≤ ((6 * c + f : Nat) : Int) ∧ ((6 * c + f : Nat) : Int) < 36 then 102 else mv_bad) (ls' := [mv_R 100, mv_I (c : Int), mv_I dg, mv_I (n : Int), mv_I y, mv_I (f : Int), mv_I (k : Int), mv_I 1]) (st' := [mv_I (M 133 (6 * c + f)), mv_I (sp_suits V P c k)]) (M1 := M) rfl ?_
        refine mv_ttW (by omega) ?_
        rw [show M 133 (6 * c + f) = sp_suits V P c f from by exact hs2]
        refine mv_goW 1 (pc' := if (sp_suits V P c f) < (sp_suits V P c k) then 105 else 109) (ls' := [mv_R 100, mv_I (c : Int), mv_I dg, mv_I (n : Int), mv_I y, mv_I (f : Int), mv_I (k : Int), mv_I 1]) (st' := []) (M1 := M) rfl ?_
        refine mv_spW (fun ha1 => ?_) (fun ha1 => ?_)
        · refine mv_goW 4 (pc' := 37) (ls' := [mv_R 100, mv_I (c : Int), mv_I dg, mv_I (n : Int), mv_I y, mv_I (k : Int), mv_I (mv_w ((k : Int) + 1)), mv_I 1]) (st' := []) (M1 := M) rfl ?_
          rw [show mv_w ((k : Int) + 1) = (k : Int) + 1 from mv_w_id (by omega) (by omega)]
          rw [show (k : Int) + 1 = ((k + 1 : Nat) : Int) from by omega]
          exact (mv_eqsW (ls2 := [mv_R 100, mv_I (c : Int), mv_I dg, mv_I (n : Int), mv_I y, mv_I (sp_ms (sp_suits V P c) n (k + 1)), mv_I ((k + 1 : Nat) : Int), mv_I 1]) (by rw [show (k : Int) = sp_ms (sp_suits V P c) n (k + 1) from by simp only [sp_ms]; first | rw [if_pos hbt] | (rw [if_neg hbt]; first | rw [if_pos (by omega)] | (rw [if_neg (by first | omega | (rw [hf, Int.toNat_natCast]; omega))] <;> exact hf.symm) | (rw [hf, Int.toNat_natCast]; first | rw [if_pos (by omega)] | rw [if_neg (by omega)]))]) rfl rfl (ih (k + 1) _ (by omega) rfl hQ))
        · refine mv_goW 2 (pc' := 37) (ls' := [mv_R 100, mv_I (c : Int), mv_I dg, mv_I (n : Int), mv_I y, mv_I (f : Int), mv_I (mv_w ((k : Int) + 1)), mv_I 1]) (st' := []) (M1 := M) rfl ?_
          rw [show mv_w ((k : Int) + 1) = (k : Int) + 1 from mv_w_id (by omega) (by omega)]
          rw [show (k : Int) + 1 = ((k + 1 : Nat) : Int) from by omega]
          exact (mv_eqsW (ls2 := [mv_R 100, mv_I (c : Int), mv_I dg, mv_I (n : Int), mv_I y, mv_I (sp_ms (sp_suits V P c) n (k + 1)), mv_I ((k + 1 : Nat) : Int), mv_I 1]) (by rw [show (f : Int) = sp_ms (sp_suits V P c) n (k + 1) from by simp only [sp_ms]; first | rw [if_pos hbt] | (rw [if_neg hbt]; first | rw [if_pos (by omega)] | (rw [if_neg (by first | omega | (rw [hf, Int.toNat_natCast]; omega))] <;> exact hf.symm) | (rw [hf, Int.toNat_natCast]; first | rw [if_pos (by omega)] | rw [if_neg (by omega)]))]) rfl rfl (ih (k + 1) _ (by omega) rfl hQ))
theorem sp_mrk {V M : mv_M} {P : Nat → Nat → List Int} {c d : Nat} {Q : mv_V → mv_M → Prop} (hm : sp_m M V) (ho : sp_ok V) (ht : sp_tmm V P M) (hc : (c : Int) < V 0 8) :
    ∀ (r k n : Nat) (dg : Int) (l5 l6 l7 : mv_V), (k : Int) + r = V 0 9 → n = (sp_rk (sp_suits V P c) (V 0 9).toNat k).1 → dg = (sp_rk (sp_suits V P c) (V 0 9).toNat k).2 → mv_isL l5 = false → mv_isL l6 = false → mv_isL l7 = false →
      (∀ (l3 l5 l6 l7 : mv_V), mv_W (d + 1) 169 138 [mv_R 100, mv_I (c : Int), mv_I (sp_rk (sp_suits V P c) (V 0 9).toNat (V 0 9).toNat).2, l3, mv_I (V 0 9), l5, l6, l7] [] M Q) →
      mv_W (d + 1) 169 22 [mv_R 100, mv_I (c : Int), mv_I dg, mv_I (n : Int), mv_I (k : Int), l5, l6, l7] [] M Q := by
  have h8 := sp_ok_s8 ho
  have h9 := sp_ok_s9 ho
  intro r
  induction r with
  | zero =>
    intro k n dg l5 l6 l7 hk hn hd h5 h6 h7 hQ
    have e9 : M 100 1 = (k : Int) := by rw [sp_m_s9 hm]; omega
    have ek : (V 0 9).toNat = k := by omega
    have hq := hQ (mv_I (n : Int)) l5 l6 l7
    rw [show V 0 9 = (k : Int) from by omega, Int.toNat_natCast] at hq
    rw [ek] at hd
    rw [← hd] at hq
    refine mv_goW 3 (pc' := 28) (ls' := [mv_R 100, mv_I (c : Int), mv_I dg, mv_I (n : Int), mv_I (k : Int), l5, l6, l7]) (st' := [mv_I (M 100 1), mv_I (k : Int)]) (M1 := M) rfl ?_
    rw [show M 100 1 = (k : Int) from by exact e9]
    refine mv_goW 1 (pc' := if (k : Int) < (k : Int) then 31 else 138) (ls' := [mv_R 100, mv_I (c : Int), mv_I dg, mv_I (n : Int), mv_I (k : Int), l5, l6, l7]) (st' := []) (M1 := M) rfl ?_
    refine mv_ffW (by omega) ?_
    exact hq
  | succ r ih =>
    intro k n dg l5 l6 l7 hk hn hd h5 h6 h7 hQ
    obtain ⟨m, hms, hmU⟩ := sp_rk_n (sp_suits V P c) (U := (V 0 9).toNat) (k := k) (by omega) (by omega)
    obtain ⟨hn64, _, hdb⟩ := sp_rk_b (sp_suits V P c) (U := (V 0 9).toNat) (by omega) k (by omega)
    have ht6 := sp_t6_b k (by omega)
    rw [← hn] at hms hn64
    rw [← hd] at hdb
    have hst := sp_rk_s (sp_suits V P c) hn hd hms
    have hor := (mv_sor hn64 (show m < 6 by omega)).1
    refine mv_goW 3 (pc' := 28) (ls' := [mv_R 100, mv_I (c : Int), mv_I dg, mv_I (n : Int), mv_I (k : Int), l5, l6, l7]) (st' := [mv_I (M 100 1), mv_I (k : Int)]) (M1 := M) rfl ?_
    rw [show M 100 1 = V 0 9 from by exact sp_m_s9 hm]
    refine mv_goW 1 (pc' := if (k : Int) < (V 0 9) then 31 else 138) (ls' := [mv_R 100, mv_I (c : Int), mv_I dg, mv_I (n : Int), mv_I (k : Int), l5, l6, l7]) (st' := []) (M1 := M) rfl ?_
    refine mv_ttW (by omega) ?_
    refine mv_goW 4 (pc' := 37) (ls' := [mv_R 100, mv_I (c : Int), mv_I dg, mv_I (n : Int), mv_I (k : Int), mv_I (-1), mv_I 0, l7]) (st' := []) (M1 := M) rfl ?_
    refine sp_mms (d := d) hm ho ht hc hn64 (V 0 9).toNat 0 _ (by omega) h7 (fun l7 h7 => ?_)
    rw [hms]
    refine mv_goW 5 (pc' := 121) (ls' := [mv_R 100, mv_I (c : Int), mv_I dg, mv_I (n : Int), mv_I (k : Int), mv_I (m : Int), mv_I (V 0 9), l7]) (st' := [mv_I (mv_or (n : Int) (mv_shl 1 (m : Int)))]) (M1 := M) rfl ?_
    rw [show mv_or (n : Int) (mv_shl 1 (m : Int)) = ((n ||| 1 <<< m : Nat) : Int) from by exact hor]
    refine mv_goW 11 (pc' := 22) (ls' := [mv_R 100, mv_I (c : Int), mv_I (mv_w ((mv_w ((mv_w (10 * dg)) + (m : Int))) + 1)), mv_I ((n ||| 1 <<< m : Nat) : Int), mv_I (mv_w ((k : Int) + 1)), mv_I (m : Int), mv_I (V 0 9), l7]) (st' := []) (M1 := M) rfl ?_
    rw [show mv_w (10 * dg) = 10 * dg from mv_w_id (by omega) (by omega)]
    rw [show mv_w ((10 * dg) + (m : Int)) = (10 * dg) + (m : Int) from mv_w_id (by omega) (by omega)]
    rw [show mv_w (((10 * dg) + (m : Int)) + 1) = ((10 * dg) + (m : Int)) + 1 from mv_w_id (by omega) (by omega)]
    rw [show mv_w ((k : Int) + 1) = (k : Int) + 1 from mv_w_id (by omega) (by omega)]
    rw [show (k : Int) + 1 = ((k + 1 : Nat) : Int) from by omega]
    exact ih (k + 1) _ _ _ _ _ (by omega) hst.1 (by rw [← hst.2]) rfl rfl h7 hQ
theorem sp_k18 (a : Int) : sp_call 79 169 [mv_I a] [mv_I a] := by
  refine sp_mkW (lc := [mv_R 0, mv_I a, mv_U, mv_U, mv_U, mv_U]) (lm := [mv_R 100, mv_I a, mv_U, mv_U, mv_U, mv_U, mv_U, mv_U]) rfl rfl (fun M hI => ?_)
  have hI2 := hI
  obtain ⟨V, P, n, B, K, t, h⟩ := hI2
  have h' := h
  obtain ⟨⟨hc, hm, ho⟩, ⟨hyy, hl, hn1, hn⟩, ⟨hct, hmt, _⟩, _⟩ := h'
  have h8 := sp_ok_s8 ho
  have h9 := sp_ok_s9 ho
  by_cases h0 : 0 ≤ a
  · obtain ⟨c, rfl⟩ : ∃ x : Nat, a = (x : Int) := ⟨a.toNat, by omega⟩
    refine mv_goW 3 (pc' := 5) (ls' := [mv_R 0, mv_I (c : Int), mv_U, mv_U, mv_U, mv_U]) (st' := [mv_I (c : Int), mv_R 30]) (M1 := M) rfl ?_
    by_cases ha2 : 0 ≤ (c : Int) ∧ (c : Int) < V 0 8
    · refine mv_callPW (st2 := [mv_I 1]) rfl (Or.inl rfl) rfl rfl rfl (sp_cisChild_t_30 hc ho ha2) (by first | decide | omega) ?_
      refine mv_goW 1 (pc' := if 1 = 0 then 11 else 14) (ls' := [mv_R 0, mv_I (c : Int), mv_U, mv_U, mv_U, mv_U]) (st' := []) (M1 := M) rfl ?_
      refine mv_ffW (by first | decide | omega) ?_
      refine mv_goW 4 (pc' := 22) (ls' := [mv_R 0, mv_I (c : Int), mv_U, mv_U, mv_U, mv_U]) (st' := [mv_R 30, mv_R 60]) (M1 := M) rfl ?_
      refine mv_callW (st2 := []) rfl (Or.inl rfl) rfl rfl rfl (sp_crs hc ho hl hn hct) (by first | decide | omega) (fun Ma3 hm4 => ?_)
      have hx := hm4
      have hm := sp_m_ag2 hm hx.1 (by decide)
      have hmt := sp_mts_ag hmt hx.1 (by decide)
      have hcc := sp_c_ag hc hx.1 (by decide)
      refine mv_goW 6 (pc' := 32) (ls' := [mv_R 0, mv_I (c : Int), mv_I 0, mv_I 0, mv_I 0, mv_U]) (st' := []) (M1 := Ma3) rfl ?_
      refine sp_crk (d := 18) (sp_c_s9 hcc) ho hx.2 (by omega) (V 0 9).toNat 0 0 0 mv_U (by omega) rfl rfl rfl (fun l2 l5 => ?_)
      refine mv_goW 1 (pc' := 85) (ls' := [mv_R 0, mv_I (c : Int), l2, mv_I ((sp_rk (sp_suits V P c) (V 0 9).toNat (V 0 9).toNat).2), mv_I (V 0 9), l5]) (st' := [mv_I ((sp_rk (sp_suits V P c) (V 0 9).toNat (V 0 9).toNat).2)]) (M1 := Ma3) rfl ?_
      refine mv_retW (fun n => rfl) ⟨_, rfl, ?_⟩
      refine mv_goW 2 (pc' := 2) (ls' := [mv_R 100, mv_I (c : Int), mv_U, mv_U, mv_U, mv_U, mv_U, mv_U]) (st' := [mv_I (c : Int), mv_R 100]) (M1 := Ma3) rfl ?_
      have ha5 : 0 ≤ (c : Int) ∧ (c : Int) < V 0 8 := by omega
      refine mv_callPW (st2 := [mv_I 1]) rfl (Or.inl rfl) rfl rfl rfl (sp_misChild_t hm ho ha5) (by first | decide | omega) ?_
      refine mv_goW 1 (pc' := if 1 = 0 then 8 else 11) (ls' := [mv_R 100, mv_I (c : Int), mv_U, mv_U, mv_U, mv_U, mv_U, mv_U]) (st' := []) (M1 := Ma3) rfl ?_
      refine mv_ffW (by first | decide | omega) ?_
      refine mv_goW 1 (pc' := 12) (ls' := [mv_R 100, mv_I (c : Int), mv_U, mv_U, mv_U, mv_U, mv_U, mv_U]) (st' := [mv_R 100]) (M1 := Ma3) rfl ?_
      refine mv_callW (st2 := []) rfl (Or.inl rfl) rfl rfl rfl (sp_mrs hm ho hl hmt) (by first | decide | omega) (fun Ma6 hm7 => ?_)
      have hy := hm7
      have hm := sp_m_ag2 hm hy.1 (by decide)
      have hmt := sp_mts_ag hmt hy.1 (by decide)
      refine mv_goW 6 (pc' := 22) (ls' := [mv_R 100, mv_I (c : Int), mv_I 0, mv_I 0, mv_I 0, mv_U, mv_U, mv_U]) (st' := []) (M1 := Ma6) rfl ?_
      refine sp_mrk (d := 19) hm ho hy.2 (by omega) (V 0 9).toNat 0 0 0 mv_U mv_U mv_U (by omega) rfl rfl rfl rfl rfl (fun l3 l5 l6 l7 => ?_)
      refine mv_goW 1 (pc' := 139) (ls' := [mv_R 100, mv_I (c : Int), mv_I ((sp_rk (sp_suits V P c) (V 0 9).toNat (V 0 9).toNat).2), l3, mv_I (V 0 9), l5, l6, l7]) (st' := [mv_I ((sp_rk (sp_suits V P c) (V 0 9).toNat (V 0 9).toNat).2)]) (M1 := Ma6) rfl ?_
      exact mv_retW (fun n => rfl) ⟨congrArg mv_I (by first | with_reducible rfl | omega), sp_tend h ((hx.1.wd (by decide)).tr (hy.1.wd (by decide))) (fun j hj => by rw [hy.1 100 (by decide), hx.1 100 (by decide)])⟩
    · refine mv_callPW (st2 := [mv_I 0]) rfl (Or.inl rfl) rfl rfl rfl (sp_cisChild_f_30 hc ho ha2) (by first | decide | omega) ?_
      refine mv_goW 1 (pc' := if 0 = 0 then 11 else 14) (ls' := [mv_R 0, mv_I (c : Int), mv_U, mv_U, mv_U, mv_U]) (st' := []) (M1 := M) rfl ?_
      refine mv_ttW (by first | decide | omega) ?_
      refine mv_goW 1 (pc' := 13) (ls' := [mv_R 0, mv_I (c : Int), mv_U, mv_U, mv_U, mv_U]) (st' := [mv_I (-5)]) (M1 := M) rfl ?_
      refine mv_retW (fun n => rfl) ⟨_, rfl, ?_⟩
      refine mv_goW 2 (pc' := 2) (ls' := [mv_R 100, mv_I (c : Int), mv_U, mv_U, mv_U, mv_U, mv_U, mv_U]) (st' := [mv_I (c : Int), mv_R 100]) (M1 := M) rfl ?_
      have ha8 : ¬ (0 ≤ (c : Int) ∧ (c : Int) < V 0 8) := by omega
      refine mv_callPW (st2 := [mv_I 0]) rfl (Or.inl rfl) rfl rfl rfl (sp_misChild_f hm ho ha8) (by first | decide | omega) ?_
      refine mv_goW 1 (pc' := if 0 = 0 then 8 else 11) (ls' := [mv_R 100, mv_I (c : Int), mv_U, mv_U, mv_U, mv_U, mv_U, mv_U]) (st' := []) (M1 := M) rfl ?_
      refine mv_ttW (by first | decide | omega) ?_
      refine mv_goW 1 (pc' := 10) (ls' := [mv_R 100, mv_I (c : Int), mv_U, mv_U, mv_U, mv_U, mv_U, mv_U]) (st' := [mv_I (-5)]) (M1 := M) rfl ?_
      exact mv_retW (fun n => rfl) ⟨congrArg mv_I (by first | with_reducible rfl | omega), hI⟩
  · refine mv_goW 3 (pc' := 5) (ls' := [mv_R 0, mv_I a, mv_U, mv_U, mv_U, mv_U]) (st' := [mv_I a, mv_R 30]) (M1 := M) rfl ?_
    have ha9 : ¬ (0 ≤ a ∧ a < V 0 8) := by omega
    refine mv_callPW (st2 := [mv_I 0]) rfl (Or.inl rfl) rfl rfl rfl (sp_cisChild_f_30 hc ho ha9) (by first | decide | omega) ?_
    refine mv_goW 1 (pc' := if 0 = 0 then 11 else 14) (ls' := [mv_R 0, mv_I a, mv_U, mv_U, mv_U, mv_U]) (st' := []) (M1 := M) rfl ?_
    refine mv_ttW (by first | decide | omega) ?_
    refine mv_goW 1 (pc' := 13) (ls' := [mv_R 0, mv_I a, mv_U, mv_U, mv_U, mv_U]) (st' := [mv_I (-5)]) (M1 := M) rfl ?_
    refine mv_retW (fun n => rfl) ⟨_, rfl, ?_⟩
    refine mv_goW 2 (pc' := 2) (ls' := [mv_R 100, mv_I a, mv_U, mv_U, mv_U, mv_U, mv_U, mv_U]) (st' := [mv_I a, mv_R 100]) (M1 := M) rfl ?_
    have ha10 : ¬ (0 ≤ a ∧ a < V 0 8) := by omega
    refine mv_callPW (st2 := [mv_I 0]) rfl (Or.inl rfl) rfl rfl rfl (sp_misChild_f hm ho ha10) (by first | decide | omega) ?_
    refine mv_goW 1 (pc' := if 0 = 0 then 8 else 11) (ls' := [mv_R 100, mv_I a, mv_U, mv_U, mv_U, mv_U, mv_U, mv_U]) (st' := []) (M1 := M) rfl ?_
    refine mv_ttW (by first | decide | omega) ?_
    refine mv_goW 1 (pc' := 10) (ls' := [mv_R 100, mv_I a, mv_U, mv_U, mv_U, mv_U, mv_U, mv_U]) (st' := [mv_I (-5)]) (M1 := M) rfl ?_
    exact mv_retW (fun n => rfl) ⟨congrArg mv_I (by first | with_reducible rfl | omega), hI⟩
