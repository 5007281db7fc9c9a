/-! settled: askNext -/
theorem sp_cn_1 {V : mv_M} {row : Nat → Int} {c m : Nat} (h8 : 0 ≤ V 0 8) (hc : (c : Int) < V 0 8) (hr : row c = -1) (v : Nat) : sp_cn (mv_up row c (m : Int)) (v : Int) (V 0 8).toNat = sp_cn row (v : Int) (V 0 8).toNat + (if (m : Int) = (v : Int) then 1 else 0) := by
  rw [sp_cn_up, if_pos (by omega), hr, if_neg (show ¬ ((-1 : Int) = (v : Int)) by omega)]
  omega
theorem sp_cn_2 {V : mv_M} {L : Nat → Int} {row : Nat → Int} {c m g : Nat} (h8 : 0 ≤ V 0 8) (hc : (c : Int) < V 0 8) (hr : row c = -1) (hg : g = sp_ll L (mv_up row c (m : Int)) (m : Int) c (V 0 8).toNat) (v : Nat) : (g : Int) < V 0 8 ∧ sp_cn (mv_up (mv_up row c (m : Int)) g (-1)) (v : Int) (V 0 8).toNat = sp_cn row (v : Int) (V 0 8).toNat := by
  obtain ⟨⟨a, b⟩, _⟩ := sp_ll_b L (mv_up row c (m : Int)) (m : Int) (one := c) (n := (V 0 8).toNat) (by omega) (mv_up_s _ _ _) (V 0 8).toNat (Nat.le_refl _)
  rw [← hg] at a b
  refine ⟨by omega, ?_⟩
  rw [sp_cn_up, if_pos (by omega), b, if_neg (show ¬ ((-1 : Int) = (v : Int)) by omega), sp_cn_1 h8 hc hr]
  omega
theorem sp_nx_0 {s : Nat → Int} {a U : Nat} (h : sp_ms s a U = -1) : sp_nx s a U = -1 := if_pos (Or.inl h)
theorem sp_can_0 {V M : mv_M} {P : Nat → Nat → List Int} {row : Nat → Int} {ask : Nat → Nat} {c : Nat} (ho : sp_ok V) (ht : sp_tb V P M) (hc : (c : Int) < V 0 8) (hst : sp_cst V row ask M) (hw : sp_wfs V row ask) (hn : sp_nx (sp_suits V P c) (ask c) (V 0 9).toNat = -1) :
    mv_Ru 1 38 0 [mv_R 60, mv_I (c : Int), mv_U] [] M (mv_I 0) (fun M1 => mv_ag [64, 65, 66] M M1 ∧ sp_cst V row ask M1) := by
  have h8 := sp_ok_s8 ho
  have h9 := sp_ok_s9 ho
  have ha := (hw c hc).2
  have hb := sp_ms_b (sp_suits V P c) (ask c) (V 0 9).toNat
  have e66 := hst.2.2 c hc
  obtain ⟨a, eA⟩ : ∃ a, a = ask c := ⟨_, rfl⟩
  rw [← eA] at e66 ha hb hn
  by_cases q : sp_ms (sp_suits V P c) a (V 0 9).toNat = -1
  · have hms := q
    refine mv_go' 6 (pc' := if 0 ≤ (c : Int) ∧ (c : Int) < 6 then 8 else mv_bad) (ls' := [mv_R 60, mv_I (c : Int), mv_U]) (st' := [mv_I (M 66 c), mv_I (c : Int), mv_R 60]) (M1 := M) rfl ?_
    refine mv_tt' (by omega) ?_
    rw [show M 66 c = (a : Int) from by exact e66]
    refine mv_callP (st2 := [mv_I (-1)]) rfl (Or.inl rfl) rfl rfl rfl ((mv_Ru.val (sp_cms ho ht hc ha) (congrArg mv_I hms))) (by first | decide | omega) ?_
    refine mv_go' 4 (pc' := if (-1) = (-1) then 31 else 17) (ls' := [mv_R 60, mv_I (c : Int), mv_I (-1)]) (st' := []) (M1 := M) rfl ?_
    refine mv_tt' (by first | decide | omega) ?_
    refine mv_go' 1 (pc' := 32) (ls' := [mv_R 60, mv_I (c : Int), mv_I (-1)]) (st' := [mv_I 0]) (M1 := M) rfl ?_
    exact mv_Ru.val (mv_ret (fun n => rfl) ⟨mv_ag.rf, hst⟩) rfl
  · obtain ⟨m, hms⟩ : ∃ m : Nat, sp_ms (sp_suits V P c) a (V 0 9).toNat = (m : Int) := ⟨(sp_ms (sp_suits V P c) a (V 0 9).toNat).toNat, by omega⟩
    have hle : sp_suits V P c m ≤ 0 := by
      by_cases q2 : sp_suits V P c m ≤ 0
      · exact q2
      · unfold sp_nx at hn
        rw [hms, if_neg (by rw [Int.toNat_natCast]; omega)] at hn
        omega
    have e61 := ht.2.2 c m hc (by omega)
    refine mv_go' 6 (pc' := if 0 ≤ (c : Int) ∧ (c : Int) < 6 then 8 else mv_bad) (ls' := [mv_R 60, mv_I (c : Int), mv_U]) (st' := [mv_I (M 66 c), mv_I (c : Int), mv_R 60]) (M1 := M) rfl ?_
    refine mv_tt' (by omega) ?_
    rw [show M 66 c = (a : Int) from by exact e66]
    refine mv_callP (st2 := [mv_I (m : Int)]) rfl (Or.inl rfl) rfl rfl rfl ((mv_Ru.val (sp_cms ho ht hc ha) (congrArg mv_I hms))) (by first | decide | omega) ?_
    refine mv_go' 4 (pc' := if (m : Int) = (-1) then 31 else 17) (ls' := [mv_R 60, mv_I (c : Int), mv_I (m : Int)]) (st' := []) (M1 := M) rfl ?_
    refine mv_ff' (by omega) ?_
    refine mv_go' 7 (pc' := 27) (ls' := [mv_R 60, mv_I (c : Int), mv_I (m : Int)]) (st' := [mv_I (mv_w ((mv_w ((c : Int) * 6)) + (m : Int))), mv_R 61]) (M1 := M) rfl ?_
    rw [show mv_w ((mv_w ((c : Int) * 6)) + (m : Int)) = ((6 * c + m : Nat) : Int) from by (rw [show mv_w ((c : Int) * 6) = (c : Int) * 6 from mv_w_id (by omega) (by omega), show mv_w (((c : Int) * 6) + (m : Int)) = ((c : Int) * 6) + (m : Int) from mv_w_id (by omega) (by omega)]) <;> omega]
    refine mv_go' 1 (pc' := if 0 ≤ ((6 * c + m : Nat) : Int) ∧ ((6 * c + m : Nat) : Int) < 36 then 28 else mv_bad) (ls' := [mv_R 60, mv_I (c : Int), mv_I (m : Int)]) (st' := [mv_I (M 61 (6 * c + m))]) (M1 := M) rfl ?_
    refine mv_tt' (by omega) ?_
    rw [show M 61 (6 * c + m) = sp_suits V P c m from by exact e61]
    refine mv_go' 1 (pc' := if 0 < (sp_suits V P c m) then 33 else 31) (ls' := [mv_R 60, mv_I (c : Int), mv_I (m : Int)]) (st' := []) (M1 := M) rfl ?_
    refine mv_ff' (by omega) ?_
    refine mv_go' 1 (pc' := 32) (ls' := [mv_R 60, mv_I (c : Int), mv_I (m : Int)]) (st' := [mv_I 0]) (M1 := M) rfl ?_
    exact mv_Ru.val (mv_ret (fun n => rfl) ⟨mv_ag.rf, hst⟩) rfl
theorem sp_can_1 {V M : mv_M} {P : Nat → Nat → List Int} {row : Nat → Int} {ask : Nat → Nat} {c m : Nat} (ho : sp_ok V) (ht : sp_tb V P M) (htl : sp_tl V P M) (hc : (c : Int) < V 0 8) (hst : sp_cst V row ask M) (hw : sp_wfs V row ask) (hr : row c = -1) (hn : sp_nx (sp_suits V P c) (ask c) (V 0 9).toNat = (m : Int)) :
    mv_Ru 1 38 0 [mv_R 60, mv_I (c : Int), mv_U] [] M (mv_I 1) (fun M1 => mv_ag [64, 65, 66] M M1 ∧ sp_cst V (sp_r1 V P c m row) (sp_a1 c m ask) M1) := by
  have h8 := sp_ok_s8 ho
  have h9 := sp_ok_s9 ho
  have ha := (hw c hc).2
  have hb := sp_ms_b (sp_suits V P c) (ask c) (V 0 9).toNat
  have e66 := hst.2.2 c hc
  obtain ⟨a, eA⟩ : ∃ a, a = ask c := ⟨_, rfl⟩
  rw [← eA] at e66 ha hb hn
  have hnn : ¬ (sp_ms (sp_suits V P c) a (V 0 9).toNat = -1 ∨ sp_suits V P c (sp_ms (sp_suits V P c) a (V 0 9).toNat).toNat ≤ 0) := fun q => by
    unfold sp_nx at hn
    rw [if_pos q] at hn
    omega
  have hms : sp_ms (sp_suits V P c) a (V 0 9).toNat = (m : Int) := by
    unfold sp_nx at hn
    rw [if_neg hnn] at hn
    exact hn
  rw [hms, Int.toNat_natCast] at hnn
  have e61 := ht.2.2 c m hc (by omega)
  have e65 := hst.2.1 m (by omega)
  have e63 := ht.2.1 m (by omega)
  have hcb := sp_cn_b row (m : Int) (V 0 8).toNat
  have hor := (mv_sor ha (show m < 6 by omega)).1
  obtain ⟨g, hg⟩ : ∃ g, g = sp_ll (fun d => sp_likes V P d m) (mv_up row c (m : Int)) (m : Int) c (V 0 8).toNat := ⟨_, rfl⟩
  have e1 := sp_cn_1 (m := m) h8.1 hc hr m
  rw [if_pos rfl] at e1
  refine mv_go' 6 (pc' := if 0 ≤ (c : Int) ∧ (c : Int) < 6 then 8 else mv_bad) (ls' := [mv_R 60, mv_I (c : Int), mv_U]) (st' := [mv_I (M 66 c), mv_I (c : Int), mv_R 60]) (M1 := M) rfl ?_
  refine mv_tt' (by omega) ?_
  rw [show M 66 c = (a : Int) from by exact e66]
  refine mv_callP (st2 := [mv_I (m : Int)]) rfl (Or.inl rfl) rfl rfl rfl ((mv_Ru.val (sp_cms ho ht hc ha) (congrArg mv_I hms))) (by first | decide | omega) ?_
  refine mv_go' 4 (pc' := if (m : Int) = (-1) then 31 else 17) (ls' := [mv_R 60, mv_I (c : Int), mv_I (m : Int)]) (st' := []) (M1 := M) rfl ?_
  refine mv_ff' (by omega) ?_
  refine mv_go' 7 (pc' := 27) (ls' := [mv_R 60, mv_I (c : Int), mv_I (m : Int)]) (st' := [mv_I (mv_w ((mv_w ((c : Int) * 6)) + (m : Int))), mv_R 61]) (M1 := M) rfl ?_
  rw [show mv_w ((mv_w ((c : Int) * 6)) + (m : Int)) = ((6 * c + m : Nat) : Int) from by (rw [show mv_w ((c : Int) * 6) = (c : Int) * 6 from mv_w_id (by omega) (by omega), show mv_w (((c : Int) * 6) + (m : Int)) = ((c : Int) * 6) + (m : Int) from mv_w_id (by omega) (by omega)]) <;> omega]
  refine mv_go' 1 (pc' := if 0 ≤ ((6 * c + m : Nat) : Int) ∧ ((6 * c + m : Nat) : Int) < 36 then 28 else mv_bad) (ls' := [mv_R 60, mv_I (c : Int), mv_I (m : Int)]) (st' := [mv_I (M 61 (6 * c + m))]) (M1 := M) rfl ?_
  refine mv_tt' (by omega) ?_
  rw [show M 61 (6 * c + m) = sp_suits V P c m from by exact e61]
  refine mv_go' 1 (pc' := if 0 < (sp_suits V P c m) then 33 else 31) (ls' := [mv_R 60, mv_I (c : Int), mv_I (m : Int)]) (st' := []) (M1 := M) rfl ?_
  refine mv_tt' (by omega) ?_
  refine mv_go' 5 (pc' := if 0 ≤ (c : Int) ∧ (c : Int) < 6 then 40 else mv_bad) (ls' := [mv_R 60, mv_I (c : Int), mv_I (m : Int)]) (st' := [mv_I (M 66 c), mv_I (c : Int), mv_R 66]) (M1 := M) rfl ?_
  refine mv_tt' (by omega) ?_
  rw [show M 66 c = (a : Int) from by exact e66]
  refine mv_go' 4 (pc' := 44) (ls' := [mv_R 60, mv_I (c : Int), mv_I (m : Int)]) (st' := [mv_I (mv_or (a : Int) (mv_shl 1 (m : Int))), mv_I (c : Int), mv_R 66]) (M1 := M) rfl ?_
  rw [show mv_or (a : Int) (mv_shl 1 (m : Int)) = ((a ||| 1 <<< m : Nat) : Int) from by exact hor]
  refine mv_go' 1 (pc' := if 0 ≤ (c : Int) ∧ (c : Int) < 6 then 45 else mv_bad) (ls' := [mv_R 60, mv_I (c : Int), mv_I (m : Int)]) (st' := []) (M1 := (mv_st M 66 (mv_up (M 66) c ((a ||| 1 <<< m : Nat) : Int)))) rfl ?_
  refine mv_tt' (by omega) ?_
  refine mv_go' 5 (pc' := if 0 ≤ (c : Int) ∧ (c : Int) < 6 then 52 else mv_bad) (ls' := [mv_R 60, mv_I (c : Int), mv_I (m : Int)]) (st' := []) (M1 := (mv_st (mv_st M 66 (mv_up (M 66) c ((a ||| 1 <<< m : Nat) : Int))) 64 (mv_up (M 64) c (m : Int)))) rfl ?_
  refine mv_tt' (by omega) ?_
  refine mv_go' 5 (pc' := if 0 ≤ (m : Int) ∧ (m : Int) < 6 then 59 else mv_bad) (ls' := [mv_R 60, mv_I (c : Int), mv_I (m : Int)]) (st' := [mv_I (M 65 m), mv_I (m : Int), mv_R 65]) (M1 := (mv_st (mv_st M 66 (mv_up (M 66) c ((a ||| 1 <<< m : Nat) : Int))) 64 (mv_up (M 64) c (m : Int)))) rfl ?_
  refine mv_tt' (by omega) ?_
  rw [show M 65 m = sp_cn row (m : Int) (V 0 8).toNat from by exact e65]
  refine mv_go' 3 (pc' := if 0 ≤ (m : Int) ∧ (m : Int) < 6 then 62 else mv_bad) (ls' := [mv_R 60, mv_I (c : Int), mv_I (m : Int)]) (st' := []) (M1 := (mv_st (mv_st (mv_st M 66 (mv_up (M 66) c ((a ||| 1 <<< m : Nat) : Int))) 64 (mv_up (M 64) c (m : Int))) 65 (mv_up (M 65) m (mv_w ((sp_cn row (m : Int) (V 0 8).toNat) + 1))))) rfl ?_
  refine mv_tt' (by omega) ?_
  rw [show mv_w ((sp_cn row (m : Int) (V 0 8).toNat) + 1) = (sp_cn row (m : Int) (V 0 8).toNat) + 1 from mv_w_id (by omega) (by omega)]
  refine mv_go' 4 (pc' := if 0 ≤ (m : Int) ∧ (m : Int) < 6 then 68 else mv_bad) (ls' := [mv_R 60, mv_I (c : Int), mv_I (m : Int)]) (st' := [mv_I ((mv_up (M 65) m ((sp_cn row (m : Int) (V 0 8).toNat) + 1)) m)]) (M1 := (mv_st (mv_st (mv_st M 66 (mv_up (M 66) c ((a ||| 1 <<< m : Nat) : Int))) 64 (mv_up (M 64) c (m : Int))) 65 (mv_up (M 65) m ((sp_cn row (m : Int) (V 0 8).toNat) + 1)))) rfl ?_
  refine mv_tt' (by omega) ?_
  rw [show (mv_up (M 65) m ((sp_cn row (m : Int) (V 0 8).toNat) + 1)) m = (sp_cn row (m : Int) (V 0 8).toNat) + 1 from by exact mv_up_s _ _ _]
  refine mv_go' 4 (pc' := if 0 ≤ (m : Int) ∧ (m : Int) < 6 then 74 else mv_bad) (ls' := [mv_R 60, mv_I (c : Int), mv_I (m : Int)]) (st' := [mv_I (M 63 m), mv_I ((sp_cn row (m : Int) (V 0 8).toNat) + 1)]) (M1 := (mv_st (mv_st (mv_st M 66 (mv_up (M 66) c ((a ||| 1 <<< m : Nat) : Int))) 64 (mv_up (M 64) c (m : Int))) 65 (mv_up (M 65) m ((sp_cn row (m : Int) (V 0 8).toNat) + 1)))) rfl ?_
  refine mv_tt' (by omega) ?_
  rw [show M 63 m = sp_room V m from by exact e63]
  refine mv_go' 1 (pc' := if (sp_room V m) < ((sp_cn row (m : Int) (V 0 8).toNat) + 1) then 77 else 99) (ls' := [mv_R 60, mv_I (c : Int), mv_I (m : Int)]) (st' := []) (M1 := (mv_st (mv_st (mv_st M 66 (mv_up (M 66) c ((a ||| 1 <<< m : Nat) : Int))) 64 (mv_up (M 64) c (m : Int))) 65 (mv_up (M 65) m ((sp_cn row (m : Int) (V 0 8).toNat) + 1)))) rfl ?_
  refine mv_sp' (fun ha1 => ?_) (fun ha1 => ?_)
  · have hgb := (sp_cn_2 (L := fun d => sp_likes V P d m) h8.1 hc hr hg m).1
    have hll : mv_Ru 0 39 0 [mv_R 60, mv_I (m : Int), mv_I (c : Int), mv_U, mv_U, mv_U] [] (mv_st (mv_st (mv_st M 66 (mv_up (M 66) c ((a ||| 1 <<< m : Nat) : Int))) 64 (mv_up (M 64) c (m : Int))) 65 (mv_up (M 65) m ((sp_cn row (m : Int) (V 0 8).toNat) + 1))) (mv_I (g : Int)) (fun M1 => M1 = (mv_st (mv_st (mv_st M 66 (mv_up (M 66) c ((a ||| 1 <<< m : Nat) : Int))) 64 (mv_up (M 64) c (m : Int))) 65 (mv_up (M 65) m ((sp_cn row (m : Int) (V 0 8).toNat) + 1)))) := by
      rw [hg]
      exact sp_cll (row := mv_up row c (m : Int)) ho ht.1.1 htl (by omega) (fun d hd => sp_up_c (hst.1 d hd)) hc
    refine mv_go' 5 (pc' := 84) (ls' := [mv_R 60, mv_I (c : Int), mv_I (m : Int)]) (st' := [mv_I (c : Int), mv_I (m : Int), mv_R 60, mv_R 64]) (M1 := (mv_st (mv_st (mv_st M 66 (mv_up (M 66) c ((a ||| 1 <<< m : Nat) : Int))) 64 (mv_up (M 64) c (m : Int))) 65 (mv_up (M 65) m ((sp_cn row (m : Int) (V 0 8).toNat) + 1)))) rfl ?_
    refine mv_callP (st2 := [mv_I (g : Int), mv_R 64]) rfl (Or.inl rfl) rfl rfl rfl (hll) (by first | decide | omega) ?_
    refine mv_go' 2 (pc' := if 0 ≤ (g : Int) ∧ (g : Int) < 6 then 89 else mv_bad) (ls' := [mv_R 60, mv_I (c : Int), mv_I (m : Int)]) (st' := []) (M1 := (mv_st (mv_st (mv_st (mv_st M 66 (mv_up (M 66) c ((a ||| 1 <<< m : Nat) : Int))) 64 (mv_up (M 64) c (m : Int))) 65 (mv_up (M 65) m ((sp_cn row (m : Int) (V 0 8).toNat) + 1))) 64 (mv_up (mv_up (M 64) c (m : Int)) g (-1)))) rfl ?_
    refine mv_tt' (by omega) ?_
    refine mv_go' 5 (pc' := if 0 ≤ (m : Int) ∧ (m : Int) < 6 then 96 else mv_bad) (ls' := [mv_R 60, mv_I (c : Int), mv_I (m : Int)]) (st' := [mv_I ((mv_up (M 65) m ((sp_cn row (m : Int) (V 0 8).toNat) + 1)) m), mv_I (m : Int), mv_R 65]) (M1 := (mv_st (mv_st (mv_st (mv_st M 66 (mv_up (M 66) c ((a ||| 1 <<< m : Nat) : Int))) 64 (mv_up (M 64) c (m : Int))) 65 (mv_up (M 65) m ((sp_cn row (m : Int) (V 0 8).toNat) + 1))) 64 (mv_up (mv_up (M 64) c (m : Int)) g (-1)))) rfl ?_
    refine mv_tt' (by omega) ?_
    rw [show (mv_up (M 65) m ((sp_cn row (m : Int) (V 0 8).toNat) + 1)) m = (sp_cn row (m : Int) (V 0 8).toNat) + 1 from by exact mv_up_s _ _ _]
    refine mv_go' 3 (pc' := if 0 ≤ (m : Int) ∧ (m : Int) < 6 then 99 else mv_bad) (ls' := [mv_R 60, mv_I (c : Int), mv_I (m : Int)]) (st' := []) (M1 := (mv_st (mv_st (mv_st (mv_st (mv_st M 66 (mv_up (M 66) c ((a ||| 1 <<< m : Nat) : Int))) 64 (mv_up (M 64) c (m : Int))) 65 (mv_up (M 65) m ((sp_cn row (m : Int) (V 0 8).toNat) + 1))) 64 (mv_up (mv_up (M 64) c (m : Int)) g (-1))) 65 (mv_up (mv_up (M 65) m ((sp_cn row (m : Int) (V 0 8).toNat) + 1)) m (mv_w (((sp_cn row (m : Int) (V 0 8).toNat) + 1) - 1))))) rfl ?_
    refine mv_tt' (by omega) ?_
    rw [show mv_w (((sp_cn row (m : Int) (V 0 8).toNat) + 1) - 1) = ((sp_cn row (m : Int) (V 0 8).toNat) + 1) - 1 from mv_w_id (by omega) (by omega)]
    refine mv_go' 1 (pc' := 100) (ls' := [mv_R 60, mv_I (c : Int), mv_I (m : Int)]) (st' := [mv_I 1]) (M1 := (mv_st (mv_st (mv_st (mv_st (mv_st M 66 (mv_up (M 66) c ((a ||| 1 <<< m : Nat) : Int))) 64 (mv_up (M 64) c (m : Int))) 65 (mv_up (M 65) m ((sp_cn row (m : Int) (V 0 8).toNat) + 1))) 64 (mv_up (mv_up (M 64) c (m : Int)) g (-1))) 65 (mv_up (mv_up (M 65) m ((sp_cn row (m : Int) (V 0 8).toNat) + 1)) m (((sp_cn row (m : Int) (V 0 8).toNat) + 1) - 1)))) rfl ?_
    refine mv_ret (fun n => rfl) ⟨by repeat (first | exact mv_ag.rf | refine mv_ag.st ?_ (by decide)), ?_, ?_, ?_⟩
    · intro d hd; show mv_up (mv_up (M 64) c (m : Int)) g (-1) d = _; rw [show sp_r1 V P c m row = mv_up (mv_up row c (m : Int)) g (-1) from by rw [hg]; exact if_pos (by omega)]; exact sp_up_c (sp_up_c (hst.1 d hd))
    · intro v hv; show mv_up (mv_up (M 65) m ((sp_cn row (m : Int) (V 0 8).toNat) + 1)) m (((sp_cn row (m : Int) (V 0 8).toNat) + 1) - 1) v = _; rw [show sp_r1 V P c m row = mv_up (mv_up row c (m : Int)) g (-1) from by rw [hg]; exact if_pos (by omega), (sp_cn_2 (L := fun d => sp_likes V P d m) h8.1 hc hr hg v).2]; by_cases q : v = m
      · rw [q, mv_up_s]; try omega
      · rw [mv_up_n _ _ q, mv_up_n _ _ q]; exact hst.2.1 v hv
    · intro d hd; show mv_up (M 66) c ((a ||| 1 <<< m : Nat) : Int) d = _; unfold sp_a1; by_cases q : d = c
      · rw [q, mv_up_s, if_pos rfl, ← eA]
      · rw [mv_up_n _ _ q, if_neg q]; exact hst.2.2 d hd
  · refine mv_go' 1 (pc' := 100) (ls' := [mv_R 60, mv_I (c : Int), mv_I (m : Int)]) (st' := [mv_I 1]) (M1 := (mv_st (mv_st (mv_st M 66 (mv_up (M 66) c ((a ||| 1 <<< m : Nat) : Int))) 64 (mv_up (M 64) c (m : Int))) 65 (mv_up (M 65) m ((sp_cn row (m : Int) (V 0 8).toNat) + 1)))) rfl ?_
    refine mv_ret (fun n => rfl) ⟨by repeat (first | exact mv_ag.rf | refine mv_ag.st ?_ (by decide)), ?_, ?_, ?_⟩
    · intro d hd; show mv_up (M 64) c (m : Int) d = _; rw [show sp_r1 V P c m row = mv_up row c (m : Int) from if_neg (by omega)]; exact sp_up_c (hst.1 d hd)
    · intro v hv; show mv_up (M 65) m ((sp_cn row (m : Int) (V 0 8).toNat) + 1) v = _; rw [show sp_r1 V P c m row = mv_up row c (m : Int) from if_neg (by omega), sp_cn_1 h8.1 hc hr]; by_cases q : v = m
      · rw [q, mv_up_s, if_pos rfl]
      · rw [mv_up_n _ _ q, if_neg (by omega), Int.add_zero]; exact hst.2.1 v hv
    · intro d hd; show mv_up (M 66) c ((a ||| 1 <<< m : Nat) : Int) d = _; unfold sp_a1; by_cases q : d = c
      · rw [q, mv_up_s, if_pos rfl, ← eA]
      · rw [mv_up_n _ _ q, if_neg q]; exact hst.2.2 d hd
