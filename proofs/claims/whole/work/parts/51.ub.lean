/-! unclesBy -/
def sp_unr (V : mv_M) (a b : Int) : Int := if (0 ≤ a ∧ a ≤ 59) ∧ (0 ≤ b ∧ b ≤ 9999) then (if V 0 9 < 6 then V 0 9 else -4) else -2
def sp_unV (V : mv_M) (a b : Int) : mv_M := if ((0 ≤ a ∧ a ≤ 59) ∧ (0 ≤ b ∧ b ≤ 9999)) ∧ V 0 9 < 6 then sp_unc V (V 0 9).toNat a b else V
theorem sp_cadd1 {V M : mv_M} {a b : Int} {u : Nat} (hc : sp_c 30 M V) (ho : sp_ok V) (hu9 : V 0 9 = (u : Int)) (q6 : u < 6) (qa : 0 ≤ a ∧ a ≤ 59) (qb : 0 ≤ b ∧ b ≤ 9999) :
    mv_Ru 1 45 0 [mv_R 30, mv_I a, mv_I b] [] M (mv_I (u : Int)) (fun M1 => mv_ag [30, 33, 34, 35] M M1 ∧ sp_c 30 M1 (sp_unc V u a b)) := by
  have td := sp_td qa.1
  have tm := sp_tm qa.1
  refine mv_go' 2 (pc' := if a < 0 then 21 else 4) (ls' := [mv_R 30, mv_I a, mv_I b]) (st' := []) (M1 := M) rfl ?_
  refine mv_ff' (by omega) ?_
  refine mv_go' 3 (pc' := if a < 60 then 10 else 21) (ls' := [mv_R 30, mv_I a, mv_I b]) (st' := []) (M1 := M) rfl ?_
  refine mv_tt' (by omega) ?_
  refine mv_go' 2 (pc' := if b < 0 then 21 else 14) (ls' := [mv_R 30, mv_I a, mv_I b]) (st' := []) (M1 := M) rfl ?_
  refine mv_ff' (by omega) ?_
  refine mv_go' 3 (pc' := if b < 10000 then 24 else 21) (ls' := [mv_R 30, mv_I a, mv_I b]) (st' := []) (M1 := M) rfl ?_
  refine mv_tt' (by omega) ?_
  refine mv_go' 2 (pc' := 28) (ls' := [mv_R 30, mv_I a, mv_I b]) (st' := [mv_I (M 30 9)]) (M1 := M) rfl ?_
  have hr1 := sp_ok_s9 ho
  rw [show M 30 9 = V 0 9 from by exact sp_c_s9 hc]
  rw [show V 0 9 = (u : Int) from by exact hu9]
  refine mv_go' 2 (pc' := if (u : Int) < 6 then 36 else 33) (ls' := [mv_R 30, mv_I a, mv_I b]) (st' := []) (M1 := M) rfl ?_
  refine mv_tt' (by omega) ?_
  refine mv_go' 4 (pc' := 44) (ls' := [mv_R 30, mv_I a, mv_I b]) (st' := [mv_I (M 30 9), mv_R 33]) (M1 := M) rfl ?_
  have hr3 := sp_ok_s9 ho
  rw [show M 30 9 = V 0 9 from by exact sp_c_s9 hc]
  rw [show V 0 9 = (u : Int) from by exact hu9]
  refine mv_go' 1 (pc' := 45) (ls' := [mv_R 30, mv_I a, mv_I b]) (st' := [mv_I b, mv_I (u : Int), mv_R 33]) (M1 := M) rfl ?_
  refine mv_call (st2 := []) rfl (Or.inr rfl) rfl rfl rfl (sp_cpd33 qb.1 qb.2 q6) (by first | decide | omega) (fun M1 h1 => ?_)
  have hc1 : M1 30 9 = (u : Int) := by rw [h1.1 30 (by decide), sp_c_s9 hc, hu9]
  refine mv_go' 4 (pc' := 56) (ls' := [mv_R 30, mv_I a, mv_I b]) (st' := [mv_I (M1 30 9), mv_R 34]) (M1 := M1) rfl ?_
  rw [show M1 30 9 = (u : Int) from by exact hc1]
  refine mv_go' 3 (pc' := if 10 = 0 then mv_bad else 60) (ls' := [mv_R 30, mv_I a, mv_I b]) (st' := [mv_I (mv_w (a.tdiv 10)), mv_I (u : Int), mv_R 34]) (M1 := M1) rfl ?_
  refine mv_ff' (by first | omega | decide) ?_
  refine mv_go' 1 (pc' := if 0 ≤ (u : Int) ∧ (u : Int) < 6 then 61 else mv_bad) (ls' := [mv_R 30, mv_I a, mv_I b]) (st' := []) (M1 := (mv_st M1 34 (mv_up (M1 34) u (mv_w (a.tdiv 10))))) rfl ?_
  refine mv_tt' (by first | omega | decide) ?_
  refine mv_go' 4 (pc' := 69) (ls' := [mv_R 30, mv_I a, mv_I b]) (st' := [mv_I (M1 30 9), mv_R 35]) (M1 := (mv_st M1 34 (mv_up (M1 34) u (mv_w (a.tdiv 10))))) rfl ?_
  rw [show M1 30 9 = (u : Int) from by exact hc1]
  refine mv_go' 3 (pc' := if 10 = 0 then mv_bad else 73) (ls' := [mv_R 30, mv_I a, mv_I b]) (st' := [mv_I (mv_w (a.tmod 10)), mv_I (u : Int), mv_R 35]) (M1 := (mv_st M1 34 (mv_up (M1 34) u (mv_w (a.tdiv 10))))) rfl ?_
  refine mv_ff' (by first | omega | decide) ?_
  refine mv_go' 1 (pc' := if 0 ≤ (u : Int) ∧ (u : Int) < 6 then 74 else mv_bad) (ls' := [mv_R 30, mv_I a, mv_I b]) (st' := []) (M1 := (mv_st (mv_st M1 34 (mv_up (M1 34) u (mv_w (a.tdiv 10)))) 35 (mv_up (M1 35) u (mv_w (a.tmod 10))))) rfl ?_
  refine mv_tt' (by first | omega | decide) ?_
  refine mv_go' 3 (pc' := 79) (ls' := [mv_R 30, mv_I a, mv_I b]) (st' := [mv_I (M1 30 9), mv_R 30]) (M1 := (mv_st (mv_st M1 34 (mv_up (M1 34) u (mv_w (a.tdiv 10)))) 35 (mv_up (M1 35) u (mv_w (a.tmod 10))))) rfl ?_
  rw [show M1 30 9 = (u : Int) from by exact hc1]
  refine mv_go' 3 (pc' := 84) (ls' := [mv_R 30, mv_I a, mv_I b]) (st' := []) (M1 := (mv_st (mv_st (mv_st M1 34 (mv_up (M1 34) u (mv_w (a.tdiv 10)))) 35 (mv_up (M1 35) u (mv_w (a.tmod 10)))) 30 (mv_up (M1 30) 9 (mv_w ((u : Int) + 1))))) rfl ?_
  rw [show mv_w (a.tdiv 10) = a.tdiv 10 from mv_w_id (by omega) (by omega)]
  rw [show mv_w (a.tmod 10) = a.tmod 10 from mv_w_id (by omega) (by omega)]
  rw [show mv_w ((u : Int) + 1) = (u : Int) + 1 from mv_w_id (by omega) (by omega)]
  refine mv_go' 4 (pc' := 90) (ls' := [mv_R 30, mv_I a, mv_I b]) (st' := [mv_I (mv_w (((u : Int) + 1) - 1))]) (M1 := (mv_st (mv_st (mv_st M1 34 (mv_up (M1 34) u (a.tdiv 10))) 35 (mv_up (M1 35) u (a.tmod 10))) 30 (mv_up (M1 30) 9 ((u : Int) + 1)))) rfl ?_
  rw [show mv_w (((u : Int) + 1) - 1) = ((u : Int) + 1) - 1 from mv_w_id (by omega) (by omega)]
  rw [show (u : Int) + 1 - 1 = (u : Int) from by omega]
  refine mv_ret (fun n => rfl) ⟨?_, ?_⟩
  · exact (((h1.1.wd (by decide)).st (by decide)).st (by decide)).st (by decide)
  · exact sp_c_unc hc hu9 (by rw [h1.1 30 (by decide)]; rfl) (h1.1 31 (by decide)) (h1.1 32 (by decide)) h1.2 (by rw [h1.1 34 (by decide)]; rfl) (by rw [h1.1 35 (by decide)]; rfl)
theorem sp_muni1 {V M : mv_M} {a b : Int} {u : Nat} (hm : sp_m M V) (ho : sp_ok V) (hu9 : V 0 9 = (u : Int)) (q6 : u < 6) (qa : 0 ≤ a ∧ a ≤ 59) (qb : 0 ≤ b ∧ b ≤ 9999) :
    mv_Ru 1 142 0 [mv_R 100, mv_I a, mv_I b] [] M (mv_I (u : Int)) (fun M1 => (mv_ag [100, 102, 103, 105] M M1 ∧ ∀ j, j ≠ 1 → M1 100 j = M 100 j) ∧ sp_m M1 (sp_unc V u a b)) := by
  have td := sp_td qa.1
  have tm := sp_tm qa.1
  refine mv_go' 3 (pc' := 4) (ls' := [mv_R 100, mv_I a, mv_I b]) (st' := [mv_I 59, mv_I 0, mv_I a]) (M1 := M) rfl ?_
  refine mv_callP (st2 := [mv_I 1]) rfl (Or.inr rfl) rfl rfl rfl (sp_min_t qa) (by first | decide | omega) ?_
  refine mv_go' 1 (pc' := if 1 = 0 then 21 else 10) (ls' := [mv_R 100, mv_I a, mv_I b]) (st' := []) (M1 := M) rfl ?_
  refine mv_ff' (by decide) ?_
  refine mv_go' 3 (pc' := 15) (ls' := [mv_R 100, mv_I a, mv_I b]) (st' := [mv_I 9999, mv_I 0, mv_I b]) (M1 := M) rfl ?_
  refine mv_callP (st2 := [mv_I 1]) rfl (Or.inr rfl) rfl rfl rfl (sp_min_t qb) (by first | decide | omega) ?_
  refine mv_go' 1 (pc' := if 1 = 0 then 21 else 24) (ls' := [mv_R 100, mv_I a, mv_I b]) (st' := []) (M1 := M) rfl ?_
  refine mv_ff' (by decide) ?_
  refine mv_go' 2 (pc' := 28) (ls' := [mv_R 100, mv_I a, mv_I b]) (st' := [mv_I (M 100 1)]) (M1 := M) rfl ?_
  have hr5 := sp_ok_s9 ho
  rw [show M 100 1 = V 0 9 from by exact sp_m_s9 hm]
  rw [show V 0 9 = (u : Int) from by exact hu9]
  refine mv_go' 2 (pc' := if (u : Int) = 6 then 33 else 36) (ls' := [mv_R 100, mv_I a, mv_I b]) (st' := []) (M1 := M) rfl ?_
  refine mv_ff' (by omega) ?_
  refine mv_go' 4 (pc' := 44) (ls' := [mv_R 100, mv_I a, mv_I b]) (st' := [mv_I (M 100 1), mv_R 102]) (M1 := M) rfl ?_
  have hr7 := sp_ok_s9 ho
  rw [show M 100 1 = V 0 9 from by exact sp_m_s9 hm]
  rw [show V 0 9 = (u : Int) from by exact hu9]
  refine mv_go' 3 (pc' := if 10 = 0 then mv_bad else 48) (ls' := [mv_R 100, mv_I a, mv_I b]) (st' := [mv_I (mv_w (a.tdiv 10)), mv_I (u : Int), mv_R 102]) (M1 := M) rfl ?_
  refine mv_ff' (by first | omega | decide) ?_
  refine mv_go' 1 (pc' := if 0 ≤ (u : Int) ∧ (u : Int) < 6 then 49 else mv_bad) (ls' := [mv_R 100, mv_I a, mv_I b]) (st' := []) (M1 := (mv_st M 102 (mv_up (M 102) u (mv_w (a.tdiv 10))))) rfl ?_
  refine mv_tt' (by first | omega | decide) ?_
  refine mv_go' 4 (pc' := 57) (ls' := [mv_R 100, mv_I a, mv_I b]) (st' := [mv_I (M 100 1), mv_R 103]) (M1 := (mv_st M 102 (mv_up (M 102) u (mv_w (a.tdiv 10))))) rfl ?_
  have hr9 := sp_ok_s9 ho
  rw [show M 100 1 = V 0 9 from by exact sp_m_s9 hm]
  rw [show V 0 9 = (u : Int) from by exact hu9]
  refine mv_go' 3 (pc' := if 10 = 0 then mv_bad else 61) (ls' := [mv_R 100, mv_I a, mv_I b]) (st' := [mv_I (mv_w (a.tmod 10)), mv_I (u : Int), mv_R 103]) (M1 := (mv_st M 102 (mv_up (M 102) u (mv_w (a.tdiv 10))))) rfl ?_
  refine mv_ff' (by first | omega | decide) ?_
  refine mv_go' 1 (pc' := if 0 ≤ (u : Int) ∧ (u : Int) < 6 then 62 else mv_bad) (ls' := [mv_R 100, mv_I a, mv_I b]) (st' := []) (M1 := (mv_st (mv_st M 102 (mv_up (M 102) u (mv_w (a.tdiv 10)))) 103 (mv_up (M 103) u (mv_w (a.tmod 10))))) rfl ?_
  refine mv_tt' (by first | omega | decide) ?_
  refine mv_go' 3 (pc' := 67) (ls' := [mv_R 100, mv_I a, mv_I b]) (st' := [mv_I (M 100 1), mv_R 100]) (M1 := (mv_st (mv_st M 102 (mv_up (M 102) u (mv_w (a.tdiv 10)))) 103 (mv_up (M 103) u (mv_w (a.tmod 10))))) rfl ?_
  have hr11 := sp_ok_s9 ho
  rw [show M 100 1 = V 0 9 from by exact sp_m_s9 hm]
  rw [show V 0 9 = (u : Int) from by exact hu9]
  refine mv_go' 1 (pc' := 68) (ls' := [mv_R 100, mv_I a, mv_I b]) (st' := [mv_I b, mv_I (u : Int), mv_R 100]) (M1 := (mv_st (mv_st M 102 (mv_up (M 102) u (mv_w (a.tdiv 10)))) 103 (mv_up (M 103) u (mv_w (a.tmod 10))))) rfl ?_
  rw [show mv_w (a.tdiv 10) = a.tdiv 10 from mv_w_id (by omega) (by omega)]
  rw [show mv_w (a.tmod 10) = a.tmod 10 from mv_w_id (by omega) (by omega)]
  obtain ⟨M2, e2⟩ : ∃ M2, M2 = (mv_st (mv_st M 102 (mv_up (M 102) u (a.tdiv 10))) 103 (mv_up (M 103) u (a.tmod 10))) := ⟨_, rfl⟩
  have a2 : mv_ag [102, 103] M M2 := by rw [e2]; repeat (first | exact mv_ag.rf | refine mv_ag.st ?_ (by decide))
  have r4 : M2 102 = mv_up (M 102) u (a.tdiv 10) := by rw [e2]; rfl
  have r5 : M2 103 = mv_up (M 103) u (a.tmod 10) := by rw [e2]; rfl
  rw [← e2]
  refine mv_call (st2 := []) rfl (Or.inl rfl) rfl rfl rfl (sp_mpd105 qb.1 qb.2 q6) (by first | decide | omega) (fun M3 h3 => ?_)
  have hc3 : M3 100 1 = (u : Int) := by rw [h3.1 100 (by decide), a2 100 (by decide), sp_m_s9 hm, hu9]
  refine mv_go' 3 (pc' := 76) (ls' := [mv_R 100, mv_I a, mv_I b]) (st' := [mv_I (M3 100 1), mv_R 100]) (M1 := M3) rfl ?_
  rw [show M3 100 1 = (u : Int) from by exact hc3]
  refine mv_go' 3 (pc' := 81) (ls' := [mv_R 100, mv_I a, mv_I b]) (st' := []) (M1 := (mv_st M3 100 (mv_up (M3 100) 1 (mv_w ((u : Int) + 1))))) rfl ?_
  rw [show mv_w ((u : Int) + 1) = (u : Int) + 1 from mv_w_id (by omega) (by omega)]
  refine mv_go' 4 (pc' := 87) (ls' := [mv_R 100, mv_I a, mv_I b]) (st' := [mv_I (mv_w (((u : Int) + 1) - 1))]) (M1 := (mv_st M3 100 (mv_up (M3 100) 1 ((u : Int) + 1)))) rfl ?_
  rw [show mv_w (((u : Int) + 1) - 1) = ((u : Int) + 1) - 1 from mv_w_id (by omega) (by omega)]
  rw [show (u : Int) + 1 - 1 = (u : Int) from by omega]
  have a3 : mv_ag [102, 103, 105] M M3 := (a2.wd (by decide)).tr (h3.1.wd (by decide))
  refine mv_ret (fun n => rfl) ⟨⟨(a3.wd (by decide)).st (by decide), fun j hj => ?_⟩, ?_⟩
  · show mv_up (M3 100) 1 ((u : Int) + 1) j = M 100 j
    rw [mv_up_n _ _ hj, a3 100 (by decide)]
  · exact sp_m_unc hm hu9 (by rw [a3 100 (by decide)]; rfl) (a3 104 (by decide)) (a3 106 (by decide)) (h3.2.trans (by rw [a2 105 (by decide)])) ((h3.1 102 (by decide)).trans r4) ((h3.1 103 (by decide)).trans r5)
theorem sp_cadd {V M : mv_M} {a b : Int} (hc : sp_c 30 M V) (ho : sp_ok V) : mv_Ru 1 45 0 [mv_R 30, mv_I a, mv_I b] [] M (mv_I (sp_unr V a b)) (fun M1 => mv_ag [30, 33, 34, 35] M M1 ∧ sp_c 30 M1 (sp_unV V a b)) := by
  have h9 := sp_ok_s9 ho
  by_cases q : ((0 ≤ a ∧ a ≤ 59) ∧ (0 ≤ b ∧ b ≤ 9999)) ∧ V 0 9 < 6
  · have e1 : sp_unV V a b = sp_unc V (V 0 9).toNat a b := if_pos q
    have e2 : sp_unr V a b = ((V 0 9).toNat : Int) := by unfold sp_unr; rw [if_pos q.1, if_pos q.2]; omega
    rw [e1, e2]
    exact sp_cadd1 hc ho (by omega) (by omega) q.1.1 q.1.2
  · have e1 : sp_unV V a b = V := if_neg q
    rw [e1]
    refine mv_go' 2 (pc' := if a < 0 then 21 else 4) (ls' := [mv_R 30, mv_I a, mv_I b]) (st' := []) (M1 := M) rfl ?_
    refine mv_sp' (fun ha1 => ?_) (fun ha1 => ?_)
    · refine mv_go' 1 (pc' := 23) (ls' := [mv_R 30, mv_I a, mv_I b]) (st' := [mv_I (-2)]) (M1 := M) rfl ?_
      exact mv_Ru.val (mv_ret (fun n => rfl) ⟨mv_ag.rf, hc⟩) (congrArg mv_I (by unfold sp_unr; repeat (first | omega | split)))
    · refine mv_go' 3 (pc' := if a < 60 then 10 else 21) (ls' := [mv_R 30, mv_I a, mv_I b]) (st' := []) (M1 := M) rfl ?_
      refine mv_sp' (fun ha2 => ?_) (fun ha2 => ?_)
      · refine mv_go' 2 (pc' := if b < 0 then 21 else 14) (ls' := [mv_R 30, mv_I a, mv_I b]) (st' := []) (M1 := M) rfl ?_
        refine mv_sp' (fun ha3 => ?_) (fun ha3 => ?_)
        · refine mv_go' 1 (pc' := 23) (ls' := [mv_R 30, mv_I a, mv_I b]) (st' := [mv_I (-2)]) (M1 := M) rfl ?_
          exact mv_Ru.val (mv_ret (fun n => rfl) ⟨mv_ag.rf, hc⟩) (congrArg mv_I (by unfold sp_unr; repeat (first | omega | split)))
        · refine mv_go' 3 (pc' := if b < 10000 then 24 else 21) (ls' := [mv_R 30, mv_I a, mv_I b]) (st' := []) (M1 := M) rfl ?_
          refine mv_sp' (fun ha4 => ?_) (fun ha4 => ?_)
          · refine mv_go' 2 (pc' := 28) (ls' := [mv_R 30, mv_I a, mv_I b]) (st' := [mv_I (M 30 9)]) (M1 := M) rfl ?_
            have hr13 := sp_ok_s9 ho
            rw [show M 30 9 = V 0 9 from by exact sp_c_s9 hc]
            refine mv_go' 2 (pc' := if (V 0 9) < 6 then 36 else 33) (ls' := [mv_R 30, mv_I a, mv_I b]) (st' := []) (M1 := M) rfl ?_
            refine mv_ff' (by omega) ?_
            refine mv_go' 1 (pc' := 35) (ls' := [mv_R 30, mv_I a, mv_I b]) (st' := [mv_I (-4)]) (M1 := M) rfl ?_
            exact mv_Ru.val (mv_ret (fun n => rfl) ⟨mv_ag.rf, hc⟩) (congrArg mv_I (by unfold sp_unr; repeat (first | omega | split)))
          · refine mv_go' 1 (pc' := 23) (ls' := [mv_R 30, mv_I a, mv_I b]) (st' := [mv_I (-2)]) (M1 := M) rfl ?_
            exact mv_Ru.val (mv_ret (fun n => rfl) ⟨mv_ag.rf, hc⟩) (congrArg mv_I (by unfold sp_unr; repeat (first | omega | split)))
      · refine mv_go' 1 (pc' := 23) (ls' := [mv_R 30, mv_I a, mv_I b]) (st' := [mv_I (-2)]) (M1 := M) rfl ?_
        exact mv_Ru.val (mv_ret (fun n => rfl) ⟨mv_ag.rf, hc⟩) (congrArg mv_I (by unfold sp_unr; repeat (first | omega | split)))
theorem sp_muni {V M : mv_M} {a b : Int} (hm : sp_m M V) (ho : sp_ok V) : mv_Ru 1 142 0 [mv_R 100, mv_I a, mv_I b] [] M (mv_I (sp_unr V a b)) (fun M1 => (mv_ag [100, 102, 103, 105] M M1 ∧ ∀ j, j ≠ 1 → M1 100 j = M 100 j) ∧ sp_m M1 (sp_unV V a b)) := by
  have h9 := sp_ok_s9 ho
  by_cases q : ((0 ≤ a ∧ a ≤ 59) ∧ (0 ≤ b ∧ b ≤ 9999)) ∧ V 0 9 < 6
  · have e1 : sp_unV V a b = sp_unc V (V 0 9).toNat a b := if_pos q
    have e2 : sp_unr V a b = ((V 0 9).toNat : Int) := by unfold sp_unr; rw [if_pos q.1, if_pos q.2]; omega
    rw [e1, e2]
    exact sp_muni1 hm ho (by omega) (by omega) q.1.1 q.1.2
  · have e1 : sp_unV V a b = V := if_neg q
    rw [e1]
    refine mv_go' 3 (pc' := 4) (ls' := [mv_R 100, mv_I a, mv_I b]) (st' := [mv_I 59, mv_I 0, mv_I a]) (M1 := M) rfl ?_
    by_cases ha5 : (0 : Int) ≤ a ∧ a ≤ (59 : Int)
    · refine mv_callP (st2 := [mv_I 1]) rfl (Or.inr rfl) rfl rfl rfl (sp_min_t ha5) (by first | decide | omega) ?_
      refine mv_go' 1 (pc' := if 1 = 0 then 21 else 10) (ls' := [mv_R 100, mv_I a, mv_I b]) (st' := []) (M1 := M) rfl ?_
      refine mv_ff' (by first | decide | omega) ?_
      refine mv_go' 3 (pc' := 15) (ls' := [mv_R 100, mv_I a, mv_I b]) (st' := [mv_I 9999, mv_I 0, mv_I b]) (M1 := M) rfl ?_
      by_cases ha6 : (0 : Int) ≤ b ∧ b ≤ (9999 : Int)
      · refine mv_callP (st2 := [mv_I 1]) rfl (Or.inr rfl) rfl rfl rfl (sp_min_t ha6) (by first | decide | omega) ?_
        refine mv_go' 1 (pc' := if 1 = 0 then 21 else 24) (ls' := [mv_R 100, mv_I a, mv_I b]) (st' := []) (M1 := M) rfl ?_
        refine mv_ff' (by first | decide | omega) ?_
        refine mv_go' 2 (pc' := 28) (ls' := [mv_R 100, mv_I a, mv_I b]) (st' := [mv_I (M 100 1)]) (M1 := M) rfl ?_
        have hr15 := sp_ok_s9 ho
        rw [show M 100 1 = V 0 9 from by exact sp_m_s9 hm]
        refine mv_go' 2 (pc' := if (V 0 9) = 6 then 33 else 36) (ls' := [mv_R 100, mv_I a, mv_I b]) (st' := []) (M1 := M) rfl ?_
        refine mv_tt' (by omega) ?_
        refine mv_go' 1 (pc' := 35) (ls' := [mv_R 100, mv_I a, mv_I b]) (st' := [mv_I (-4)]) (M1 := M) rfl ?_
        exact mv_Ru.val (mv_ret (fun n => rfl) ⟨⟨mv_ag.rf, fun _ _ => rfl⟩, hm⟩) (congrArg mv_I (by unfold sp_unr; repeat (first | omega | split)))
      · refine mv_callP (st2 := [mv_I 0]) rfl (Or.inr rfl) rfl rfl rfl (sp_min_f ha6) (by first | decide | omega) ?_
        refine mv_go' 1 (pc' := if 0 = 0 then 21 else 24) (ls' := [mv_R 100, mv_I a, mv_I b]) (st' := []) (M1 := M) rfl ?_
        refine mv_tt' (by first | decide | omega) ?_
        refine mv_go' 1 (pc' := 23) (ls' := [mv_R 100, mv_I a, mv_I b]) (st' := [mv_I (-2)]) (M1 := M) rfl ?_
        exact mv_Ru.val (mv_ret (fun n => rfl) ⟨⟨mv_ag.rf, fun _ _ => rfl⟩, hm⟩) (congrArg mv_I (by unfold sp_unr; repeat (first | omega | split)))
    · refine mv_callP (st2 := [mv_I 0]) rfl (Or.inr rfl) rfl rfl rfl (sp_min_f ha5) (by first | decide | omega) ?_
      refine mv_go' 1 (pc' := if 0 = 0 then 21 else 10) (ls' := [mv_R 100, mv_I a, mv_I b]) (st' := []) (M1 := M) rfl ?_
      refine mv_tt' (by first | decide | omega) ?_
      refine mv_go' 1 (pc' := 23) (ls' := [mv_R 100, mv_I a, mv_I b]) (st' := [mv_I (-2)]) (M1 := M) rfl ?_
      exact mv_Ru.val (mv_ret (fun n => rfl) ⟨⟨mv_ag.rf, fun _ _ => rfl⟩, hm⟩) (congrArg mv_I (by unfold sp_unr; repeat (first | omega | split)))
theorem sp_ok_unV {V : mv_M} (h : sp_ok V) (a b : Int) : sp_ok (sp_unV V a b) := by
  have h9 := sp_ok_s9 h
  by_cases q : ((0 ≤ a ∧ a ≤ 59) ∧ (0 ≤ b ∧ b ≤ 9999)) ∧ V 0 9 < 6
  · rw [show sp_unV V a b = sp_unc V (V 0 9).toNat a b from if_pos q]
    exact sp_ok_unc h (by omega) (by omega) q.1.2.1 q.1.1.1 (by omega)
  · rw [show sp_unV V a b = V from if_neg q]; exact h
/-- what stays: scalars, and the uncles that are there -/
def sp_ext (V V2 : mv_M) : Prop := (V2 0 8 = V 0 8 ∧ V2 0 10 = V 0 10 ∧ V2 0 11 = V 0 11) ∧ V 0 9 ≤ V2 0 9 ∧ ∀ u : Nat, (u : Int) < V 0 9 → V2 4 u = V 4 u ∧ V2 5 u = V 5 u
theorem sp_ext.tr {V V2 V3 : mv_M} (h : sp_ext V V2) (h2 : sp_ext V2 V3) : sp_ext V V3 :=
  ⟨⟨h2.1.1.trans h.1.1, h2.1.2.1.trans h.1.2.1, h2.1.2.2.trans h.1.2.2⟩, Int.le_trans h.2.1 h2.2.1, fun u hu => ⟨(h2.2.2 u (Int.lt_of_lt_of_le hu h.2.1)).1.trans (h.2.2 u hu).1, (h2.2.2 u (Int.lt_of_lt_of_le hu h.2.1)).2.trans (h.2.2 u hu).2⟩⟩
theorem sp_ext_unV {V : mv_M} (h : sp_ok V) (a b : Int) : sp_ext V (sp_unV V a b) := by
  have h9 := sp_ok_s9 h
  by_cases q : ((0 ≤ a ∧ a ≤ 59) ∧ (0 ≤ b ∧ b ≤ 9999)) ∧ V 0 9 < 6
  · rw [show sp_unV V a b = sp_unc V (V 0 9).toNat a b from if_pos q]
    refine ⟨⟨rfl, rfl, rfl⟩, by show V 0 9 ≤ ((V 0 9).toNat : Int) + 1; omega, fun u hu => ⟨mv_up_n _ _ (by omega), mv_up_n _ _ (by omega)⟩⟩
  · rw [show sp_unV V a b = V from if_neg q]; exact ⟨⟨rfl, rfl, rfl⟩, Int.le_refl _, fun u hu => ⟨rfl, rfl⟩⟩
def sp_ubV (V : mv_M) (f : Nat → Int) : Nat → mv_M
  | 0 => V
  | k + 1 => sp_unV (sp_ubV V f k) (f (2 * k)) (f (2 * k + 1))
def sp_ubC (V : mv_M) (f : Nat → Int) : Nat → Int
  | 0 => 0
  | k + 1 => sp_ubC V f k + (if sp_unr (sp_ubV V f k) (f (2 * k)) (f (2 * k + 1)) < 0 then 0 else 1)
theorem sp_ok_ubV {V : mv_M} (h : sp_ok V) (f : Nat → Int) : ∀ k, sp_ok (sp_ubV V f k)
  | 0 => h
  | k + 1 => sp_ok_unV (sp_ok_ubV h f k) _ _
theorem sp_ext_ubV {V : mv_M} (h : sp_ok V) (f : Nat → Int) : ∀ k, sp_ext V (sp_ubV V f k)
  | 0 => ⟨⟨rfl, rfl, rfl⟩, Int.le_refl _, fun u hu => ⟨rfl, rfl⟩⟩
  | k + 1 => (sp_ext_ubV h f k).tr (sp_ext_unV (sp_ok_ubV h f k) _ _)
theorem sp_ubC_b (V : mv_M) (f : Nat → Int) : ∀ k : Nat, 0 ≤ sp_ubC V f k ∧ sp_ubC V f k ≤ k
  | 0 => ⟨Int.le_refl _, Int.le_refl _⟩
  | k + 1 => by
    have h := sp_ubC_b V f k
    simp only [sp_ubC]
    split <;> omega
