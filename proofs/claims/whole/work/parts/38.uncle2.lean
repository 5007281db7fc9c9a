/-! uncle -/
theorem sp_k6 (a b : Int) : sp_call 67 142 [mv_I a, mv_I b] [mv_I a, mv_I b] := by
  refine sp_mk (lc := [mv_R 0, mv_I a, mv_I b]) (lm := [mv_R 100, mv_I a, mv_I b]) rfl rfl (fun M hI => ?_)
  obtain ⟨V, P, n, B, K, t, h⟩ := hI
  have h' := h
  obtain ⟨⟨hc, hm, ho⟩, ⟨hy, hl, hn1, hn⟩, ⟨hct, hmt, hn7, hn12⟩, _⟩ := h'
  have h9 := sp_ok_s9 ho
  obtain ⟨u, hu9⟩ : ∃ u : Nat, V 0 9 = (u : Int) := ⟨(V 0 9).toNat, by omega⟩
  by_cases qa : 0 ≤ a ∧ a ≤ 59
  · by_cases qb : 0 ≤ b ∧ b ≤ 9999
    · by_cases q6 : u < 6
      · have td := sp_td qa.1
        have tm := sp_tm qa.1
        have hx : mv_Ru 19 45 0 [mv_R 30, mv_I a, mv_I b] [] M (mv_I (u : Int)) (fun M1 => mv_ag [30, 33, 34, 35] M M1 ∧ sp_c 30 M1 (sp_unc V u a b)) := by
          refine mv_go' 2 (pc' := if a < 0 then 21 else 4) (ls' := [mv_R 30, mv_I a, mv_I b]) (st' := []) (M1 := M) rfl ?_
          refine mv_ff' (by omega) ?_
          refine mv_go' 3 (pc' := if a < 60 then 10 else 21) (ls' := [mv_R 30, mv_I a, mv_I b]) (st' := []) (M1 := M) rfl ?_
          refine mv_tt' (by omega) ?_
          refine mv_go' 2 (pc' := if b < 0 then 21 else 14) (ls' := [mv_R 30, mv_I a, mv_I b]) (st' := []) (M1 := M) rfl ?_
          refine mv_ff' (by omega) ?_
          refine mv_go' 3 (pc' := if b < 10000 then 24 else 21) (ls' := [mv_R 30, mv_I a, mv_I b]) (st' := []) (M1 := M) rfl ?_
          refine mv_tt' (by omega) ?_
          refine mv_go' 2 (pc' := 28) (ls' := [mv_R 30, mv_I a, mv_I b]) (st' := [mv_I (M 30 9)]) (M1 := M) rfl ?_
          have hr1 := sp_ok_s9 ho
          rw [show M 30 9 = V 0 9 from by exact sp_c_s9 hc]
          rw [show V 0 9 = (u : Int) from by exact hu9]
          refine mv_go' 2 (pc' := if (u : Int) < 6 then 36 else 33) (ls' := [mv_R 30, mv_I a, mv_I b]) (st' := []) (M1 := M) rfl ?_
          refine mv_tt' (by omega) ?_
          refine mv_go' 4 (pc' := 44) (ls' := [mv_R 30, mv_I a, mv_I b]) (st' := [mv_I (M 30 9), mv_R 33]) (M1 := M) rfl ?_
          have hr3 := sp_ok_s9 ho
          rw [show M 30 9 = V 0 9 from by exact sp_c_s9 hc]
          rw [show V 0 9 = (u : Int) from by exact hu9]
          refine mv_go' 1 (pc' := 45) (ls' := [mv_R 30, mv_I a, mv_I b]) (st' := [mv_I b, mv_I (u : Int), mv_R 33]) (M1 := M) rfl ?_
          refine mv_call (st2 := []) rfl (Or.inr rfl) rfl rfl rfl (sp_cpd33 qb.1 qb.2 q6) (by first | decide | omega) (fun M1 h1 => ?_)
          have hc1 : M1 30 9 = (u : Int) := by rw [h1.1 30 (by decide), sp_c_s9 hc, hu9]
          refine mv_go' 4 (pc' := 56) (ls' := [mv_R 30, mv_I a, mv_I b]) (st' := [mv_I (M1 30 9), mv_R 34]) (M1 := M1) rfl ?_
          rw [show M1 30 9 = (u : Int) from by exact hc1]
          refine mv_go' 3 (pc' := if 10 = 0 then mv_bad else 60) (ls' := [mv_R 30, mv_I a, mv_I b]) (st' := [mv_I (mv_w (a.tdiv 10)), mv_I (u : Int), mv_R 34]) (M1 := M1) rfl ?_
          refine mv_ff' (by first | omega | decide) ?_
          refine mv_go' 1 (pc' := if 0 ≤ (u : Int) ∧ (u : Int) < 6 then 61 else mv_bad) (ls' := [mv_R 30, mv_I a, mv_I b]) (st' := []) (M1 := (mv_st M1 34 (mv_up (M1 34) u (mv_w (a.tdiv 10))))) rfl ?_
          refine mv_tt' (by first | omega | decide) ?_
          refine mv_go' 4 (pc' := 69) (ls' := [mv_R 30, mv_I a, mv_I b]) (st' := [mv_I (M1 30 9), mv_R 35]) (M1 := (mv_st M1 34 (mv_up (M1 34) u (mv_w (a.tdiv 10))))) rfl ?_
          rw [show M1 30 9 = (u : Int) from by exact hc1]
          refine mv_go' 3 (pc' := if 10 = 0 then mv_bad else 73) (ls' := [mv_R 30, mv_I a, mv_I b]) (st' := [mv_I (mv_w (a.tmod 10)), mv_I (u : Int), mv_R 35]) (M1 := (mv_st M1 34 (mv_up (M1 34) u (mv_w (a.tdiv 10))))) rfl ?_
          refine mv_ff' (by first | omega | decide) ?_
          refine mv_go' 1 (pc' := if 0 ≤ (u : Int) ∧ (u : Int) < 6 then 74 else mv_bad) (ls' := [mv_R 30, mv_I a, mv_I b]) (st' := []) (M1 := (mv_st (mv_st M1 34 (mv_up (M1 34) u (mv_w (a.tdiv 10)))) 35 (mv_up (M1 35) u (mv_w (a.tmod 10))))) rfl ?_
          refine mv_tt' (by first | omega | decide) ?_
          refine mv_go' 3 (pc' := 79) (ls' := [mv_R 30, mv_I a, mv_I b]) (st' := [mv_I (M1 30 9), mv_R 30]) (M1 := (mv_st (mv_st M1 34 (mv_up (M1 34) u (mv_w (a.tdiv 10)))) 35 (mv_up (M1 35) u (mv_w (a.tmod 10))))) rfl ?_
          rw [show M1 30 9 = (u : Int) from by exact hc1]
          refine mv_go' 3 (pc' := 84) (ls' := [mv_R 30, mv_I a, mv_I b]) (st' := []) (M1 := (mv_st (mv_st (mv_st M1 34 (mv_up (M1 34) u (mv_w (a.tdiv 10)))) 35 (mv_up (M1 35) u (mv_w (a.tmod 10)))) 30 (mv_up (M1 30) 9 (mv_w ((u : Int) + 1))))) rfl ?_
          rw [show mv_w (a.tdiv 10) = a.tdiv 10 from mv_w_id (by omega) (by omega)]
          rw [show mv_w (a.tmod 10) = a.tmod 10 from mv_w_id (by omega) (by omega)]
          rw [show mv_w ((u : Int) + 1) = (u : Int) + 1 from mv_w_id (by omega) (by omega)]
          refine mv_go' 4 (pc' := 90) (ls' := [mv_R 30, mv_I a, mv_I b]) (st' := [mv_I (mv_w (((u : Int) + 1) - 1))]) (M1 := (mv_st (mv_st (mv_st M1 34 (mv_up (M1 34) u (a.tdiv 10))) 35 (mv_up (M1 35) u (a.tmod 10))) 30 (mv_up (M1 30) 9 ((u : Int) + 1)))) rfl ?_
          rw [show mv_w (((u : Int) + 1) - 1) = ((u : Int) + 1) - 1 from mv_w_id (by omega) (by omega)]
          rw [show (u : Int) + 1 - 1 = (u : Int) from by omega]
          refine mv_ret (fun n => rfl) ⟨?_, ?_⟩
          · exact (((h1.1.wd (by decide)).st (by decide)).st (by decide)).st (by decide)
          · exact sp_c_unc hc hu9 (by rw [h1.1 30 (by decide)]; rfl) (h1.1 31 (by decide)) (h1.1 32 (by decide)) h1.2 (by rw [h1.1 34 (by decide)]; rfl) (by rw [h1.1 35 (by decide)]; rfl)
        refine ⟨(u : Int), ?_⟩
        refine mv_go' 4 (pc' := 6) (ls' := [mv_R 0, mv_I a, mv_I b]) (st' := [mv_I b, mv_I a, mv_R 30]) (M1 := M) rfl ?_
        refine mv_call (st2 := [mv_I (u : Int)]) rfl (Or.inl rfl) rfl rfl rfl (hx) (by first | decide | omega) (fun M1 h1 => ?_)
        refine mv_ret (fun n => rfl) ?_
        have hm1 := sp_m_ag2 hm h1.1 (by decide)
        refine mv_go' 3 (pc' := 4) (ls' := [mv_R 100, mv_I a, mv_I b]) (st' := [mv_I 59, mv_I 0, mv_I a]) (M1 := M1) rfl ?_
        refine mv_callP (st2 := [mv_I 1]) rfl (Or.inr rfl) rfl rfl rfl (sp_min_t qa) (by first | decide | omega) ?_
        refine mv_go' 1 (pc' := if 1 = 0 then 21 else 10) (ls' := [mv_R 100, mv_I a, mv_I b]) (st' := []) (M1 := M1) rfl ?_
        refine mv_ff' (by decide) ?_
        refine mv_go' 3 (pc' := 15) (ls' := [mv_R 100, mv_I a, mv_I b]) (st' := [mv_I 9999, mv_I 0, mv_I b]) (M1 := M1) rfl ?_
        refine mv_callP (st2 := [mv_I 1]) rfl (Or.inr rfl) rfl rfl rfl (sp_min_t qb) (by first | decide | omega) ?_
        refine mv_go' 1 (pc' := if 1 = 0 then 21 else 24) (ls' := [mv_R 100, mv_I a, mv_I b]) (st' := []) (M1 := M1) rfl ?_
        refine mv_ff' (by decide) ?_
        refine mv_go' 2 (pc' := 28) (ls' := [mv_R 100, mv_I a, mv_I b]) (st' := [mv_I (M1 100 1)]) (M1 := M1) rfl ?_
        have hr5 := sp_ok_s9 ho
        rw [show M1 100 1 = V 0 9 from by exact sp_m_s9 hm1]
        rw [show V 0 9 = (u : Int) from by exact hu9]
        refine mv_go' 2 (pc' := if (u : Int) = 6 then 33 else 36) (ls' := [mv_R 100, mv_I a, mv_I b]) (st' := []) (M1 := M1) rfl ?_
        refine mv_ff' (by omega) ?_
        refine mv_go' 4 (pc' := 44) (ls' := [mv_R 100, mv_I a, mv_I b]) (st' := [mv_I (M1 100 1), mv_R 102]) (M1 := M1) rfl ?_
        have hr7 := sp_ok_s9 ho
        rw [show M1 100 1 = V 0 9 from by exact sp_m_s9 hm1]
        rw [show V 0 9 = (u : Int) from by exact hu9]
        refine mv_go' 3 (pc' := if 10 = 0 then mv_bad else 48) (ls' := [mv_R 100, mv_I a, mv_I b]) (st' := [mv_I (mv_w (a.tdiv 10)), mv_I (u : Int), mv_R 102]) (M1 := M1) rfl ?_
        refine mv_ff' (by first | omega | decide) ?_
        refine mv_go' 1 (pc' := if 0 ≤ (u : Int) ∧ (u : Int) < 6 then 49 else mv_bad) (ls' := [mv_R 100, mv_I a, mv_I b]) (st' := []) (M1 := (mv_st M1 102 (mv_up (M1 102) u (mv_w (a.tdiv 10))))) rfl ?_
        refine mv_tt' (by first | omega | decide) ?_
        refine mv_go' 4 (pc' := 57) (ls' := [mv_R 100, mv_I a, mv_I b]) (st' := [mv_I (M1 100 1), mv_R 103]) (M1 := (mv_st M1 102 (mv_up (M1 102) u (mv_w (a.tdiv 10))))) rfl ?_
        have hr9 := sp_ok_s9 ho
        rw [show M1 100 1 = V 0 9 from by exact sp_m_s9 hm1]
        rw [show V 0 9 = (u : Int) from by exact hu9]
        refine mv_go' 3 (pc' := if 10 = 0 then mv_bad else 61) (ls' := [mv_R 100, mv_I a, mv_I b]) (st' := [mv_I (mv_w (a.tmod 10)), mv_I (u : Int), mv_R 103]) (M1 := (mv_st M1 102 (mv_up (M1 102) u (mv_w (a.tdiv 10))))) rfl ?_
        refine mv_ff' (by first | omega | decide) ?_
        refine mv_go' 1 (pc' := if 0 ≤ (u : Int) ∧ (u : Int) < 6 then 62 else mv_bad) (ls' := [mv_R 100, mv_I a, mv_I b]) (st' := []) (M1 := (mv_st (mv_st M1 102 (mv_up (M1 102) u (mv_w (a.tdiv 10)))) 103 (mv_up (M1 103) u (mv_w (a.tmod 10))))) rfl ?_
        refine mv_tt' (by first | omega | decide) ?_
        refine mv_go' 3 (pc' := 67) (ls' := [mv_R 100, mv_I a, mv_I b]) (st' := [mv_I (M1 100 1), mv_R 100]) (M1 := (mv_st (mv_st M1 102 (mv_up (M1 102) u (mv_w (a.tdiv 10)))) 103 (mv_up (M1 103) u (mv_w (a.tmod 10))))) rfl ?_
        have hr11 := sp_ok_s9 ho
        rw [show M1 100 1 = V 0 9 from by exact sp_m_s9 hm1]
        rw [show V 0 9 = (u : Int) from by exact hu9]
        refine mv_go' 1 (pc' := 68) (ls' := [mv_R 100, mv_I a, mv_I b]) (st' := [mv_I b, mv_I (u : Int), mv_R 100]) (M1 := (mv_st (mv_st M1 102 (mv_up (M1 102) u (mv_w (a.tdiv 10)))) 103 (mv_up (M1 103) u (mv_w (a.tmod 10))))) rfl ?_
        rw [show mv_w (a.tdiv 10) = a.tdiv 10 from mv_w_id (by omega) (by omega)]
        rw [show mv_w (a.tmod 10) = a.tmod 10 from mv_w_id (by omega) (by omega)]
        obtain ⟨M2, e2⟩ : ∃ M2, M2 = (mv_st (mv_st M1 102 (mv_up (M1 102) u (a.tdiv 10))) 103 (mv_up (M1 103) u (a.tmod 10))) := ⟨_, rfl⟩
        have a2 : mv_ag [102, 103] M1 M2 := by rw [e2]; repeat (first | exact mv_ag.rf | refine mv_ag.st ?_ (by decide))
        have r4 : M2 102 = mv_up (M1 102) u (a.tdiv 10) := by rw [e2]; rfl
        have r5 : M2 103 = mv_up (M1 103) u (a.tmod 10) := by rw [e2]; rfl
        rw [← e2]
        refine mv_call (st2 := []) rfl (Or.inl rfl) rfl rfl rfl (sp_mpd105 qb.1 qb.2 q6) (by first | decide | omega) (fun M3 h3 => ?_)
        have hc3 : M3 100 1 = (u : Int) := by rw [h3.1 100 (by decide), a2 100 (by decide), sp_m_s9 hm1, hu9]
        refine mv_go' 3 (pc' := 76) (ls' := [mv_R 100, mv_I a, mv_I b]) (st' := [mv_I (M3 100 1), mv_R 100]) (M1 := M3) rfl ?_
        rw [show M3 100 1 = (u : Int) from by exact hc3]
        refine mv_go' 3 (pc' := 81) (ls' := [mv_R 100, mv_I a, mv_I b]) (st' := []) (M1 := (mv_st M3 100 (mv_up (M3 100) 1 (mv_w ((u : Int) + 1))))) rfl ?_
        rw [show mv_w ((u : Int) + 1) = (u : Int) + 1 from mv_w_id (by omega) (by omega)]
        refine mv_go' 4 (pc' := 87) (ls' := [mv_R 100, mv_I a, mv_I b]) (st' := [mv_I (mv_w (((u : Int) + 1) - 1))]) (M1 := (mv_st M3 100 (mv_up (M3 100) 1 ((u : Int) + 1)))) rfl ?_
        rw [show mv_w (((u : Int) + 1) - 1) = ((u : Int) + 1) - 1 from mv_w_id (by omega) (by omega)]
        rw [show (u : Int) + 1 - 1 = (u : Int) from by omega]
        have a3 : mv_ag [102, 103, 105] M1 M3 := (a2.wd (by decide)).tr (h3.1.wd (by decide))
        refine mv_ret (fun n => rfl) ⟨sp_unc V u a b, P, n, B, K, t, sp_R_up h ?_ ?_ (sp_ok_unc ho hu9 q6 qb.1 qa.1 (by omega)) hy hl (by rw [hu9]; show (u : Int) ≤ (u : Int) + 1; omega) (fun j hj => ?_) ?_ ?_⟩
        · exact sp_c_ag h1.2 (S := [100, 102, 103, 105]) ((a3.wd (by decide)).st (by decide)) (by decide)
        · exact sp_m_unc hm1 hu9 (by rw [a3 100 (by decide)]; rfl) (a3 104 (by decide)) (a3 106 (by decide)) (h3.2.trans (by rw [a2 105 (by decide)])) ((h3.1 102 (by decide)).trans r4) ((h3.1 103 (by decide)).trans r5)
        · have q : j ≠ u := by omega
          exact ⟨mv_up_n _ _ q, mv_up_n _ _ q⟩
        · exact sp_keep_n (S := [30, 33, 34, 35, 100, 102, 103, 105]) ((h1.1.wd (by decide)).tr ((a3.wd (by decide)).st (by decide))) (by decide)
        · have e : ∀ j, j ≠ 1 → mv_up (M3 100) 1 ((u : Int) + 1) j = M 100 j := fun j hj => by rw [mv_up_n _ _ hj, a3 100 (by decide), h1.1 100 (by decide)]
          exact ⟨e 9 (by decide), e 12 (by decide), e 14 (by decide)⟩
      · have hx : mv_Ru 19 45 0 [mv_R 30, mv_I a, mv_I b] [] M (mv_I (-4)) (fun M1 => M1 = M) := by
          refine mv_go' 2 (pc' := if a < 0 then 21 else 4) (ls' := [mv_R 30, mv_I a, mv_I b]) (st' := []) (M1 := M) rfl ?_
          refine mv_ff' (by omega) ?_
          refine mv_go' 3 (pc' := if a < 60 then 10 else 21) (ls' := [mv_R 30, mv_I a, mv_I b]) (st' := []) (M1 := M) rfl ?_
          refine mv_tt' (by omega) ?_
          refine mv_go' 2 (pc' := if b < 0 then 21 else 14) (ls' := [mv_R 30, mv_I a, mv_I b]) (st' := []) (M1 := M) rfl ?_
          refine mv_ff' (by omega) ?_
          refine mv_go' 3 (pc' := if b < 10000 then 24 else 21) (ls' := [mv_R 30, mv_I a, mv_I b]) (st' := []) (M1 := M) rfl ?_
          refine mv_tt' (by omega) ?_
          refine mv_go' 2 (pc' := 28) (ls' := [mv_R 30, mv_I a, mv_I b]) (st' := [mv_I (M 30 9)]) (M1 := M) rfl ?_
          have hr13 := sp_ok_s9 ho
          rw [show M 30 9 = V 0 9 from by exact sp_c_s9 hc]
          refine mv_go' 2 (pc' := if (V 0 9) < 6 then 36 else 33) (ls' := [mv_R 30, mv_I a, mv_I b]) (st' := []) (M1 := M) rfl ?_
          refine mv_ff' (by omega) ?_
          refine mv_go' 1 (pc' := 35) (ls' := [mv_R 30, mv_I a, mv_I b]) (st' := [mv_I (-4)]) (M1 := M) rfl ?_
          exact mv_ret (fun n => rfl) (rfl)
        refine ⟨-4, ?_⟩
        refine mv_go' 4 (pc' := 6) (ls' := [mv_R 0, mv_I a, mv_I b]) (st' := [mv_I b, mv_I a, mv_R 30]) (M1 := M) rfl ?_
        refine mv_callP (st2 := [mv_I (-4)]) rfl (Or.inl rfl) rfl rfl rfl (hx) (by first | decide | omega) ?_
        refine mv_ret (fun n => rfl) ?_
        refine mv_go' 3 (pc' := 4) (ls' := [mv_R 100, mv_I a, mv_I b]) (st' := [mv_I 59, mv_I 0, mv_I a]) (M1 := M) rfl ?_
        refine mv_callP (st2 := [mv_I 1]) rfl (Or.inr rfl) rfl rfl rfl (sp_min_t qa) (by first | decide | omega) ?_
        refine mv_go' 1 (pc' := if 1 = 0 then 21 else 10) (ls' := [mv_R 100, mv_I a, mv_I b]) (st' := []) (M1 := M) rfl ?_
        refine mv_ff' (by decide) ?_
        refine mv_go' 3 (pc' := 15) (ls' := [mv_R 100, mv_I a, mv_I b]) (st' := [mv_I 9999, mv_I 0, mv_I b]) (M1 := M) rfl ?_
        refine mv_callP (st2 := [mv_I 1]) rfl (Or.inr rfl) rfl rfl rfl (sp_min_t qb) (by first | decide | omega) ?_
        refine mv_go' 1 (pc' := if 1 = 0 then 21 else 24) (ls' := [mv_R 100, mv_I a, mv_I b]) (st' := []) (M1 := M) rfl ?_
        refine mv_ff' (by decide) ?_
        refine mv_go' 2 (pc' := 28) (ls' := [mv_R 100, mv_I a, mv_I b]) (st' := [mv_I (M 100 1)]) (M1 := M) rfl ?_
        have hr15 := sp_ok_s9 ho
        rw [show M 100 1 = V 0 9 from by exact sp_m_s9 hm]
        refine mv_go' 2 (pc' := if (V 0 9) = 6 then 33 else 36) (ls' := [mv_R 100, mv_I a, mv_I b]) (st' := []) (M1 := M) rfl ?_
        refine mv_tt' (by omega) ?_
        refine mv_go' 1 (pc' := 35) (ls' := [mv_R 100, mv_I a, mv_I b]) (st' := [mv_I (-4)]) (M1 := M) rfl ?_
        exact mv_ret (fun n => rfl) (⟨V, P, n, B, K, t, h⟩)
    · have hx : mv_Ru 19 45 0 [mv_R 30, mv_I a, mv_I b] [] M (mv_I (-2)) (fun M1 => M1 = M) := by
        by_cases q0 : b < 0
        · refine mv_go' 2 (pc' := if a < 0 then 21 else 4) (ls' := [mv_R 30, mv_I a, mv_I b]) (st' := []) (M1 := M) rfl ?_
          refine mv_ff' (by omega) ?_
          refine mv_go' 3 (pc' := if a < 60 then 10 else 21) (ls' := [mv_R 30, mv_I a, mv_I b]) (st' := []) (M1 := M) rfl ?_
          refine mv_tt' (by omega) ?_
          refine mv_go' 2 (pc' := if b < 0 then 21 else 14) (ls' := [mv_R 30, mv_I a, mv_I b]) (st' := []) (M1 := M) rfl ?_
          refine mv_tt' (q0) ?_
          refine mv_go' 1 (pc' := 23) (ls' := [mv_R 30, mv_I a, mv_I b]) (st' := [mv_I (-2)]) (M1 := M) rfl ?_
          exact mv_ret (fun n => rfl) (rfl)
        · refine mv_go' 2 (pc' := if a < 0 then 21 else 4) (ls' := [mv_R 30, mv_I a, mv_I b]) (st' := []) (M1 := M) rfl ?_
          refine mv_ff' (by omega) ?_
          refine mv_go' 3 (pc' := if a < 60 then 10 else 21) (ls' := [mv_R 30, mv_I a, mv_I b]) (st' := []) (M1 := M) rfl ?_
          refine mv_tt' (by omega) ?_
          refine mv_go' 2 (pc' := if b < 0 then 21 else 14) (ls' := [mv_R 30, mv_I a, mv_I b]) (st' := []) (M1 := M) rfl ?_
          refine mv_ff' (q0) ?_
          refine mv_go' 3 (pc' := if b < 10000 then 24 else 21) (ls' := [mv_R 30, mv_I a, mv_I b]) (st' := []) (M1 := M) rfl ?_
          refine mv_ff' (by omega) ?_
          refine mv_go' 1 (pc' := 23) (ls' := [mv_R 30, mv_I a, mv_I b]) (st' := [mv_I (-2)]) (M1 := M) rfl ?_
          exact mv_ret (fun n => rfl) (rfl)
      refine ⟨-2, ?_⟩
      refine mv_go' 4 (pc' := 6) (ls' := [mv_R 0, mv_I a, mv_I b]) (st' := [mv_I b, mv_I a, mv_R 30]) (M1 := M) rfl ?_
      refine mv_callP (st2 := [mv_I (-2)]) rfl (Or.inl rfl) rfl rfl rfl (hx) (by first | decide | omega) ?_
      refine mv_ret (fun n => rfl) ?_
      refine mv_go' 3 (pc' := 4) (ls' := [mv_R 100, mv_I a, mv_I b]) (st' := [mv_I 59, mv_I 0, mv_I a]) (M1 := M) rfl ?_
      refine mv_callP (st2 := [mv_I 1]) rfl (Or.inr rfl) rfl rfl rfl (sp_min_t qa) (by first | decide | omega) ?_
      refine mv_go' 1 (pc' := if 1 = 0 then 21 else 10) (ls' := [mv_R 100, mv_I a, mv_I b]) (st' := []) (M1 := M) rfl ?_
      refine mv_ff' (by decide) ?_
      refine mv_go' 3 (pc' := 15) (ls' := [mv_R 100, mv_I a, mv_I b]) (st' := [mv_I 9999, mv_I 0, mv_I b]) (M1 := M) rfl ?_
      refine mv_callP (st2 := [mv_I 0]) rfl (Or.inr rfl) rfl rfl rfl (sp_min_f qb) (by first | decide | omega) ?_
      refine mv_go' 1 (pc' := if 0 = 0 then 21 else 24) (ls' := [mv_R 100, mv_I a, mv_I b]) (st' := []) (M1 := M) rfl ?_
      refine mv_tt' (rfl) ?_
      refine mv_go' 1 (pc' := 23) (ls' := [mv_R 100, mv_I a, mv_I b]) (st' := [mv_I (-2)]) (M1 := M) rfl ?_
      exact mv_ret (fun n => rfl) (⟨V, P, n, B, K, t, h⟩)
  · have hx : mv_Ru 19 45 0 [mv_R 30, mv_I a, mv_I b] [] M (mv_I (-2)) (fun M1 => M1 = M) := by
      by_cases q0 : a < 0
      · refine mv_go' 2 (pc' := if a < 0 then 21 else 4) (ls' := [mv_R 30, mv_I a, mv_I b]) (st' := []) (M1 := M) rfl ?_
        refine mv_tt' (q0) ?_
        refine mv_go' 1 (pc' := 23) (ls' := [mv_R 30, mv_I a, mv_I b]) (st' := [mv_I (-2)]) (M1 := M) rfl ?_
        exact mv_ret (fun n => rfl) (rfl)
      · refine mv_go' 2 (pc' := if a < 0 then 21 else 4) (ls' := [mv_R 30, mv_I a, mv_I b]) (st' := []) (M1 := M) rfl ?_
        refine mv_ff' (q0) ?_
        refine mv_go' 3 (pc' := if a < 60 then 10 else 21) (ls' := [mv_R 30, mv_I a, mv_I b]) (st' := []) (M1 := M) rfl ?_
        refine mv_ff' (by omega) ?_
        refine mv_go' 1 (pc' := 23) (ls' := [mv_R 30, mv_I a, mv_I b]) (st' := [mv_I (-2)]) (M1 := M) rfl ?_
        exact mv_ret (fun n => rfl) (rfl)
    refine ⟨-2, ?_⟩
    refine mv_go' 4 (pc' := 6) (ls' := [mv_R 0, mv_I a, mv_I b]) (st' := [mv_I b, mv_I a, mv_R 30]) (M1 := M) rfl ?_
    refine mv_callP (st2 := [mv_I (-2)]) rfl (Or.inl rfl) rfl rfl rfl (hx) (by first | decide | omega) ?_
    refine mv_ret (fun n => rfl) ?_
    refine mv_go' 3 (pc' := 4) (ls' := [mv_R 100, mv_I a, mv_I b]) (st' := [mv_I 59, mv_I 0, mv_I a]) (M1 := M) rfl ?_
    refine mv_callP (st2 := [mv_I 0]) rfl (Or.inr rfl) rfl rfl rfl (sp_min_f qa) (by first | decide | omega) ?_
    refine mv_go' 1 (pc' := if 0 = 0 then 21 else 10) (ls' := [mv_R 100, mv_I a, mv_I b]) (st' := []) (M1 := M) rfl ?_
    refine mv_tt' (rfl) ?_
    refine mv_go' 1 (pc' := 23) (ls' := [mv_R 100, mv_I a, mv_I b]) (st' := [mv_I (-2)]) (M1 := M) rfl ?_
    exact mv_ret (fun n => rfl) (⟨V, P, n, B, K, t, h⟩)
