/-! told -/
theorem sp_k8 (a b : Int) : sp_call 69 148 [mv_I a, mv_I b] [mv_I a, mv_I b] := by
  refine sp_mkW (lc := [mv_R 0, mv_I a, mv_I b]) (lm := [mv_R 100, mv_I a, mv_I b, mv_U]) rfl rfl (fun M hI => ?_)
  have hI2 := hI
  obtain ⟨V, P, n, B, K, t, h⟩ := hI2
  have h' := h
  obtain ⟨⟨hc, hm, ho⟩, _⟩ := h'
  have h8 := sp_ok_s8 ho
  have h9 := sp_ok_s9 ho
  by_cases h0 : 0 ≤ a
  · obtain ⟨c, rfl⟩ : ∃ c : Nat, a = (c : Int) := ⟨a.toNat, by omega⟩
    refine mv_goW 2 (pc' := if b < 0 then 10 else 4) (ls' := [mv_R 0, mv_I (c : Int), mv_I b]) (st' := []) (M1 := M) rfl ?_
    refine mv_spW (fun ha1 => ?_) (fun ha1 => ?_)
    · refine mv_goW 1 (pc' := 12) (ls' := [mv_R 0, mv_I (c : Int), mv_I b]) (st' := [mv_I (-7)]) (M1 := M) rfl ?_
      refine mv_retW (fun n => rfl) ⟨_, rfl, ?_⟩
      refine mv_goW 3 (pc' := 4) (ls' := [mv_R 100, mv_I (c : Int), mv_I b, mv_U]) (st' := [mv_I 6, mv_I 0, mv_I b]) (M1 := M) rfl ?_
      have ha2 : ¬ (0 ≤ b ∧ b ≤ 6) := by omega
      refine mv_callPW (st2 := [mv_I 0]) rfl (Or.inr rfl) rfl rfl rfl (sp_min_f ha2) (by first | decide | omega) ?_
      refine mv_goW 1 (pc' := if 0 = 0 then 10 else 13) (ls' := [mv_R 100, mv_I (c : Int), mv_I b, mv_U]) (st' := []) (M1 := M) rfl ?_
      refine mv_ttW (by decide) ?_
      refine mv_goW 1 (pc' := 12) (ls' := [mv_R 100, mv_I (c : Int), mv_I b, mv_U]) (st' := [mv_I (-7)]) (M1 := M) rfl ?_
      exact mv_retW (fun n => rfl) ⟨congrArg mv_I (by first | rfl | omega), hI⟩
    · refine mv_goW 3 (pc' := if 6 < b then 10 else 13) (ls' := [mv_R 0, mv_I (c : Int), mv_I b]) (st' := []) (M1 := M) rfl ?_
      refine mv_spW (fun ha3 => ?_) (fun ha3 => ?_)
      · refine mv_goW 1 (pc' := 12) (ls' := [mv_R 0, mv_I (c : Int), mv_I b]) (st' := [mv_I (-7)]) (M1 := M) rfl ?_
        refine mv_retW (fun n => rfl) ⟨_, rfl, ?_⟩
        refine mv_goW 3 (pc' := 4) (ls' := [mv_R 100, mv_I (c : Int), mv_I b, mv_U]) (st' := [mv_I 6, mv_I 0, mv_I b]) (M1 := M) rfl ?_
        have ha4 : ¬ (0 ≤ b ∧ b ≤ 6) := by omega
        refine mv_callPW (st2 := [mv_I 0]) rfl (Or.inr rfl) rfl rfl rfl (sp_min_f ha4) (by first | decide | omega) ?_
        refine mv_goW 1 (pc' := if 0 = 0 then 10 else 13) (ls' := [mv_R 100, mv_I (c : Int), mv_I b, mv_U]) (st' := []) (M1 := M) rfl ?_
        refine mv_ttW (by decide) ?_
        refine mv_goW 1 (pc' := 12) (ls' := [mv_R 100, mv_I (c : Int), mv_I b, mv_U]) (st' := [mv_I (-7)]) (M1 := M) rfl ?_
        exact mv_retW (fun n => rfl) ⟨congrArg mv_I (by first | rfl | omega), hI⟩
      · refine mv_goW 3 (pc' := if b < 2 then 18 else 32) (ls' := [mv_R 0, mv_I (c : Int), mv_I b]) (st' := []) (M1 := M) rfl ?_
        refine mv_spW (fun ha5 => ?_) (fun ha5 => ?_)
        · refine mv_goW 3 (pc' := 23) (ls' := [mv_R 0, mv_I (c : Int), mv_I b]) (st' := [mv_I (c : Int), mv_R 30]) (M1 := M) rfl ?_
          by_cases ha6 : 0 ≤ (c : Int) ∧ (c : Int) < V 0 8
          · refine mv_callPW (st2 := [mv_I 1]) rfl (Or.inl rfl) rfl rfl rfl (sp_cisChild_t_30 hc ho ha6) (by first | decide | omega) ?_
            refine mv_goW 1 (pc' := if 1 = 0 then 29 else 46) (ls' := [mv_R 0, mv_I (c : Int), mv_I b]) (st' := []) (M1 := M) rfl ?_
            refine mv_ffW (by decide) ?_
            refine mv_goW 2 (pc' := mv_swg [(0, 84), (1, 96), (2, 106), (3, 118), (4, 128), (5, 138)] 147 b) (ls' := [mv_R 0, mv_I (c : Int), mv_I b]) (st' := []) (M1 := M) rfl ?_
            by_cases ha7 : b = 0
            · refine mv_pcqW (pc2 := 84) (by rw [ha7]; rfl) ?_
              refine mv_goW 4 (pc' := 92) (ls' := [mv_R 0, mv_I (c : Int), mv_I b]) (st' := [mv_I (c : Int), mv_R 31]) (M1 := M) rfl ?_
              refine mv_callPW (st2 := [mv_I (sp_dg (V 1) c)]) rfl (Or.inr rfl) rfl rfl rfl (sp_cdg31 (sp_f31 hc ho) (by omega)) (by first | decide | omega) ?_
              refine mv_retW (fun n => rfl) ⟨_, rfl, ?_⟩
              refine mv_goW 3 (pc' := 4) (ls' := [mv_R 100, mv_I (c : Int), mv_I b, mv_U]) (st' := [mv_I 6, mv_I 0, mv_I b]) (M1 := M) rfl ?_
              have ha8 : 0 ≤ b ∧ b ≤ 6 := by omega
              refine mv_callPW (st2 := [mv_I 1]) rfl (Or.inr rfl) rfl rfl rfl (sp_min_t ha8) (by first | decide | omega) ?_
              refine mv_goW 1 (pc' := if 1 = 0 then 10 else 13) (ls' := [mv_R 100, mv_I (c : Int), mv_I b, mv_U]) (st' := []) (M1 := M) rfl ?_
              refine mv_ffW (by decide) ?_
              refine mv_goW 3 (pc' := if b < 2 then 18 else 26) (ls' := [mv_R 100, mv_I (c : Int), mv_I b, mv_U]) (st' := []) (M1 := M) rfl ?_
              refine mv_ttW (by omega) ?_
              refine mv_goW 2 (pc' := 20) (ls' := [mv_R 100, mv_I (c : Int), mv_I b, mv_U]) (st' := [mv_I (c : Int), mv_R 100]) (M1 := M) rfl ?_
              have ha9 : 0 ≤ (c : Int) ∧ (c : Int) < V 0 8 := by omega
              refine mv_callPW (st2 := [mv_I 1]) rfl (Or.inl rfl) rfl rfl rfl (sp_misChild_t hm ho ha9) (by first | decide | omega) ?_
              refine mv_goW 4 (pc' := if 1 = 0 then 36 else 39) (ls' := [mv_R 100, mv_I (c : Int), mv_I b, mv_I 1]) (st' := []) (M1 := M) rfl ?_
              refine mv_ffW (by decide) ?_
              refine mv_goW 2 (pc' := mv_swg [(0, 80), (1, 86), (2, 93), (3, 99), (4, 106), (5, 113)] 119 b) (ls' := [mv_R 100, mv_I (c : Int), mv_I b, mv_I 1]) (st' := []) (M1 := M) rfl ?_
              refine mv_pcqW (pc2 := 80) (by rw [show b = 0 from by omega]; rfl) ?_
              refine mv_goW 2 (pc' := 82) (ls' := [mv_R 100, mv_I (c : Int), mv_I b, mv_I 1]) (st' := [mv_I (c : Int), mv_R 100]) (M1 := M) rfl ?_
              refine mv_callPW (st2 := [mv_I (sp_dg (V 1) c)]) rfl (Or.inl rfl) rfl rfl rfl (sp_mdg104 (sp_f104 hm ho) (by omega)) (by first | decide | omega) ?_
              exact mv_retW (fun n => rfl) ⟨congrArg mv_I (by first | rfl | omega), hI⟩
            refine mv_pcqW (pc2 := 96) (by rw [show b = 1 from by omega]; rfl) ?_
            refine mv_goW 5 (pc' := if 0 ≤ (c : Int) ∧ (c : Int) < 6 then 105 else mv_bad) (ls' := [mv_R 0, mv_I (c : Int), mv_I b]) (st' := [mv_I (M 32 c)]) (M1 := M) rfl ?_
            refine mv_ttW (by omega) ?_
            have hr1 := sp_ok_2 ho c (by omega)
            rw [show M 32 c = V 2 c from by exact sp_c_2 hc c (by omega)]
            refine mv_retW (fun n => rfl) ⟨_, rfl, ?_⟩
            refine mv_goW 3 (pc' := 4) (ls' := [mv_R 100, mv_I (c : Int), mv_I b, mv_U]) (st' := [mv_I 6, mv_I 0, mv_I b]) (M1 := M) rfl ?_
            have ha10 : 0 ≤ b ∧ b ≤ 6 := by omega
            refine mv_callPW (st2 := [mv_I 1]) rfl (Or.inr rfl) rfl rfl rfl (sp_min_t ha10) (by first | decide | omega) ?_
            refine mv_goW 1 (pc' := if 1 = 0 then 10 else 13) (ls' := [mv_R 100, mv_I (c : Int), mv_I b, mv_U]) (st' := []) (M1 := M) rfl ?_
            refine mv_ffW (by decide) ?_
            refine mv_goW 3 (pc' := if b < 2 then 18 else 26) (ls' := [mv_R 100, mv_I (c : Int), mv_I b, mv_U]) (st' := []) (M1 := M) rfl ?_
            refine mv_ttW (by omega) ?_
            refine mv_goW 2 (pc' := 20) (ls' := [mv_R 100, mv_I (c : Int), mv_I b, mv_U]) (st' := [mv_I (c : Int), mv_R 100]) (M1 := M) rfl ?_
            have ha11 : 0 ≤ (c : Int) ∧ (c : Int) < V 0 8 := by omega
            refine mv_callPW (st2 := [mv_I 1]) rfl (Or.inl rfl) rfl rfl rfl (sp_misChild_t hm ho ha11) (by first | decide | omega) ?_
            refine mv_goW 4 (pc' := if 1 = 0 then 36 else 39) (ls' := [mv_R 100, mv_I (c : Int), mv_I b, mv_I 1]) (st' := []) (M1 := M) rfl ?_
            refine mv_ffW (by decide) ?_
            refine mv_goW 2 (pc' := mv_swg [(0, 80), (1, 86), (2, 93), (3, 99), (4, 106), (5, 113)] 119 b) (ls' := [mv_R 100, mv_I (c : Int), mv_I b, mv_I 1]) (st' := []) (M1 := M) rfl ?_
            refine mv_pcqW (pc2 := 86) (by rw [show b = 1 from by omega]; rfl) ?_
            refine mv_goW 4 (pc' := if 0 ≤ (c : Int) ∧ (c : Int) < 6 then 92 else mv_bad) (ls' := [mv_R 100, mv_I (c : Int), mv_I b, mv_I 1]) (st' := [mv_I (M 106 c)]) (M1 := M) rfl ?_
            refine mv_ttW (by omega) ?_
            have hr3 := sp_ok_2 ho c (by omega)
            rw [show M 106 c = V 2 c from by exact sp_m_2 hm c (by omega)]
            exact mv_retW (fun n => rfl) ⟨congrArg mv_I (by first | rfl | omega), hI⟩
          · refine mv_callPW (st2 := [mv_I 0]) rfl (Or.inl rfl) rfl rfl rfl (sp_cisChild_f_30 hc ho ha6) (by first | decide | omega) ?_
            refine mv_goW 1 (pc' := if 0 = 0 then 29 else 46) (ls' := [mv_R 0, mv_I (c : Int), mv_I b]) (st' := []) (M1 := M) rfl ?_
            refine mv_ttW (by decide) ?_
            refine mv_goW 2 (pc' := 45) (ls' := [mv_R 0, mv_I (c : Int), mv_I b]) (st' := [mv_I (-5)]) (M1 := M) rfl ?_
            refine mv_retW (fun n => rfl) ⟨_, rfl, ?_⟩
            refine mv_goW 3 (pc' := 4) (ls' := [mv_R 100, mv_I (c : Int), mv_I b, mv_U]) (st' := [mv_I 6, mv_I 0, mv_I b]) (M1 := M) rfl ?_
            have ha12 : 0 ≤ b ∧ b ≤ 6 := by omega
            refine mv_callPW (st2 := [mv_I 1]) rfl (Or.inr rfl) rfl rfl rfl (sp_min_t ha12) (by first | decide | omega) ?_
            refine mv_goW 1 (pc' := if 1 = 0 then 10 else 13) (ls' := [mv_R 100, mv_I (c : Int), mv_I b, mv_U]) (st' := []) (M1 := M) rfl ?_
            refine mv_ffW (by decide) ?_
            refine mv_goW 3 (pc' := if b < 2 then 18 else 26) (ls' := [mv_R 100, mv_I (c : Int), mv_I b, mv_U]) (st' := []) (M1 := M) rfl ?_
            refine mv_ttW (by omega) ?_
            refine mv_goW 2 (pc' := 20) (ls' := [mv_R 100, mv_I (c : Int), mv_I b, mv_U]) (st' := [mv_I (c : Int), mv_R 100]) (M1 := M) rfl ?_
            have ha13 : ¬ (0 ≤ (c : Int) ∧ (c : Int) < V 0 8) := by omega
            refine mv_callPW (st2 := [mv_I 0]) rfl (Or.inl rfl) rfl rfl rfl (sp_misChild_f hm ho ha13) (by first | decide | omega) ?_
            refine mv_goW 4 (pc' := if 0 = 0 then 36 else 39) (ls' := [mv_R 100, mv_I (c : Int), mv_I b, mv_I 0]) (st' := []) (M1 := M) rfl ?_
            refine mv_ttW (by decide) ?_
            refine mv_goW 1 (pc' := 38) (ls' := [mv_R 100, mv_I (c : Int), mv_I b, mv_I 0]) (st' := [mv_I (-5)]) (M1 := M) rfl ?_
            exact mv_retW (fun n => rfl) ⟨congrArg mv_I (by first | rfl | omega), hI⟩
        · refine mv_goW 3 (pc' := 37) (ls' := [mv_R 0, mv_I (c : Int), mv_I b]) (st' := [mv_I (c : Int), mv_R 30]) (M1 := M) rfl ?_
          by_cases ha14 : 0 ≤ (c : Int) ∧ (c : Int) < V 0 9
          · refine mv_callPW (st2 := [mv_I 1]) rfl (Or.inl rfl) rfl rfl rfl (sp_cisUncle_t_30 hc ho ha14) (by first | decide | omega) ?_
            refine mv_goW 1 (pc' := if 1 = 0 then 43 else 46) (ls' := [mv_R 0, mv_I (c : Int), mv_I b]) (st' := []) (M1 := M) rfl ?_
            refine mv_ffW (by decide) ?_
            refine mv_goW 2 (pc' := mv_swg [(0, 84), (1, 96), (2, 106), (3, 118), (4, 128), (5, 138)] 147 b) (ls' := [mv_R 0, mv_I (c : Int), mv_I b]) (st' := []) (M1 := M) rfl ?_
            by_cases ha15 : b = 2
            · refine mv_pcqW (pc2 := 106) (by rw [ha15]; rfl) ?_
              refine mv_goW 4 (pc' := 114) (ls' := [mv_R 0, mv_I (c : Int), mv_I b]) (st' := [mv_I (c : Int), mv_R 33]) (M1 := M) rfl ?_
              refine mv_callPW (st2 := [mv_I (sp_dg (V 3) c)]) rfl (Or.inr rfl) rfl rfl rfl (sp_cdg33 (sp_f33 hc ho) (by omega)) (by first | decide | omega) ?_
              refine mv_retW (fun n => rfl) ⟨_, rfl, ?_⟩
              refine mv_goW 3 (pc' := 4) (ls' := [mv_R 100, mv_I (c : Int), mv_I b, mv_U]) (st' := [mv_I 6, mv_I 0, mv_I b]) (M1 := M) rfl ?_
              have ha16 : 0 ≤ b ∧ b ≤ 6 := by omega
              refine mv_callPW (st2 := [mv_I 1]) rfl (Or.inr rfl) rfl rfl rfl (sp_min_t ha16) (by first | decide | omega) ?_
              refine mv_goW 1 (pc' := if 1 = 0 then 10 else 13) (ls' := [mv_R 100, mv_I (c : Int), mv_I b, mv_U]) (st' := []) (M1 := M) rfl ?_
              refine mv_ffW (by decide) ?_
              refine mv_goW 3 (pc' := if b < 2 then 18 else 26) (ls' := [mv_R 100, mv_I (c : Int), mv_I b, mv_U]) (st' := []) (M1 := M) rfl ?_
              refine mv_ffW (by omega) ?_
              refine mv_goW 2 (pc' := 28) (ls' := [mv_R 100, mv_I (c : Int), mv_I b, mv_U]) (st' := [mv_I (c : Int), mv_R 100]) (M1 := M) rfl ?_
              have ha17 : 0 ≤ (c : Int) ∧ (c : Int) < V 0 9 := by omega
              refine mv_callPW (st2 := [mv_I 1]) rfl (Or.inl rfl) rfl rfl rfl (sp_misUncle_t hm ho ha17) (by first | decide | omega) ?_
              refine mv_goW 3 (pc' := if 1 = 0 then 36 else 39) (ls' := [mv_R 100, mv_I (c : Int), mv_I b, mv_I 1]) (st' := []) (M1 := M) rfl ?_
              refine mv_ffW (by decide) ?_
              refine mv_goW 2 (pc' := mv_swg [(0, 80), (1, 86), (2, 93), (3, 99), (4, 106), (5, 113)] 119 b) (ls' := [mv_R 100, mv_I (c : Int), mv_I b, mv_I 1]) (st' := []) (M1 := M) rfl ?_
              refine mv_pcqW (pc2 := 93) (by rw [show b = 2 from by omega]; rfl) ?_
              refine mv_goW 2 (pc' := 95) (ls' := [mv_R 100, mv_I (c : Int), mv_I b, mv_I 1]) (st' := [mv_I (c : Int), mv_R 100]) (M1 := M) rfl ?_
              refine mv_callPW (st2 := [mv_I (sp_dg (V 3) c)]) rfl (Or.inl rfl) rfl rfl rfl (sp_mdg105 (sp_f105 hm ho) (by omega)) (by first | decide | omega) ?_
              exact mv_retW (fun n => rfl) ⟨congrArg mv_I (by first | rfl | omega), hI⟩
            by_cases ha18 : b = 3
            · refine mv_pcqW (pc2 := 118) (by rw [ha18]; rfl) ?_
              refine mv_goW 5 (pc' := if 0 ≤ (c : Int) ∧ (c : Int) < 6 then 127 else mv_bad) (ls' := [mv_R 0, mv_I (c : Int), mv_I b]) (st' := [mv_I (M 34 c)]) (M1 := M) rfl ?_
              refine mv_ttW (by omega) ?_
              have hr5 := sp_ok_4 ho c (by omega)
              rw [show M 34 c = V 4 c from by exact sp_c_4 hc c (by omega)]
              refine mv_retW (fun n => rfl) ⟨_, rfl, ?_⟩
              refine mv_goW 3 (pc' := 4) (ls' := [mv_R 100, mv_I (c : Int), mv_I b, mv_U]) (st' := [mv_I 6, mv_I 0, mv_I b]) (M1 := M) rfl ?_
              have ha19 : 0 ≤ b ∧ b ≤ 6 := by omega
              refine mv_callPW (st2 := [mv_I 1]) rfl (Or.inr rfl) rfl rfl rfl (sp_min_t ha19) (by first | decide | omega) ?_
              refine mv_goW 1 (pc' := if 1 = 0 then 10 else 13) (ls' := [mv_R 100, mv_I (c : Int), mv_I b, mv_U]) (st' := []) (M1 := M) rfl ?_
              refine mv_ffW (by decide) ?_
              refine mv_goW 3 (pc' := if b < 2 then 18 else 26) (ls' := [mv_R 100, mv_I (c : Int), mv_I b, mv_U]) (st' := []) (M1 := M) rfl ?_
              refine mv_ffW (by omega) ?_
              refine mv_goW 2 (pc' := 28) (ls' := [mv_R 100, mv_I (c : Int), mv_I b, mv_U]) (st' := [mv_I (c : Int), mv_R 100]) (M1 := M) rfl ?_
              have ha20 : 0 ≤ (c : Int) ∧ (c : Int) < V 0 9 := by omega
              refine mv_callPW (st2 := [mv_I 1]) rfl (Or.inl rfl) rfl rfl rfl (sp_misUncle_t hm ho ha20) (by first | decide | omega) ?_
              refine mv_goW 3 (pc' := if 1 = 0 then 36 else 39) (ls' := [mv_R 100, mv_I (c : Int), mv_I b, mv_I 1]) (st' := []) (M1 := M) rfl ?_
              refine mv_ffW (by decide) ?_
              refine mv_goW 2 (pc' := mv_swg [(0, 80), (1, 86), (2, 93), (3, 99), (4, 106), (5, 113)] 119 b) (ls' := [mv_R 100, mv_I (c : Int), mv_I b, mv_I 1]) (st' := []) (M1 := M) rfl ?_
              refine mv_pcqW (pc2 := 99) (by rw [show b = 3 from by omega]; rfl) ?_
              refine mv_goW 4 (pc' := if 0 ≤ (c : Int) ∧ (c : Int) < 6 then 105 else mv_bad) (ls' := [mv_R 100, mv_I (c : Int), mv_I b, mv_I 1]) (st' := [mv_I (M 102 c)]) (M1 := M) rfl ?_
              refine mv_ttW (by omega) ?_
              have hr7 := sp_ok_4 ho c (by omega)
              rw [show M 102 c = V 4 c from by exact sp_m_4 hm c (by omega)]
              exact mv_retW (fun n => rfl) ⟨congrArg mv_I (by first | rfl | omega), hI⟩
            by_cases ha21 : b = 4
            · refine mv_pcqW (pc2 := 128) (by rw [ha21]; rfl) ?_
              refine mv_goW 5 (pc' := if 0 ≤ (c : Int) ∧ (c : Int) < 6 then 137 else mv_bad) (ls' := [mv_R 0, mv_I (c : Int), mv_I b]) (st' := [mv_I (M 35 c)]) (M1 := M) rfl ?_
              refine mv_ttW (by omega) ?_
              have hr9 := sp_ok_5 ho c (by omega)
              rw [show M 35 c = V 5 c from by exact sp_c_5 hc c (by omega)]
              refine mv_retW (fun n => rfl) ⟨_, rfl, ?_⟩
              refine mv_goW 3 (pc' := 4) (ls' := [mv_R 100, mv_I (c : Int), mv_I b, mv_U]) (st' := [mv_I 6, mv_I 0, mv_I b]) (M1 := M) rfl ?_
              have ha22 : 0 ≤ b ∧ b ≤ 6 := by omega
              refine mv_callPW (st2 := [mv_I 1]) rfl (Or.inr rfl) rfl rfl rfl (sp_min_t ha22) (by first | decide | omega) ?_
              refine mv_goW 1 (pc' := if 1 = 0 then 10 else 13) (ls' := [mv_R 100, mv_I (c : Int), mv_I b, mv_U]) (st' := []) (M1 := M) rfl ?_
              refine mv_ffW (by decide) ?_
              refine mv_goW 3 (pc' := if b < 2 then 18 else 26) (ls' := [mv_R 100, mv_I (c : Int), mv_I b, mv_U]) (st' := []) (M1 := M) rfl ?_
              refine mv_ffW (by omega) ?_
              refine mv_goW 2 (pc' := 28) (ls' := [mv_R 100, mv_I (c : Int), mv_I b, mv_U]) (st' := [mv_I (c : Int), mv_R 100]) (M1 := M) rfl ?_
              have ha23 : 0 ≤ (c : Int) ∧ (c : Int) < V 0 9 := by omega
              refine mv_callPW (st2 := [mv_I 1]) rfl (Or.inl rfl) rfl rfl rfl (sp_misUncle_t hm ho ha23) (by first | decide | omega) ?_
              refine mv_goW 3 (pc' := if 1 = 0 then 36 else 39) (ls' := [mv_R 100, mv_I (c : Int), mv_I b, mv_I 1]) (st' := []) (M1 := M) rfl ?_
              refine mv_ffW (by decide) ?_
              refine mv_goW 2 (pc' := mv_swg [(0, 80), (1, 86), (2, 93), (3, 99), (4, 106), (5, 113)] 119 b) (ls' := [mv_R 100, mv_I (c : Int), mv_I b, mv_I 1]) (st' := []) (M1 := M) rfl ?_
              refine mv_pcqW (pc2 := 106) (by rw [show b = 4 from by omega]; rfl) ?_
              refine mv_goW 4 (pc' := if 0 ≤ (c : Int) ∧ (c : Int) < 6 then 112 else mv_bad) (ls' := [mv_R 100, mv_I (c : Int), mv_I b, mv_I 1]) (st' := [mv_I (M 103 c)]) (M1 := M) rfl ?_
              refine mv_ttW (by omega) ?_
              have hr11 := sp_ok_5 ho c (by omega)
              rw [show M 103 c = V 5 c from by exact sp_m_5 hm c (by omega)]
              exact mv_retW (fun n => rfl) ⟨congrArg mv_I (by first | rfl | omega), hI⟩
            by_cases ha24 : b = 5
            · refine mv_pcqW (pc2 := 138) (by rw [ha24]; rfl) ?_
              refine mv_goW 3 (pc' := 143) (ls' := [mv_R 0, mv_I (c : Int), mv_I b]) (st' := [mv_I (c : Int), mv_R 30]) (M1 := M) rfl ?_
              refine mv_callPW (st2 := [mv_I (sp_hired V (c : Int))]) rfl (Or.inl rfl) rfl rfl rfl (sp_hired_30 hc ho) (by first | decide | omega) ?_
              refine mv_retW (fun n => rfl) ⟨_, rfl, ?_⟩
              refine mv_goW 3 (pc' := 4) (ls' := [mv_R 100, mv_I (c : Int), mv_I b, mv_U]) (st' := [mv_I 6, mv_I 0, mv_I b]) (M1 := M) rfl ?_
              have ha25 : 0 ≤ b ∧ b ≤ 6 := by omega
              refine mv_callPW (st2 := [mv_I 1]) rfl (Or.inr rfl) rfl rfl rfl (sp_min_t ha25) (by first | decide | omega) ?_
              refine mv_goW 1 (pc' := if 1 = 0 then 10 else 13) (ls' := [mv_R 100, mv_I (c : Int), mv_I b, mv_U]) (st' := []) (M1 := M) rfl ?_
              refine mv_ffW (by decide) ?_
              refine mv_goW 3 (pc' := if b < 2 then 18 else 26) (ls' := [mv_R 100, mv_I (c : Int), mv_I b, mv_U]) (st' := []) (M1 := M) rfl ?_
              refine mv_ffW (by omega) ?_
              refine mv_goW 2 (pc' := 28) (ls' := [mv_R 100, mv_I (c : Int), mv_I b, mv_U]) (st' := [mv_I (c : Int), mv_R 100]) (M1 := M) rfl ?_
              have ha26 : 0 ≤ (c : Int) ∧ (c : Int) < V 0 9 := by omega
              refine mv_callPW (st2 := [mv_I 1]) rfl (Or.inl rfl) rfl rfl rfl (sp_misUncle_t hm ho ha26) (by first | decide | omega) ?_
              refine mv_goW 3 (pc' := if 1 = 0 then 36 else 39) (ls' := [mv_R 100, mv_I (c : Int), mv_I b, mv_I 1]) (st' := []) (M1 := M) rfl ?_
              refine mv_ffW (by decide) ?_
              refine mv_goW 2 (pc' := mv_swg [(0, 80), (1, 86), (2, 93), (3, 99), (4, 106), (5, 113)] 119 b) (ls' := [mv_R 100, mv_I (c : Int), mv_I b, mv_I 1]) (st' := []) (M1 := M) rfl ?_
              refine mv_pcqW (pc2 := 113) (by rw [show b = 5 from by omega]; rfl) ?_
              refine mv_goW 2 (pc' := 115) (ls' := [mv_R 100, mv_I (c : Int), mv_I b, mv_I 1]) (st' := [mv_I (c : Int), mv_R 100]) (M1 := M) rfl ?_
              refine mv_callPW (st2 := [mv_I (sp_hired V (c : Int))]) rfl (Or.inl rfl) rfl rfl rfl (sp_mhired hm ho) (by first | decide | omega) ?_
              exact mv_retW (fun n => rfl) ⟨congrArg mv_I (by first | rfl | omega), hI⟩
            have ha27 : ¬ (b = 0) := by omega
            have ha28 : ¬ (b = 1) := by omega
            refine mv_pcqW (pc2 := 147) (by simp only [mv_swg, if_neg, ha15, ha18, ha21, ha24, ha27, ha28, not_false_eq_true]) ?_
            refine mv_goW 3 (pc' := 152) (ls' := [mv_R 0, mv_I (c : Int), mv_I b]) (st' := [mv_I (c : Int), mv_R 30]) (M1 := M) rfl ?_
            refine mv_callPW (st2 := [mv_I (sp_room V c)]) rfl (Or.inl rfl) rfl rfl rfl (sp_croom hc ho (by omega)) (by first | decide | omega) ?_
            refine mv_retW (fun n => rfl) ⟨_, rfl, ?_⟩
            refine mv_goW 3 (pc' := 4) (ls' := [mv_R 100, mv_I (c : Int), mv_I b, mv_U]) (st' := [mv_I 6, mv_I 0, mv_I b]) (M1 := M) rfl ?_
            have ha29 : 0 ≤ b ∧ b ≤ 6 := by omega
            refine mv_callPW (st2 := [mv_I 1]) rfl (Or.inr rfl) rfl rfl rfl (sp_min_t ha29) (by first | decide | omega) ?_
            refine mv_goW 1 (pc' := if 1 = 0 then 10 else 13) (ls' := [mv_R 100, mv_I (c : Int), mv_I b, mv_U]) (st' := []) (M1 := M) rfl ?_
            refine mv_ffW (by decide) ?_
            refine mv_goW 3 (pc' := if b < 2 then 18 else 26) (ls' := [mv_R 100, mv_I (c : Int), mv_I b, mv_U]) (st' := []) (M1 := M) rfl ?_
            refine mv_ffW (by omega) ?_
            refine mv_goW 2 (pc' := 28) (ls' := [mv_R 100, mv_I (c : Int), mv_I b, mv_U]) (st' := [mv_I (c : Int), mv_R 100]) (M1 := M) rfl ?_
            have ha30 : 0 ≤ (c : Int) ∧ (c : Int) < V 0 9 := by omega
            refine mv_callPW (st2 := [mv_I 1]) rfl (Or.inl rfl) rfl rfl rfl (sp_misUncle_t hm ho ha30) (by first | decide | omega) ?_
            refine mv_goW 3 (pc' := if 1 = 0 then 36 else 39) (ls' := [mv_R 100, mv_I (c : Int), mv_I b, mv_I 1]) (st' := []) (M1 := M) rfl ?_
            refine mv_ffW (by decide) ?_
            refine mv_goW 2 (pc' := mv_swg [(0, 80), (1, 86), (2, 93), (3, 99), (4, 106), (5, 113)] 119 b) (ls' := [mv_R 100, mv_I (c : Int), mv_I b, mv_I 1]) (st' := []) (M1 := M) rfl ?_
            have ha31 : ¬ (b = 0) := by omega
            have ha32 : ¬ (b = 1) := by omega
            have ha33 : ¬ (b = 2) := by omega
            have ha34 : ¬ (b = 3) := by omega
            have ha35 : ¬ (b = 4) := by omega
            have ha36 : ¬ (b = 5) := by omega
            refine mv_pcqW (pc2 := 119) (by simp only [mv_swg, if_neg, ha31, ha32, ha33, ha34, ha35, ha36, not_false_eq_true]) ?_
            refine mv_goW 2 (pc' := 121) (ls' := [mv_R 100, mv_I (c : Int), mv_I b, mv_I 1]) (st' := [mv_I (c : Int), mv_R 100]) (M1 := M) rfl ?_
            refine mv_callPW (st2 := [mv_I (sp_room V c)]) rfl (Or.inl rfl) rfl rfl rfl (sp_mroom hm ho (by omega)) (by first | decide | omega) ?_
            exact mv_retW (fun n => rfl) ⟨congrArg mv_I (by first | rfl | omega), hI⟩
          · refine mv_callPW (st2 := [mv_I 0]) rfl (Or.inl rfl) rfl rfl rfl (sp_cisUncle_f_30 hc ho ha14) (by first | decide | omega) ?_
            refine mv_goW 1 (pc' := if 0 = 0 then 43 else 46) (ls' := [mv_R 0, mv_I (c : Int), mv_I b]) (st' := []) (M1 := M) rfl ?_
            refine mv_ttW (by decide) ?_
            refine mv_goW 1 (pc' := 45) (ls' := [mv_R 0, mv_I (c : Int), mv_I b]) (st' := [mv_I (-5)]) (M1 := M) rfl ?_
            refine mv_retW (fun n => rfl) ⟨_, rfl, ?_⟩
            refine mv_goW 3 (pc' := 4) (ls' := [mv_R 100, mv_I (c : Int), mv_I b, mv_U]) (st' := [mv_I 6, mv_I 0, mv_I b]) (M1 := M) rfl ?_
            have ha37 : 0 ≤ b ∧ b ≤ 6 := by omega
            refine mv_callPW (st2 := [mv_I 1]) rfl (Or.inr rfl) rfl rfl rfl (sp_min_t ha37) (by first | decide | omega) ?_
            refine mv_goW 1 (pc' := if 1 = 0 then 10 else 13) (ls' := [mv_R 100, mv_I (c : Int), mv_I b, mv_U]) (st' := []) (M1 := M) rfl ?_
            refine mv_ffW (by decide) ?_
            refine mv_goW 3 (pc' := if b < 2 then 18 else 26) (ls' := [mv_R 100, mv_I (c : Int), mv_I b, mv_U]) (st' := []) (M1 := M) rfl ?_
            refine mv_ffW (by omega) ?_
            refine mv_goW 2 (pc' := 28) (ls' := [mv_R 100, mv_I (c : Int), mv_I b, mv_U]) (st' := [mv_I (c : Int), mv_R 100]) (M1 := M) rfl ?_
            have ha38 : ¬ (0 ≤ (c : Int) ∧ (c : Int) < V 0 9) := by omega
            refine mv_callPW (st2 := [mv_I 0]) rfl (Or.inl rfl) rfl rfl rfl (sp_misUncle_f hm ho ha38) (by first | decide | omega) ?_
            refine mv_goW 3 (pc' := if 0 = 0 then 36 else 39) (ls' := [mv_R 100, mv_I (c : Int), mv_I b, mv_I 0]) (st' := []) (M1 := M) rfl ?_
            refine mv_ttW (by decide) ?_
            refine mv_goW 1 (pc' := 38) (ls' := [mv_R 100, mv_I (c : Int), mv_I b, mv_I 0]) (st' := [mv_I (-5)]) (M1 := M) rfl ?_
            exact mv_retW (fun n => rfl) ⟨congrArg mv_I (by first | rfl | omega), hI⟩
  · refine mv_goW 2 (pc' := if b < 0 then 10 else 4) (ls' := [mv_R 0, mv_I a, mv_I b]) (st' := []) (M1 := M) rfl ?_
    refine mv_spW (fun ha39 => ?_) (fun ha39 => ?_)
    · refine mv_goW 1 (pc' := 12) (ls' := [mv_R 0, mv_I a, mv_I b]) (st' := [mv_I (-7)]) (M1 := M) rfl ?_
      refine mv_retW (fun n => rfl) ⟨_, rfl, ?_⟩
      refine mv_goW 3 (pc' := 4) (ls' := [mv_R 100, mv_I a, mv_I b, mv_U]) (st' := [mv_I 6, mv_I 0, mv_I b]) (M1 := M) rfl ?_
      have ha40 : ¬ (0 ≤ b ∧ b ≤ 6) := by omega
      refine mv_callPW (st2 := [mv_I 0]) rfl (Or.inr rfl) rfl rfl rfl (sp_min_f ha40) (by first | decide | omega) ?_
      refine mv_goW 1 (pc' := if 0 = 0 then 10 else 13) (ls' := [mv_R 100, mv_I a, mv_I b, mv_U]) (st' := []) (M1 := M) rfl ?_
      refine mv_ttW (by decide) ?_
      refine mv_goW 1 (pc' := 12) (ls' := [mv_R 100, mv_I a, mv_I b, mv_U]) (st' := [mv_I (-7)]) (M1 := M) rfl ?_
      exact mv_retW (fun n => rfl) ⟨congrArg mv_I (by first | rfl | omega), hI⟩
    · refine mv_goW 3 (pc' := if 6 < b then 10 else 13) (ls' := [mv_R 0, mv_I a, mv_I b]) (st' := []) (M1 := M) rfl ?_
      refine mv_spW (fun ha41 => ?_) (fun ha41 => ?_)
      · refine mv_goW 1 (pc' := 12) (ls' := [mv_R 0, mv_I a, mv_I b]) (st' := [mv_I (-7)]) (M1 := M) rfl ?_
        refine mv_retW (fun n => rfl) ⟨_, rfl, ?_⟩
        refine mv_goW 3 (pc' := 4) (ls' := [mv_R 100, mv_I a, mv_I b, mv_U]) (st' := [mv_I 6, mv_I 0, mv_I b]) (M1 := M) rfl ?_
        have ha42 : ¬ (0 ≤ b ∧ b ≤ 6) := by omega
        refine mv_callPW (st2 := [mv_I 0]) rfl (Or.inr rfl) rfl rfl rfl (sp_min_f ha42) (by first | decide | omega) ?_
        refine mv_goW 1 (pc' := if 0 = 0 then 10 else 13) (ls' := [mv_R 100, mv_I a, mv_I b, mv_U]) (st' := []) (M1 := M) rfl ?_
        refine mv_ttW (by decide) ?_
        refine mv_goW 1 (pc' := 12) (ls' := [mv_R 100, mv_I a, mv_I b, mv_U]) (st' := [mv_I (-7)]) (M1 := M) rfl ?_
        exact mv_retW (fun n => rfl) ⟨congrArg mv_I (by first | rfl | omega), hI⟩
      · refine mv_goW 3 (pc' := if b < 2 then 18 else 32) (ls' := [mv_R 0, mv_I a, mv_I b]) (st' := []) (M1 := M) rfl ?_
        refine mv_spW (fun ha43 => ?_) (fun ha43 => ?_)
        · refine mv_goW 3 (pc' := 23) (ls' := [mv_R 0, mv_I a, mv_I b]) (st' := [mv_I a, mv_R 30]) (M1 := M) rfl ?_
          have ha44 : ¬ (0 ≤ a ∧ a < V 0 8) := by omega
          refine mv_callPW (st2 := [mv_I 0]) rfl (Or.inl rfl) rfl rfl rfl (sp_cisChild_f_30 hc ho ha44) (by first | decide | omega) ?_
          refine mv_goW 1 (pc' := if 0 = 0 then 29 else 46) (ls' := [mv_R 0, mv_I a, mv_I b]) (st' := []) (M1 := M) rfl ?_
          refine mv_ttW (by decide) ?_
          refine mv_goW 2 (pc' := 45) (ls' := [mv_R 0, mv_I a, mv_I b]) (st' := [mv_I (-5)]) (M1 := M) rfl ?_
          refine mv_retW (fun n => rfl) ⟨_, rfl, ?_⟩
          refine mv_goW 3 (pc' := 4) (ls' := [mv_R 100, mv_I a, mv_I b, mv_U]) (st' := [mv_I 6, mv_I 0, mv_I b]) (M1 := M) rfl ?_
          have ha45 : 0 ≤ b ∧ b ≤ 6 := by omega
          refine mv_callPW (st2 := [mv_I 1]) rfl (Or.inr rfl) rfl rfl rfl (sp_min_t ha45) (by first | decide | omega) ?_
          refine mv_goW 1 (pc' := if 1 = 0 then 10 else 13) (ls' := [mv_R 100, mv_I a, mv_I b, mv_U]) (st' := []) (M1 := M) rfl ?_
          refine mv_ffW (by decide) ?_
          refine mv_goW 3 (pc' := if b < 2 then 18 else 26) (ls' := [mv_R 100, mv_I a, mv_I b, mv_U]) (st' := []) (M1 := M) rfl ?_
          refine mv_ttW (by omega) ?_
          refine mv_goW 2 (pc' := 20) (ls' := [mv_R 100, mv_I a, mv_I b, mv_U]) (st' := [mv_I a, mv_R 100]) (M1 := M) rfl ?_
          have ha46 : ¬ (0 ≤ a ∧ a < V 0 8) := by omega
          refine mv_callPW (st2 := [mv_I 0]) rfl (Or.inl rfl) rfl rfl rfl (sp_misChild_f hm ho ha46) (by first | decide | omega) ?_
          refine mv_goW 4 (pc' := if 0 = 0 then 36 else 39) (ls' := [mv_R 100, mv_I a, mv_I b, mv_I 0]) (st' := []) (M1 := M) rfl ?_
          refine mv_ttW (by decide) ?_
          refine mv_goW 1 (pc' := 38) (ls' := [mv_R 100, mv_I a, mv_I b, mv_I 0]) (st' := [mv_I (-5)]) (M1 := M) rfl ?_
          exact mv_retW (fun n => rfl) ⟨congrArg mv_I (by first | rfl | omega), hI⟩
        · refine mv_goW 3 (pc' := 37) (ls' := [mv_R 0, mv_I a, mv_I b]) (st' := [mv_I a, mv_R 30]) (M1 := M) rfl ?_
          have ha47 : ¬ (0 ≤ a ∧ a < V 0 9) := by omega
          refine mv_callPW (st2 := [mv_I 0]) rfl (Or.inl rfl) rfl rfl rfl (sp_cisUncle_f_30 hc ho ha47) (by first | decide | omega) ?_
          refine mv_goW 1 (pc' := if 0 = 0 then 43 else 46) (ls' := [mv_R 0, mv_I a, mv_I b]) (st' := []) (M1 := M) rfl ?_
          refine mv_ttW (by decide) ?_
          refine mv_goW 1 (pc' := 45) (ls' := [mv_R 0, mv_I a, mv_I b]) (st' := [mv_I (-5)]) (M1 := M) rfl ?_
          refine mv_retW (fun n => rfl) ⟨_, rfl, ?_⟩
          refine mv_goW 3 (pc' := 4) (ls' := [mv_R 100, mv_I a, mv_I b, mv_U]) (st' := [mv_I 6, mv_I 0, mv_I b]) (M1 := M) rfl ?_
          have ha48 : 0 ≤ b ∧ b ≤ 6 := by omega
          refine mv_callPW (st2 := [mv_I 1]) rfl (Or.inr rfl) rfl rfl rfl (sp_min_t ha48) (by first | decide | omega) ?_
          refine mv_goW 1 (pc' := if 1 = 0 then 10 else 13) (ls' := [mv_R 100, mv_I a, mv_I b, mv_U]) (st' := []) (M1 := M) rfl ?_
          refine mv_ffW (by decide) ?_
          refine mv_goW 3 (pc' := if b < 2 then 18 else 26) (ls' := [mv_R 100, mv_I a, mv_I b, mv_U]) (st' := []) (M1 := M) rfl ?_
          refine mv_ffW (by omega) ?_
          refine mv_goW 2 (pc' := 28) (ls' := [mv_R 100, mv_I a, mv_I b, mv_U]) (st' := [mv_I a, mv_R 100]) (M1 := M) rfl ?_
          have ha49 : ¬ (0 ≤ a ∧ a < V 0 9) := by omega
          refine mv_callPW (st2 := [mv_I 0]) rfl (Or.inl rfl) rfl rfl rfl (sp_misUncle_f hm ho ha49) (by first | decide | omega) ?_
          refine mv_goW 3 (pc' := if 0 = 0 then 36 else 39) (ls' := [mv_R 100, mv_I a, mv_I b, mv_I 0]) (st' := []) (M1 := M) rfl ?_
          refine mv_ttW (by decide) ?_
          refine mv_goW 1 (pc' := 38) (ls' := [mv_R 100, mv_I a, mv_I b, mv_I 0]) (st' := [mv_I (-5)]) (M1 := M) rfl ?_
          exact mv_retW (fun n => rfl) ⟨congrArg mv_I (by first | rfl | omega), hI⟩
