/-! bits -/
theorem mv_or_b (x y : Int) : -2147483648 ≤ mv_or x y ∧ mv_or x y < 2147483648 := by
  unfold mv_or
  exact ⟨Int32.le_toInt _, Int32.toInt_lt _⟩
theorem mv_or_0 {x : Int} (h1 : -2147483648 ≤ x) (h2 : x < 2147483648) : mv_or x 0 = x := by
  unfold mv_or
  rw [show Int32.ofInt 0 = 0 from rfl, Int32.or_zero]
  exact Int32.toInt_ofInt_of_le h1 h2
def sp_bits (p : Nat → Int) : Nat → Int
  | 0 => 0
  | k + 1 => if p k = -1 then mv_or (sp_bits p k) (mv_shl 1 (k : Int)) else sp_bits p k
theorem sp_bits_b (p : Nat → Int) : ∀ k : Nat, -2147483648 ≤ sp_bits p k ∧ sp_bits p k < 2147483648
  | 0 => by simp only [sp_bits]; omega
  | k + 1 => by
    simp only [sp_bits]
    split
    · exact mv_or_b _ _
    · exact sp_bits_b p k
theorem sp_bits_0 (p : Nat → Int) (k : Nat) : mv_or (sp_bits p k) 0 = sp_bits p k := mv_or_0 (sp_bits_b p k).1 (sp_bits_b p k).2
/-! refusals -/
def sp_rfv (so sz n : Int) : Int := if so = -1 then -11 else if n < sz then -2 else -5
theorem sp_rfv_n (so sz n : Int) : sp_rfv so sz n ≠ 0 := by unfold sp_rfv; repeat (first | omega | split)
theorem sp_crr_0_t {V M : mv_M} {so sz : Int} (hc : sp_c 30 M V) (ho : sp_ok V) (hs1 : M 71 1 = so) (hz1 : M 71 2 = sz) (hg : so ≠ -1 ∧ sz ≤ V 0 8) : mv_Ru 1 98 0 [mv_R 0, mv_I 0, mv_U] [] M (mv_I 0) (fun M1 => M1 = M) := by
  refine mv_go' 2 (pc' := 2) (ls' := [mv_R 0, mv_I 0, mv_U]) (st' := [mv_I 0, mv_R 0]) (M1 := M) rfl ?_
  refine mv_callP (st2 := [mv_R 71]) rfl (Or.inl rfl) rfl rfl rfl (sp_sheetAt_0) (by first | decide | omega) ?_
  refine mv_go' 4 (pc' := 14) (ls' := [mv_R 0, mv_I 0, mv_R 71]) (st' := [mv_R 71]) (M1 := M) rfl ?_
  have ha1 : ¬ (so = -1) := by omega
  refine mv_callP (st2 := [mv_I 0]) rfl (Or.inl rfl) rfl rfl rfl (sp_isMiss_0_f (fun q => ha1 (hs1.symm.trans q))) (by first | decide | omega) ?_
  refine mv_go' 1 (pc' := if 0 = 0 then 23 else 20) (ls' := [mv_R 0, mv_I 0, mv_R 71]) (st' := []) (M1 := M) rfl ?_
  refine mv_tt' (by first | decide | omega) ?_
  refine mv_go' 2 (pc' := 27) (ls' := [mv_R 0, mv_I 0, mv_R 71]) (st' := [mv_I (M 71 2)]) (M1 := M) rfl ?_
  rw [show M 71 2 = sz from by exact hz1]
  refine mv_go' 3 (pc' := 34) (ls' := [mv_R 0, mv_I 0, mv_R 71]) (st' := [mv_I (M 30 8), mv_I sz]) (M1 := M) rfl ?_
  have hr1 := sp_ok_s8 ho
  rw [show M 30 8 = V 0 8 from by exact sp_c_s8 hc]
  refine mv_go' 1 (pc' := if (V 0 8) < sz then 37 else 42) (ls' := [mv_R 0, mv_I 0, mv_R 71]) (st' := []) (M1 := M) rfl ?_
  refine mv_ff' (by omega) ?_
  refine mv_go' 1 (pc' := 43) (ls' := [mv_R 0, mv_I 0, mv_R 71]) (st' := [mv_I 0]) (M1 := M) rfl ?_
  exact mv_Ru.val (mv_ret (fun n => rfl) rfl) (congrArg mv_I (by first | omega | (unfold sp_rfv; repeat (first | omega | split))))
theorem sp_crr_0_f {V M : mv_M} {so sz : Int} (hc : sp_c 30 M V) (ho : sp_ok V) (hs1 : M 71 1 = so) (hz1 : M 71 2 = sz) (hg : ¬ (so ≠ -1 ∧ sz ≤ V 0 8)) : mv_Ru 1 98 0 [mv_R 0, mv_I 0, mv_U] [] M (mv_I (sp_rfv so sz (V 0 8))) (fun M1 => M1 = M) := by
  refine mv_go' 2 (pc' := 2) (ls' := [mv_R 0, mv_I 0, mv_U]) (st' := [mv_I 0, mv_R 0]) (M1 := M) rfl ?_
  refine mv_callP (st2 := [mv_R 71]) rfl (Or.inl rfl) rfl rfl rfl (sp_sheetAt_0) (by first | decide | omega) ?_
  refine mv_go' 4 (pc' := 14) (ls' := [mv_R 0, mv_I 0, mv_R 71]) (st' := [mv_R 71]) (M1 := M) rfl ?_
  by_cases ha2 : so = -1
  · refine mv_callP (st2 := [mv_I 1]) rfl (Or.inl rfl) rfl rfl rfl (sp_isMiss_0_t (hs1.trans ha2)) (by first | decide | omega) ?_
    refine mv_go' 1 (pc' := if 1 = 0 then 23 else 20) (ls' := [mv_R 0, mv_I 0, mv_R 71]) (st' := []) (M1 := M) rfl ?_
    refine mv_ff' (by first | decide | omega) ?_
    refine mv_go' 1 (pc' := 22) (ls' := [mv_R 0, mv_I 0, mv_R 71]) (st' := [mv_I (-11)]) (M1 := M) rfl ?_
    exact mv_Ru.val (mv_ret (fun n => rfl) rfl) (congrArg mv_I (by first | omega | (unfold sp_rfv; repeat (first | omega | split))))
  · refine mv_callP (st2 := [mv_I 0]) rfl (Or.inl rfl) rfl rfl rfl (sp_isMiss_0_f (fun q => ha2 (hs1.symm.trans q))) (by first | decide | omega) ?_
    refine mv_go' 1 (pc' := if 0 = 0 then 23 else 20) (ls' := [mv_R 0, mv_I 0, mv_R 71]) (st' := []) (M1 := M) rfl ?_
    refine mv_tt' (by first | decide | omega) ?_
    refine mv_go' 2 (pc' := 27) (ls' := [mv_R 0, mv_I 0, mv_R 71]) (st' := [mv_I (M 71 2)]) (M1 := M) rfl ?_
    rw [show M 71 2 = sz from by exact hz1]
    refine mv_go' 3 (pc' := 34) (ls' := [mv_R 0, mv_I 0, mv_R 71]) (st' := [mv_I (M 30 8), mv_I sz]) (M1 := M) rfl ?_
    have hr3 := sp_ok_s8 ho
    rw [show M 30 8 = V 0 8 from by exact sp_c_s8 hc]
    refine mv_go' 1 (pc' := if (V 0 8) < sz then 37 else 42) (ls' := [mv_R 0, mv_I 0, mv_R 71]) (st' := []) (M1 := M) rfl ?_
    refine mv_tt' (by omega) ?_
    refine mv_go' 2 (pc' := 43) (ls' := [mv_R 0, mv_I 0, mv_R 71]) (st' := [mv_I (-2)]) (M1 := M) rfl ?_
    exact mv_Ru.val (mv_ret (fun n => rfl) rfl) (congrArg mv_I (by first | omega | (unfold sp_rfv; repeat (first | omega | split))))
theorem sp_crj_0_t {V M : mv_M} {so sz u : Int} (hc : sp_c 30 M V) (ho : sp_ok V) (hs1 : M 71 1 = so) (hz1 : M 71 2 = sz) (hg : (so ≠ -1 ∧ sz ≤ V 0 8) ∧ 0 ≤ u ∧ u < V 0 9) : mv_Ru 2 99 0 [mv_R 0, mv_I 0, mv_I u, mv_U] [] M (mv_I 0) (fun M1 => M1 = M) := by
  refine mv_go' 2 (pc' := 2) (ls' := [mv_R 0, mv_I 0, mv_I u, mv_U]) (st' := [mv_I 0, mv_R 0]) (M1 := M) rfl ?_
  have ha3 : so ≠ -1 ∧ sz ≤ V 0 8 := by omega
  refine mv_callP (st2 := [mv_I 0]) rfl (Or.inl rfl) rfl rfl rfl (sp_crr_0_t hc ho hs1 hz1 ha3) (by first | decide | omega) ?_
  refine mv_go' 3 (pc' := if 0 = 0 then 14 else 10) (ls' := [mv_R 0, mv_I 0, mv_I u, mv_I 0]) (st' := []) (M1 := M) rfl ?_
  refine mv_tt' (by first | decide | omega) ?_
  refine mv_go' 3 (pc' := 19) (ls' := [mv_R 0, mv_I 0, mv_I u, mv_I 0]) (st' := [mv_I u, mv_R 30]) (M1 := M) rfl ?_
  have ha4 : 0 ≤ u ∧ u < V 0 9 := by omega
  refine mv_callP (st2 := [mv_I 1]) rfl (Or.inl rfl) rfl rfl rfl (sp_cisUncle_t_30 hc ho ha4) (by first | decide | omega) ?_
  refine mv_go' 1 (pc' := if 1 = 0 then 29 else 25) (ls' := [mv_R 0, mv_I 0, mv_I u, mv_I 0]) (st' := []) (M1 := M) rfl ?_
  refine mv_ff' (by first | decide | omega) ?_
  refine mv_go' 2 (pc' := 31) (ls' := [mv_R 0, mv_I 0, mv_I u, mv_I 0]) (st' := [mv_I 0]) (M1 := M) rfl ?_
  exact mv_Ru.val (mv_ret (fun n => rfl) rfl) (congrArg mv_I (by first | omega | (unfold sp_rfv; repeat (first | omega | split))))
theorem sp_crj_0_f {V M : mv_M} {so sz u : Int} (hc : sp_c 30 M V) (ho : sp_ok V) (hs1 : M 71 1 = so) (hz1 : M 71 2 = sz) (hg : ¬ ((so ≠ -1 ∧ sz ≤ V 0 8) ∧ 0 ≤ u ∧ u < V 0 9)) : mv_Ru 2 99 0 [mv_R 0, mv_I 0, mv_I u, mv_U] [] M (mv_I (sp_rfv so sz (V 0 8))) (fun M1 => M1 = M) := by
  have hnz := sp_rfv_n so sz (V 0 8)
  refine mv_go' 2 (pc' := 2) (ls' := [mv_R 0, mv_I 0, mv_I u, mv_U]) (st' := [mv_I 0, mv_R 0]) (M1 := M) rfl ?_
  by_cases ha5 : so ≠ -1 ∧ sz ≤ V 0 8
  · refine mv_callP (st2 := [mv_I 0]) rfl (Or.inl rfl) rfl rfl rfl (sp_crr_0_t hc ho hs1 hz1 ha5) (by first | decide | omega) ?_
    refine mv_go' 3 (pc' := if 0 = 0 then 14 else 10) (ls' := [mv_R 0, mv_I 0, mv_I u, mv_I 0]) (st' := []) (M1 := M) rfl ?_
    refine mv_tt' (by first | decide | omega) ?_
    refine mv_go' 3 (pc' := 19) (ls' := [mv_R 0, mv_I 0, mv_I u, mv_I 0]) (st' := [mv_I u, mv_R 30]) (M1 := M) rfl ?_
    have ha6 : ¬ (0 ≤ u ∧ u < V 0 9) := by omega
    refine mv_callP (st2 := [mv_I 0]) rfl (Or.inl rfl) rfl rfl rfl (sp_cisUncle_f_30 hc ho ha6) (by first | decide | omega) ?_
    refine mv_go' 1 (pc' := if 0 = 0 then 29 else 25) (ls' := [mv_R 0, mv_I 0, mv_I u, mv_I 0]) (st' := []) (M1 := M) rfl ?_
    refine mv_tt' (by first | decide | omega) ?_
    refine mv_go' 1 (pc' := 31) (ls' := [mv_R 0, mv_I 0, mv_I u, mv_I 0]) (st' := [mv_I (-5)]) (M1 := M) rfl ?_
    exact mv_Ru.val (mv_ret (fun n => rfl) rfl) (congrArg mv_I (by first | omega | (unfold sp_rfv; repeat (first | omega | split))))
  · refine mv_callP (st2 := [mv_I (sp_rfv so sz (V 0 8))]) rfl (Or.inl rfl) rfl rfl rfl (sp_crr_0_f hc ho hs1 hz1 ha5) (by first | decide | omega) ?_
    refine mv_go' 3 (pc' := if (sp_rfv so sz (V 0 8)) = 0 then 14 else 10) (ls' := [mv_R 0, mv_I 0, mv_I u, mv_I (sp_rfv so sz (V 0 8))]) (st' := []) (M1 := M) rfl ?_
    refine mv_ff' (by omega) ?_
    refine mv_go' 2 (pc' := 31) (ls' := [mv_R 0, mv_I 0, mv_I u, mv_I (sp_rfv so sz (V 0 8))]) (st' := [mv_I (sp_rfv so sz (V 0 8))]) (M1 := M) rfl ?_
    exact mv_Ru.val (mv_ret (fun n => rfl) rfl) (congrArg mv_I (by first | omega | (unfold sp_rfv; repeat (first | omega | split))))
theorem sp_crr_1_t {V M : mv_M} {so sz : Int} (hc : sp_c 30 M V) (ho : sp_ok V) (hs1 : M 73 1 = so) (hz1 : M 73 2 = sz) (hg : so ≠ -1 ∧ sz ≤ V 0 8) : mv_Ru 1 98 0 [mv_R 0, mv_I 1, mv_U] [] M (mv_I 0) (fun M1 => M1 = M) := by
  refine mv_go' 2 (pc' := 2) (ls' := [mv_R 0, mv_I 1, mv_U]) (st' := [mv_I 1, mv_R 0]) (M1 := M) rfl ?_
  refine mv_callP (st2 := [mv_R 73]) rfl (Or.inl rfl) rfl rfl rfl (sp_sheetAt_1) (by first | decide | omega) ?_
  refine mv_go' 4 (pc' := 14) (ls' := [mv_R 0, mv_I 1, mv_R 73]) (st' := [mv_R 73]) (M1 := M) rfl ?_
  have ha7 : ¬ (so = -1) := by omega
  refine mv_callP (st2 := [mv_I 0]) rfl (Or.inl rfl) rfl rfl rfl (sp_isMiss_1_f (fun q => ha7 (hs1.symm.trans q))) (by first | decide | omega) ?_
  refine mv_go' 1 (pc' := if 0 = 0 then 23 else 20) (ls' := [mv_R 0, mv_I 1, mv_R 73]) (st' := []) (M1 := M) rfl ?_
  refine mv_tt' (by first | decide | omega) ?_
  refine mv_go' 2 (pc' := 27) (ls' := [mv_R 0, mv_I 1, mv_R 73]) (st' := [mv_I (M 73 2)]) (M1 := M) rfl ?_
  rw [show M 73 2 = sz from by exact hz1]
  refine mv_go' 3 (pc' := 34) (ls' := [mv_R 0, mv_I 1, mv_R 73]) (st' := [mv_I (M 30 8), mv_I sz]) (M1 := M) rfl ?_
  have hr5 := sp_ok_s8 ho
  rw [show M 30 8 = V 0 8 from by exact sp_c_s8 hc]
  refine mv_go' 1 (pc' := if (V 0 8) < sz then 37 else 42) (ls' := [mv_R 0, mv_I 1, mv_R 73]) (st' := []) (M1 := M) rfl ?_
  refine mv_ff' (by omega) ?_
  refine mv_go' 1 (pc' := 43) (ls' := [mv_R 0, mv_I 1, mv_R 73]) (st' := [mv_I 0]) (M1 := M) rfl ?_
  exact mv_Ru.val (mv_ret (fun n => rfl) rfl) (congrArg mv_I (by first | omega | (unfold sp_rfv; repeat (first | omega | split))))
theorem sp_crr_1_f {V M : mv_M} {so sz : Int} (hc : sp_c 30 M V) (ho : sp_ok V) (hs1 : M 73 1 = so) (hz1 : M 73 2 = sz) (hg : ¬ (so ≠ -1 ∧ sz ≤ V 0 8)) : mv_Ru 1 98 0 [mv_R 0, mv_I 1, mv_U] [] M (mv_I (sp_rfv so sz (V 0 8))) (fun M1 => M1 = M) := by
  refine mv_go' 2 (pc' := 2) (ls' := [mv_R 0, mv_I 1, mv_U]) (st' := [mv_I 1, mv_R 0]) (M1 := M) rfl ?_
  refine mv_callP (st2 := [mv_R 73]) rfl (Or.inl rfl) rfl rfl rfl (sp_sheetAt_1) (by first | decide | omega) ?_
  refine mv_go' 4 (pc' := 14) (ls' := [mv_R 0, mv_I 1, mv_R 73]) (st' := [mv_R 73]) (M1 := M) rfl ?_
  by_cases ha8 : so = -1
  · refine mv_callP (st2 := [mv_I 1]) rfl (Or.inl rfl) rfl rfl rfl (sp_isMiss_1_t (hs1.trans ha8)) (by first | decide | omega) ?_
    refine mv_go' 1 (pc' := if 1 = 0 then 23 else 20) (ls' := [mv_R 0, mv_I 1, mv_R 73]) (st' := []) (M1 := M) rfl ?_
    refine mv_ff' (by first | decide | omega) ?_
    refine mv_go' 1 (pc' := 22) (ls' := [mv_R 0, mv_I 1, mv_R 73]) (st' := [mv_I (-11)]) (M1 := M) rfl ?_
    exact mv_Ru.val (mv_ret (fun n => rfl) rfl) (congrArg mv_I (by first | omega | (unfold sp_rfv; repeat (first | omega | split))))
  · refine mv_callP (st2 := [mv_I 0]) rfl (Or.inl rfl) rfl rfl rfl (sp_isMiss_1_f (fun q => ha8 (hs1.symm.trans q))) (by first | decide | omega) ?_
    refine mv_go' 1 (pc' := if 0 = 0 then 23 else 20) (ls' := [mv_R 0, mv_I 1, mv_R 73]) (st' := []) (M1 := M) rfl ?_
    refine mv_tt' (by first | decide | omega) ?_
    refine mv_go' 2 (pc' := 27) (ls' := [mv_R 0, mv_I 1, mv_R 73]) (st' := [mv_I (M 73 2)]) (M1 := M) rfl ?_
    rw [show M 73 2 = sz from by exact hz1]
    refine mv_go' 3 (pc' := 34) (ls' := [mv_R 0, mv_I 1, mv_R 73]) (st' := [mv_I (M 30 8), mv_I sz]) (M1 := M) rfl ?_
    have hr7 := sp_ok_s8 ho
    rw [show M 30 8 = V 0 8 from by exact sp_c_s8 hc]
    refine mv_go' 1 (pc' := if (V 0 8) < sz then 37 else 42) (ls' := [mv_R 0, mv_I 1, mv_R 73]) (st' := []) (M1 := M) rfl ?_
    refine mv_tt' (by omega) ?_
    refine mv_go' 2 (pc' := 43) (ls' := [mv_R 0, mv_I 1, mv_R 73]) (st' := [mv_I (-2)]) (M1 := M) rfl ?_
    exact mv_Ru.val (mv_ret (fun n => rfl) rfl) (congrArg mv_I (by first | omega | (unfold sp_rfv; repeat (first | omega | split))))
theorem sp_crj_1_t {V M : mv_M} {so sz u : Int} (hc : sp_c 30 M V) (ho : sp_ok V) (hs1 : M 73 1 = so) (hz1 : M 73 2 = sz) (hg : (so ≠ -1 ∧ sz ≤ V 0 8) ∧ 0 ≤ u ∧ u < V 0 9) : mv_Ru 2 99 0 [mv_R 0, mv_I 1, mv_I u, mv_U] [] M (mv_I 0) (fun M1 => M1 = M) := by
  refine mv_go' 2 (pc' := 2) (ls' := [mv_R 0, mv_I 1, mv_I u, mv_U]) (st' := [mv_I 1, mv_R 0]) (M1 := M) rfl ?_
  have ha9 : so ≠ -1 ∧ sz ≤ V 0 8 := by omega
  refine mv_callP (st2 := [mv_I 0]) rfl (Or.inl rfl) rfl rfl rfl (sp_crr_1_t hc ho hs1 hz1 ha9) (by first | decide | omega) ?_
  refine mv_go' 3 (pc' := if 0 = 0 then 14 else 10) (ls' := [mv_R 0, mv_I 1, mv_I u, mv_I 0]) (st' := []) (M1 := M) rfl ?_
  refine mv_tt' (by first | decide | omega) ?_
  refine mv_go' 3 (pc' := 19) (ls' := [mv_R 0, mv_I 1, mv_I u, mv_I 0]) (st' := [mv_I u, mv_R 30]) (M1 := M) rfl ?_
  have ha10 : 0 ≤ u ∧ u < V 0 9 := by omega
  refine mv_callP (st2 := [mv_I 1]) rfl (Or.inl rfl) rfl rfl rfl (sp_cisUncle_t_30 hc ho ha10) (by first | decide | omega) ?_
  refine mv_go' 1 (pc' := if 1 = 0 then 29 else 25) (ls' := [mv_R 0, mv_I 1, mv_I u, mv_I 0]) (st' := []) (M1 := M) rfl ?_
  refine mv_ff' (by first | decide | omega) ?_
  refine mv_go' 2 (pc' := 31) (ls' := [mv_R 0, mv_I 1, mv_I u, mv_I 0]) (st' := [mv_I 0]) (M1 := M) rfl ?_
  exact mv_Ru.val (mv_ret (fun n => rfl) rfl) (congrArg mv_I (by first | omega | (unfold sp_rfv; repeat (first | omega | split))))
theorem sp_crj_1_f {V M : mv_M} {so sz u : Int} (hc : sp_c 30 M V) (ho : sp_ok V) (hs1 : M 73 1 = so) (hz1 : M 73 2 = sz) (hg : ¬ ((so ≠ -1 ∧ sz ≤ V 0 8) ∧ 0 ≤ u ∧ u < V 0 9)) : mv_Ru 2 99 0 [mv_R 0, mv_I 1, mv_I u, mv_U] [] M (mv_I (sp_rfv so sz (V 0 8))) (fun M1 => M1 = M) := by
  have hnz := sp_rfv_n so sz (V 0 8)
  refine mv_go' 2 (pc' := 2) (ls' := [mv_R 0, mv_I 1, mv_I u, mv_U]) (st' := [mv_I 1, mv_R 0]) (M1 := M) rfl ?_
  by_cases ha11 : so ≠ -1 ∧ sz ≤ V 0 8
  · refine mv_callP (st2 := [mv_I 0]) rfl (Or.inl rfl) rfl rfl rfl (sp_crr_1_t hc ho hs1 hz1 ha11) (by first | decide | omega) ?_
    refine mv_go' 3 (pc' := if 0 = 0 then 14 else 10) (ls' := [mv_R 0, mv_I 1, mv_I u, mv_I 0]) (st' := []) (M1 := M) rfl ?_
    refine mv_tt' (by first | decide | omega) ?_
    refine mv_go' 3 (pc' := 19) (ls' := [mv_R 0, mv_I 1, mv_I u, mv_I 0]) (st' := [mv_I u, mv_R 30]) (M1 := M) rfl ?_
    have ha12 : ¬ (0 ≤ u ∧ u < V 0 9) := by omega
    refine mv_callP (st2 := [mv_I 0]) rfl (Or.inl rfl) rfl rfl rfl (sp_cisUncle_f_30 hc ho ha12) (by first | decide | omega) ?_
    refine mv_go' 1 (pc' := if 0 = 0 then 29 else 25) (ls' := [mv_R 0, mv_I 1, mv_I u, mv_I 0]) (st' := []) (M1 := M) rfl ?_
    refine mv_tt' (by first | decide | omega) ?_
    refine mv_go' 1 (pc' := 31) (ls' := [mv_R 0, mv_I 1, mv_I u, mv_I 0]) (st' := [mv_I (-5)]) (M1 := M) rfl ?_
    exact mv_Ru.val (mv_ret (fun n => rfl) rfl) (congrArg mv_I (by first | omega | (unfold sp_rfv; repeat (first | omega | split))))
  · refine mv_callP (st2 := [mv_I (sp_rfv so sz (V 0 8))]) rfl (Or.inl rfl) rfl rfl rfl (sp_crr_1_f hc ho hs1 hz1 ha11) (by first | decide | omega) ?_
    refine mv_go' 3 (pc' := if (sp_rfv so sz (V 0 8)) = 0 then 14 else 10) (ls' := [mv_R 0, mv_I 1, mv_I u, mv_I (sp_rfv so sz (V 0 8))]) (st' := []) (M1 := M) rfl ?_
    refine mv_ff' (by omega) ?_
    refine mv_go' 2 (pc' := 31) (ls' := [mv_R 0, mv_I 1, mv_I u, mv_I (sp_rfv so sz (V 0 8))]) (st' := [mv_I (sp_rfv so sz (V 0 8))]) (M1 := M) rfl ?_
    exact mv_Ru.val (mv_ret (fun n => rfl) rfl) (congrArg mv_I (by first | omega | (unfold sp_rfv; repeat (first | omega | split))))
theorem sp_crr_2_t {V M : mv_M} {so sz : Int} (hc : sp_c 30 M V) (ho : sp_ok V) (hs1 : M 75 1 = so) (hz1 : M 75 2 = sz) (hg : so ≠ -1 ∧ sz ≤ V 0 8) : mv_Ru 1 98 0 [mv_R 0, mv_I 2, mv_U] [] M (mv_I 0) (fun M1 => M1 = M) := by
  refine mv_go' 2 (pc' := 2) (ls' := [mv_R 0, mv_I 2, mv_U]) (st' := [mv_I 2, mv_R 0]) (M1 := M) rfl ?_
  refine mv_callP (st2 := [mv_R 75]) rfl (Or.inl rfl) rfl rfl rfl (sp_sheetAt_2) (by first | decide | omega) ?_
  refine mv_go' 4 (pc' := 14) (ls' := [mv_R 0, mv_I 2, mv_R 75]) (st' := [mv_R 75]) (M1 := M) rfl ?_
  have ha13 : ¬ (so = -1) := by omega
  refine mv_callP (st2 := [mv_I 0]) rfl (Or.inl rfl) rfl rfl rfl (sp_isMiss_2_f (fun q => ha13 (hs1.symm.trans q))) (by first | decide | omega) ?_
  refine mv_go' 1 (pc' := if 0 = 0 then 23 else 20) (ls' := [mv_R 0, mv_I 2, mv_R 75]) (st' := []) (M1 := M) rfl ?_
  refine mv_tt' (by first | decide | omega) ?_
  refine mv_go' 2 (pc' := 27) (ls' := [mv_R 0, mv_I 2, mv_R 75]) (st' := [mv_I (M 75 2)]) (M1 := M) rfl ?_
  rw [show M 75 2 = sz from by exact hz1]
  refine mv_go' 3 (pc' := 34) (ls' := [mv_R 0, mv_I 2, mv_R 75]) (st' := [mv_I (M 30 8), mv_I sz]) (M1 := M) rfl ?_
  have hr9 := sp_ok_s8 ho
  rw [show M 30 8 = V 0 8 from by exact sp_c_s8 hc]
  refine mv_go' 1 (pc' := if (V 0 8) < sz then 37 else 42) (ls' := [mv_R 0, mv_I 2, mv_R 75]) (st' := []) (M1 := M) rfl ?_
  refine mv_ff' (by omega) ?_
  refine mv_go' 1 (pc' := 43) (ls' := [mv_R 0, mv_I 2, mv_R 75]) (st' := [mv_I 0]) (M1 := M) rfl ?_
  exact mv_Ru.val (mv_ret (fun n => rfl) rfl) (congrArg mv_I (by first | omega | (unfold sp_rfv; repeat (first | omega | split))))
theorem sp_crr_2_f {V M : mv_M} {so sz : Int} (hc : sp_c 30 M V) (ho : sp_ok V) (hs1 : M 75 1 = so) (hz1 : M 75 2 = sz) (hg : ¬ (so ≠ -1 ∧ sz ≤ V 0 8)) : mv_Ru 1 98 0 [mv_R 0, mv_I 2, mv_U] [] M (mv_I (sp_rfv so sz (V 0 8))) (fun M1 => M1 = M) := by
  refine mv_go' 2 (pc' := 2) (ls' := [mv_R 0, mv_I 2, mv_U]) (st' := [mv_I 2, mv_R 0]) (M1 := M) rfl ?_
  refine mv_callP (st2 := [mv_R 75]) rfl (Or.inl rfl) rfl rfl rfl (sp_sheetAt_2) (by first | decide | omega) ?_
  refine mv_go' 4 (pc' := 14) (ls' := [mv_R 0, mv_I 2, mv_R 75]) (st' := [mv_R 75]) (M1 := M) rfl ?_
  by_cases ha14 : so = -1
  · refine mv_callP (st2 := [mv_I 1]) rfl (Or.inl rfl) rfl rfl rfl (sp_isMiss_2_t (hs1.trans ha14)) (by first | decide | omega) ?_
    refine mv_go' 1 (pc' := if 1 = 0 then 23 else 20) (ls' := [mv_R 0, mv_I 2, mv_R 75]) (st' := []) (M1 := M) rfl ?_
    refine mv_ff' (by first | decide | omega) ?_
    refine mv_go' 1 (pc' := 22) (ls' := [mv_R 0, mv_I 2, mv_R 75]) (st' := [mv_I (-11)]) (M1 := M) rfl ?_
    exact mv_Ru.val (mv_ret (fun n => rfl) rfl) (congrArg mv_I (by first | omega | (unfold sp_rfv; repeat (first | omega | split))))
  · refine mv_callP (st2 := [mv_I 0]) rfl (Or.inl rfl) rfl rfl rfl (sp_isMiss_2_f (fun q => ha14 (hs1.symm.trans q))) (by first | decide | omega) ?_
    refine mv_go' 1 (pc' := if 0 = 0 then 23 else 20) (ls' := [mv_R 0, mv_I 2, mv_R 75]) (st' := []) (M1 := M) rfl ?_
    refine mv_tt' (by first | decide | omega) ?_
    refine mv_go' 2 (pc' := 27) (ls' := [mv_R 0, mv_I 2, mv_R 75]) (st' := [mv_I (M 75 2)]) (M1 := M) rfl ?_
    rw [show M 75 2 = sz from by exact hz1]
    refine mv_go' 3 (pc' := 34) (ls' := [mv_R 0, mv_I 2, mv_R 75]) (st' := [mv_I (M 30 8), mv_I sz]) (M1 := M) rfl ?_
    have hr11 := sp_ok_s8 ho
    rw [show M 30 8 = V 0 8 from by exact sp_c_s8 hc]
    refine mv_go' 1 (pc' := if (V 0 8) < sz then 37 else 42) (ls' := [mv_R 0, mv_I 2, mv_R 75]) (st' := []) (M1 := M) rfl ?_
    refine mv_tt' (by omega) ?_
    refine mv_go' 2 (pc' := 43) (ls' := [mv_R 0, mv_I 2, mv_R 75]) (st' := [mv_I (-2)]) (M1 := M) rfl ?_
    exact mv_Ru.val (mv_ret (fun n => rfl) rfl) (congrArg mv_I (by first | omega | (unfold sp_rfv; repeat (first | omega | split))))
theorem sp_crj_2_t {V M : mv_M} {so sz u : Int} (hc : sp_c 30 M V) (ho : sp_ok V) (hs1 : M 75 1 = so) (hz1 : M 75 2 = sz) (hg : (so ≠ -1 ∧ sz ≤ V 0 8) ∧ 0 ≤ u ∧ u < V 0 9) : mv_Ru 2 99 0 [mv_R 0, mv_I 2, mv_I u, mv_U] [] M (mv_I 0) (fun M1 => M1 = M) := by
  refine mv_go' 2 (pc' := 2) (ls' := [mv_R 0, mv_I 2, mv_I u, mv_U]) (st' := [mv_I 2, mv_R 0]) (M1 := M) rfl ?_
  have ha15 : so ≠ -1 ∧ sz ≤ V 0 8 := by omega
  refine mv_callP (st2 := [mv_I 0]) rfl (Or.inl rfl) rfl rfl rfl (sp_crr_2_t hc ho hs1 hz1 ha15) (by first | decide | omega) ?_
  refine mv_go' 3 (pc' := if 0 = 0 then 14 else 10) (ls' := [mv_R 0, mv_I 2, mv_I u, mv_I 0]) (st' := []) (M1 := M) rfl ?_
  refine mv_tt' (by first | decide | omega) ?_
  refine mv_go' 3 (pc' := 19) (ls' := [mv_R 0, mv_I 2, mv_I u, mv_I 0]) (st' := [mv_I u, mv_R 30]) (M1 := M) rfl ?_
  have ha16 : 0 ≤ u ∧ u < V 0 9 := by omega
  refine mv_callP (st2 := [mv_I 1]) rfl (Or.inl rfl) rfl rfl rfl (sp_cisUncle_t_30 hc ho ha16) (by first | decide | omega) ?_
  refine mv_go' 1 (pc' := if 1 = 0 then 29 else 25) (ls' := [mv_R 0, mv_I 2, mv_I u, mv_I 0]) (st' := []) (M1 := M) rfl ?_
  refine mv_ff' (by first | decide | omega) ?_
  refine mv_go' 2 (pc' := 31) (ls' := [mv_R 0, mv_I 2, mv_I u, mv_I 0]) (st' := [mv_I 0]) (M1 := M) rfl ?_
  exact mv_Ru.val (mv_ret (fun n => rfl) rfl) (congrArg mv_I (by first | omega | (unfold sp_rfv; repeat (first | omega | split))))
theorem sp_crj_2_f {V M : mv_M} {so sz u : Int} (hc : sp_c 30 M V) (ho : sp_ok V) (hs1 : M 75 1 = so) (hz1 : M 75 2 = sz) (hg : ¬ ((so ≠ -1 ∧ sz ≤ V 0 8) ∧ 0 ≤ u ∧ u < V 0 9)) : mv_Ru 2 99 0 [mv_R 0, mv_I 2, mv_I u, mv_U] [] M (mv_I (sp_rfv so sz (V 0 8))) (fun M1 => M1 = M) := by
  have hnz := sp_rfv_n so sz (V 0 8)
  refine mv_go' 2 (pc' := 2) (ls' := [mv_R 0, mv_I 2, mv_I u, mv_U]) (st' := [mv_I 2, mv_R 0]) (M1 := M) rfl ?_
  by_cases ha17 : so ≠ -1 ∧ sz ≤ V 0 8
  · refine mv_callP (st2 := [mv_I 0]) rfl (Or.inl rfl) rfl rfl rfl (sp_crr_2_t hc ho hs1 hz1 ha17) (by first | decide | omega) ?_
    refine mv_go' 3 (pc' := if 0 = 0 then 14 else 10) (ls' := [mv_R 0, mv_I 2, mv_I u, mv_I 0]) (st' := []) (M1 := M) rfl ?_
    refine mv_tt' (by first | decide | omega) ?_
    refine mv_go' 3 (pc' := 19) (ls' := [mv_R 0, mv_I 2, mv_I u, mv_I 0]) (st' := [mv_I u, mv_R 30]) (M1 := M) rfl ?_
    have ha18 : ¬ (0 ≤ u ∧ u < V 0 9) := by omega
    refine mv_callP (st2 := [mv_I 0]) rfl (Or.inl rfl) rfl rfl rfl (sp_cisUncle_f_30 hc ho ha18) (by first | decide | omega) ?_
    refine mv_go' 1 (pc' := if 0 = 0 then 29 else 25) (ls' := [mv_R 0, mv_I 2, mv_I u, mv_I 0]) (st' := []) (M1 := M) rfl ?_
    refine mv_tt' (by first | decide | omega) ?_
    refine mv_go' 1 (pc' := 31) (ls' := [mv_R 0, mv_I 2, mv_I u, mv_I 0]) (st' := [mv_I (-5)]) (M1 := M) rfl ?_
    exact mv_Ru.val (mv_ret (fun n => rfl) rfl) (congrArg mv_I (by first | omega | (unfold sp_rfv; repeat (first | omega | split))))
  · refine mv_callP (st2 := [mv_I (sp_rfv so sz (V 0 8))]) rfl (Or.inl rfl) rfl rfl rfl (sp_crr_2_f hc ho hs1 hz1 ha17) (by first | decide | omega) ?_
    refine mv_go' 3 (pc' := if (sp_rfv so sz (V 0 8)) = 0 then 14 else 10) (ls' := [mv_R 0, mv_I 2, mv_I u, mv_I (sp_rfv so sz (V 0 8))]) (st' := []) (M1 := M) rfl ?_
    refine mv_ff' (by omega) ?_
    refine mv_go' 2 (pc' := 31) (ls' := [mv_R 0, mv_I 2, mv_I u, mv_I (sp_rfv so sz (V 0 8))]) (st' := [mv_I (sp_rfv so sz (V 0 8))]) (M1 := M) rfl ?_
    exact mv_Ru.val (mv_ret (fun n => rfl) rfl) (congrArg mv_I (by first | omega | (unfold sp_rfv; repeat (first | omega | split))))
theorem sp_crr_3_t {V M : mv_M} {so sz : Int} (hc : sp_c 30 M V) (ho : sp_ok V) (hs1 : M 77 1 = so) (hz1 : M 77 2 = sz) (hg : so ≠ -1 ∧ sz ≤ V 0 8) : mv_Ru 1 98 0 [mv_R 0, mv_I 3, mv_U] [] M (mv_I 0) (fun M1 => M1 = M) := by
  refine mv_go' 2 (pc' := 2) (ls' := [mv_R 0, mv_I 3, mv_U]) (st' := [mv_I 3, mv_R 0]) (M1 := M) rfl ?_
  refine mv_callP (st2 := [mv_R 77]) rfl (Or.inl rfl) rfl rfl rfl (sp_sheetAt_3) (by first | decide | omega) ?_
  refine mv_go' 4 (pc' := 14) (ls' := [mv_R 0, mv_I 3, mv_R 77]) (st' := [mv_R 77]) (M1 := M) rfl ?_
  have ha19 : ¬ (so = -1) := by omega
  refine mv_callP (st2 := [mv_I 0]) rfl (Or.inl rfl) rfl rfl rfl (sp_isMiss_3_f (fun q => ha19 (hs1.symm.trans q))) (by first | decide | omega) ?_
  refine mv_go' 1 (pc' := if 0 = 0 then 23 else 20) (ls' := [mv_R 0, mv_I 3, mv_R 77]) (st' := []) (M1 := M) rfl ?_
  refine mv_tt' (by first | decide | omega) ?_
  refine mv_go' 2 (pc' := 27) (ls' := [mv_R 0, mv_I 3, mv_R 77]) (st' := [mv_I (M 77 2)]) (M1 := M) rfl ?_
  rw [show M 77 2 = sz from by exact hz1]
  refine mv_go' 3 (pc' := 34) (ls' := [mv_R 0, mv_I 3, mv_R 77]) (st' := [mv_I (M 30 8), mv_I sz]) (M1 := M) rfl ?_
  have hr13 := sp_ok_s8 ho
  rw [show M 30 8 = V 0 8 from by exact sp_c_s8 hc]
  refine mv_go' 1 (pc' := if (V 0 8) < sz then 37 else 42) (ls' := [mv_R 0, mv_I 3, mv_R 77]) (st' := []) (M1 := M) rfl ?_
  refine mv_ff' (by omega) ?_
  refine mv_go' 1 (pc' := 43) (ls' := [mv_R 0, mv_I 3, mv_R 77]) (st' := [mv_I 0]) (M1 := M) rfl ?_
  exact mv_Ru.val (mv_ret (fun n => rfl) rfl) (congrArg mv_I (by first | omega | (unfold sp_rfv; repeat (first | omega | split))))
theorem sp_crr_3_f {V M : mv_M} {so sz : Int} (hc : sp_c 30 M V) (ho : sp_ok V) (hs1 : M 77 1 = so) (hz1 : M 77 2 = sz) (hg : ¬ (so ≠ -1 ∧ sz ≤ V 0 8)) : mv_Ru 1 98 0 [mv_R 0, mv_I 3, mv_U] [] M (mv_I (sp_rfv so sz (V 0 8))) (fun M1 => M1 = M) := by
  refine mv_go' 2 (pc' := 2) (ls' := [mv_R 0, mv_I 3, mv_U]) (st' := [mv_I 3, mv_R 0]) (M1 := M) rfl ?_
  refine mv_callP (st2 := [mv_R 77]) rfl (Or.inl rfl) rfl rfl rfl (sp_sheetAt_3) (by first | decide | omega) ?_
  refine mv_go' 4 (pc' := 14) (ls' := [mv_R 0, mv_I 3, mv_R 77]) (st' := [mv_R 77]) (M1 := M) rfl ?_
  by_cases ha20 : so = -1
  · refine mv_callP (st2 := [mv_I 1]) rfl (Or.inl rfl) rfl rfl rfl (sp_isMiss_3_t (hs1.trans ha20)) (by first | decide | omega) ?_
    refine mv_go' 1 (pc' := if 1 = 0 then 23 else 20) (ls' := [mv_R 0, mv_I 3, mv_R 77]) (st' := []) (M1 := M) rfl ?_
    refine mv_ff' (by first | decide | omega) ?_
    refine mv_go' 1 (pc' := 22) (ls' := [mv_R 0, mv_I 3, mv_R 77]) (st' := [mv_I (-11)]) (M1 := M) rfl ?_
    exact mv_Ru.val (mv_ret (fun n => rfl) rfl) (congrArg mv_I (by first | omega | (unfold sp_rfv; repeat (first | omega | split))))
  · refine mv_callP (st2 := [mv_I 0]) rfl (Or.inl rfl) rfl rfl rfl (sp_isMiss_3_f (fun q => ha20 (hs1.symm.trans q))) (by first | decide | omega) ?_
    refine mv_go' 1 (pc' := if 0 = 0 then 23 else 20) (ls' := [mv_R 0, mv_I 3, mv_R 77]) (st' := []) (M1 := M) rfl ?_
    refine mv_tt' (by first | decide | omega) ?_
    refine mv_go' 2 (pc' := 27) (ls' := [mv_R 0, mv_I 3, mv_R 77]) (st' := [mv_I (M 77 2)]) (M1 := M) rfl ?_
    rw [show M 77 2 = sz from by exact hz1]
    refine mv_go' 3 (pc' := 34) (ls' := [mv_R 0, mv_I 3, mv_R 77]) (st' := [mv_I (M 30 8), mv_I sz]) (M1 := M) rfl ?_
    have hr15 := sp_ok_s8 ho
    rw [show M 30 8 = V 0 8 from by exact sp_c_s8 hc]
    refine mv_go' 1 (pc' := if (V 0 8) < sz then 37 else 42) (ls' := [mv_R 0, mv_I 3, mv_R 77]) (st' := []) (M1 := M) rfl ?_
    refine mv_tt' (by omega) ?_
    refine mv_go' 2 (pc' := 43) (ls' := [mv_R 0, mv_I 3, mv_R 77]) (st' := [mv_I (-2)]) (M1 := M) rfl ?_
    exact mv_Ru.val (mv_ret (fun n => rfl) rfl) (congrArg mv_I (by first | omega | (unfold sp_rfv; repeat (first | omega | split))))
theorem sp_crj_3_t {V M : mv_M} {so sz u : Int} (hc : sp_c 30 M V) (ho : sp_ok V) (hs1 : M 77 1 = so) (hz1 : M 77 2 = sz) (hg : (so ≠ -1 ∧ sz ≤ V 0 8) ∧ 0 ≤ u ∧ u < V 0 9) : mv_Ru 2 99 0 [mv_R 0, mv_I 3, mv_I u, mv_U] [] M (mv_I 0) (fun M1 => M1 = M) := by
  refine mv_go' 2 (pc' := 2) (ls' := [mv_R 0, mv_I 3, mv_I u, mv_U]) (st' := [mv_I 3, mv_R 0]) (M1 := M) rfl ?_
  have ha21 : so ≠ -1 ∧ sz ≤ V 0 8 := by omega
  refine mv_callP (st2 := [mv_I 0]) rfl (Or.inl rfl) rfl rfl rfl (sp_crr_3_t hc ho hs1 hz1 ha21) (by first | decide | omega) ?_
  refine mv_go' 3 (pc' := if 0 = 0 then 14 else 10) (ls' := [mv_R 0, mv_I 3, mv_I u, mv_I 0]) (st' := []) (M1 := M) rfl ?_
  refine mv_tt' (by first | decide | omega) ?_
  refine mv_go' 3 (pc' := 19) (ls' := [mv_R 0, mv_I 3, mv_I u, mv_I 0]) (st' := [mv_I u, mv_R 30]) (M1 := M) rfl ?_
  have ha22 : 0 ≤ u ∧ u < V 0 9 := by omega
  refine mv_callP (st2 := [mv_I 1]) rfl (Or.inl rfl) rfl rfl rfl (sp_cisUncle_t_30 hc ho ha22) (by first | decide | omega) ?_
  refine mv_go' 1 (pc' := if 1 = 0 then 29 else 25) (ls' := [mv_R 0, mv_I 3, mv_I u, mv_I 0]) (st' := []) (M1 := M) rfl ?_
  refine mv_ff' (by first | decide | omega) ?_
  refine mv_go' 2 (pc' := 31) (ls' := [mv_R 0, mv_I 3, mv_I u, mv_I 0]) (st' := [mv_I 0]) (M1 := M) rfl ?_
  exact mv_Ru.val (mv_ret (fun n => rfl) rfl) (congrArg mv_I (by first | omega | (unfold sp_rfv; repeat (first | omega | split))))
theorem sp_crj_3_f {V M : mv_M} {so sz u : Int} (hc : sp_c 30 M V) (ho : sp_ok V) (hs1 : M 77 1 = so) (hz1 : M 77 2 = sz) (hg : ¬ ((so ≠ -1 ∧ sz ≤ V 0 8) ∧ 0 ≤ u ∧ u < V 0 9)) : mv_Ru 2 99 0 [mv_R 0, mv_I 3, mv_I u, mv_U] [] M (mv_I (sp_rfv so sz (V 0 8))) (fun M1 => M1 = M) := by
  have hnz := sp_rfv_n so sz (V 0 8)
  refine mv_go' 2 (pc' := 2) (ls' := [mv_R 0, mv_I 3, mv_I u, mv_U]) (st' := [mv_I 3, mv_R 0]) (M1 := M) rfl ?_
  by_cases ha23 : so ≠ -1 ∧ sz ≤ V 0 8
  · refine mv_callP (st2 := [mv_I 0]) rfl (Or.inl rfl) rfl rfl rfl (sp_crr_3_t hc ho hs1 hz1 ha23) (by first | decide | omega) ?_
    refine mv_go' 3 (pc' := if 0 = 0 then 14 else 10) (ls' := [mv_R 0, mv_I 3, mv_I u, mv_I 0]) (st' := []) (M1 := M) rfl ?_
    refine mv_tt' (by first | decide | omega) ?_
    refine mv_go' 3 (pc' := 19) (ls' := [mv_R 0, mv_I 3, mv_I u, mv_I 0]) (st' := [mv_I u, mv_R 30]) (M1 := M) rfl ?_
    have ha24 : ¬ (0 ≤ u ∧ u < V 0 9) := by omega
    refine mv_callP (st2 := [mv_I 0]) rfl (Or.inl rfl) rfl rfl rfl (sp_cisUncle_f_30 hc ho ha24) (by first | decide | omega) ?_
    refine mv_go' 1 (pc' := if 0 = 0 then 29 else 25) (ls' := [mv_R 0, mv_I 3, mv_I u, mv_I 0]) (st' := []) (M1 := M) rfl ?_
    refine mv_tt' (by first | decide | omega) ?_
    refine mv_go' 1 (pc' := 31) (ls' := [mv_R 0, mv_I 3, mv_I u, mv_I 0]) (st' := [mv_I (-5)]) (M1 := M) rfl ?_
    exact mv_Ru.val (mv_ret (fun n => rfl) rfl) (congrArg mv_I (by first | omega | (unfold sp_rfv; repeat (first | omega | split))))
  · refine mv_callP (st2 := [mv_I (sp_rfv so sz (V 0 8))]) rfl (Or.inl rfl) rfl rfl rfl (sp_crr_3_f hc ho hs1 hz1 ha23) (by first | decide | omega) ?_
    refine mv_go' 3 (pc' := if (sp_rfv so sz (V 0 8)) = 0 then 14 else 10) (ls' := [mv_R 0, mv_I 3, mv_I u, mv_I (sp_rfv so sz (V 0 8))]) (st' := []) (M1 := M) rfl ?_
    refine mv_ff' (by omega) ?_
    refine mv_go' 2 (pc' := 31) (ls' := [mv_R 0, mv_I 3, mv_I u, mv_I (sp_rfv so sz (V 0 8))]) (st' := [mv_I (sp_rfv so sz (V 0 8))]) (M1 := M) rfl ?_
    exact mv_Ru.val (mv_ret (fun n => rfl) rfl) (congrArg mv_I (by first | omega | (unfold sp_rfv; repeat (first | omega | split))))
theorem sp_crr_n {M : mv_M} {s : Int} (hs : ¬ (0 ≤ s ∧ s ≤ 3)) : mv_Ru 1 98 0 [mv_R 0, mv_I s, mv_U] [] M (mv_I (-2)) (fun M1 => M1 = M) := by
  refine mv_go' 2 (pc' := 2) (ls' := [mv_R 0, mv_I s, mv_U]) (st' := [mv_I s, mv_R 0]) (M1 := M) rfl ?_
  refine mv_callP (st2 := [mv_N]) rfl (Or.inl rfl) rfl rfl rfl (sp_sheetAt_n hs) (by first | decide | omega) ?_
  refine mv_go' 4 (pc' := 12) (ls' := [mv_R 0, mv_I s, mv_N]) (st' := [mv_I (-2)]) (M1 := M) rfl ?_
  exact mv_ret (fun n => rfl) rfl
theorem sp_crj_n {M : mv_M} {s u : Int} (hs : ¬ (0 ≤ s ∧ s ≤ 3)) : mv_Ru 2 99 0 [mv_R 0, mv_I s, mv_I u, mv_U] [] M (mv_I (-2)) (fun M1 => M1 = M) := by
  refine mv_go' 2 (pc' := 2) (ls' := [mv_R 0, mv_I s, mv_I u, mv_U]) (st' := [mv_I s, mv_R 0]) (M1 := M) rfl ?_
  refine mv_callP (st2 := [mv_I (-2)]) rfl (Or.inl rfl) rfl rfl rfl (sp_crr_n hs) (by first | decide | omega) ?_
  refine mv_go' 3 (pc' := if (-2) = 0 then 14 else 10) (ls' := [mv_R 0, mv_I s, mv_I u, mv_I (-2)]) (st' := []) (M1 := M) rfl ?_
  refine mv_ff' (by first | decide | omega) ?_
  refine mv_go' 2 (pc' := 31) (ls' := [mv_R 0, mv_I s, mv_I u, mv_I (-2)]) (st' := [mv_I (-2)]) (M1 := M) rfl ?_
  exact mv_ret (fun n => rfl) rfl
theorem sp_mrr_n {M : mv_M} {s : Int} (hs : ¬ (0 ≤ s ∧ s ≤ 3)) : mv_Ru 1 171 0 [mv_R 100, mv_I s] [] M (mv_I (-2)) (fun M1 => M1 = M) := by
  refine mv_go' 3 (pc' := 3) (ls' := [mv_R 100, mv_I s]) (st' := [mv_I 3, mv_I 0, mv_I s]) (M1 := M) rfl ?_
  have ha25 : ¬ ((0 : Int) ≤ s ∧ s ≤ (3 : Int)) := by omega
  refine mv_callP (st2 := [mv_I 0]) rfl (Or.inr rfl) rfl rfl rfl (sp_min_f ha25) (by first | decide | omega) ?_
  refine mv_go' 1 (pc' := if 0 = 0 then 9 else 12) (ls' := [mv_R 100, mv_I s]) (st' := []) (M1 := M) rfl ?_
  refine mv_tt' (by first | decide | omega) ?_
  refine mv_go' 1 (pc' := 11) (ls' := [mv_R 100, mv_I s]) (st' := [mv_I (-2)]) (M1 := M) rfl ?_
  exact mv_ret (fun n => rfl) rfl
theorem sp_mrj_n {M : mv_M} {s u : Int} (hs : ¬ (0 ≤ s ∧ s ≤ 3)) : mv_Ru 2 172 0 [mv_R 100, mv_I s, mv_I u, mv_U] [] M (mv_I (-2)) (fun M1 => M1 = M) := by
  refine mv_go' 2 (pc' := 2) (ls' := [mv_R 100, mv_I s, mv_I u, mv_U]) (st' := [mv_I s, mv_R 100]) (M1 := M) rfl ?_
  refine mv_callP (st2 := [mv_I (-2)]) rfl (Or.inl rfl) rfl rfl rfl (sp_mrr_n hs) (by first | decide | omega) ?_
  refine mv_go' 3 (pc' := if (-2) = 0 then 14 else 10) (ls' := [mv_R 100, mv_I s, mv_I u, mv_I (-2)]) (st' := []) (M1 := M) rfl ?_
  refine mv_ff' (by first | decide | omega) ?_
  refine mv_go' 2 (pc' := 28) (ls' := [mv_R 100, mv_I s, mv_I u, mv_I (-2)]) (st' := [mv_I (-2)]) (M1 := M) rfl ?_
  exact mv_ret (fun n => rfl) rfl
theorem sp_mrr_t {V M : mv_M} {S : Nat} {so sz : Int} (hS : S < 4) (hm : sp_m M V) (ho : sp_ok V) (hs2 : M 117 S = so) (hz2 : M 118 S = sz) (hg : so ≠ -1 ∧ sz ≤ V 0 8) : mv_Ru 1 171 0 [mv_R 100, mv_I (S : Int)] [] M (mv_I 0) (fun M1 => M1 = M) := by
  refine mv_go' 3 (pc' := 3) (ls' := [mv_R 100, mv_I (S : Int)]) (st' := [mv_I 3, mv_I 0, mv_I (S : Int)]) (M1 := M) rfl ?_
  have ha26 : (0 : Int) ≤ (S : Int) ∧ (S : Int) ≤ (3 : Int) := by omega
  refine mv_callP (st2 := [mv_I 1]) rfl (Or.inr rfl) rfl rfl rfl (sp_min_t ha26) (by first | decide | omega) ?_
  refine mv_go' 1 (pc' := if 1 = 0 then 9 else 12) (ls' := [mv_R 100, mv_I (S : Int)]) (st' := []) (M1 := M) rfl ?_
  refine mv_ff' (by first | decide | omega) ?_
  refine mv_go' 4 (pc' := if 0 ≤ (S : Int) ∧ (S : Int) < 4 then 18 else mv_bad) (ls' := [mv_R 100, mv_I (S : Int)]) (st' := [mv_I (M 117 S)]) (M1 := M) rfl ?_
  refine mv_tt' (by omega) ?_
  rw [show M 117 S = so from by exact hs2]
  refine mv_go' 2 (pc' := if so = (-1) then 22 else 25) (ls' := [mv_R 100, mv_I (S : Int)]) (st' := []) (M1 := M) rfl ?_
  refine mv_ff' (by omega) ?_
  refine mv_go' 4 (pc' := if 0 ≤ (S : Int) ∧ (S : Int) < 4 then 31 else mv_bad) (ls' := [mv_R 100, mv_I (S : Int)]) (st' := [mv_I (M 118 S)]) (M1 := M) rfl ?_
  refine mv_tt' (by omega) ?_
  rw [show M 118 S = sz from by exact hz2]
  refine mv_go' 2 (pc' := 35) (ls' := [mv_R 100, mv_I (S : Int)]) (st' := [mv_I (M 100 0), mv_I sz]) (M1 := M) rfl ?_
  have hr17 := sp_ok_s8 ho
  rw [show M 100 0 = V 0 8 from by exact sp_m_s8 hm]
  refine mv_go' 1 (pc' := if (V 0 8) < sz then 38 else 43) (ls' := [mv_R 100, mv_I (S : Int)]) (st' := []) (M1 := M) rfl ?_
  refine mv_ff' (by omega) ?_
  refine mv_go' 1 (pc' := 44) (ls' := [mv_R 100, mv_I (S : Int)]) (st' := [mv_I 0]) (M1 := M) rfl ?_
  exact mv_Ru.val (mv_ret (fun n => rfl) rfl) (congrArg mv_I (by first | omega | (unfold sp_rfv; repeat (first | omega | split))))
theorem sp_mrr_f {V M : mv_M} {S : Nat} {so sz : Int} (hS : S < 4) (hm : sp_m M V) (ho : sp_ok V) (hs2 : M 117 S = so) (hz2 : M 118 S = sz) (hg : ¬ (so ≠ -1 ∧ sz ≤ V 0 8)) : mv_Ru 1 171 0 [mv_R 100, mv_I (S : Int)] [] M (mv_I (sp_rfv so sz (V 0 8))) (fun M1 => M1 = M) := by
  refine mv_go' 3 (pc' := 3) (ls' := [mv_R 100, mv_I (S : Int)]) (st' := [mv_I 3, mv_I 0, mv_I (S : Int)]) (M1 := M) rfl ?_
  have ha27 : (0 : Int) ≤ (S : Int) ∧ (S : Int) ≤ (3 : Int) := by omega
  refine mv_callP (st2 := [mv_I 1]) rfl (Or.inr rfl) rfl rfl rfl (sp_min_t ha27) (by first | decide | omega) ?_
  refine mv_go' 1 (pc' := if 1 = 0 then 9 else 12) (ls' := [mv_R 100, mv_I (S : Int)]) (st' := []) (M1 := M) rfl ?_
  refine mv_ff' (by first | decide | omega) ?_
  refine mv_go' 4 (pc' := if 0 ≤ (S : Int) ∧ (S : Int) < 4 then 18 else mv_bad) (ls' := [mv_R 100, mv_I (S : Int)]) (st' := [mv_I (M 117 S)]) (M1 := M) rfl ?_
  refine mv_tt' (by omega) ?_
  rw [show M 117 S = so from by exact hs2]
  refine mv_go' 2 (pc' := if so = (-1) then 22 else 25) (ls' := [mv_R 100, mv_I (S : Int)]) (st' := []) (M1 := M) rfl ?_
  refine mv_sp' (fun ha28 => ?_) (fun ha28 => ?_)
  · refine mv_go' 1 (pc' := 24) (ls' := [mv_R 100, mv_I (S : Int)]) (st' := [mv_I (-11)]) (M1 := M) rfl ?_
    exact mv_Ru.val (mv_ret (fun n => rfl) rfl) (congrArg mv_I (by first | omega | (unfold sp_rfv; repeat (first | omega | split))))
  · refine mv_go' 4 (pc' := if 0 ≤ (S : Int) ∧ (S : Int) < 4 then 31 else mv_bad) (ls' := [mv_R 100, mv_I (S : Int)]) (st' := [mv_I (M 118 S)]) (M1 := M) rfl ?_
    refine mv_tt' (by omega) ?_
    rw [show M 118 S = sz from by exact hz2]
    refine mv_go' 2 (pc' := 35) (ls' := [mv_R 100, mv_I (S : Int)]) (st' := [mv_I (M 100 0), mv_I sz]) (M1 := M) rfl ?_
    have hr19 := sp_ok_s8 ho
    rw [show M 100 0 = V 0 8 from by exact sp_m_s8 hm]
    refine mv_go' 1 (pc' := if (V 0 8) < sz then 38 else 43) (ls' := [mv_R 100, mv_I (S : Int)]) (st' := []) (M1 := M) rfl ?_
    refine mv_tt' (by omega) ?_
    refine mv_go' 2 (pc' := 44) (ls' := [mv_R 100, mv_I (S : Int)]) (st' := [mv_I (-2)]) (M1 := M) rfl ?_
    exact mv_Ru.val (mv_ret (fun n => rfl) rfl) (congrArg mv_I (by first | omega | (unfold sp_rfv; repeat (first | omega | split))))
theorem sp_mrj_t {V M : mv_M} {S : Nat} {so sz u : Int} (hS : S < 4) (hm : sp_m M V) (ho : sp_ok V) (hs2 : M 117 S = so) (hz2 : M 118 S = sz) (hg : (so ≠ -1 ∧ sz ≤ V 0 8) ∧ 0 ≤ u ∧ u < V 0 9) : mv_Ru 2 172 0 [mv_R 100, mv_I (S : Int), mv_I u, mv_U] [] M (mv_I 0) (fun M1 => M1 = M) := by
  refine mv_go' 2 (pc' := 2) (ls' := [mv_R 100, mv_I (S : Int), mv_I u, mv_U]) (st' := [mv_I (S : Int), mv_R 100]) (M1 := M) rfl ?_
  have ha29 : so ≠ -1 ∧ sz ≤ V 0 8 := by omega
  refine mv_callP (st2 := [mv_I 0]) rfl (Or.inl rfl) rfl rfl rfl (sp_mrr_t hS hm ho hs2 hz2 ha29) (by first | decide | omega) ?_
  refine mv_go' 3 (pc' := if 0 = 0 then 14 else 10) (ls' := [mv_R 100, mv_I (S : Int), mv_I u, mv_I 0]) (st' := []) (M1 := M) rfl ?_
  refine mv_tt' (by first | decide | omega) ?_
  refine mv_go' 2 (pc' := 16) (ls' := [mv_R 100, mv_I (S : Int), mv_I u, mv_I 0]) (st' := [mv_I u, mv_R 100]) (M1 := M) rfl ?_
  have ha30 : 0 ≤ u ∧ u < V 0 9 := by omega
  refine mv_callP (st2 := [mv_I 1]) rfl (Or.inl rfl) rfl rfl rfl (sp_misUncle_t hm ho ha30) (by first | decide | omega) ?_
  refine mv_go' 1 (pc' := if 1 = 0 then 26 else 22) (ls' := [mv_R 100, mv_I (S : Int), mv_I u, mv_I 0]) (st' := []) (M1 := M) rfl ?_
  refine mv_ff' (by first | decide | omega) ?_
  refine mv_go' 2 (pc' := 28) (ls' := [mv_R 100, mv_I (S : Int), mv_I u, mv_I 0]) (st' := [mv_I 0]) (M1 := M) rfl ?_
  exact mv_Ru.val (mv_ret (fun n => rfl) rfl) (congrArg mv_I (by first | omega | (unfold sp_rfv; repeat (first | omega | split))))
theorem sp_mrj_f {V M : mv_M} {S : Nat} {so sz u : Int} (hS : S < 4) (hm : sp_m M V) (ho : sp_ok V) (hs2 : M 117 S = so) (hz2 : M 118 S = sz) (hg : ¬ ((so ≠ -1 ∧ sz ≤ V 0 8) ∧ 0 ≤ u ∧ u < V 0 9)) : mv_Ru 2 172 0 [mv_R 100, mv_I (S : Int), mv_I u, mv_U] [] M (mv_I (sp_rfv so sz (V 0 8))) (fun M1 => M1 = M) := by
  have hnz := sp_rfv_n so sz (V 0 8)
  refine mv_go' 2 (pc' := 2) (ls' := [mv_R 100, mv_I (S : Int), mv_I u, mv_U]) (st' := [mv_I (S : Int), mv_R 100]) (M1 := M) rfl ?_
  by_cases ha31 : so ≠ -1 ∧ sz ≤ V 0 8
  · refine mv_callP (st2 := [mv_I 0]) rfl (Or.inl rfl) rfl rfl rfl (sp_mrr_t hS hm ho hs2 hz2 ha31) (by first | decide | omega) ?_
    refine mv_go' 3 (pc' := if 0 = 0 then 14 else 10) (ls' := [mv_R 100, mv_I (S : Int), mv_I u, mv_I 0]) (st' := []) (M1 := M) rfl ?_
    refine mv_tt' (by first | decide | omega) ?_
    refine mv_go' 2 (pc' := 16) (ls' := [mv_R 100, mv_I (S : Int), mv_I u, mv_I 0]) (st' := [mv_I u, mv_R 100]) (M1 := M) rfl ?_
    have ha32 : ¬ (0 ≤ u ∧ u < V 0 9) := by omega
    refine mv_callP (st2 := [mv_I 0]) rfl (Or.inl rfl) rfl rfl rfl (sp_misUncle_f hm ho ha32) (by first | decide | omega) ?_
    refine mv_go' 1 (pc' := if 0 = 0 then 26 else 22) (ls' := [mv_R 100, mv_I (S : Int), mv_I u, mv_I 0]) (st' := []) (M1 := M) rfl ?_
    refine mv_tt' (by first | decide | omega) ?_
    refine mv_go' 1 (pc' := 28) (ls' := [mv_R 100, mv_I (S : Int), mv_I u, mv_I 0]) (st' := [mv_I (-5)]) (M1 := M) rfl ?_
    exact mv_Ru.val (mv_ret (fun n => rfl) rfl) (congrArg mv_I (by first | omega | (unfold sp_rfv; repeat (first | omega | split))))
  · refine mv_callP (st2 := [mv_I (sp_rfv so sz (V 0 8))]) rfl (Or.inl rfl) rfl rfl rfl (sp_mrr_f hS hm ho hs2 hz2 ha31) (by first | decide | omega) ?_
    refine mv_go' 3 (pc' := if (sp_rfv so sz (V 0 8)) = 0 then 14 else 10) (ls' := [mv_R 100, mv_I (S : Int), mv_I u, mv_I (sp_rfv so sz (V 0 8))]) (st' := []) (M1 := M) rfl ?_
    refine mv_ff' (by omega) ?_
    refine mv_go' 2 (pc' := 28) (ls' := [mv_R 100, mv_I (S : Int), mv_I u, mv_I (sp_rfv so sz (V 0 8))]) (st' := [mv_I (sp_rfv so sz (V 0 8))]) (M1 := M) rfl ?_
    exact mv_Ru.val (mv_ret (fun n => rfl) rfl) (congrArg mv_I (by first | omega | (unfold sp_rfv; repeat (first | omega | split))))
/-! judge, whose -/
def sp_pv (V : mv_M) (P : Nat → Nat → List Int) (g : Nat → Int) (z u : Nat) : Int := sp_ul (fun c => sp_suits V P c u) g z 0
theorem sp_cfv_0 {V M0 : mv_M} {P : Nat → Nat → List Int} {n : Int} {u z : Nat} {g : Nat → Int} (hc : sp_c 30 M0 V) (ho : sp_ok V) (hl : V 0 11 < n) (hn : n ≤ 6) (hP : sp_cts M0 P n) (hu : (u : Int) < V 0 9) (hz : M0 71 2 = (z : Int)) (hz8 : (z : Int) ≤ V 0 8) (hg : ∀ j, j < z → M0 72 j = g j) :
    mv_Ru 7 100 0 [mv_R 30, mv_R 71, mv_I (u : Int), mv_U] [] M0 (mv_I (sp_pv V P g z u)) (fun M1 => mv_ag [36, 37] M0 M1) := sp_cfo_30_0 hc ho hl hn hP hu hz hz8 hg
theorem sp_cfv_1 {V M0 : mv_M} {P : Nat → Nat → List Int} {n : Int} {u z : Nat} {g : Nat → Int} (hc : sp_c 30 M0 V) (ho : sp_ok V) (hl : V 0 11 < n) (hn : n ≤ 6) (hP : sp_cts M0 P n) (hu : (u : Int) < V 0 9) (hz : M0 73 2 = (z : Int)) (hz8 : (z : Int) ≤ V 0 8) (hg : ∀ j, j < z → M0 74 j = g j) :
    mv_Ru 7 100 0 [mv_R 30, mv_R 73, mv_I (u : Int), mv_U] [] M0 (mv_I (sp_pv V P g z u)) (fun M1 => mv_ag [36, 37] M0 M1) := sp_cfo_30_1 hc ho hl hn hP hu hz hz8 hg
theorem sp_cfv_2 {V M0 : mv_M} {P : Nat → Nat → List Int} {n : Int} {u z : Nat} {g : Nat → Int} (hc : sp_c 30 M0 V) (ho : sp_ok V) (hl : V 0 11 < n) (hn : n ≤ 6) (hP : sp_cts M0 P n) (hu : (u : Int) < V 0 9) (hz : M0 75 2 = (z : Int)) (hz8 : (z : Int) ≤ V 0 8) (hg : ∀ j, j < z → M0 76 j = g j) :
    mv_Ru 7 100 0 [mv_R 30, mv_R 75, mv_I (u : Int), mv_U] [] M0 (mv_I (sp_pv V P g z u)) (fun M1 => mv_ag [36, 37] M0 M1) := sp_cfo_30_2 hc ho hl hn hP hu hz hz8 hg
theorem sp_cfv_3 {V M0 : mv_M} {P : Nat → Nat → List Int} {n : Int} {u z : Nat} {g : Nat → Int} (hc : sp_c 30 M0 V) (ho : sp_ok V) (hl : V 0 11 < n) (hn : n ≤ 6) (hP : sp_cts M0 P n) (hu : (u : Int) < V 0 9) (hz : M0 77 2 = (z : Int)) (hz8 : (z : Int) ≤ V 0 8) (hg : ∀ j, j < z → M0 78 j = g j) :
    mv_Ru 7 100 0 [mv_R 30, mv_R 77, mv_I (u : Int), mv_U] [] M0 (mv_I (sp_pv V P g z u)) (fun M1 => mv_ag [36, 37] M0 M1) := sp_cfo_30_3 hc ho hl hn hP hu hz hz8 hg
theorem sp_mfv {V M0 : mv_M} {P : Nat → Nat → List Int} {n : Int} {S u z : Nat} {g : Nat → Int} (hS : S < 4) (hm : sp_m M0 V) (ho : sp_ok V) (hl : V 0 11 < n) (hP : sp_mts M0 P n) (hu : (u : Int) < V 0 9) (hz : M0 118 S = (z : Int)) (hz8 : (z : Int) ≤ V 0 8) (hg : ∀ j, j < z → M0 119 (40 * S + j) = g j) :
    mv_Ru 7 173 0 [mv_R 100, mv_I (S : Int), mv_I (u : Int), mv_U] [] M0 (mv_I (sp_pv V P g z u)) (fun M1 => mv_ag [130, 131] M0 M1) := sp_mul hS hm ho hl hP hu hz hz8 hg
theorem sp_k20_0 (a : Int) : sp_call 81 174 [mv_I 0, mv_I a] [mv_I 0, mv_I a] := by
  refine sp_mkW (lc := [mv_R 0, mv_I 0, mv_I a, mv_U]) (lm := [mv_R 100, mv_I 0, mv_I a, mv_U]) rfl rfl (fun M hI => ?_)
  have hI2 := hI
  obtain ⟨V, P, n, B, K, t, h⟩ := hI2
  have h' := h
  obtain ⟨⟨hc, hm, ho⟩, ⟨hy, hl, hn1, hn⟩, ⟨hct, hmt, _⟩, _⟩ := h'
  obtain ⟨so, sz, ⟨hs1, hs2, so0, so1⟩, ⟨hz1, hz2, sz0, sz1⟩, hcl⟩ := sp_sh_get h 0 (by decide)
  obtain ⟨z, rfl⟩ : ∃ x : Nat, sz = (x : Int) := ⟨sz.toNat, by omega⟩
  have hnz := sp_rfv_n so z (V 0 8)
  by_cases h0 : 0 ≤ a
  · obtain ⟨u, rfl⟩ : ∃ x : Nat, a = (x : Int) := ⟨a.toNat, by omega⟩
    refine mv_goW 3 (pc' := 3) (ls' := [mv_R 0, mv_I 0, mv_I (u : Int), mv_U]) (st' := [mv_I (u : Int), mv_I 0, mv_R 0]) (M1 := M) rfl ?_
    by_cases ha33 : (so ≠ -1 ∧ (z : Int) ≤ V 0 8) ∧ 0 ≤ (u : Int) ∧ (u : Int) < V 0 9
    · refine mv_callPW (st2 := [mv_I 0]) rfl (Or.inl rfl) rfl rfl rfl (sp_crj_0_t hc ho hs1 hz1 ha33) (by first | decide | omega) ?_
      refine mv_goW 3 (pc' := if 0 = 0 then 15 else 11) (ls' := [mv_R 0, mv_I 0, mv_I (u : Int), mv_I 0]) (st' := []) (M1 := M) rfl ?_
      refine mv_ttW (by first | decide | omega) ?_
      refine mv_goW 4 (pc' := 21) (ls' := [mv_R 0, mv_I 0, mv_I (u : Int), mv_I 0]) (st' := [mv_I 0, mv_R 0, mv_R 30]) (M1 := M) rfl ?_
      refine mv_callPW (st2 := [mv_R 71, mv_R 30]) rfl (Or.inl rfl) rfl rfl rfl (sp_sheetAt_0) (by first | decide | omega) ?_
      refine mv_goW 1 (pc' := 25) (ls' := [mv_R 0, mv_I 0, mv_I (u : Int), mv_I 0]) (st' := [mv_I (u : Int), mv_R 71, mv_R 30]) (M1 := M) rfl ?_
      refine mv_callW (st2 := [mv_I (sp_pv V P (fun j => M 119 (40 * 0 + j)) z u)]) rfl (Or.inr rfl) rfl rfl rfl (sp_cfv_0 (g := fun j => M 119 (40 * 0 + j)) (u := u) hc ho hl hn hct (by omega) hz1 (by omega) (fun j hj => hcl j (by omega))) (by first | decide | omega) (fun Ma34 hm35 => ?_)
      have hx := hm35
      have hm := sp_m_ag2 hm hx (by decide)
      have hmt := sp_mts_ag hmt hx (by decide)
      have hs2 : Ma34 117 0 = so := by rw [hx 117 (by decide)]; exact hs2
      have hz2 : Ma34 118 0 = (z : Int) := by rw [hx 118 (by decide)]; exact hz2
      refine mv_retW (fun n => rfl) ⟨_, rfl, ?_⟩
      refine mv_goW 3 (pc' := 3) (ls' := [mv_R 100, mv_I 0, mv_I (u : Int), mv_U]) (st' := [mv_I (u : Int), mv_I 0, mv_R 100]) (M1 := Ma34) rfl ?_
      have ha36 : (so ≠ -1 ∧ (z : Int) ≤ V 0 8) ∧ 0 ≤ (u : Int) ∧ (u : Int) < V 0 9 := by omega
      refine mv_callPW (st2 := [mv_I 0]) rfl (Or.inl rfl) rfl rfl rfl (sp_mrj_t (S := 0) (by decide) hm ho hs2 hz2 ha36) (by first | decide | omega) ?_
      refine mv_goW 3 (pc' := if 0 = 0 then 11 else 20) (ls' := [mv_R 100, mv_I 0, mv_I (u : Int), mv_I 0]) (st' := []) (M1 := Ma34) rfl ?_
      refine mv_ttW (by first | decide | omega) ?_
      refine mv_goW 3 (pc' := 14) (ls' := [mv_R 100, mv_I 0, mv_I (u : Int), mv_I 0]) (st' := [mv_I (u : Int), mv_I 0, mv_R 100]) (M1 := Ma34) rfl ?_
      refine mv_callW (st2 := [mv_I (sp_pv V P (fun j => M 119 (40 * 0 + j)) z u)]) rfl (Or.inl rfl) rfl rfl rfl (sp_mfv (S := 0) (g := fun j => M 119 (40 * 0 + j)) (u := u) (by decide) hm ho hl hmt (by omega) hz2 (by omega) (fun j hj => by rw [hx 119 (by decide)])) (by first | decide | omega) (fun Ma37 hm38 => ?_)
      refine mv_goW 1 (pc' := 21) (ls' := [mv_R 100, mv_I 0, mv_I (u : Int), mv_I 0]) (st' := [mv_I (sp_pv V P (fun j => M 119 (40 * 0 + j)) z u)]) (M1 := Ma37) rfl ?_
      exact mv_retW (fun n => rfl) ⟨congrArg mv_I (by first | with_reducible rfl | omega), ⟨V, P, n, B, K, t, sp_R_a1 (sp_R_a1 h hx (by decide) (by decide)) hm38 (by decide) (by decide)⟩⟩
    · refine mv_callPW (st2 := [mv_I (sp_rfv so (z : Int) (V 0 8))]) rfl (Or.inl rfl) rfl rfl rfl (sp_crj_0_f hc ho hs1 hz1 ha33) (by first | decide | omega) ?_
      refine mv_goW 3 (pc' := if (sp_rfv so (z : Int) (V 0 8)) = 0 then 15 else 11) (ls' := [mv_R 0, mv_I 0, mv_I (u : Int), mv_I (sp_rfv so (z : Int) (V 0 8))]) (st' := []) (M1 := M) rfl ?_
      refine mv_ffW (by omega) ?_
      refine mv_goW 2 (pc' := 28) (ls' := [mv_R 0, mv_I 0, mv_I (u : Int), mv_I (sp_rfv so (z : Int) (V 0 8))]) (st' := [mv_I (sp_rfv so (z : Int) (V 0 8))]) (M1 := M) rfl ?_
      refine mv_retW (fun n => rfl) ⟨_, rfl, ?_⟩
      refine mv_goW 3 (pc' := 3) (ls' := [mv_R 100, mv_I 0, mv_I (u : Int), mv_U]) (st' := [mv_I (u : Int), mv_I 0, mv_R 100]) (M1 := M) rfl ?_
      have ha39 : ¬ ((so ≠ -1 ∧ (z : Int) ≤ V 0 8) ∧ 0 ≤ (u : Int) ∧ (u : Int) < V 0 9) := by omega
      refine mv_callPW (st2 := [mv_I (sp_rfv so (z : Int) (V 0 8))]) rfl (Or.inl rfl) rfl rfl rfl (sp_mrj_f (S := 0) (by decide) hm ho hs2 hz2 ha39) (by first | decide | omega) ?_
      refine mv_goW 3 (pc' := if (sp_rfv so (z : Int) (V 0 8)) = 0 then 11 else 20) (ls' := [mv_R 100, mv_I 0, mv_I (u : Int), mv_I (sp_rfv so (z : Int) (V 0 8))]) (st' := []) (M1 := M) rfl ?_
      refine mv_ffW (by omega) ?_
      refine mv_goW 1 (pc' := 21) (ls' := [mv_R 100, mv_I 0, mv_I (u : Int), mv_I (sp_rfv so (z : Int) (V 0 8))]) (st' := [mv_I (sp_rfv so (z : Int) (V 0 8))]) (M1 := M) rfl ?_
      exact mv_retW (fun n => rfl) ⟨congrArg mv_I (by first | with_reducible rfl | omega), hI⟩
  · refine mv_goW 3 (pc' := 3) (ls' := [mv_R 0, mv_I 0, mv_I a, mv_U]) (st' := [mv_I a, mv_I 0, mv_R 0]) (M1 := M) rfl ?_
    have ha40 : ¬ ((so ≠ -1 ∧ (z : Int) ≤ V 0 8) ∧ 0 ≤ a ∧ a < V 0 9) := by omega
    refine mv_callPW (st2 := [mv_I (sp_rfv so (z : Int) (V 0 8))]) rfl (Or.inl rfl) rfl rfl rfl (sp_crj_0_f hc ho hs1 hz1 ha40) (by first | decide | omega) ?_
    refine mv_goW 3 (pc' := if (sp_rfv so (z : Int) (V 0 8)) = 0 then 15 else 11) (ls' := [mv_R 0, mv_I 0, mv_I a, mv_I (sp_rfv so (z : Int) (V 0 8))]) (st' := []) (M1 := M) rfl ?_
    refine mv_ffW (by omega) ?_
    refine mv_goW 2 (pc' := 28) (ls' := [mv_R 0, mv_I 0, mv_I a, mv_I (sp_rfv so (z : Int) (V 0 8))]) (st' := [mv_I (sp_rfv so (z : Int) (V 0 8))]) (M1 := M) rfl ?_
    refine mv_retW (fun n => rfl) ⟨_, rfl, ?_⟩
    refine mv_goW 3 (pc' := 3) (ls' := [mv_R 100, mv_I 0, mv_I a, mv_U]) (st' := [mv_I a, mv_I 0, mv_R 100]) (M1 := M) rfl ?_
    have ha41 : ¬ ((so ≠ -1 ∧ (z : Int) ≤ V 0 8) ∧ 0 ≤ a ∧ a < V 0 9) := by omega
    refine mv_callPW (st2 := [mv_I (sp_rfv so (z : Int) (V 0 8))]) rfl (Or.inl rfl) rfl rfl rfl (sp_mrj_f (S := 0) (by decide) hm ho hs2 hz2 ha41) (by first | decide | omega) ?_
    refine mv_goW 3 (pc' := if (sp_rfv so (z : Int) (V 0 8)) = 0 then 11 else 20) (ls' := [mv_R 100, mv_I 0, mv_I a, mv_I (sp_rfv so (z : Int) (V 0 8))]) (st' := []) (M1 := M) rfl ?_
    refine mv_ffW (by omega) ?_
    refine mv_goW 1 (pc' := 21) (ls' := [mv_R 100, mv_I 0, mv_I a, mv_I (sp_rfv so (z : Int) (V 0 8))]) (st' := [mv_I (sp_rfv so (z : Int) (V 0 8))]) (M1 := M) rfl ?_
    exact mv_retW (fun n => rfl) ⟨congrArg mv_I (by first | with_reducible rfl | omega), hI⟩
theorem sp_k20_1 (a : Int) : sp_call 81 174 [mv_I 1, mv_I a] [mv_I 1, mv_I a] := by
  refine sp_mkW (lc := [mv_R 0, mv_I 1, mv_I a, mv_U]) (lm := [mv_R 100, mv_I 1, mv_I a, mv_U]) rfl rfl (fun M hI => ?_)
  have hI2 := hI
  obtain ⟨V, P, n, B, K, t, h⟩ := hI2
  have h' := h
  obtain ⟨⟨hc, hm, ho⟩, ⟨hy, hl, hn1, hn⟩, ⟨hct, hmt, _⟩, _⟩ := h'
  obtain ⟨so, sz, ⟨hs1, hs2, so0, so1⟩, ⟨hz1, hz2, sz0, sz1⟩, hcl⟩ := sp_sh_get h 1 (by decide)
  obtain ⟨z, rfl⟩ : ∃ x : Nat, sz = (x : Int) := ⟨sz.toNat, by omega⟩
  have hnz := sp_rfv_n so z (V 0 8)
  by_cases h0 : 0 ≤ a
  · obtain ⟨u, rfl⟩ : ∃ x : Nat, a = (x : Int) := ⟨a.toNat, by omega⟩
    refine mv_goW 3 (pc' := 3) (ls' := [mv_R 0, mv_I 1, mv_I (u : Int), mv_U]) (st' := [mv_I (u : Int), mv_I 1, mv_R 0]) (M1 := M) rfl ?_
    by_cases ha42 : (so ≠ -1 ∧ (z : Int) ≤ V 0 8) ∧ 0 ≤ (u : Int) ∧ (u : Int) < V 0 9
    · refine mv_callPW (st2 := [mv_I 0]) rfl (Or.inl rfl) rfl rfl rfl (sp_crj_1_t hc ho hs1 hz1 ha42) (by first | decide | omega) ?_
      refine mv_goW 3 (pc' := if 0 = 0 then 15 else 11) (ls' := [mv_R 0, mv_I 1, mv_I (u : Int), mv_I 0]) (st' := []) (M1 := M) rfl ?_
      refine mv_ttW (by first | decide | omega) ?_
      refine mv_goW 4 (pc' := 21) (ls' := [mv_R 0, mv_I 1, mv_I (u : Int), mv_I 0]) (st' := [mv_I 1, mv_R 0, mv_R 30]) (M1 := M) rfl ?_
      refine mv_callPW (st2 := [mv_R 73, mv_R 30]) rfl (Or.inl rfl) rfl rfl rfl (sp_sheetAt_1) (by first | decide | omega) ?_
      refine mv_goW 1 (pc' := 25) (ls' := [mv_R 0, mv_I 1, mv_I (u : Int), mv_I 0]) (st' := [mv_I (u : Int), mv_R 73, mv_R 30]) (M1 := M) rfl ?_
      refine mv_callW (st2 := [mv_I (sp_pv V P (fun j => M 119 (40 * 1 + j)) z u)]) rfl (Or.inr rfl) rfl rfl rfl (sp_cfv_1 (g := fun j => M 119 (40 * 1 + j)) (u := u) hc ho hl hn hct (by omega) hz1 (by omega) (fun j hj => hcl j (by omega))) (by first | decide | omega) (fun Ma43 hm44 => ?_)
      have hx := hm44
      have hm := sp_m_ag2 hm hx (by decide)
      have hmt := sp_mts_ag hmt hx (by decide)
      have hs2 : Ma43 117 1 = so := by rw [hx 117 (by decide)]; exact hs2
      have hz2 : Ma43 118 1 = (z : Int) := by rw [hx 118 (by decide)]; exact hz2
      refine mv_retW (fun n => rfl) ⟨_, rfl, ?_⟩
      refine mv_goW 3 (pc' := 3) (ls' := [mv_R 100, mv_I 1, mv_I (u : Int), mv_U]) (st' := [mv_I (u : Int), mv_I 1, mv_R 100]) (M1 := Ma43) rfl ?_
      have ha45 : (so ≠ -1 ∧ (z : Int) ≤ V 0 8) ∧ 0 ≤ (u : Int) ∧ (u : Int) < V 0 9 := by omega
      refine mv_callPW (st2 := [mv_I 0]) rfl (Or.inl rfl) rfl rfl rfl (sp_mrj_t (S := 1) (by decide) hm ho hs2 hz2 ha45) (by first | decide | omega) ?_
      refine mv_goW 3 (pc' := if 0 = 0 then 11 else 20) (ls' := [mv_R 100, mv_I 1, mv_I (u : Int), mv_I 0]) (st' := []) (M1 := Ma43) rfl ?_
      refine mv_ttW (by first | decide | omega) ?_
      refine mv_goW 3 (pc' := 14) (ls' := [mv_R 100, mv_I 1, mv_I (u : Int), mv_I 0]) (st' := [mv_I (u : Int), mv_I 1, mv_R 100]) (M1 := Ma43) rfl ?_
      refine mv_callW (st2 := [mv_I (sp_pv V P (fun j => M 119 (40 * 1 + j)) z u)]) rfl (Or.inl rfl) rfl rfl rfl (sp_mfv (S := 1) (g := fun j => M 119 (40 * 1 + j)) (u := u) (by decide) hm ho hl hmt (by omega) hz2 (by omega) (fun j hj => by rw [hx 119 (by decide)])) (by first | decide | omega) (fun Ma46 hm47 => ?_)
      refine mv_goW 1 (pc' := 21) (ls' := [mv_R 100, mv_I 1, mv_I (u : Int), mv_I 0]) (st' := [mv_I (sp_pv V P (fun j => M 119 (40 * 1 + j)) z u)]) (M1 := Ma46) rfl ?_
      exact mv_retW (fun n => rfl) ⟨congrArg mv_I (by first | with_reducible rfl | omega), ⟨V, P, n, B, K, t, sp_R_a1 (sp_R_a1 h hx (by decide) (by decide)) hm47 (by decide) (by decide)⟩⟩
    · refine mv_callPW (st2 := [mv_I (sp_rfv so (z : Int) (V 0 8))]) rfl (Or.inl rfl) rfl rfl rfl (sp_crj_1_f hc ho hs1 hz1 ha42) (by first | decide | omega) ?_
      refine mv_goW 3 (pc' := if (sp_rfv so (z : Int) (V 0 8)) = 0 then 15 else 11) (ls' := [mv_R 0, mv_I 1, mv_I (u : Int), mv_I (sp_rfv so (z : Int) (V 0 8))]) (st' := []) (M1 := M) rfl ?_
      refine mv_ffW (by omega) ?_
      refine mv_goW 2 (pc' := 28) (ls' := [mv_R 0, mv_I 1, mv_I (u : Int), mv_I (sp_rfv so (z : Int) (V 0 8))]) (st' := [mv_I (sp_rfv so (z : Int) (V 0 8))]) (M1 := M) rfl ?_
      refine mv_retW (fun n => rfl) ⟨_, rfl, ?_⟩
      refine mv_goW 3 (pc' := 3) (ls' := [mv_R 100, mv_I 1, mv_I (u : Int), mv_U]) (st' := [mv_I (u : Int), mv_I 1, mv_R 100]) (M1 := M) rfl ?_
      have ha48 : ¬ ((so ≠ -1 ∧ (z : Int) ≤ V 0 8) ∧ 0 ≤ (u : Int) ∧ (u : Int) < V 0 9) := by omega
      refine mv_callPW (st2 := [mv_I (sp_rfv so (z : Int) (V 0 8))]) rfl (Or.inl rfl) rfl rfl rfl (sp_mrj_f (S := 1) (by decide) hm ho hs2 hz2 ha48) (by first | decide | omega) ?_
      refine mv_goW 3 (pc' := if (sp_rfv so (z : Int) (V 0 8)) = 0 then 11 else 20) (ls' := [mv_R 100, mv_I 1, mv_I (u : Int), mv_I (sp_rfv so (z : Int) (V 0 8))]) (st' := []) (M1 := M) rfl ?_
      refine mv_ffW (by omega) ?_
      refine mv_goW 1 (pc' := 21) (ls' := [mv_R 100, mv_I 1, mv_I (u : Int), mv_I (sp_rfv so (z : Int) (V 0 8))]) (st' := [mv_I (sp_rfv so (z : Int) (V 0 8))]) (M1 := M) rfl ?_
      exact mv_retW (fun n => rfl) ⟨congrArg mv_I (by first | with_reducible rfl | omega), hI⟩
  · refine mv_goW 3 (pc' := 3) (ls' := [mv_R 0, mv_I 1, mv_I a, mv_U]) (st' := [mv_I a, mv_I 1, mv_R 0]) (M1 := M) rfl ?_
    have ha49 : ¬ ((so ≠ -1 ∧ (z : Int) ≤ V 0 8) ∧ 0 ≤ a ∧ a < V 0 9) := by omega
    refine mv_callPW (st2 := [mv_I (sp_rfv so (z : Int) (V 0 8))]) rfl (Or.inl rfl) rfl rfl rfl (sp_crj_1_f hc ho hs1 hz1 ha49) (by first | decide | omega) ?_
    refine mv_goW 3 (pc' := if (sp_rfv so (z : Int) (V 0 8)) = 0 then 15 else 11) (ls' := [mv_R 0, mv_I 1, mv_I a, mv_I (sp_rfv so (z : Int) (V 0 8))]) (st' := []) (M1 := M) rfl ?_
    refine mv_ffW (by omega) ?_
    refine mv_goW 2 (pc' := 28) (ls' := [mv_R 0, mv_I 1, mv_I a, mv_I (sp_rfv so (z : Int) (V 0 8))]) (st' := [mv_I (sp_rfv so (z : Int) (V 0 8))]) (M1 := M) rfl ?_
    refine mv_retW (fun n => rfl) ⟨_, rfl, ?_⟩
    refine mv_goW 3 (pc' := 3) (ls' := [mv_R 100, mv_I 1, mv_I a, mv_U]) (st' := [mv_I a, mv_I 1, mv_R 100]) (M1 := M) rfl ?_
    have ha50 : ¬ ((so ≠ -1 ∧ (z : Int) ≤ V 0 8) ∧ 0 ≤ a ∧ a < V 0 9) := by omega
    refine mv_callPW (st2 := [mv_I (sp_rfv so (z : Int) (V 0 8))]) rfl (Or.inl rfl) rfl rfl rfl (sp_mrj_f (S := 1) (by decide) hm ho hs2 hz2 ha50) (by first | decide | omega) ?_
    refine mv_goW 3 (pc' := if (sp_rfv so (z : Int) (V 0 8)) = 0 then 11 else 20) (ls' := [mv_R 100, mv_I 1, mv_I a, mv_I (sp_rfv so (z : Int) (V 0 8))]) (st' := []) (M1 := M) rfl ?_
    refine mv_ffW (by omega) ?_
    refine mv_goW 1 (pc' := 21) (ls' := [mv_R 100, mv_I 1, mv_I a, mv_I (sp_rfv so (z : Int) (V 0 8))]) (st' := [mv_I (sp_rfv so (z : Int) (V 0 8))]) (M1 := M) rfl ?_
    exact mv_retW (fun n => rfl) ⟨congrArg mv_I (by first | with_reducible rfl | omega), hI⟩
theorem sp_k20_2 (a : Int) : sp_call 81 174 [mv_I 2, mv_I a] [mv_I 2, mv_I a] := by
  refine sp_mkW (lc := [mv_R 0, mv_I 2, mv_I a, mv_U]) (lm := [mv_R 100, mv_I 2, mv_I a, mv_U]) rfl rfl (fun M hI => ?_)
  have hI2 := hI
  obtain ⟨V, P, n, B, K, t, h⟩ := hI2
  have h' := h
  obtain ⟨⟨hc, hm, ho⟩, ⟨hy, hl, hn1, hn⟩, ⟨hct, hmt, _⟩, _⟩ := h'
  obtain ⟨so, sz, ⟨hs1, hs2, so0, so1⟩, ⟨hz1, hz2, sz0, sz1⟩, hcl⟩ := sp_sh_get h 2 (by decide)
  obtain ⟨z, rfl⟩ : ∃ x : Nat, sz = (x : Int) := ⟨sz.toNat, by omega⟩
  have hnz := sp_rfv_n so z (V 0 8)
  by_cases h0 : 0 ≤ a
  · obtain ⟨u, rfl⟩ : ∃ x : Nat, a = (x : Int) := ⟨a.toNat, by omega⟩
    refine mv_goW 3 (pc' := 3) (ls' := [mv_R 0, mv_I 2, mv_I (u : Int), mv_U]) (st' := [mv_I (u : Int), mv_I 2, mv_R 0]) (M1 := M) rfl ?_
    by_cases ha51 : (so ≠ -1 ∧ (z : Int) ≤ V 0 8) ∧ 0 ≤ (u : Int) ∧ (u : Int) < V 0 9
    · refine mv_callPW (st2 := [mv_I 0]) rfl (Or.inl rfl) rfl rfl rfl (sp_crj_2_t hc ho hs1 hz1 ha51) (by first | decide | omega) ?_
      refine mv_goW 3 (pc' := if 0 = 0 then 15 else 11) (ls' := [mv_R 0, mv_I 2, mv_I (u : Int), mv_I 0]) (st' := []) (M1 := M) rfl ?_
      refine mv_ttW (by first | decide | omega) ?_
      refine mv_goW 4 (pc' := 21) (ls' := [mv_R 0, mv_I 2, mv_I (u : Int), mv_I 0]) (st' := [mv_I 2, mv_R 0, mv_R 30]) (M1 := M) rfl ?_
      refine mv_callPW (st2 := [mv_R 75, mv_R 30]) rfl (Or.inl rfl) rfl rfl rfl (sp_sheetAt_2) (by first | decide | omega) ?_
      refine mv_goW 1 (pc' := 25) (ls' := [mv_R 0, mv_I 2, mv_I (u : Int), mv_I 0]) (st' := [mv_I (u : Int), mv_R 75, mv_R 30]) (M1 := M) rfl ?_
      refine mv_callW (st2 := [mv_I (sp_pv V P (fun j => M 119 (40 * 2 + j)) z u)]) rfl (Or.inr rfl) rfl rfl rfl (sp_cfv_2 (g := fun j => M 119 (40 * 2 + j)) (u := u) hc ho hl hn hct (by omega) hz1 (by omega) (fun j hj => hcl j (by omega))) (by first | decide | omega) (fun Ma52 hm53 => ?_)
      have hx := hm53
      have hm := sp_m_ag2 hm hx (by decide)
      have hmt := sp_mts_ag hmt hx (by decide)
      have hs2 : Ma52 117 2 = so := by rw [hx 117 (by decide)]; exact hs2
      have hz2 : Ma52 118 2 = (z : Int) := by rw [hx 118 (by decide)]; exact hz2
      refine mv_retW (fun n => rfl) ⟨_, rfl, ?_⟩
      refine mv_goW 3 (pc' := 3) (ls' := [mv_R 100, mv_I 2, mv_I (u : Int), mv_U]) (st' := [mv_I (u : Int), mv_I 2, mv_R 100]) (M1 := Ma52) rfl ?_
      have ha54 : (so ≠ -1 ∧ (z : Int) ≤ V 0 8) ∧ 0 ≤ (u : Int) ∧ (u : Int) < V 0 9 := by omega
      refine mv_callPW (st2 := [mv_I 0]) rfl (Or.inl rfl) rfl rfl rfl (sp_mrj_t (S := 2) (by decide) hm ho hs2 hz2 ha54) (by first | decide | omega) ?_
      refine mv_goW 3 (pc' := if 0 = 0 then 11 else 20) (ls' := [mv_R 100, mv_I 2, mv_I (u : Int), mv_I 0]) (st' := []) (M1 := Ma52) rfl ?_
      refine mv_ttW (by first | decide | omega) ?_
      refine mv_goW 3 (pc' := 14) (ls' := [mv_R 100, mv_I 2, mv_I (u : Int), mv_I 0]) (st' := [mv_I (u : Int), mv_I 2, mv_R 100]) (M1 := Ma52) rfl ?_
      refine mv_callW (st2 := [mv_I (sp_pv V P (fun j => M 119 (40 * 2 + j)) z u)]) rfl (Or.inl rfl) rfl rfl rfl (sp_mfv (S := 2) (g := fun j => M 119 (40 * 2 + j)) (u := u) (by decide) hm ho hl hmt (by omega) hz2 (by omega) (fun j hj => by rw [hx 119 (by decide)])) (by first | decide | omega) (fun Ma55 hm56 => ?_)
      refine mv_goW 1 (pc' := 21) (ls' := [mv_R 100, mv_I 2, mv_I (u : Int), mv_I 0]) (st' := [mv_I (sp_pv V P (fun j => M 119 (40 * 2 + j)) z u)]) (M1 := Ma55) rfl ?_
      exact mv_retW (fun n => rfl) ⟨congrArg mv_I (by first | with_reducible rfl | omega), ⟨V, P, n, B, K, t, sp_R_a1 (sp_R_a1 h hx (by decide) (by decide)) hm56 (by decide) (by decide)⟩⟩
    · refine mv_callPW (st2 := [mv_I (sp_rfv so (z : Int) (V 0 8))]) rfl (Or.inl rfl) rfl rfl rfl (sp_crj_2_f hc ho hs1 hz1 ha51) (by first | decide | omega) ?_
      refine mv_goW 3 (pc' := if (sp_rfv so (z : Int) (V 0 8)) = 0 then 15 else 11) (ls' := [mv_R 0, mv_I 2, mv_I (u : Int), mv_I (sp_rfv so (z : Int) (V 0 8))]) (st' := []) (M1 := M) rfl ?_
      refine mv_ffW (by omega) ?_
      refine mv_goW 2 (pc' := 28) (ls' := [mv_R 0, mv_I 2, mv_I (u : Int), mv_I (sp_rfv so (z : Int) (V 0 8))]) (st' := [mv_I (sp_rfv so (z : Int) (V 0 8))]) (M1 := M) rfl ?_
      refine mv_retW (fun n => rfl) ⟨_, rfl, ?_⟩
      refine mv_goW 3 (pc' := 3) (ls' := [mv_R 100, mv_I 2, mv_I (u : Int), mv_U]) (st' := [mv_I (u : Int), mv_I 2, mv_R 100]) (M1 := M) rfl ?_
      have ha57 : ¬ ((so ≠ -1 ∧ (z : Int) ≤ V 0 8) ∧ 0 ≤ (u : Int) ∧ (u : Int) < V 0 9) := by omega
      refine mv_callPW (st2 := [mv_I (sp_rfv so (z : Int) (V 0 8))]) rfl (Or.inl rfl) rfl rfl rfl (sp_mrj_f (S := 2) (by decide) hm ho hs2 hz2 ha57) (by first | decide | omega) ?_
      refine mv_goW 3 (pc' := if (sp_rfv so (z : Int) (V 0 8)) = 0 then 11 else 20) (ls' := [mv_R 100, mv_I 2, mv_I (u : Int), mv_I (sp_rfv so (z : Int) (V 0 8))]) (st' := []) (M1 := M) rfl ?_
      refine mv_ffW (by omega) ?_
      refine mv_goW 1 (pc' := 21) (ls' := [mv_R 100, mv_I 2, mv_I (u : Int), mv_I (sp_rfv so (z : Int) (V 0 8))]) (st' := [mv_I (sp_rfv so (z : Int) (V 0 8))]) (M1 := M) rfl ?_
      exact mv_retW (fun n => rfl) ⟨congrArg mv_I (by first | with_reducible rfl | omega), hI⟩
  · refine mv_goW 3 (pc' := 3) (ls' := [mv_R 0, mv_I 2, mv_I a, mv_U]) (st' := [mv_I a, mv_I 2, mv_R 0]) (M1 := M) rfl ?_
    have ha58 : ¬ ((so ≠ -1 ∧ (z : Int) ≤ V 0 8) ∧ 0 ≤ a ∧ a < V 0 9) := by omega
    refine mv_callPW (st2 := [mv_I (sp_rfv so (z : Int) (V 0 8))]) rfl (Or.inl rfl) rfl rfl rfl (sp_crj_2_f hc ho hs1 hz1 ha58) (by first | decide | omega) ?_
    refine mv_goW 3 (pc' := if (sp_rfv so (z : Int) (V 0 8)) = 0 then 15 else 11) (ls' := [mv_R 0, mv_I 2, mv_I a, mv_I (sp_rfv so (z : Int) (V 0 8))]) (st' := []) (M1 := M) rfl ?_
    refine mv_ffW (by omega) ?_
    refine mv_goW 2 (pc' := 28) (ls' := [mv_R 0, mv_I 2, mv_I a, mv_I (sp_rfv so (z : Int) (V 0 8))]) (st' := [mv_I (sp_rfv so (z : Int) (V 0 8))]) (M1 := M) rfl ?_
    refine mv_retW (fun n => rfl) ⟨_, rfl, ?_⟩
    refine mv_goW 3 (pc' := 3) (ls' := [mv_R 100, mv_I 2, mv_I a, mv_U]) (st' := [mv_I a, mv_I 2, mv_R 100]) (M1 := M) rfl ?_
    have ha59 : ¬ ((so ≠ -1 ∧ (z : Int) ≤ V 0 8) ∧ 0 ≤ a ∧ a < V 0 9) := by omega
    refine mv_callPW (st2 := [mv_I (sp_rfv so (z : Int) (V 0 8))]) rfl (Or.inl rfl) rfl rfl rfl (sp_mrj_f (S := 2) (by decide) hm ho hs2 hz2 ha59) (by first | decide | omega) ?_
    refine mv_goW 3 (pc' := if (sp_rfv so (z : Int) (V 0 8)) = 0 then 11 else 20) (ls' := [mv_R 100, mv_I 2, mv_I a, mv_I (sp_rfv so (z : Int) (V 0 8))]) (st' := []) (M1 := M) rfl ?_
    refine mv_ffW (by omega) ?_
    refine mv_goW 1 (pc' := 21) (ls' := [mv_R 100, mv_I 2, mv_I a, mv_I (sp_rfv so (z : Int) (V 0 8))]) (st' := [mv_I (sp_rfv so (z : Int) (V 0 8))]) (M1 := M) rfl ?_
    exact mv_retW (fun n => rfl) ⟨congrArg mv_I (by first | with_reducible rfl | omega), hI⟩
theorem sp_k20_3 (a : Int) : sp_call 81 174 [mv_I 3, mv_I a] [mv_I 3, mv_I a] := by
  refine sp_mkW (lc := [mv_R 0, mv_I 3, mv_I a, mv_U]) (lm := [mv_R 100, mv_I 3, mv_I a, mv_U]) rfl rfl (fun M hI => ?_)
  have hI2 := hI
  obtain ⟨V, P, n, B, K, t, h⟩ := hI2
  have h' := h
  obtain ⟨⟨hc, hm, ho⟩, ⟨hy, hl, hn1, hn⟩, ⟨hct, hmt, _⟩, _⟩ := h'
  obtain ⟨so, sz, ⟨hs1, hs2, so0, so1⟩, ⟨hz1, hz2, sz0, sz1⟩, hcl⟩ := sp_sh_get h 3 (by decide)
  obtain ⟨z, rfl⟩ : ∃ x : Nat, sz = (x : Int) := ⟨sz.toNat, by omega⟩
  have hnz := sp_rfv_n so z (V 0 8)
  by_cases h0 : 0 ≤ a
  · obtain ⟨u, rfl⟩ : ∃ x : Nat, a = (x : Int) := ⟨a.toNat, by omega⟩
    refine mv_goW 3 (pc' := 3) (ls' := [mv_R 0, mv_I 3, mv_I (u : Int), mv_U]) (st' := [mv_I (u : Int), mv_I 3, mv_R 0]) (M1 := M) rfl ?_
    by_cases ha60 : (so ≠ -1 ∧ (z : Int) ≤ V 0 8) ∧ 0 ≤ (u : Int) ∧ (u : Int) < V 0 9
    · refine mv_callPW (st2 := [mv_I 0]) rfl (Or.inl rfl) rfl rfl rfl (sp_crj_3_t hc ho hs1 hz1 ha60) (by first | decide | omega) ?_
      refine mv_goW 3 (pc' := if 0 = 0 then 15 else 11) (ls' := [mv_R 0, mv_I 3, mv_I (u : Int), mv_I 0]) (st' := []) (M1 := M) rfl ?_
      refine mv_ttW (by first | decide | omega) ?_
      refine mv_goW 4 (pc' := 21) (ls' := [mv_R 0, mv_I 3, mv_I (u : Int), mv_I 0]) (st' := [mv_I 3, mv_R 0, mv_R 30]) (M1 := M) rfl ?_
      refine mv_callPW (st2 := [mv_R 77, mv_R 30]) rfl (Or.inl rfl) rfl rfl rfl (sp_sheetAt_3) (by first | decide | omega) ?_
      refine mv_goW 1 (pc' := 25) (ls' := [mv_R 0, mv_I 3, mv_I (u : Int), mv_I 0]) (st' := [mv_I (u : Int), mv_R 77, mv_R 30]) (M1 := M) rfl ?_
      refine mv_callW (st2 := [mv_I (sp_pv V P (fun j => M 119 (40 * 3 + j)) z u)]) rfl (Or.inr rfl) rfl rfl rfl (sp_cfv_3 (g := fun j => M 119 (40 * 3 + j)) (u := u) hc ho hl hn hct (by omega) hz1 (by omega) (fun j hj => hcl j (by omega))) (by first | decide | omega) (fun Ma61 hm62 => ?_)
      have hx := hm62
      have hm := sp_m_ag2 hm hx (by decide)
      have hmt := sp_mts_ag hmt hx (by decide)
      have hs2 : Ma61 117 3 = so := by rw [hx 117 (by decide)]; exact hs2
      have hz2 : Ma61 118 3 = (z : Int) := by rw [hx 118 (by decide)]; exact hz2
      refine mv_retW (fun n => rfl) ⟨_, rfl, ?_⟩
      refine mv_goW 3 (pc' := 3) (ls' := [mv_R 100, mv_I 3, mv_I (u : Int), mv_U]) (st' := [mv_I (u : Int), mv_I 3, mv_R 100]) (M1 := Ma61) rfl ?_
      have ha63 : (so ≠ -1 ∧ (z : Int) ≤ V 0 8) ∧ 0 ≤ (u : Int) ∧ (u : Int) < V 0 9 := by omega
      refine mv_callPW (st2 := [mv_I 0]) rfl (Or.inl rfl) rfl rfl rfl (sp_mrj_t (S := 3) (by decide) hm ho hs2 hz2 ha63) (by first | decide | omega) ?_
      refine mv_goW 3 (pc' := if 0 = 0 then 11 else 20) (ls' := [mv_R 100, mv_I 3, mv_I (u : Int), mv_I 0]) (st' := []) (M1 := Ma61) rfl ?_
      refine mv_ttW (by first | decide | omega) ?_
      refine mv_goW 3 (pc' := 14) (ls' := [mv_R 100, mv_I 3, mv_I (u : Int), mv_I 0]) (st' := [mv_I (u : Int), mv_I 3, mv_R 100]) (M1 := Ma61) rfl ?_
      refine mv_callW (st2 := [mv_I (sp_pv V P (fun j => M 119 (40 * 3 + j)) z u)]) rfl (Or.inl rfl) rfl rfl rfl (sp_mfv (S := 3) (g := fun j => M 119 (40 * 3 + j)) (u := u) (by decide) hm ho hl hmt (by omega) hz2 (by omega) (fun j hj => by rw [hx 119 (by decide)])) (by first | decide | omega) (fun Ma64 hm65 => ?_)
      refine mv_goW 1 (pc' := 21) (ls' := [mv_R 100, mv_I 3, mv_I (u : Int), mv_I 0]) (st' := [mv_I (sp_pv V P (fun j => M 119 (40 * 3 + j)) z u)]) (M1 := Ma64) rfl ?_
      exact mv_retW (fun n => rfl) ⟨congrArg mv_I (by first | with_reducible rfl | omega), ⟨V, P, n, B, K, t, sp_R_a1 (sp_R_a1 h hx (by decide) (by decide)) hm65 (by decide) (by decide)⟩⟩
    · refine mv_callPW (st2 := [mv_I (sp_rfv so (z : Int) (V 0 8))]) rfl (Or.inl rfl) rfl rfl rfl (sp_crj_3_f hc ho hs1 hz1 ha60) (by first | decide | omega) ?_
      refine mv_goW 3 (pc' := if (sp_rfv so (z : Int) (V 0 8)) = 0 then 15 else 11) (ls' := [mv_R 0, mv_I 3, mv_I (u : Int), mv_I (sp_rfv so (z : Int) (V 0 8))]) (st' := []) (M1 := M) rfl ?_
      refine mv_ffW (by omega) ?_
      refine mv_goW 2 (pc' := 28) (ls' := [mv_R 0, mv_I 3, mv_I (u : Int), mv_I (sp_rfv so (z : Int) (V 0 8))]) (st' := [mv_I (sp_rfv so (z : Int) (V 0 8))]) (M1 := M) rfl ?_
      refine mv_retW (fun n => rfl) ⟨_, rfl, ?_⟩
      refine mv_goW 3 (pc' := 3) (ls' := [mv_R 100, mv_I 3, mv_I (u : Int), mv_U]) (st' := [mv_I (u : Int), mv_I 3, mv_R 100]) (M1 := M) rfl ?_
      have ha66 : ¬ ((so ≠ -1 ∧ (z : Int) ≤ V 0 8) ∧ 0 ≤ (u : Int) ∧ (u : Int) < V 0 9) := by omega
      refine mv_callPW (st2 := [mv_I (sp_rfv so (z : Int) (V 0 8))]) rfl (Or.inl rfl) rfl rfl rfl (sp_mrj_f (S := 3) (by decide) hm ho hs2 hz2 ha66) (by first | decide | omega) ?_
      refine mv_goW 3 (pc' := if (sp_rfv so (z : Int) (V 0 8)) = 0 then 11 else 20) (ls' := [mv_R 100, mv_I 3, mv_I (u : Int), mv_I (sp_rfv so (z : Int) (V 0 8))]) (st' := []) (M1 := M) rfl ?_
      refine mv_ffW (by omega) ?_
      refine mv_goW 1 (pc' := 21) (ls' := [mv_R 100, mv_I 3, mv_I (u : Int), mv_I (sp_rfv so (z : Int) (V 0 8))]) (st' := [mv_I (sp_rfv so (z : Int) (V 0 8))]) (M1 := M) rfl ?_
      exact mv_retW (fun n => rfl) ⟨congrArg mv_I (by first | with_reducible rfl | omega), hI⟩
  · refine mv_goW 3 (pc' := 3) (ls' := [mv_R 0, mv_I 3, mv_I a, mv_U]) (st' := [mv_I a, mv_I 3, mv_R 0]) (M1 := M) rfl ?_
    have ha67 : ¬ ((so ≠ -1 ∧ (z : Int) ≤ V 0 8) ∧ 0 ≤ a ∧ a < V 0 9) := by omega
    refine mv_callPW (st2 := [mv_I (sp_rfv so (z : Int) (V 0 8))]) rfl (Or.inl rfl) rfl rfl rfl (sp_crj_3_f hc ho hs1 hz1 ha67) (by first | decide | omega) ?_
    refine mv_goW 3 (pc' := if (sp_rfv so (z : Int) (V 0 8)) = 0 then 15 else 11) (ls' := [mv_R 0, mv_I 3, mv_I a, mv_I (sp_rfv so (z : Int) (V 0 8))]) (st' := []) (M1 := M) rfl ?_
    refine mv_ffW (by omega) ?_
    refine mv_goW 2 (pc' := 28) (ls' := [mv_R 0, mv_I 3, mv_I a, mv_I (sp_rfv so (z : Int) (V 0 8))]) (st' := [mv_I (sp_rfv so (z : Int) (V 0 8))]) (M1 := M) rfl ?_
    refine mv_retW (fun n => rfl) ⟨_, rfl, ?_⟩
    refine mv_goW 3 (pc' := 3) (ls' := [mv_R 100, mv_I 3, mv_I a, mv_U]) (st' := [mv_I a, mv_I 3, mv_R 100]) (M1 := M) rfl ?_
    have ha68 : ¬ ((so ≠ -1 ∧ (z : Int) ≤ V 0 8) ∧ 0 ≤ a ∧ a < V 0 9) := by omega
    refine mv_callPW (st2 := [mv_I (sp_rfv so (z : Int) (V 0 8))]) rfl (Or.inl rfl) rfl rfl rfl (sp_mrj_f (S := 3) (by decide) hm ho hs2 hz2 ha68) (by first | decide | omega) ?_
    refine mv_goW 3 (pc' := if (sp_rfv so (z : Int) (V 0 8)) = 0 then 11 else 20) (ls' := [mv_R 100, mv_I 3, mv_I a, mv_I (sp_rfv so (z : Int) (V 0 8))]) (st' := []) (M1 := M) rfl ?_
    refine mv_ffW (by omega) ?_
    refine mv_goW 1 (pc' := 21) (ls' := [mv_R 100, mv_I 3, mv_I a, mv_I (sp_rfv so (z : Int) (V 0 8))]) (st' := [mv_I (sp_rfv so (z : Int) (V 0 8))]) (M1 := M) rfl ?_
    exact mv_retW (fun n => rfl) ⟨congrArg mv_I (by first | with_reducible rfl | omega), hI⟩
theorem sp_k20_n (s a : Int) (hs : ¬ (0 ≤ s ∧ s ≤ 3)) : sp_call 81 174 [mv_I s, mv_I a] [mv_I s, mv_I a] := by
  refine sp_mkW (lc := [mv_R 0, mv_I s, mv_I a, mv_U]) (lm := [mv_R 100, mv_I s, mv_I a, mv_U]) rfl rfl (fun M hI => ?_)
  refine mv_goW 3 (pc' := 3) (ls' := [mv_R 0, mv_I s, mv_I a, mv_U]) (st' := [mv_I a, mv_I s, mv_R 0]) (M1 := M) rfl ?_
  refine mv_callPW (st2 := [mv_I (-2)]) rfl (Or.inl rfl) rfl rfl rfl (sp_crj_n hs) (by first | decide | omega) ?_
  refine mv_goW 3 (pc' := if (-2) = 0 then 15 else 11) (ls' := [mv_R 0, mv_I s, mv_I a, mv_I (-2)]) (st' := []) (M1 := M) rfl ?_
  refine mv_ffW (by first | decide | omega) ?_
  refine mv_goW 2 (pc' := 28) (ls' := [mv_R 0, mv_I s, mv_I a, mv_I (-2)]) (st' := [mv_I (-2)]) (M1 := M) rfl ?_
  refine mv_retW (fun n => rfl) ⟨_, rfl, ?_⟩
  refine mv_goW 3 (pc' := 3) (ls' := [mv_R 100, mv_I s, mv_I a, mv_U]) (st' := [mv_I a, mv_I s, mv_R 100]) (M1 := M) rfl ?_
  refine mv_callPW (st2 := [mv_I (-2)]) rfl (Or.inl rfl) rfl rfl rfl (sp_mrj_n hs) (by first | decide | omega) ?_
  refine mv_goW 3 (pc' := if (-2) = 0 then 11 else 20) (ls' := [mv_R 100, mv_I s, mv_I a, mv_I (-2)]) (st' := []) (M1 := M) rfl ?_
  refine mv_ffW (by first | decide | omega) ?_
  refine mv_goW 1 (pc' := 21) (ls' := [mv_R 100, mv_I s, mv_I a, mv_I (-2)]) (st' := [mv_I (-2)]) (M1 := M) rfl ?_
  exact mv_retW (fun n => rfl) ⟨congrArg mv_I (by first | with_reducible rfl | omega), hI⟩
theorem sp_k20 (s a : Int) : sp_call 81 174 [mv_I s, mv_I a] [mv_I s, mv_I a] :=
  sp_s4 (Q := fun s => sp_call 81 174 [mv_I s, mv_I a] [mv_I s, mv_I a]) (sp_k20_0 a) (sp_k20_1 a) (sp_k20_2 a) (sp_k20_3 a) (sp_k20_n s a)
