/-! running a text: the class, and the model -/
theorem sp_ofOne {M : mv_M} {s a : Int} : mv_Ru 0 4 0 [mv_I s, mv_I a] [] M (mv_I (sp_un s a)) (fun M1 => M1 = M) := by
  refine mv_go' 3 (pc' := if s = 20008 then 7 else 10) (ls' := [mv_I s, mv_I a]) (st' := []) (M1 := M) rfl ?_
  refine mv_sp' (fun h => ?_) (fun h => ?_)
  · refine mv_go' 2 (pc' := 9) (ls' := [mv_I s, mv_I a]) (st' := [mv_I (mv_w (-a))]) (M1 := M) rfl ?_
    exact mv_Ru.val (mv_ret (fun n => rfl) (rfl)) (congrArg mv_I (by simp only [sp_un, if_pos h]))
  · refine mv_go' 2 (pc' := if a = 0 then 14 else 18) (ls' := [mv_I s, mv_I a]) (st' := []) (M1 := M) rfl ?_
    refine mv_sp' (fun h2 => ?_) (fun h2 => ?_)
    · refine mv_go' 2 (pc' := 19) (ls' := [mv_I s, mv_I a]) (st' := [mv_I 1]) (M1 := M) rfl ?_
      exact mv_Ru.val (mv_ret (fun n => rfl) (rfl)) (congrArg mv_I (by simp only [sp_un, if_neg h, if_pos h2]))
    · refine mv_go' 1 (pc' := 19) (ls' := [mv_I s, mv_I a]) (st' := [mv_I 0]) (M1 := M) rfl ?_
      exact mv_Ru.val (mv_ret (fun n => rfl) (rfl)) (congrArg mv_I (by simp only [sp_un, if_neg h, if_neg h2]))
theorem sp_two_c0 {M : mv_M} {a b : Int} : mv_Ru 0 5 0 [mv_I 20000, mv_I a, mv_I b] [] M (mv_I (sp_bi 20000 a b)) (fun M1 => M1 = M) := by
  refine mv_go' 2 (pc' := mv_swg [(20000, 40), (20001, 54), (20002, 68), (20003, 79), (20004, 90), (20005, 94)] 98 20000) (ls' := [mv_I 20000, mv_I a, mv_I b]) (st' := []) (M1 := M) rfl ?_
  refine mv_pcq (pc2 := 40) (rfl) ?_
  refine mv_go' 2 (pc' := if a = 0 then 44 else 48) (ls' := [mv_I 20000, mv_I a, mv_I b]) (st' := []) (M1 := M) rfl ?_
  refine mv_sp' (fun h => ?_) (fun h => ?_)
  · refine mv_go' 2 (pc' := if b = 0 then 52 else 48) (ls' := [mv_I 20000, mv_I a, mv_I b]) (st' := []) (M1 := M) rfl ?_
    refine mv_sp' (fun h2 => ?_) (fun h2 => ?_)
    · refine mv_go' 1 (pc' := 53) (ls' := [mv_I 20000, mv_I a, mv_I b]) (st' := [mv_I 0]) (M1 := M) rfl ?_
      exact mv_Ru.val (mv_ret (fun n => rfl) (rfl)) (congrArg mv_I (by simp [sp_bi, h, h2]))
    · refine mv_go' 2 (pc' := 53) (ls' := [mv_I 20000, mv_I a, mv_I b]) (st' := [mv_I 1]) (M1 := M) rfl ?_
      exact mv_Ru.val (mv_ret (fun n => rfl) (rfl)) (congrArg mv_I (by simp [sp_bi, h, h2]))
  · refine mv_go' 2 (pc' := 53) (ls' := [mv_I 20000, mv_I a, mv_I b]) (st' := [mv_I 1]) (M1 := M) rfl ?_
    exact mv_Ru.val (mv_ret (fun n => rfl) (rfl)) (congrArg mv_I (by simp [sp_bi, h]))
theorem sp_two_c1 {M : mv_M} {a b : Int} : mv_Ru 0 5 0 [mv_I 20001, mv_I a, mv_I b] [] M (mv_I (sp_bi 20001 a b)) (fun M1 => M1 = M) := by
  refine mv_go' 2 (pc' := mv_swg [(20000, 40), (20001, 54), (20002, 68), (20003, 79), (20004, 90), (20005, 94)] 98 20001) (ls' := [mv_I 20001, mv_I a, mv_I b]) (st' := []) (M1 := M) rfl ?_
  refine mv_pcq (pc2 := 54) (rfl) ?_
  refine mv_go' 2 (pc' := if a = 0 then 66 else 58) (ls' := [mv_I 20001, mv_I a, mv_I b]) (st' := []) (M1 := M) rfl ?_
  refine mv_sp' (fun h => ?_) (fun h => ?_)
  · refine mv_go' 1 (pc' := 67) (ls' := [mv_I 20001, mv_I a, mv_I b]) (st' := [mv_I 0]) (M1 := M) rfl ?_
    exact mv_Ru.val (mv_ret (fun n => rfl) (rfl)) (congrArg mv_I (by simp [sp_bi, h]))
  · refine mv_go' 2 (pc' := if b = 0 then 66 else 62) (ls' := [mv_I 20001, mv_I a, mv_I b]) (st' := []) (M1 := M) rfl ?_
    refine mv_sp' (fun h2 => ?_) (fun h2 => ?_)
    · refine mv_go' 1 (pc' := 67) (ls' := [mv_I 20001, mv_I a, mv_I b]) (st' := [mv_I 0]) (M1 := M) rfl ?_
      exact mv_Ru.val (mv_ret (fun n => rfl) (rfl)) (congrArg mv_I (by simp [sp_bi, h, h2]))
    · refine mv_go' 2 (pc' := 67) (ls' := [mv_I 20001, mv_I a, mv_I b]) (st' := [mv_I 1]) (M1 := M) rfl ?_
      exact mv_Ru.val (mv_ret (fun n => rfl) (rfl)) (congrArg mv_I (by simp [sp_bi, h, h2]))
theorem sp_two_c2 {M : mv_M} {a b : Int} : mv_Ru 0 5 0 [mv_I 20002, mv_I a, mv_I b] [] M (mv_I (sp_bi 20002 a b)) (fun M1 => M1 = M) := by
  refine mv_go' 2 (pc' := mv_swg [(20000, 40), (20001, 54), (20002, 68), (20003, 79), (20004, 90), (20005, 94)] 98 20002) (ls' := [mv_I 20002, mv_I a, mv_I b]) (st' := []) (M1 := M) rfl ?_
  refine mv_pcq (pc2 := 68) (rfl) ?_
  refine mv_go' 3 (pc' := if a < b then 73 else 77) (ls' := [mv_I 20002, mv_I a, mv_I b]) (st' := []) (M1 := M) rfl ?_
  refine mv_sp' (fun h => ?_) (fun h => ?_)
  · refine mv_go' 2 (pc' := 78) (ls' := [mv_I 20002, mv_I a, mv_I b]) (st' := [mv_I 1]) (M1 := M) rfl ?_
    exact mv_Ru.val (mv_ret (fun n => rfl) (rfl)) (congrArg mv_I (by simp [sp_bi, h]))
  · refine mv_go' 1 (pc' := 78) (ls' := [mv_I 20002, mv_I a, mv_I b]) (st' := [mv_I 0]) (M1 := M) rfl ?_
    exact mv_Ru.val (mv_ret (fun n => rfl) (rfl)) (congrArg mv_I (by simp [sp_bi, h]))
theorem sp_two_c3 {M : mv_M} {a b : Int} : mv_Ru 0 5 0 [mv_I 20003, mv_I a, mv_I b] [] M (mv_I (sp_bi 20003 a b)) (fun M1 => M1 = M) := by
  refine mv_go' 2 (pc' := mv_swg [(20000, 40), (20001, 54), (20002, 68), (20003, 79), (20004, 90), (20005, 94)] 98 20003) (ls' := [mv_I 20003, mv_I a, mv_I b]) (st' := []) (M1 := M) rfl ?_
  refine mv_pcq (pc2 := 79) (rfl) ?_
  refine mv_go' 3 (pc' := if a = b then 84 else 88) (ls' := [mv_I 20003, mv_I a, mv_I b]) (st' := []) (M1 := M) rfl ?_
  refine mv_sp' (fun h => ?_) (fun h => ?_)
  · refine mv_go' 2 (pc' := 89) (ls' := [mv_I 20003, mv_I a, mv_I b]) (st' := [mv_I 1]) (M1 := M) rfl ?_
    exact mv_Ru.val (mv_ret (fun n => rfl) (rfl)) (congrArg mv_I (by simp [sp_bi, h]))
  · refine mv_go' 1 (pc' := 89) (ls' := [mv_I 20003, mv_I a, mv_I b]) (st' := [mv_I 0]) (M1 := M) rfl ?_
    exact mv_Ru.val (mv_ret (fun n => rfl) (rfl)) (congrArg mv_I (by simp [sp_bi, h]))
theorem sp_two_c4 {M : mv_M} {a b : Int} : mv_Ru 0 5 0 [mv_I 20004, mv_I a, mv_I b] [] M (mv_I (sp_bi 20004 a b)) (fun M1 => M1 = M) := by
  refine mv_go' 2 (pc' := mv_swg [(20000, 40), (20001, 54), (20002, 68), (20003, 79), (20004, 90), (20005, 94)] 98 20004) (ls' := [mv_I 20004, mv_I a, mv_I b]) (st' := []) (M1 := M) rfl ?_
  refine mv_pcq (pc2 := 90) (rfl) ?_
  refine mv_go' 3 (pc' := 93) (ls' := [mv_I 20004, mv_I a, mv_I b]) (st' := [mv_I (mv_w (a + b))]) (M1 := M) rfl ?_
  exact mv_ret (fun n => rfl) (rfl)
theorem sp_two_c5 {M : mv_M} {a b : Int} : mv_Ru 0 5 0 [mv_I 20005, mv_I a, mv_I b] [] M (mv_I (sp_bi 20005 a b)) (fun M1 => M1 = M) := by
  refine mv_go' 2 (pc' := mv_swg [(20000, 40), (20001, 54), (20002, 68), (20003, 79), (20004, 90), (20005, 94)] 98 20005) (ls' := [mv_I 20005, mv_I a, mv_I b]) (st' := []) (M1 := M) rfl ?_
  refine mv_pcq (pc2 := 94) (rfl) ?_
  refine mv_go' 3 (pc' := 97) (ls' := [mv_I 20005, mv_I a, mv_I b]) (st' := [mv_I (mv_w (a - b))]) (M1 := M) rfl ?_
  exact mv_ret (fun n => rfl) (rfl)
theorem sp_two_c6 {M : mv_M} {s a b : Int} (h0 : s ≠ 20000) (h1 : s ≠ 20001) (h2 : s ≠ 20002) (h3 : s ≠ 20003) (h4 : s ≠ 20004) (h5 : s ≠ 20005) (h6 : s ≠ 13) : mv_Ru 0 5 0 [mv_I s, mv_I a, mv_I b] [] M (mv_I (mv_w (a * b))) (fun M1 => M1 = M) := by
  refine mv_go' 2 (pc' := mv_swg [(20000, 40), (20001, 54), (20002, 68), (20003, 79), (20004, 90), (20005, 94)] 98 s) (ls' := [mv_I s, mv_I a, mv_I b]) (st' := []) (M1 := M) rfl ?_
  refine mv_pcq (pc2 := 98) (by simp [mv_swg, h0, h1, h2, h3, h4, h5, h6]) ?_
  refine mv_go' 3 (pc' := 101) (ls' := [mv_I s, mv_I a, mv_I b]) (st' := [mv_I (mv_w (a * b))]) (M1 := M) rfl ?_
  exact mv_ret (fun n => rfl) (rfl)
theorem sp_two_m0 {M : mv_M} {a b : Int} : mv_Ru 0 137 0 [mv_I 11, mv_I a, mv_I b] [] M (mv_I (sp_bi 20000 a b)) (fun M1 => M1 = M) := by
  refine mv_go' 2 (pc' := mv_swg [(11, 44), (12, 58), (13, 102), (14, 72), (15, 83), (16, 94), (17, 98)] 102 11) (ls' := [mv_I 11, mv_I a, mv_I b]) (st' := []) (M1 := M) rfl ?_
  refine mv_pcq (pc2 := 44) (rfl) ?_
  refine mv_go' 2 (pc' := if a = 0 then 48 else 52) (ls' := [mv_I 11, mv_I a, mv_I b]) (st' := []) (M1 := M) rfl ?_
  refine mv_sp' (fun h => ?_) (fun h => ?_)
  · refine mv_go' 2 (pc' := if b = 0 then 56 else 52) (ls' := [mv_I 11, mv_I a, mv_I b]) (st' := []) (M1 := M) rfl ?_
    refine mv_sp' (fun h2 => ?_) (fun h2 => ?_)
    · refine mv_go' 1 (pc' := 57) (ls' := [mv_I 11, mv_I a, mv_I b]) (st' := [mv_I 0]) (M1 := M) rfl ?_
      exact mv_Ru.val (mv_ret (fun n => rfl) (rfl)) (congrArg mv_I (by simp [sp_bi, h, h2]))
    · refine mv_go' 2 (pc' := 57) (ls' := [mv_I 11, mv_I a, mv_I b]) (st' := [mv_I 1]) (M1 := M) rfl ?_
      exact mv_Ru.val (mv_ret (fun n => rfl) (rfl)) (congrArg mv_I (by simp [sp_bi, h, h2]))
  · refine mv_go' 2 (pc' := 57) (ls' := [mv_I 11, mv_I a, mv_I b]) (st' := [mv_I 1]) (M1 := M) rfl ?_
    exact mv_Ru.val (mv_ret (fun n => rfl) (rfl)) (congrArg mv_I (by simp [sp_bi, h]))
theorem sp_two_m1 {M : mv_M} {a b : Int} : mv_Ru 0 137 0 [mv_I 12, mv_I a, mv_I b] [] M (mv_I (sp_bi 20001 a b)) (fun M1 => M1 = M) := by
  refine mv_go' 2 (pc' := mv_swg [(11, 44), (12, 58), (13, 102), (14, 72), (15, 83), (16, 94), (17, 98)] 102 12) (ls' := [mv_I 12, mv_I a, mv_I b]) (st' := []) (M1 := M) rfl ?_
  refine mv_pcq (pc2 := 58) (rfl) ?_
  refine mv_go' 2 (pc' := if a = 0 then 70 else 62) (ls' := [mv_I 12, mv_I a, mv_I b]) (st' := []) (M1 := M) rfl ?_
  refine mv_sp' (fun h => ?_) (fun h => ?_)
  · refine mv_go' 1 (pc' := 71) (ls' := [mv_I 12, mv_I a, mv_I b]) (st' := [mv_I 0]) (M1 := M) rfl ?_
    exact mv_Ru.val (mv_ret (fun n => rfl) (rfl)) (congrArg mv_I (by simp [sp_bi, h]))
  · refine mv_go' 2 (pc' := if b = 0 then 70 else 66) (ls' := [mv_I 12, mv_I a, mv_I b]) (st' := []) (M1 := M) rfl ?_
    refine mv_sp' (fun h2 => ?_) (fun h2 => ?_)
    · refine mv_go' 1 (pc' := 71) (ls' := [mv_I 12, mv_I a, mv_I b]) (st' := [mv_I 0]) (M1 := M) rfl ?_
      exact mv_Ru.val (mv_ret (fun n => rfl) (rfl)) (congrArg mv_I (by simp [sp_bi, h, h2]))
    · refine mv_go' 2 (pc' := 71) (ls' := [mv_I 12, mv_I a, mv_I b]) (st' := [mv_I 1]) (M1 := M) rfl ?_
      exact mv_Ru.val (mv_ret (fun n => rfl) (rfl)) (congrArg mv_I (by simp [sp_bi, h, h2]))
theorem sp_two_m2 {M : mv_M} {a b : Int} : mv_Ru 0 137 0 [mv_I 14, mv_I a, mv_I b] [] M (mv_I (sp_bi 20002 a b)) (fun M1 => M1 = M) := by
  refine mv_go' 2 (pc' := mv_swg [(11, 44), (12, 58), (13, 102), (14, 72), (15, 83), (16, 94), (17, 98)] 102 14) (ls' := [mv_I 14, mv_I a, mv_I b]) (st' := []) (M1 := M) rfl ?_
  refine mv_pcq (pc2 := 72) (rfl) ?_
  refine mv_go' 3 (pc' := if a < b then 77 else 81) (ls' := [mv_I 14, mv_I a, mv_I b]) (st' := []) (M1 := M) rfl ?_
  refine mv_sp' (fun h => ?_) (fun h => ?_)
  · refine mv_go' 2 (pc' := 82) (ls' := [mv_I 14, mv_I a, mv_I b]) (st' := [mv_I 1]) (M1 := M) rfl ?_
    exact mv_Ru.val (mv_ret (fun n => rfl) (rfl)) (congrArg mv_I (by simp [sp_bi, h]))
  · refine mv_go' 1 (pc' := 82) (ls' := [mv_I 14, mv_I a, mv_I b]) (st' := [mv_I 0]) (M1 := M) rfl ?_
    exact mv_Ru.val (mv_ret (fun n => rfl) (rfl)) (congrArg mv_I (by simp [sp_bi, h]))
theorem sp_two_m3 {M : mv_M} {a b : Int} : mv_Ru 0 137 0 [mv_I 15, mv_I a, mv_I b] [] M (mv_I (sp_bi 20003 a b)) (fun M1 => M1 = M) := by
  refine mv_go' 2 (pc' := mv_swg [(11, 44), (12, 58), (13, 102), (14, 72), (15, 83), (16, 94), (17, 98)] 102 15) (ls' := [mv_I 15, mv_I a, mv_I b]) (st' := []) (M1 := M) rfl ?_
  refine mv_pcq (pc2 := 83) (rfl) ?_
  refine mv_go' 3 (pc' := if a = b then 88 else 92) (ls' := [mv_I 15, mv_I a, mv_I b]) (st' := []) (M1 := M) rfl ?_
  refine mv_sp' (fun h => ?_) (fun h => ?_)
  · refine mv_go' 2 (pc' := 93) (ls' := [mv_I 15, mv_I a, mv_I b]) (st' := [mv_I 1]) (M1 := M) rfl ?_
    exact mv_Ru.val (mv_ret (fun n => rfl) (rfl)) (congrArg mv_I (by simp [sp_bi, h]))
  · refine mv_go' 1 (pc' := 93) (ls' := [mv_I 15, mv_I a, mv_I b]) (st' := [mv_I 0]) (M1 := M) rfl ?_
    exact mv_Ru.val (mv_ret (fun n => rfl) (rfl)) (congrArg mv_I (by simp [sp_bi, h]))
theorem sp_two_m4 {M : mv_M} {a b : Int} : mv_Ru 0 137 0 [mv_I 16, mv_I a, mv_I b] [] M (mv_I (sp_bi 20004 a b)) (fun M1 => M1 = M) := by
  refine mv_go' 2 (pc' := mv_swg [(11, 44), (12, 58), (13, 102), (14, 72), (15, 83), (16, 94), (17, 98)] 102 16) (ls' := [mv_I 16, mv_I a, mv_I b]) (st' := []) (M1 := M) rfl ?_
  refine mv_pcq (pc2 := 94) (rfl) ?_
  refine mv_go' 3 (pc' := 97) (ls' := [mv_I 16, mv_I a, mv_I b]) (st' := [mv_I (mv_w (a + b))]) (M1 := M) rfl ?_
  exact mv_ret (fun n => rfl) (rfl)
theorem sp_two_m5 {M : mv_M} {a b : Int} : mv_Ru 0 137 0 [mv_I 17, mv_I a, mv_I b] [] M (mv_I (sp_bi 20005 a b)) (fun M1 => M1 = M) := by
  refine mv_go' 2 (pc' := mv_swg [(11, 44), (12, 58), (13, 102), (14, 72), (15, 83), (16, 94), (17, 98)] 102 17) (ls' := [mv_I 17, mv_I a, mv_I b]) (st' := []) (M1 := M) rfl ?_
  refine mv_pcq (pc2 := 98) (rfl) ?_
  refine mv_go' 3 (pc' := 101) (ls' := [mv_I 17, mv_I a, mv_I b]) (st' := [mv_I (mv_w (a - b))]) (M1 := M) rfl ?_
  exact mv_ret (fun n => rfl) (rfl)
theorem sp_two_m6 {M : mv_M} {s a b : Int} (h0 : s ≠ 11) (h1 : s ≠ 12) (h2 : s ≠ 14) (h3 : s ≠ 15) (h4 : s ≠ 16) (h5 : s ≠ 17) (h6 : s ≠ 13) : mv_Ru 0 137 0 [mv_I s, mv_I a, mv_I b] [] M (mv_I (mv_w (a * b))) (fun M1 => M1 = M) := by
  refine mv_go' 2 (pc' := mv_swg [(11, 44), (12, 58), (13, 102), (14, 72), (15, 83), (16, 94), (17, 98)] 102 s) (ls' := [mv_I s, mv_I a, mv_I b]) (st' := []) (M1 := M) rfl ?_
  refine mv_pcq (pc2 := 102) (by simp [mv_swg, h0, h1, h2, h3, h4, h5, h6]) ?_
  refine mv_go' 3 (pc' := 105) (ls' := [mv_I s, mv_I a, mv_I b]) (st' := [mv_I (mv_w (a * b))]) (M1 := M) rfl ?_
  exact mv_ret (fun n => rfl) (rfl)
theorem sp_ofTwo {M : mv_M} {s a b : Int} (h0 : 20000 ≤ s) (h1 : s < 20007) : mv_Ru 0 5 0 [mv_I s, mv_I a, mv_I b] [] M (mv_I (sp_bi s a b)) (fun M1 => M1 = M) := by
  rcases (by omega : s = 20000 ∨ s = 20001 ∨ s = 20002 ∨ s = 20003 ∨ s = 20004 ∨ s = 20005 ∨ s = 20006) with h | h | h | h | h | h | h <;> rw [h]
  · exact sp_two_c0
  · exact sp_two_c1
  · exact sp_two_c2
  · exact sp_two_c3
  · exact sp_two_c4
  · exact sp_two_c5
  · exact sp_two_c6 (by decide) (by decide) (by decide) (by decide) (by decide) (by decide) (by decide)
theorem sp_mtwo {M : mv_M} {s a b : Int} (h0 : 20000 ≤ s) (h1 : s < 20007) : mv_Ru 0 137 0 [mv_I (sp_en s), mv_I a, mv_I b] [] M (mv_I (sp_bi s a b)) (fun M1 => M1 = M) := by
  rcases (by omega : s = 20000 ∨ s = 20001 ∨ s = 20002 ∨ s = 20003 ∨ s = 20004 ∨ s = 20005 ∨ s = 20006) with h | h | h | h | h | h | h <;> rw [h]
  · exact sp_two_m0
  · exact sp_two_m1
  · exact sp_two_m2
  · exact sp_two_m3
  · exact sp_two_m4
  · exact sp_two_m5
  · exact sp_two_m6 (by decide) (by decide) (by decide) (by decide) (by decide) (by decide) (by decide)
theorem sp_cwithin {M : mv_M} {z lo hi : Int} (hl : lo ≤ hi) : mv_Ru 0 106 0 [mv_I z, mv_I lo, mv_I hi] [] M (mv_I (sp_cl z lo hi)) (fun M1 => M1 = M) := by
  refine mv_go' 5 (pc' := 9) (ls' := [mv_I z, mv_I lo, mv_I hi]) (st' := [mv_I (if lo < (if z < hi then z else hi) then (if z < hi then z else hi) else lo)]) (M1 := M) rfl ?_
  exact mv_Ru.val (mv_ret (fun n => rfl) (rfl)) (congrArg mv_I (by (unfold sp_cl; split <;> (try split) <;> (try split) <;> (try split) <;> omega)))
theorem sp_mwithin {M : mv_M} {z lo hi : Int} : mv_Ru 0 113 0 [mv_I z, mv_I lo, mv_I hi] [] M (mv_I (sp_cl z lo hi)) (fun M1 => M1 = M) := by
  refine mv_go' 3 (pc' := if z < lo then 5 else 9) (ls' := [mv_I z, mv_I lo, mv_I hi]) (st' := []) (M1 := M) rfl ?_
  refine mv_sp' (fun h => ?_) (fun h => ?_)
  · refine mv_go' 2 (pc' := 19) (ls' := [mv_I z, mv_I lo, mv_I hi]) (st' := [mv_I lo]) (M1 := M) rfl ?_
    exact mv_Ru.val (mv_ret (fun n => rfl) (rfl)) (congrArg mv_I (by simp only [sp_cl, if_pos h]))
  · refine mv_go' 3 (pc' := if hi < z then 14 else 18) (ls' := [mv_I z, mv_I lo, mv_I hi]) (st' := []) (M1 := M) rfl ?_
    refine mv_sp' (fun h2 => ?_) (fun h2 => ?_)
    · refine mv_go' 2 (pc' := 19) (ls' := [mv_I z, mv_I lo, mv_I hi]) (st' := [mv_I hi]) (M1 := M) rfl ?_
      exact mv_Ru.val (mv_ret (fun n => rfl) (rfl)) (congrArg mv_I (by simp only [sp_cl, if_neg h, if_pos h2]))
    · refine mv_go' 1 (pc' := 19) (ls' := [mv_I z, mv_I lo, mv_I hi]) (st' := [mv_I z]) (M1 := M) rfl ?_
      exact mv_Ru.val (mv_ret (fun n => rfl) (rfl)) (congrArg mv_I (by simp only [sp_cl, if_neg h, if_neg h2]))
