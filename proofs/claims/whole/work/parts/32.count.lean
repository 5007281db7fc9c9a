/-! the first pair of calls: count -/
theorem sp_mk {yc ym : Nat} {as am lc lm : List mv_V} (hc : mv_ent (mv_nl yc) (mv_R 0 :: as) = lc) (hm : mv_ent (mv_nl ym) (mv_R 100 :: am) = lm) (h : ∀ M, sp_Inv M → ∃ z, mv_Ru 20 yc 0 lc [] M (mv_I z) (fun M1 => mv_Ru 20 ym 0 lm [] M1 (mv_I z) sp_Inv)) : sp_call yc ym as am := by
  subst hc; subst hm; exact h
def sp_count (V : mv_M) (n : Int) (t : Nat) (a : Int) : Int :=
  if a = 0 then V 0 8 else if a = 1 then V 0 9 else if a = 2 then V 0 10 else if a = 3 then sp_sum (sp_ap V) (V 0 8).toNat else if a = 4 then n else if a = 5 then V 0 11 else if a = 6 then (t : Int) else -2
theorem sp_xcount_0 {V M : mv_M} (hV : sp_c 30 M V) (ho : sp_ok V) : mv_Ru 20 61 0 [mv_R 0, mv_I 0] [] M (mv_I (V 0 8)) (fun M1 => M1 = M) := by
  refine mv_go' 2 (pc' := mv_swg [(0, 44), (1, 52), (2, 60), (3, 68), (4, 76), (5, 81), (6, 89)] 97 0) (ls' := [mv_R 0, mv_I 0]) (st' := []) (M1 := M) rfl ?_
  refine mv_pcq (pc2 := 44) (rfl) ?_
  refine mv_go' 3 (pc' := 51) (ls' := [mv_R 0, mv_I 0]) (st' := [mv_I (M 30 8)]) (M1 := M) rfl ?_
  have hr1 := sp_ok_s8 ho
  rw [show M 30 8 = V 0 8 from by exact sp_c_s8 hV]
  exact mv_ret (fun n => rfl) (rfl)
theorem sp_mcount_0 {V M : mv_M} (hV : sp_m M V) (ho : sp_ok V) : mv_Ru 20 122 0 [mv_R 100, mv_I 0] [] M (mv_I (V 0 8)) (fun M1 => M1 = M) := by
  refine mv_go' 2 (pc' := mv_swg [(0, 44), (1, 49), (2, 54), (3, 59), (4, 70), (5, 75), (6, 80)] 85 0) (ls' := [mv_R 100, mv_I 0]) (st' := []) (M1 := M) rfl ?_
  refine mv_pcq (pc2 := 44) (rfl) ?_
  refine mv_go' 2 (pc' := 48) (ls' := [mv_R 100, mv_I 0]) (st' := [mv_I (M 100 0)]) (M1 := M) rfl ?_
  have hr3 := sp_ok_s8 ho
  rw [show M 100 0 = V 0 8 from by exact sp_m_s8 hV]
  exact mv_ret (fun n => rfl) (rfl)
theorem sp_xcount_1 {V M : mv_M} (hV : sp_c 30 M V) (ho : sp_ok V) : mv_Ru 20 61 0 [mv_R 0, mv_I 1] [] M (mv_I (V 0 9)) (fun M1 => M1 = M) := by
  refine mv_go' 2 (pc' := mv_swg [(0, 44), (1, 52), (2, 60), (3, 68), (4, 76), (5, 81), (6, 89)] 97 1) (ls' := [mv_R 0, mv_I 1]) (st' := []) (M1 := M) rfl ?_
  refine mv_pcq (pc2 := 52) (rfl) ?_
  refine mv_go' 3 (pc' := 59) (ls' := [mv_R 0, mv_I 1]) (st' := [mv_I (M 30 9)]) (M1 := M) rfl ?_
  have hr5 := sp_ok_s9 ho
  rw [show M 30 9 = V 0 9 from by exact sp_c_s9 hV]
  exact mv_ret (fun n => rfl) (rfl)
theorem sp_mcount_1 {V M : mv_M} (hV : sp_m M V) (ho : sp_ok V) : mv_Ru 20 122 0 [mv_R 100, mv_I 1] [] M (mv_I (V 0 9)) (fun M1 => M1 = M) := by
  refine mv_go' 2 (pc' := mv_swg [(0, 44), (1, 49), (2, 54), (3, 59), (4, 70), (5, 75), (6, 80)] 85 1) (ls' := [mv_R 100, mv_I 1]) (st' := []) (M1 := M) rfl ?_
  refine mv_pcq (pc2 := 49) (rfl) ?_
  refine mv_go' 2 (pc' := 53) (ls' := [mv_R 100, mv_I 1]) (st' := [mv_I (M 100 1)]) (M1 := M) rfl ?_
  have hr7 := sp_ok_s9 ho
  rw [show M 100 1 = V 0 9 from by exact sp_m_s9 hV]
  exact mv_ret (fun n => rfl) (rfl)
theorem sp_xcount_2 {V M : mv_M} (hV : sp_c 30 M V) (ho : sp_ok V) : mv_Ru 20 61 0 [mv_R 0, mv_I 2] [] M (mv_I (V 0 10)) (fun M1 => M1 = M) := by
  refine mv_go' 2 (pc' := mv_swg [(0, 44), (1, 52), (2, 60), (3, 68), (4, 76), (5, 81), (6, 89)] 97 2) (ls' := [mv_R 0, mv_I 2]) (st' := []) (M1 := M) rfl ?_
  refine mv_pcq (pc2 := 60) (rfl) ?_
  refine mv_go' 3 (pc' := 67) (ls' := [mv_R 0, mv_I 2]) (st' := [mv_I (M 30 10)]) (M1 := M) rfl ?_
  have hr9 := sp_ok_s10 ho
  rw [show M 30 10 = V 0 10 from by exact sp_c_s10 hV]
  exact mv_ret (fun n => rfl) (rfl)
theorem sp_mcount_2 {V M : mv_M} (hV : sp_m M V) (ho : sp_ok V) : mv_Ru 20 122 0 [mv_R 100, mv_I 2] [] M (mv_I (V 0 10)) (fun M1 => M1 = M) := by
  refine mv_go' 2 (pc' := mv_swg [(0, 44), (1, 49), (2, 54), (3, 59), (4, 70), (5, 75), (6, 80)] 85 2) (ls' := [mv_R 100, mv_I 2]) (st' := []) (M1 := M) rfl ?_
  refine mv_pcq (pc2 := 54) (rfl) ?_
  refine mv_go' 2 (pc' := 58) (ls' := [mv_R 100, mv_I 2]) (st' := [mv_I (M 100 7)]) (M1 := M) rfl ?_
  have hr11 := sp_ok_s10 ho
  rw [show M 100 7 = V 0 10 from by exact sp_m_s10 hV]
  exact mv_ret (fun n => rfl) (rfl)
theorem sp_xcount_5 {V M : mv_M} (hV : sp_c 30 M V) (ho : sp_ok V) : mv_Ru 20 61 0 [mv_R 0, mv_I 5] [] M (mv_I (V 0 11)) (fun M1 => M1 = M) := by
  refine mv_go' 2 (pc' := mv_swg [(0, 44), (1, 52), (2, 60), (3, 68), (4, 76), (5, 81), (6, 89)] 97 5) (ls' := [mv_R 0, mv_I 5]) (st' := []) (M1 := M) rfl ?_
  refine mv_pcq (pc2 := 81) (rfl) ?_
  refine mv_go' 3 (pc' := 88) (ls' := [mv_R 0, mv_I 5]) (st' := [mv_I (M 30 11)]) (M1 := M) rfl ?_
  have hr13 := sp_ok_s11 ho
  rw [show M 30 11 = V 0 11 from by exact sp_c_s11 hV]
  exact mv_ret (fun n => rfl) (rfl)
theorem sp_mcount_5 {V M : mv_M} (hV : sp_m M V) (ho : sp_ok V) : mv_Ru 20 122 0 [mv_R 100, mv_I 5] [] M (mv_I (V 0 11)) (fun M1 => M1 = M) := by
  refine mv_go' 2 (pc' := mv_swg [(0, 44), (1, 49), (2, 54), (3, 59), (4, 70), (5, 75), (6, 80)] 85 5) (ls' := [mv_R 100, mv_I 5]) (st' := []) (M1 := M) rfl ?_
  refine mv_pcq (pc2 := 75) (rfl) ?_
  refine mv_go' 2 (pc' := 79) (ls' := [mv_R 100, mv_I 5]) (st' := [mv_I (M 100 13)]) (M1 := M) rfl ?_
  have hr15 := sp_ok_s11 ho
  rw [show M 100 13 = V 0 11 from by exact sp_m_s11 hV]
  exact mv_ret (fun n => rfl) (rfl)
theorem sp_xcount_3 {V M : mv_M} (hV : sp_c 30 M V) (ho : sp_ok V) : mv_Ru 20 61 0 [mv_R 0, mv_I 3] [] M (mv_I (sp_sum (sp_ap V) (V 0 8).toNat)) (fun M1 => M1 = M) := by
  refine mv_go' 2 (pc' := mv_swg [(0, 44), (1, 52), (2, 60), (3, 68), (4, 76), (5, 81), (6, 89)] 97 3) (ls' := [mv_R 0, mv_I 3]) (st' := []) (M1 := M) rfl ?_
  refine mv_pcq (pc2 := 68) (rfl) ?_
  refine mv_go' 2 (pc' := 72) (ls' := [mv_R 0, mv_I 3]) (st' := [mv_R 30]) (M1 := M) rfl ?_
  refine mv_callP (st2 := [mv_I (sp_sum (sp_ap V) (V 0 8).toNat)]) rfl (Or.inl rfl) rfl rfl rfl (sp_capp hV ho) (by first | decide | omega) ?_
  exact mv_ret (fun n => rfl) (rfl)
theorem sp_mcount_3 {V M : mv_M} (hV : sp_m M V) (ho : sp_ok V) : mv_Ru 20 122 0 [mv_R 100, mv_I 3] [] M (mv_I (sp_sum (sp_ap V) (V 0 8).toNat)) (fun M1 => M1 = M) := by
  have h8 := sp_ok_s8 ho
  have hb := sp_hired_b (V := V) (-1) (V 0 8).toNat
  have he := sp_ap_h V (V 0 8).toNat
  have hh : sp_hired V (-1) = sp_sum (fun c => if V 2 c = -1 then 1 else 0) (V 0 8).toNat := rfl
  rw [← hh] at hb he
  refine mv_go' 2 (pc' := mv_swg [(0, 44), (1, 49), (2, 54), (3, 59), (4, 70), (5, 75), (6, 80)] 85 3) (ls' := [mv_R 100, mv_I 3]) (st' := []) (M1 := M) rfl ?_
  refine mv_pcq (pc2 := 59) (rfl) ?_
  refine mv_go' 2 (pc' := 63) (ls' := [mv_R 100, mv_I 3]) (st' := [mv_I (M 100 0)]) (M1 := M) rfl ?_
  have hr17 := sp_ok_s8 ho
  rw [show M 100 0 = V 0 8 from by exact sp_m_s8 hV]
  refine mv_go' 2 (pc' := 65) (ls' := [mv_R 100, mv_I 3]) (st' := [mv_I (-1), mv_R 100, mv_I (V 0 8)]) (M1 := M) rfl ?_
  refine mv_callP (st2 := [mv_I (sp_hired V (-1)), mv_I (V 0 8)]) rfl (Or.inl rfl) rfl rfl rfl (sp_mhired hV ho) (by first | decide | omega) ?_
  refine mv_go' 1 (pc' := 69) (ls' := [mv_R 100, mv_I 3]) (st' := [mv_I (mv_w ((V 0 8) - (sp_hired V (-1))))]) (M1 := M) rfl ?_
  rw [show mv_w ((V 0 8) - (sp_hired V (-1))) = (V 0 8) - (sp_hired V (-1)) from mv_w_id (by omega) (by omega)]
  exact mv_Ru.val (mv_ret (fun n => rfl) (rfl)) (congrArg mv_I (by omega))
theorem sp_xcount_4 {M : mv_M} : mv_Ru 20 61 0 [mv_R 0, mv_I 4] [] M (mv_I (M 0 7)) (fun M1 => M1 = M) := by
  refine mv_go' 2 (pc' := mv_swg [(0, 44), (1, 52), (2, 60), (3, 68), (4, 76), (5, 81), (6, 89)] 97 4) (ls' := [mv_R 0, mv_I 4]) (st' := []) (M1 := M) rfl ?_
  refine mv_pcq (pc2 := 76) (rfl) ?_
  refine mv_go' 2 (pc' := 80) (ls' := [mv_R 0, mv_I 4]) (st' := [mv_I (M 0 7)]) (M1 := M) rfl ?_
  exact mv_ret (fun n => rfl) (rfl)
theorem sp_mcount_4 {M : mv_M} : mv_Ru 20 122 0 [mv_R 100, mv_I 4] [] M (mv_I (M 100 12)) (fun M1 => M1 = M) := by
  refine mv_go' 2 (pc' := mv_swg [(0, 44), (1, 49), (2, 54), (3, 59), (4, 70), (5, 75), (6, 80)] 85 4) (ls' := [mv_R 100, mv_I 4]) (st' := []) (M1 := M) rfl ?_
  refine mv_pcq (pc2 := 70) (rfl) ?_
  refine mv_go' 2 (pc' := 74) (ls' := [mv_R 100, mv_I 4]) (st' := [mv_I (M 100 12)]) (M1 := M) rfl ?_
  exact mv_ret (fun n => rfl) (rfl)
theorem sp_xcount_6 {M : mv_M} : mv_Ru 20 61 0 [mv_R 0, mv_I 6] [] M (mv_I (M 28 1)) (fun M1 => M1 = M) := by
  refine mv_go' 2 (pc' := mv_swg [(0, 44), (1, 52), (2, 60), (3, 68), (4, 76), (5, 81), (6, 89)] 97 6) (ls' := [mv_R 0, mv_I 6]) (st' := []) (M1 := M) rfl ?_
  refine mv_pcq (pc2 := 89) (rfl) ?_
  refine mv_go' 3 (pc' := 96) (ls' := [mv_R 0, mv_I 6]) (st' := [mv_I (M 28 1)]) (M1 := M) rfl ?_
  exact mv_ret (fun n => rfl) (rfl)
theorem sp_mcount_6 {M : mv_M} : mv_Ru 20 122 0 [mv_R 100, mv_I 6] [] M (mv_I (M 100 9)) (fun M1 => M1 = M) := by
  refine mv_go' 2 (pc' := mv_swg [(0, 44), (1, 49), (2, 54), (3, 59), (4, 70), (5, 75), (6, 80)] 85 6) (ls' := [mv_R 100, mv_I 6]) (st' := []) (M1 := M) rfl ?_
  refine mv_pcq (pc2 := 80) (rfl) ?_
  refine mv_go' 2 (pc' := 84) (ls' := [mv_R 100, mv_I 6]) (st' := [mv_I (M 100 9)]) (M1 := M) rfl ?_
  exact mv_ret (fun n => rfl) (rfl)
theorem sp_xcount_7 {M : mv_M} {a : Int} (h0 : a ≠ 0) (h1 : a ≠ 1) (h2 : a ≠ 2) (h3 : a ≠ 3) (h4 : a ≠ 4) (h5 : a ≠ 5) (h6 : a ≠ 6) : mv_Ru 20 61 0 [mv_R 0, mv_I a] [] M (mv_I (-2)) (fun M1 => M1 = M) := by
  refine mv_go' 2 (pc' := mv_swg [(0, 44), (1, 52), (2, 60), (3, 68), (4, 76), (5, 81), (6, 89)] 97 a) (ls' := [mv_R 0, mv_I a]) (st' := []) (M1 := M) rfl ?_
  refine mv_pcq (pc2 := 97) (by simp [mv_swg, h0, h1, h2, h3, h4, h5, h6]) ?_
  refine mv_go' 1 (pc' := 99) (ls' := [mv_R 0, mv_I a]) (st' := [mv_I (-2)]) (M1 := M) rfl ?_
  exact mv_ret (fun n => rfl) (rfl)
theorem sp_mcount_7 {M : mv_M} {a : Int} (h0 : a ≠ 0) (h1 : a ≠ 1) (h2 : a ≠ 2) (h3 : a ≠ 3) (h4 : a ≠ 4) (h5 : a ≠ 5) (h6 : a ≠ 6) : mv_Ru 20 122 0 [mv_R 100, mv_I a] [] M (mv_I (-2)) (fun M1 => M1 = M) := by
  refine mv_go' 2 (pc' := mv_swg [(0, 44), (1, 49), (2, 54), (3, 59), (4, 70), (5, 75), (6, 80)] 85 a) (ls' := [mv_R 100, mv_I a]) (st' := []) (M1 := M) rfl ?_
  refine mv_pcq (pc2 := 85) (by simp [mv_swg, h0, h1, h2, h3, h4, h5, h6]) ?_
  refine mv_go' 1 (pc' := 87) (ls' := [mv_R 100, mv_I a]) (st' := [mv_I (-2)]) (M1 := M) rfl ?_
  exact mv_ret (fun n => rfl) (rfl)
theorem sp_k0 (a : Int) : sp_call 61 122 [mv_I a] [mv_I a] := by
  refine sp_mk (lc := [mv_R 0, mv_I a]) (lm := [mv_R 100, mv_I a]) rfl rfl (fun M hI => ?_)
  have hI2 := hI
  obtain ⟨V, P, n, B, K, t, ⟨hc, hm, ho⟩, _, ⟨_, _, n0, n1⟩, _, ⟨t0, t1, _⟩, _⟩ := hI2
  have hh : ∀ {z : Int}, mv_Ru 20 61 0 [mv_R 0, mv_I a] [] M (mv_I z) (fun M1 => M1 = M) → mv_Ru 20 122 0 [mv_R 100, mv_I a] [] M (mv_I z) (fun M1 => M1 = M) → ∃ z, mv_Ru 20 61 0 [mv_R 0, mv_I a] [] M (mv_I z) (fun M1 => mv_Ru 20 122 0 [mv_R 100, mv_I a] [] M1 (mv_I z) sp_Inv) :=
    fun {z} h1 h2 => ⟨z, h1.imp (fun M1 e => by rw [e]; exact h2.imp (fun M2 e2 => by rw [e2]; exact hI))⟩
  by_cases q0 : a = 0
  · subst q0; exact hh (sp_xcount_0 hc ho) (sp_mcount_0 hm ho)
  by_cases q1 : a = 1
  · subst q1; exact hh (sp_xcount_1 hc ho) (sp_mcount_1 hm ho)
  by_cases q2 : a = 2
  · subst q2; exact hh (sp_xcount_2 hc ho) (sp_mcount_2 hm ho)
  by_cases q3 : a = 3
  · subst q3; exact hh (sp_xcount_3 hc ho) (sp_mcount_3 hm ho)
  by_cases q4 : a = 4
  · subst q4; exact hh (sp_xcount_4.val (congrArg mv_I n0)) (sp_mcount_4.val (congrArg mv_I n1))
  by_cases q5 : a = 5
  · subst q5; exact hh (sp_xcount_5 hc ho) (sp_mcount_5 hm ho)
  by_cases q6 : a = 6
  · subst q6; exact hh (sp_xcount_6.val (congrArg mv_I t0)) (sp_mcount_6.val (congrArg mv_I t1))
  exact hh (sp_xcount_7 q0 q1 q2 q3 q4 q5 q6) (sp_mcount_7 q0 q1 q2 q3 q4 q5 q6)
