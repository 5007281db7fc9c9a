/-! a ward becomes as another -/
theorem sp_cp_lt {f g : Nat → Int} {n j : Nat} (h : j < n) : mv_cp f g 0 0 n j = f j := by
  unfold mv_cp
  rw [if_pos ⟨Nat.zero_le _, by omega⟩]
  congr 1
  omega
theorem sp_become_40_30 {V M : mv_M} (hV : sp_c 30 M V) (h8 : V 0 8 ≤ 6) (h9 : V 0 9 ≤ 6) : mv_Ru 0 41 0 [mv_R 40, mv_R 30] [] M mv_U (fun M1 => mv_ag [40, 41, 42, 43, 44, 45] M M1 ∧ sp_c 40 M1 V) := by
  refine mv_go' 8 (pc' := if 0 ≤ 0 ∧ 0 ≤ 0 ∧ 0 ≤ 24 ∧ 0 + 24 ≤ 24 ∧ 0 + 24 ≤ 24 then 15 else mv_bad) (ls' := [mv_R 40, mv_R 30]) (st' := []) (M1 := (mv_st M 41 ((mv_cp (M 31) (M 41) 0 0 24)))) rfl ?_
  refine mv_tt' (by decide) ?_
  refine mv_go' 8 (pc' := if 0 ≤ 0 ∧ 0 ≤ 0 ∧ 0 ≤ 6 ∧ 0 + 6 ≤ 6 ∧ 0 + 6 ≤ 6 then 30 else mv_bad) (ls' := [mv_R 40, mv_R 30]) (st' := []) (M1 := (mv_st (mv_st M 41 ((mv_cp (M 31) (M 41) 0 0 24))) 42 ((mv_cp (M 32) (M 42) 0 0 6)))) rfl ?_
  refine mv_tt' (by decide) ?_
  refine mv_go' 8 (pc' := if 0 ≤ 0 ∧ 0 ≤ 0 ∧ 0 ≤ 24 ∧ 0 + 24 ≤ 24 ∧ 0 + 24 ≤ 24 then 45 else mv_bad) (ls' := [mv_R 40, mv_R 30]) (st' := []) (M1 := (mv_st (mv_st (mv_st M 41 ((mv_cp (M 31) (M 41) 0 0 24))) 42 ((mv_cp (M 32) (M 42) 0 0 6))) 43 ((mv_cp (M 33) (M 43) 0 0 24)))) rfl ?_
  refine mv_tt' (by decide) ?_
  refine mv_go' 8 (pc' := if 0 ≤ 0 ∧ 0 ≤ 0 ∧ 0 ≤ 6 ∧ 0 + 6 ≤ 6 ∧ 0 + 6 ≤ 6 then 60 else mv_bad) (ls' := [mv_R 40, mv_R 30]) (st' := []) (M1 := (mv_st (mv_st (mv_st (mv_st M 41 ((mv_cp (M 31) (M 41) 0 0 24))) 42 ((mv_cp (M 32) (M 42) 0 0 6))) 43 ((mv_cp (M 33) (M 43) 0 0 24))) 44 ((mv_cp (M 34) (M 44) 0 0 6)))) rfl ?_
  refine mv_tt' (by decide) ?_
  refine mv_go' 8 (pc' := if 0 ≤ 0 ∧ 0 ≤ 0 ∧ 0 ≤ 6 ∧ 0 + 6 ≤ 6 ∧ 0 + 6 ≤ 6 then 75 else mv_bad) (ls' := [mv_R 40, mv_R 30]) (st' := []) (M1 := (mv_st (mv_st (mv_st (mv_st (mv_st M 41 ((mv_cp (M 31) (M 41) 0 0 24))) 42 ((mv_cp (M 32) (M 42) 0 0 6))) 43 ((mv_cp (M 33) (M 43) 0 0 24))) 44 ((mv_cp (M 34) (M 44) 0 0 6))) 45 ((mv_cp (M 35) (M 45) 0 0 6)))) rfl ?_
  refine mv_tt' (by decide) ?_
  refine mv_go' 16 (pc' := 107) (ls' := [mv_R 40, mv_R 30]) (st' := []) (M1 := (mv_st (mv_st (mv_st (mv_st (mv_st (mv_st (mv_st (mv_st (mv_st M 41 ((mv_cp (M 31) (M 41) 0 0 24))) 42 ((mv_cp (M 32) (M 42) 0 0 6))) 43 ((mv_cp (M 33) (M 43) 0 0 24))) 44 ((mv_cp (M 34) (M 44) 0 0 6))) 45 ((mv_cp (M 35) (M 45) 0 0 6))) 40 (mv_up (M 40) 8 (M 30 8))) 40 (mv_up (mv_up (M 40) 8 (M 30 8)) 9 (M 30 9))) 40 (mv_up (mv_up (mv_up (M 40) 8 (M 30 8)) 9 (M 30 9)) 10 (M 30 10))) 40 (mv_up (mv_up (mv_up (mv_up (M 40) 8 (M 30 8)) 9 (M 30 9)) 10 (M 30 10)) 11 (M 30 11)))) rfl ?_
  exact mv_ret (fun n => rfl) (⟨by repeat (first | exact mv_ag.rf | refine mv_ag.st ?_ (by decide)), ⟨hV.1, fun j hj => (sp_cp_lt hj).trans (hV.2.1 j hj), fun j hj => (sp_cp_lt (by omega)).trans (hV.2.2.1 j hj), fun j hj => (sp_cp_lt hj).trans (hV.2.2.2.1 j hj), fun j hj => (sp_cp_lt (by omega)).trans (hV.2.2.2.2.1 j hj), fun j hj => (sp_cp_lt (by omega)).trans (hV.2.2.2.2.2 j hj)⟩⟩)
theorem sp_become_50_30 {V M : mv_M} (hV : sp_c 30 M V) (h8 : V 0 8 ≤ 6) (h9 : V 0 9 ≤ 6) : mv_Ru 0 41 0 [mv_R 50, mv_R 30] [] M mv_U (fun M1 => mv_ag [50, 51, 52, 53, 54, 55] M M1 ∧ sp_c 50 M1 V) := by
  refine mv_go' 8 (pc' := if 0 ≤ 0 ∧ 0 ≤ 0 ∧ 0 ≤ 24 ∧ 0 + 24 ≤ 24 ∧ 0 + 24 ≤ 24 then 15 else mv_bad) (ls' := [mv_R 50, mv_R 30]) (st' := []) (M1 := (mv_st M 51 ((mv_cp (M 31) (M 51) 0 0 24)))) rfl ?_
  refine mv_tt' (by decide) ?_
  refine mv_go' 8 (pc' := if 0 ≤ 0 ∧ 0 ≤ 0 ∧ 0 ≤ 6 ∧ 0 + 6 ≤ 6 ∧ 0 + 6 ≤ 6 then 30 else mv_bad) (ls' := [mv_R 50, mv_R 30]) (st' := []) (M1 := (mv_st (mv_st M 51 ((mv_cp (M 31) (M 51) 0 0 24))) 52 ((mv_cp (M 32) (M 52) 0 0 6)))) rfl ?_
  refine mv_tt' (by decide) ?_
  refine mv_go' 8 (pc' := if 0 ≤ 0 ∧ 0 ≤ 0 ∧ 0 ≤ 24 ∧ 0 + 24 ≤ 24 ∧ 0 + 24 ≤ 24 then 45 else mv_bad) (ls' := [mv_R 50, mv_R 30]) (st' := []) (M1 := (mv_st (mv_st (mv_st M 51 ((mv_cp (M 31) (M 51) 0 0 24))) 52 ((mv_cp (M 32) (M 52) 0 0 6))) 53 ((mv_cp (M 33) (M 53) 0 0 24)))) rfl ?_
  refine mv_tt' (by decide) ?_
  refine mv_go' 8 (pc' := if 0 ≤ 0 ∧ 0 ≤ 0 ∧ 0 ≤ 6 ∧ 0 + 6 ≤ 6 ∧ 0 + 6 ≤ 6 then 60 else mv_bad) (ls' := [mv_R 50, mv_R 30]) (st' := []) (M1 := (mv_st (mv_st (mv_st (mv_st M 51 ((mv_cp (M 31) (M 51) 0 0 24))) 52 ((mv_cp (M 32) (M 52) 0 0 6))) 53 ((mv_cp (M 33) (M 53) 0 0 24))) 54 ((mv_cp (M 34) (M 54) 0 0 6)))) rfl ?_
  refine mv_tt' (by decide) ?_
  refine mv_go' 8 (pc' := if 0 ≤ 0 ∧ 0 ≤ 0 ∧ 0 ≤ 6 ∧ 0 + 6 ≤ 6 ∧ 0 + 6 ≤ 6 then 75 else mv_bad) (ls' := [mv_R 50, mv_R 30]) (st' := []) (M1 := (mv_st (mv_st (mv_st (mv_st (mv_st M 51 ((mv_cp (M 31) (M 51) 0 0 24))) 52 ((mv_cp (M 32) (M 52) 0 0 6))) 53 ((mv_cp (M 33) (M 53) 0 0 24))) 54 ((mv_cp (M 34) (M 54) 0 0 6))) 55 ((mv_cp (M 35) (M 55) 0 0 6)))) rfl ?_
  refine mv_tt' (by decide) ?_
  refine mv_go' 16 (pc' := 107) (ls' := [mv_R 50, mv_R 30]) (st' := []) (M1 := (mv_st (mv_st (mv_st (mv_st (mv_st (mv_st (mv_st (mv_st (mv_st M 51 ((mv_cp (M 31) (M 51) 0 0 24))) 52 ((mv_cp (M 32) (M 52) 0 0 6))) 53 ((mv_cp (M 33) (M 53) 0 0 24))) 54 ((mv_cp (M 34) (M 54) 0 0 6))) 55 ((mv_cp (M 35) (M 55) 0 0 6))) 50 (mv_up (M 50) 8 (M 30 8))) 50 (mv_up (mv_up (M 50) 8 (M 30 8)) 9 (M 30 9))) 50 (mv_up (mv_up (mv_up (M 50) 8 (M 30 8)) 9 (M 30 9)) 10 (M 30 10))) 50 (mv_up (mv_up (mv_up (mv_up (M 50) 8 (M 30 8)) 9 (M 30 9)) 10 (M 30 10)) 11 (M 30 11)))) rfl ?_
  exact mv_ret (fun n => rfl) (⟨by repeat (first | exact mv_ag.rf | refine mv_ag.st ?_ (by decide)), ⟨hV.1, fun j hj => (sp_cp_lt hj).trans (hV.2.1 j hj), fun j hj => (sp_cp_lt (by omega)).trans (hV.2.2.1 j hj), fun j hj => (sp_cp_lt hj).trans (hV.2.2.2.1 j hj), fun j hj => (sp_cp_lt (by omega)).trans (hV.2.2.2.2.1 j hj), fun j hj => (sp_cp_lt (by omega)).trans (hV.2.2.2.2.2 j hj)⟩⟩)
theorem sp_become_30_40 {V M : mv_M} (hV : sp_c 40 M V) (h8 : V 0 8 ≤ 6) (h9 : V 0 9 ≤ 6) : mv_Ru 0 41 0 [mv_R 30, mv_R 40] [] M mv_U (fun M1 => mv_ag [30, 31, 32, 33, 34, 35] M M1 ∧ sp_c 30 M1 V) := by
  refine mv_go' 8 (pc' := if 0 ≤ 0 ∧ 0 ≤ 0 ∧ 0 ≤ 24 ∧ 0 + 24 ≤ 24 ∧ 0 + 24 ≤ 24 then 15 else mv_bad) (ls' := [mv_R 30, mv_R 40]) (st' := []) (M1 := (mv_st M 31 ((mv_cp (M 41) (M 31) 0 0 24)))) rfl ?_
  refine mv_tt' (by decide) ?_
  refine mv_go' 8 (pc' := if 0 ≤ 0 ∧ 0 ≤ 0 ∧ 0 ≤ 6 ∧ 0 + 6 ≤ 6 ∧ 0 + 6 ≤ 6 then 30 else mv_bad) (ls' := [mv_R 30, mv_R 40]) (st' := []) (M1 := (mv_st (mv_st M 31 ((mv_cp (M 41) (M 31) 0 0 24))) 32 ((mv_cp (M 42) (M 32) 0 0 6)))) rfl ?_
  refine mv_tt' (by decide) ?_
  refine mv_go' 8 (pc' := if 0 ≤ 0 ∧ 0 ≤ 0 ∧ 0 ≤ 24 ∧ 0 + 24 ≤ 24 ∧ 0 + 24 ≤ 24 then 45 else mv_bad) (ls' := [mv_R 30, mv_R 40]) (st' := []) (M1 := (mv_st (mv_st (mv_st M 31 ((mv_cp (M 41) (M 31) 0 0 24))) 32 ((mv_cp (M 42) (M 32) 0 0 6))) 33 ((mv_cp (M 43) (M 33) 0 0 24)))) rfl ?_
  refine mv_tt' (by decide) ?_
  refine mv_go' 8 (pc' := if 0 ≤ 0 ∧ 0 ≤ 0 ∧ 0 ≤ 6 ∧ 0 + 6 ≤ 6 ∧ 0 + 6 ≤ 6 then 60 else mv_bad) (ls' := [mv_R 30, mv_R 40]) (st' := []) (M1 := (mv_st (mv_st (mv_st (mv_st M 31 ((mv_cp (M 41) (M 31) 0 0 24))) 32 ((mv_cp (M 42) (M 32) 0 0 6))) 33 ((mv_cp (M 43) (M 33) 0 0 24))) 34 ((mv_cp (M 44) (M 34) 0 0 6)))) rfl ?_
  refine mv_tt' (by decide) ?_
  refine mv_go' 8 (pc' := if 0 ≤ 0 ∧ 0 ≤ 0 ∧ 0 ≤ 6 ∧ 0 + 6 ≤ 6 ∧ 0 + 6 ≤ 6 then 75 else mv_bad) (ls' := [mv_R 30, mv_R 40]) (st' := []) (M1 := (mv_st (mv_st (mv_st (mv_st (mv_st M 31 ((mv_cp (M 41) (M 31) 0 0 24))) 32 ((mv_cp (M 42) (M 32) 0 0 6))) 33 ((mv_cp (M 43) (M 33) 0 0 24))) 34 ((mv_cp (M 44) (M 34) 0 0 6))) 35 ((mv_cp (M 45) (M 35) 0 0 6)))) rfl ?_
  refine mv_tt' (by decide) ?_
  refine mv_go' 16 (pc' := 107) (ls' := [mv_R 30, mv_R 40]) (st' := []) (M1 := (mv_st (mv_st (mv_st (mv_st (mv_st (mv_st (mv_st (mv_st (mv_st M 31 ((mv_cp (M 41) (M 31) 0 0 24))) 32 ((mv_cp (M 42) (M 32) 0 0 6))) 33 ((mv_cp (M 43) (M 33) 0 0 24))) 34 ((mv_cp (M 44) (M 34) 0 0 6))) 35 ((mv_cp (M 45) (M 35) 0 0 6))) 30 (mv_up (M 30) 8 (M 40 8))) 30 (mv_up (mv_up (M 30) 8 (M 40 8)) 9 (M 40 9))) 30 (mv_up (mv_up (mv_up (M 30) 8 (M 40 8)) 9 (M 40 9)) 10 (M 40 10))) 30 (mv_up (mv_up (mv_up (mv_up (M 30) 8 (M 40 8)) 9 (M 40 9)) 10 (M 40 10)) 11 (M 40 11)))) rfl ?_
  exact mv_ret (fun n => rfl) (⟨by repeat (first | exact mv_ag.rf | refine mv_ag.st ?_ (by decide)), ⟨hV.1, fun j hj => (sp_cp_lt hj).trans (hV.2.1 j hj), fun j hj => (sp_cp_lt (by omega)).trans (hV.2.2.1 j hj), fun j hj => (sp_cp_lt hj).trans (hV.2.2.2.1 j hj), fun j hj => (sp_cp_lt (by omega)).trans (hV.2.2.2.2.1 j hj), fun j hj => (sp_cp_lt (by omega)).trans (hV.2.2.2.2.2 j hj)⟩⟩)
