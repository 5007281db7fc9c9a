/-! behind a fault nothing more is read -/
theorem sp_cF_5 {t l q d : Nat} {M0 M : mv_M} (hl : sp_ly l) (h : sp_cf t l q M0 M) : mv_Ru 1 20 0 [mv_R 28, mv_I (d : Int)] [] M mv_U (sp_cf t l q M0) := by
  have e3 := h.2.2.1
  have href := sp_crf_f hl h
  refine mv_go' 2 (pc' := 4) (ls' := [mv_R 28, mv_I (d : Int)]) (st' := [mv_I (M 28 3)]) (M1 := M) rfl ?_
  rw [show M 28 3 = 303 from by exact e3]
  refine mv_go' 2 (pc' := if 303 = 300 then 10 else 28) (ls' := [mv_R 28, mv_I (d : Int)]) (st' := []) (M1 := M) rfl ?_
  refine mv_ff' (by first | decide | omega) ?_
  refine mv_go' 2 (pc' := 32) (ls' := [mv_R 28, mv_I (d : Int)]) (st' := [mv_I (M 28 3)]) (M1 := M) rfl ?_
  rw [show M 28 3 = 303 from by exact e3]
  refine mv_go' 2 (pc' := if 303 = 301 then 38 else 60) (ls' := [mv_R 28, mv_I (d : Int)]) (st' := []) (M1 := M) rfl ?_
  refine mv_ff' (by first | decide | omega) ?_
  refine mv_go' 2 (pc' := 64) (ls' := [mv_R 28, mv_I (d : Int)]) (st' := [mv_I (M 28 3)]) (M1 := M) rfl ?_
  rw [show M 28 3 = 303 from by exact e3]
  refine mv_go' 2 (pc' := if 303 = 45 then 69 else 98) (ls' := [mv_R 28, mv_I (d : Int)]) (st' := []) (M1 := M) rfl ?_
  refine mv_ff' (by first | decide | omega) ?_
  refine mv_go' 2 (pc' := 102) (ls' := [mv_R 28, mv_I (d : Int)]) (st' := [mv_I (M 28 3)]) (M1 := M) rfl ?_
  rw [show M 28 3 = 303 from by exact e3]
  refine mv_go' 2 (pc' := if 303 = 40 then 107 else 132) (ls' := [mv_R 28, mv_I (d : Int)]) (st' := []) (M1 := M) rfl ?_
  refine mv_ff' (by first | decide | omega) ?_
  refine mv_go' 1 (pc' := 133) (ls' := [mv_R 28, mv_I (d : Int)]) (st' := [mv_R 28]) (M1 := M) rfl ?_
  refine mv_call (st2 := []) rfl (Or.inl rfl) rfl rfl rfl (href) (by first | decide | omega) (fun Ma1 hm2 => ?_)
  have hy := hm2
  exact mv_ret (fun n => rfl) hy
theorem sp_cF_4 {t l q d : Nat} {M0 M : mv_M} (hl : sp_ly l) (h : sp_cf t l q M0 M) : mv_Ru (6 - 4) 19 0 (mv_ent (mv_nl 19) [mv_R 28, mv_I (d : Int)]) [] M mv_U (sp_cf t l q M0) := by
  have e3 := h.2.2.1
  have hsub := sp_cF_5 (d := d) hl h
  refine mv_go' 2 (pc' := 2) (ls' := [mv_R 28, mv_I (d : Int), mv_U]) (st' := [mv_I (d : Int), mv_R 28]) (M1 := M) rfl ?_
  refine mv_call (st2 := []) rfl (Or.inl rfl) rfl rfl rfl (hsub) (by first | decide | omega) (fun Ma3 hm4 => ?_)
  have hy := hm4
  have e303 := hy.2.2.1
  refine mv_go' 5 (pc' := if 0 < 160 then 14 else 48) (ls' := [mv_R 28, mv_I (d : Int), mv_I 0]) (st' := []) (M1 := Ma3) rfl ?_
  refine mv_tt' (by first | decide | omega) ?_
  refine mv_go' 2 (pc' := 18) (ls' := [mv_R 28, mv_I (d : Int), mv_I 0]) (st' := [mv_I (Ma3 28 3)]) (M1 := Ma3) rfl ?_
  rw [show Ma3 28 3 = 303 from by exact e303]
  refine mv_go' 2 (pc' := if 303 = 42 then 23 else 48) (ls' := [mv_R 28, mv_I (d : Int), mv_I 0]) (st' := []) (M1 := Ma3) rfl ?_
  refine mv_ff' (by first | decide | omega) ?_
  exact mv_ret (fun n => rfl) hy
theorem sp_cF_3 {t l q d : Nat} {M0 M : mv_M} (hl : sp_ly l) (h : sp_cf t l q M0 M) : mv_Ru (6 - 3) 18 0 (mv_ent (mv_nl 18) [mv_R 28, mv_I (d : Int)]) [] M mv_U (sp_cf t l q M0) := by
  have e3 := h.2.2.1
  have hsub := sp_cF_4 (d := d) hl h
  refine mv_go' 2 (pc' := 2) (ls' := [mv_R 28, mv_I (d : Int), mv_U, mv_U]) (st' := [mv_I (d : Int), mv_R 28]) (M1 := M) rfl ?_
  refine mv_call (st2 := []) rfl (Or.inl rfl) rfl rfl rfl (hsub) (by first | decide | omega) (fun Ma5 hm6 => ?_)
  have hy := hm6
  have e303 := hy.2.2.1
  refine mv_go' 5 (pc' := if 0 < 160 then 14 else 74) (ls' := [mv_R 28, mv_I (d : Int), mv_I 0, mv_U]) (st' := []) (M1 := Ma5) rfl ?_
  refine mv_tt' (by first | decide | omega) ?_
  refine mv_go' 2 (pc' := 18) (ls' := [mv_R 28, mv_I (d : Int), mv_I 0, mv_U]) (st' := [mv_I (Ma5 28 3)]) (M1 := Ma5) rfl ?_
  rw [show Ma5 28 3 = 303 from by exact e303]
  refine mv_go' 2 (pc' := if 303 = 43 then 32 else 23) (ls' := [mv_R 28, mv_I (d : Int), mv_I 0, mv_U]) (st' := []) (M1 := Ma5) rfl ?_
  refine mv_ff' (by first | decide | omega) ?_
  refine mv_go' 2 (pc' := 27) (ls' := [mv_R 28, mv_I (d : Int), mv_I 0, mv_U]) (st' := [mv_I (Ma5 28 3)]) (M1 := Ma5) rfl ?_
  rw [show Ma5 28 3 = 303 from by exact e303]
  refine mv_go' 2 (pc' := if 303 = 45 then 32 else 74) (ls' := [mv_R 28, mv_I (d : Int), mv_I 0, mv_U]) (st' := []) (M1 := Ma5) rfl ?_
  refine mv_ff' (by first | decide | omega) ?_
  exact mv_ret (fun n => rfl) hy
theorem sp_cF_2 {t l q d : Nat} {M0 M : mv_M} (hl : sp_ly l) (h : sp_cf t l q M0 M) : mv_Ru (6 - 2) 17 0 (mv_ent (mv_nl 17) [mv_R 28, mv_I (d : Int)]) [] M mv_U (sp_cf t l q M0) := by
  have e3 := h.2.2.1
  have hsub := sp_cF_3 (d := d) hl h
  refine mv_go' 2 (pc' := 4) (ls' := [mv_R 28, mv_I (d : Int), mv_U]) (st' := [mv_I (M 28 3)]) (M1 := M) rfl ?_
  rw [show M 28 3 = 303 from by exact e3]
  refine mv_go' 2 (pc' := if 303 = 261 then 10 else 37) (ls' := [mv_R 28, mv_I (d : Int), mv_U]) (st' := []) (M1 := M) rfl ?_
  refine mv_ff' (by first | decide | omega) ?_
  refine mv_go' 2 (pc' := 39) (ls' := [mv_R 28, mv_I (d : Int), mv_U]) (st' := [mv_I (d : Int), mv_R 28]) (M1 := M) rfl ?_
  refine mv_call (st2 := []) rfl (Or.inl rfl) rfl rfl rfl (hsub) (by first | decide | omega) (fun Ma7 hm8 => ?_)
  have hy := hm8
  have e303 := hy.2.2.1
  refine mv_go' 2 (pc' := 46) (ls' := [mv_R 28, mv_I (d : Int), mv_U]) (st' := [mv_I (Ma7 28 3)]) (M1 := Ma7) rfl ?_
  rw [show Ma7 28 3 = 303 from by exact e303]
  refine mv_go' 2 (pc' := if 303 = 60 then 60 else 51) (ls' := [mv_R 28, mv_I (d : Int), mv_U]) (st' := []) (M1 := Ma7) rfl ?_
  refine mv_ff' (by first | decide | omega) ?_
  refine mv_go' 2 (pc' := 55) (ls' := [mv_R 28, mv_I (d : Int), mv_U]) (st' := [mv_I (Ma7 28 3)]) (M1 := Ma7) rfl ?_
  rw [show Ma7 28 3 = 303 from by exact e303]
  refine mv_go' 2 (pc' := if 303 = 61 then 60 else 96) (ls' := [mv_R 28, mv_I (d : Int), mv_U]) (st' := []) (M1 := Ma7) rfl ?_
  refine mv_ff' (by first | decide | omega) ?_
  exact mv_ret (fun n => rfl) hy
theorem sp_cF_1 {t l q d : Nat} {M0 M : mv_M} (hl : sp_ly l) (h : sp_cf t l q M0 M) : mv_Ru (6 - 1) 16 0 (mv_ent (mv_nl 16) [mv_R 28, mv_I (d : Int)]) [] M mv_U (sp_cf t l q M0) := by
  have e3 := h.2.2.1
  have hsub := sp_cF_2 (d := d) hl h
  refine mv_go' 2 (pc' := 2) (ls' := [mv_R 28, mv_I (d : Int), mv_U]) (st' := [mv_I (d : Int), mv_R 28]) (M1 := M) rfl ?_
  refine mv_call (st2 := []) rfl (Or.inl rfl) rfl rfl rfl (hsub) (by first | decide | omega) (fun Ma9 hm10 => ?_)
  have hy := hm10
  have e303 := hy.2.2.1
  refine mv_go' 5 (pc' := if 0 < 160 then 14 else 49) (ls' := [mv_R 28, mv_I (d : Int), mv_I 0]) (st' := []) (M1 := Ma9) rfl ?_
  refine mv_tt' (by first | decide | omega) ?_
  refine mv_go' 2 (pc' := 18) (ls' := [mv_R 28, mv_I (d : Int), mv_I 0]) (st' := [mv_I (Ma9 28 3)]) (M1 := Ma9) rfl ?_
  rw [show Ma9 28 3 = 303 from by exact e303]
  refine mv_go' 2 (pc' := if 303 = 260 then 24 else 49) (ls' := [mv_R 28, mv_I (d : Int), mv_I 0]) (st' := []) (M1 := Ma9) rfl ?_
  refine mv_ff' (by first | decide | omega) ?_
  exact mv_ret (fun n => rfl) hy
theorem sp_cF_0 {t l q d : Nat} {M0 M : mv_M} (hl : sp_ly l) (h : sp_cf t l q M0 M) : mv_Ru (6 - 0) 15 0 (mv_ent (mv_nl 15) [mv_R 28, mv_I (d : Int)]) [] M mv_U (sp_cf t l q M0) := by
  have e3 := h.2.2.1
  have hsub := sp_cF_1 (d := d) hl h
  refine mv_go' 2 (pc' := 2) (ls' := [mv_R 28, mv_I (d : Int), mv_U]) (st' := [mv_I (d : Int), mv_R 28]) (M1 := M) rfl ?_
  refine mv_call (st2 := []) rfl (Or.inl rfl) rfl rfl rfl (hsub) (by first | decide | omega) (fun Ma11 hm12 => ?_)
  have hy := hm12
  have e303 := hy.2.2.1
  refine mv_go' 5 (pc' := if 0 < 160 then 14 else 49) (ls' := [mv_R 28, mv_I (d : Int), mv_I 0]) (st' := []) (M1 := Ma11) rfl ?_
  refine mv_tt' (by first | decide | omega) ?_
  refine mv_go' 2 (pc' := 18) (ls' := [mv_R 28, mv_I (d : Int), mv_I 0]) (st' := [mv_I (Ma11 28 3)]) (M1 := Ma11) rfl ?_
  rw [show Ma11 28 3 = 303 from by exact e303]
  refine mv_go' 2 (pc' := if 303 = 259 then 24 else 49) (ls' := [mv_R 28, mv_I (d : Int), mv_I 0]) (st' := []) (M1 := Ma11) rfl ?_
  refine mv_ff' (by first | decide | omega) ?_
  exact mv_ret (fun n => rfl) hy
/-! clear, endPart -/
theorem sp_fl10 {M : mv_M} : mv_Ru 0 206 0 [mv_R 12, mv_I 0, mv_U, mv_U] [] M mv_U (fun M1 => mv_ag [12] M M1) := by
  refine mv_go' 8 (pc' := if 0 < 3 then 10 else 20) (ls' := [mv_R 12, mv_I 0, mv_I 0, mv_I 3]) (st' := []) (M1 := M) rfl ?_
  refine mv_tt' (by first | decide | omega) ?_
  refine mv_go' 4 (pc' := if 0 ≤ 0 ∧ 0 < 3 then 14 else mv_bad) (ls' := [mv_R 12, mv_I 0, mv_I 0, mv_I 3]) (st' := []) (M1 := (mv_st M 12 (mv_up (M 12) 0 0))) rfl ?_
  refine mv_tt' (by omega) ?_
  refine mv_go' 5 (pc' := if (mv_w (0 + 1)) < 3 then 10 else 20) (ls' := [mv_R 12, mv_I 0, mv_I (mv_w (0 + 1)), mv_I 3]) (st' := []) (M1 := (mv_st M 12 (mv_up (M 12) 0 0))) rfl ?_
  rw [show mv_w (0 + 1) = 0 + 1 from mv_w_id (by omega) (by omega)]
  rw [show (0 + 1 : Int) = 1 from by decide]
  refine mv_tt' (by first | decide | omega) ?_
  refine mv_go' 4 (pc' := if 0 ≤ 1 ∧ 1 < 3 then 14 else mv_bad) (ls' := [mv_R 12, mv_I 0, mv_I 1, mv_I 3]) (st' := []) (M1 := (mv_st (mv_st M 12 (mv_up (M 12) 0 0)) 12 (mv_up (mv_up (M 12) 0 0) 1 0))) rfl ?_
  refine mv_tt' (by omega) ?_
  refine mv_go' 5 (pc' := if (mv_w (1 + 1)) < 3 then 10 else 20) (ls' := [mv_R 12, mv_I 0, mv_I (mv_w (1 + 1)), mv_I 3]) (st' := []) (M1 := (mv_st (mv_st M 12 (mv_up (M 12) 0 0)) 12 (mv_up (mv_up (M 12) 0 0) 1 0))) rfl ?_
  rw [show mv_w (1 + 1) = 1 + 1 from mv_w_id (by omega) (by omega)]
  rw [show (1 + 1 : Int) = 2 from by decide]
  refine mv_tt' (by first | decide | omega) ?_
  refine mv_go' 4 (pc' := if 0 ≤ 2 ∧ 2 < 3 then 14 else mv_bad) (ls' := [mv_R 12, mv_I 0, mv_I 2, mv_I 3]) (st' := []) (M1 := (mv_st (mv_st (mv_st M 12 (mv_up (M 12) 0 0)) 12 (mv_up (mv_up (M 12) 0 0) 1 0)) 12 (mv_up (mv_up (mv_up (M 12) 0 0) 1 0) 2 0))) rfl ?_
  refine mv_tt' (by omega) ?_
  refine mv_go' 5 (pc' := if (mv_w (2 + 1)) < 3 then 10 else 20) (ls' := [mv_R 12, mv_I 0, mv_I (mv_w (2 + 1)), mv_I 3]) (st' := []) (M1 := (mv_st (mv_st (mv_st M 12 (mv_up (M 12) 0 0)) 12 (mv_up (mv_up (M 12) 0 0) 1 0)) 12 (mv_up (mv_up (mv_up (M 12) 0 0) 1 0) 2 0))) rfl ?_
  rw [show mv_w (2 + 1) = 2 + 1 from mv_w_id (by omega) (by omega)]
  rw [show (2 + 1 : Int) = 3 from by decide]
  refine mv_ff' (by first | decide | omega) ?_
  exact mv_ret (fun n => rfl) (by repeat (first | exact mv_ag.rf | refine mv_ag.st ?_ (by decide)))
theorem sp_cclr10 {M : mv_M} : mv_Ru 1 0 0 [mv_R 10] [] M mv_U (fun M1 => mv_ag [10, 12] M M1 ∧ M1 10 2 = 0) := by
  refine mv_go' 6 (pc' := 10) (ls' := [mv_R 10]) (st' := [mv_I 0, mv_R 12]) (M1 := (mv_st M 10 (mv_up (M 10) 2 0))) rfl ?_
  refine mv_call (st2 := []) rfl (Or.inr rfl) rfl rfl rfl (sp_fl10) (by first | decide | omega) (fun Ma13 hm14 => ?_)
  have hy := hm14
  exact mv_ret (fun n => rfl) ⟨mv_ag.tr (mv_ag.st mv_ag.rf (by decide)) (hy.wd (by decide)), by rw [hy 10 (by decide)]; rfl⟩
theorem sp_cend10 {M : mv_M} {i : Nat} (hi : i < 3) : mv_Ru 0 2 0 [mv_R 10, mv_I (i : Int)] [] M mv_U (fun M1 => mv_ag [12] M M1 ∧ M1 12 = mv_up (M 12) i (M 10 2)) := by
  refine mv_go' 6 (pc' := if 0 ≤ (i : Int) ∧ (i : Int) < 3 then 10 else mv_bad) (ls' := [mv_R 10, mv_I (i : Int)]) (st' := []) (M1 := (mv_st M 12 (mv_up (M 12) i (M 10 2)))) rfl ?_
  refine mv_tt' (by omega) ?_
  exact mv_ret (fun n => rfl) ⟨mv_ag.st mv_ag.rf (by decide), rfl⟩
theorem sp_fl13 {M : mv_M} : mv_Ru 0 206 0 [mv_R 15, mv_I 0, mv_U, mv_U] [] M mv_U (fun M1 => mv_ag [15] M M1) := by
  refine mv_go' 8 (pc' := if 0 < 3 then 10 else 20) (ls' := [mv_R 15, mv_I 0, mv_I 0, mv_I 3]) (st' := []) (M1 := M) rfl ?_
  refine mv_tt' (by first | decide | omega) ?_
  refine mv_go' 4 (pc' := if 0 ≤ 0 ∧ 0 < 3 then 14 else mv_bad) (ls' := [mv_R 15, mv_I 0, mv_I 0, mv_I 3]) (st' := []) (M1 := (mv_st M 15 (mv_up (M 15) 0 0))) rfl ?_
  refine mv_tt' (by omega) ?_
  refine mv_go' 5 (pc' := if (mv_w (0 + 1)) < 3 then 10 else 20) (ls' := [mv_R 15, mv_I 0, mv_I (mv_w (0 + 1)), mv_I 3]) (st' := []) (M1 := (mv_st M 15 (mv_up (M 15) 0 0))) rfl ?_
  rw [show mv_w (0 + 1) = 0 + 1 from mv_w_id (by omega) (by omega)]
  rw [show (0 + 1 : Int) = 1 from by decide]
  refine mv_tt' (by first | decide | omega) ?_
  refine mv_go' 4 (pc' := if 0 ≤ 1 ∧ 1 < 3 then 14 else mv_bad) (ls' := [mv_R 15, mv_I 0, mv_I 1, mv_I 3]) (st' := []) (M1 := (mv_st (mv_st M 15 (mv_up (M 15) 0 0)) 15 (mv_up (mv_up (M 15) 0 0) 1 0))) rfl ?_
  refine mv_tt' (by omega) ?_
  refine mv_go' 5 (pc' := if (mv_w (1 + 1)) < 3 then 10 else 20) (ls' := [mv_R 15, mv_I 0, mv_I (mv_w (1 + 1)), mv_I 3]) (st' := []) (M1 := (mv_st (mv_st M 15 (mv_up (M 15) 0 0)) 15 (mv_up (mv_up (M 15) 0 0) 1 0))) rfl ?_
  rw [show mv_w (1 + 1) = 1 + 1 from mv_w_id (by omega) (by omega)]
  rw [show (1 + 1 : Int) = 2 from by decide]
  refine mv_tt' (by first | decide | omega) ?_
  refine mv_go' 4 (pc' := if 0 ≤ 2 ∧ 2 < 3 then 14 else mv_bad) (ls' := [mv_R 15, mv_I 0, mv_I 2, mv_I 3]) (st' := []) (M1 := (mv_st (mv_st (mv_st M 15 (mv_up (M 15) 0 0)) 15 (mv_up (mv_up (M 15) 0 0) 1 0)) 15 (mv_up (mv_up (mv_up (M 15) 0 0) 1 0) 2 0))) rfl ?_
  refine mv_tt' (by omega) ?_
  refine mv_go' 5 (pc' := if (mv_w (2 + 1)) < 3 then 10 else 20) (ls' := [mv_R 15, mv_I 0, mv_I (mv_w (2 + 1)), mv_I 3]) (st' := []) (M1 := (mv_st (mv_st (mv_st M 15 (mv_up (M 15) 0 0)) 15 (mv_up (mv_up (M 15) 0 0) 1 0)) 15 (mv_up (mv_up (mv_up (M 15) 0 0) 1 0) 2 0))) rfl ?_
  rw [show mv_w (2 + 1) = 2 + 1 from mv_w_id (by omega) (by omega)]
  rw [show (2 + 1 : Int) = 3 from by decide]
  refine mv_ff' (by first | decide | omega) ?_
  exact mv_ret (fun n => rfl) (by repeat (first | exact mv_ag.rf | refine mv_ag.st ?_ (by decide)))
theorem sp_cclr13 {M : mv_M} : mv_Ru 1 0 0 [mv_R 13] [] M mv_U (fun M1 => mv_ag [13, 15] M M1 ∧ M1 13 2 = 0) := by
  refine mv_go' 6 (pc' := 10) (ls' := [mv_R 13]) (st' := [mv_I 0, mv_R 15]) (M1 := (mv_st M 13 (mv_up (M 13) 2 0))) rfl ?_
  refine mv_call (st2 := []) rfl (Or.inr rfl) rfl rfl rfl (sp_fl13) (by first | decide | omega) (fun Ma15 hm16 => ?_)
  have hy := hm16
  exact mv_ret (fun n => rfl) ⟨mv_ag.tr (mv_ag.st mv_ag.rf (by decide)) (hy.wd (by decide)), by rw [hy 13 (by decide)]; rfl⟩
theorem sp_cend13 {M : mv_M} {i : Nat} (hi : i < 3) : mv_Ru 0 2 0 [mv_R 13, mv_I (i : Int)] [] M mv_U (fun M1 => mv_ag [15] M M1 ∧ M1 15 = mv_up (M 15) i (M 13 2)) := by
  refine mv_go' 6 (pc' := if 0 ≤ (i : Int) ∧ (i : Int) < 3 then 10 else mv_bad) (ls' := [mv_R 13, mv_I (i : Int)]) (st' := []) (M1 := (mv_st M 15 (mv_up (M 15) i (M 13 2)))) rfl ?_
  refine mv_tt' (by omega) ?_
  exact mv_ret (fun n => rfl) ⟨mv_ag.st mv_ag.rf (by decide), rfl⟩
theorem sp_fl16 {M : mv_M} : mv_Ru 0 206 0 [mv_R 18, mv_I 0, mv_U, mv_U] [] M mv_U (fun M1 => mv_ag [18] M M1) := by
  refine mv_go' 8 (pc' := if 0 < 3 then 10 else 20) (ls' := [mv_R 18, mv_I 0, mv_I 0, mv_I 3]) (st' := []) (M1 := M) rfl ?_
  refine mv_tt' (by first | decide | omega) ?_
  refine mv_go' 4 (pc' := if 0 ≤ 0 ∧ 0 < 3 then 14 else mv_bad) (ls' := [mv_R 18, mv_I 0, mv_I 0, mv_I 3]) (st' := []) (M1 := (mv_st M 18 (mv_up (M 18) 0 0))) rfl ?_
  refine mv_tt' (by omega) ?_
  refine mv_go' 5 (pc' := if (mv_w (0 + 1)) < 3 then 10 else 20) (ls' := [mv_R 18, mv_I 0, mv_I (mv_w (0 + 1)), mv_I 3]) (st' := []) (M1 := (mv_st M 18 (mv_up (M 18) 0 0))) rfl ?_
  rw [show mv_w (0 + 1) = 0 + 1 from mv_w_id (by omega) (by omega)]
  rw [show (0 + 1 : Int) = 1 from by decide]
  refine mv_tt' (by first | decide | omega) ?_
  refine mv_go' 4 (pc' := if 0 ≤ 1 ∧ 1 < 3 then 14 else mv_bad) (ls' := [mv_R 18, mv_I 0, mv_I 1, mv_I 3]) (st' := []) (M1 := (mv_st (mv_st M 18 (mv_up (M 18) 0 0)) 18 (mv_up (mv_up (M 18) 0 0) 1 0))) rfl ?_
  refine mv_tt' (by omega) ?_
  refine mv_go' 5 (pc' := if (mv_w (1 + 1)) < 3 then 10 else 20) (ls' := [mv_R 18, mv_I 0, mv_I (mv_w (1 + 1)), mv_I 3]) (st' := []) (M1 := (mv_st (mv_st M 18 (mv_up (M 18) 0 0)) 18 (mv_up (mv_up (M 18) 0 0) 1 0))) rfl ?_
  rw [show mv_w (1 + 1) = 1 + 1 from mv_w_id (by omega) (by omega)]
  rw [show (1 + 1 : Int) = 2 from by decide]
  refine mv_tt' (by first | decide | omega) ?_
  refine mv_go' 4 (pc' := if 0 ≤ 2 ∧ 2 < 3 then 14 else mv_bad) (ls' := [mv_R 18, mv_I 0, mv_I 2, mv_I 3]) (st' := []) (M1 := (mv_st (mv_st (mv_st M 18 (mv_up (M 18) 0 0)) 18 (mv_up (mv_up (M 18) 0 0) 1 0)) 18 (mv_up (mv_up (mv_up (M 18) 0 0) 1 0) 2 0))) rfl ?_
  refine mv_tt' (by omega) ?_
  refine mv_go' 5 (pc' := if (mv_w (2 + 1)) < 3 then 10 else 20) (ls' := [mv_R 18, mv_I 0, mv_I (mv_w (2 + 1)), mv_I 3]) (st' := []) (M1 := (mv_st (mv_st (mv_st M 18 (mv_up (M 18) 0 0)) 18 (mv_up (mv_up (M 18) 0 0) 1 0)) 18 (mv_up (mv_up (mv_up (M 18) 0 0) 1 0) 2 0))) rfl ?_
  rw [show mv_w (2 + 1) = 2 + 1 from mv_w_id (by omega) (by omega)]
  rw [show (2 + 1 : Int) = 3 from by decide]
  refine mv_ff' (by first | decide | omega) ?_
  exact mv_ret (fun n => rfl) (by repeat (first | exact mv_ag.rf | refine mv_ag.st ?_ (by decide)))
theorem sp_cclr16 {M : mv_M} : mv_Ru 1 0 0 [mv_R 16] [] M mv_U (fun M1 => mv_ag [16, 18] M M1 ∧ M1 16 2 = 0) := by
  refine mv_go' 6 (pc' := 10) (ls' := [mv_R 16]) (st' := [mv_I 0, mv_R 18]) (M1 := (mv_st M 16 (mv_up (M 16) 2 0))) rfl ?_
  refine mv_call (st2 := []) rfl (Or.inr rfl) rfl rfl rfl (sp_fl16) (by first | decide | omega) (fun Ma17 hm18 => ?_)
  have hy := hm18
  exact mv_ret (fun n => rfl) ⟨mv_ag.tr (mv_ag.st mv_ag.rf (by decide)) (hy.wd (by decide)), by rw [hy 16 (by decide)]; rfl⟩
theorem sp_cend16 {M : mv_M} {i : Nat} (hi : i < 3) : mv_Ru 0 2 0 [mv_R 16, mv_I (i : Int)] [] M mv_U (fun M1 => mv_ag [18] M M1 ∧ M1 18 = mv_up (M 18) i (M 16 2)) := by
  refine mv_go' 6 (pc' := if 0 ≤ (i : Int) ∧ (i : Int) < 3 then 10 else mv_bad) (ls' := [mv_R 16, mv_I (i : Int)]) (st' := []) (M1 := (mv_st M 18 (mv_up (M 18) i (M 16 2)))) rfl ?_
  refine mv_tt' (by omega) ?_
  exact mv_ret (fun n => rfl) ⟨mv_ag.st mv_ag.rf (by decide), rfl⟩
theorem sp_fl19 {M : mv_M} : mv_Ru 0 206 0 [mv_R 21, mv_I 0, mv_U, mv_U] [] M mv_U (fun M1 => mv_ag [21] M M1) := by
  refine mv_go' 8 (pc' := if 0 < 3 then 10 else 20) (ls' := [mv_R 21, mv_I 0, mv_I 0, mv_I 3]) (st' := []) (M1 := M) rfl ?_
  refine mv_tt' (by first | decide | omega) ?_
  refine mv_go' 4 (pc' := if 0 ≤ 0 ∧ 0 < 3 then 14 else mv_bad) (ls' := [mv_R 21, mv_I 0, mv_I 0, mv_I 3]) (st' := []) (M1 := (mv_st M 21 (mv_up (M 21) 0 0))) rfl ?_
  refine mv_tt' (by omega) ?_
  refine mv_go' 5 (pc' := if (mv_w (0 + 1)) < 3 then 10 else 20) (ls' := [mv_R 21, mv_I 0, mv_I (mv_w (0 + 1)), mv_I 3]) (st' := []) (M1 := (mv_st M 21 (mv_up (M 21) 0 0))) rfl ?_
  rw [show mv_w (0 + 1) = 0 + 1 from mv_w_id (by omega) (by omega)]
  rw [show (0 + 1 : Int) = 1 from by decide]
  refine mv_tt' (by first | decide | omega) ?_
  refine mv_go' 4 (pc' := if 0 ≤ 1 ∧ 1 < 3 then 14 else mv_bad) (ls' := [mv_R 21, mv_I 0, mv_I 1, mv_I 3]) (st' := []) (M1 := (mv_st (mv_st M 21 (mv_up (M 21) 0 0)) 21 (mv_up (mv_up (M 21) 0 0) 1 0))) rfl ?_
  refine mv_tt' (by omega) ?_
  refine mv_go' 5 (pc' := if (mv_w (1 + 1)) < 3 then 10 else 20) (ls' := [mv_R 21, mv_I 0, mv_I (mv_w (1 + 1)), mv_I 3]) (st' := []) (M1 := (mv_st (mv_st M 21 (mv_up (M 21) 0 0)) 21 (mv_up (mv_up (M 21) 0 0) 1 0))) rfl ?_
  rw [show mv_w (1 + 1) = 1 + 1 from mv_w_id (by omega) (by omega)]
  rw [show (1 + 1 : Int) = 2 from by decide]
  refine mv_tt' (by first | decide | omega) ?_
  refine mv_go' 4 (pc' := if 0 ≤ 2 ∧ 2 < 3 then 14 else mv_bad) (ls' := [mv_R 21, mv_I 0, mv_I 2, mv_I 3]) (st' := []) (M1 := (mv_st (mv_st (mv_st M 21 (mv_up (M 21) 0 0)) 21 (mv_up (mv_up (M 21) 0 0) 1 0)) 21 (mv_up (mv_up (mv_up (M 21) 0 0) 1 0) 2 0))) rfl ?_
  refine mv_tt' (by omega) ?_
  refine mv_go' 5 (pc' := if (mv_w (2 + 1)) < 3 then 10 else 20) (ls' := [mv_R 21, mv_I 0, mv_I (mv_w (2 + 1)), mv_I 3]) (st' := []) (M1 := (mv_st (mv_st (mv_st M 21 (mv_up (M 21) 0 0)) 21 (mv_up (mv_up (M 21) 0 0) 1 0)) 21 (mv_up (mv_up (mv_up (M 21) 0 0) 1 0) 2 0))) rfl ?_
  rw [show mv_w (2 + 1) = 2 + 1 from mv_w_id (by omega) (by omega)]
  rw [show (2 + 1 : Int) = 3 from by decide]
  refine mv_ff' (by first | decide | omega) ?_
  exact mv_ret (fun n => rfl) (by repeat (first | exact mv_ag.rf | refine mv_ag.st ?_ (by decide)))
theorem sp_cclr19 {M : mv_M} : mv_Ru 1 0 0 [mv_R 19] [] M mv_U (fun M1 => mv_ag [19, 21] M M1 ∧ M1 19 2 = 0) := by
  refine mv_go' 6 (pc' := 10) (ls' := [mv_R 19]) (st' := [mv_I 0, mv_R 21]) (M1 := (mv_st M 19 (mv_up (M 19) 2 0))) rfl ?_
  refine mv_call (st2 := []) rfl (Or.inr rfl) rfl rfl rfl (sp_fl19) (by first | decide | omega) (fun Ma19 hm20 => ?_)
  have hy := hm20
  exact mv_ret (fun n => rfl) ⟨mv_ag.tr (mv_ag.st mv_ag.rf (by decide)) (hy.wd (by decide)), by rw [hy 19 (by decide)]; rfl⟩
theorem sp_cend19 {M : mv_M} {i : Nat} (hi : i < 3) : mv_Ru 0 2 0 [mv_R 19, mv_I (i : Int)] [] M mv_U (fun M1 => mv_ag [21] M M1 ∧ M1 21 = mv_up (M 21) i (M 19 2)) := by
  refine mv_go' 6 (pc' := if 0 ≤ (i : Int) ∧ (i : Int) < 3 then 10 else mv_bad) (ls' := [mv_R 19, mv_I (i : Int)]) (st' := []) (M1 := (mv_st M 21 (mv_up (M 21) i (M 19 2)))) rfl ?_
  refine mv_tt' (by omega) ?_
  exact mv_ret (fun n => rfl) ⟨mv_ag.st mv_ag.rf (by decide), rfl⟩
theorem sp_fl22 {M : mv_M} : mv_Ru 0 206 0 [mv_R 24, mv_I 0, mv_U, mv_U] [] M mv_U (fun M1 => mv_ag [24] M M1) := by
  refine mv_go' 8 (pc' := if 0 < 3 then 10 else 20) (ls' := [mv_R 24, mv_I 0, mv_I 0, mv_I 3]) (st' := []) (M1 := M) rfl ?_
  refine mv_tt' (by first | decide | omega) ?_
  refine mv_go' 4 (pc' := if 0 ≤ 0 ∧ 0 < 3 then 14 else mv_bad) (ls' := [mv_R 24, mv_I 0, mv_I 0, mv_I 3]) (st' := []) (M1 := (mv_st M 24 (mv_up (M 24) 0 0))) rfl ?_
  refine mv_tt' (by omega) ?_
  refine mv_go' 5 (pc' := if (mv_w (0 + 1)) < 3 then 10 else 20) (ls' := [mv_R 24, mv_I 0, mv_I (mv_w (0 + 1)), mv_I 3]) (st' := []) (M1 := (mv_st M 24 (mv_up (M 24) 0 0))) rfl ?_
  rw [show mv_w (0 + 1) = 0 + 1 from mv_w_id (by omega) (by omega)]
  rw [show (0 + 1 : Int) = 1 from by decide]
  refine mv_tt' (by first | decide | omega) ?_
  refine mv_go' 4 (pc' := if 0 ≤ 1 ∧ 1 < 3 then 14 else mv_bad) (ls' := [mv_R 24, mv_I 0, mv_I 1, mv_I 3]) (st' := []) (M1 := (mv_st (mv_st M 24 (mv_up (M 24) 0 0)) 24 (mv_up (mv_up (M 24) 0 0) 1 0))) rfl ?_
  refine mv_tt' (by omega) ?_
  refine mv_go' 5 (pc' := if (mv_w (1 + 1)) < 3 then 10 else 20) (ls' := [mv_R 24, mv_I 0, mv_I (mv_w (1 + 1)), mv_I 3]) (st' := []) (M1 := (mv_st (mv_st M 24 (mv_up (M 24) 0 0)) 24 (mv_up (mv_up (M 24) 0 0) 1 0))) rfl ?_
  rw [show mv_w (1 + 1) = 1 + 1 from mv_w_id (by omega) (by omega)]
  rw [show (1 + 1 : Int) = 2 from by decide]
  refine mv_tt' (by first | decide | omega) ?_
  refine mv_go' 4 (pc' := if 0 ≤ 2 ∧ 2 < 3 then 14 else mv_bad) (ls' := [mv_R 24, mv_I 0, mv_I 2, mv_I 3]) (st' := []) (M1 := (mv_st (mv_st (mv_st M 24 (mv_up (M 24) 0 0)) 24 (mv_up (mv_up (M 24) 0 0) 1 0)) 24 (mv_up (mv_up (mv_up (M 24) 0 0) 1 0) 2 0))) rfl ?_
  refine mv_tt' (by omega) ?_
  refine mv_go' 5 (pc' := if (mv_w (2 + 1)) < 3 then 10 else 20) (ls' := [mv_R 24, mv_I 0, mv_I (mv_w (2 + 1)), mv_I 3]) (st' := []) (M1 := (mv_st (mv_st (mv_st M 24 (mv_up (M 24) 0 0)) 24 (mv_up (mv_up (M 24) 0 0) 1 0)) 24 (mv_up (mv_up (mv_up (M 24) 0 0) 1 0) 2 0))) rfl ?_
  rw [show mv_w (2 + 1) = 2 + 1 from mv_w_id (by omega) (by omega)]
  rw [show (2 + 1 : Int) = 3 from by decide]
  refine mv_ff' (by first | decide | omega) ?_
  exact mv_ret (fun n => rfl) (by repeat (first | exact mv_ag.rf | refine mv_ag.st ?_ (by decide)))
theorem sp_cclr22 {M : mv_M} : mv_Ru 1 0 0 [mv_R 22] [] M mv_U (fun M1 => mv_ag [22, 24] M M1 ∧ M1 22 2 = 0) := by
  refine mv_go' 6 (pc' := 10) (ls' := [mv_R 22]) (st' := [mv_I 0, mv_R 24]) (M1 := (mv_st M 22 (mv_up (M 22) 2 0))) rfl ?_
  refine mv_call (st2 := []) rfl (Or.inr rfl) rfl rfl rfl (sp_fl22) (by first | decide | omega) (fun Ma21 hm22 => ?_)
  have hy := hm22
  exact mv_ret (fun n => rfl) ⟨mv_ag.tr (mv_ag.st mv_ag.rf (by decide)) (hy.wd (by decide)), by rw [hy 22 (by decide)]; rfl⟩
theorem sp_cend22 {M : mv_M} {i : Nat} (hi : i < 3) : mv_Ru 0 2 0 [mv_R 22, mv_I (i : Int)] [] M mv_U (fun M1 => mv_ag [24] M M1 ∧ M1 24 = mv_up (M 24) i (M 22 2)) := by
  refine mv_go' 6 (pc' := if 0 ≤ (i : Int) ∧ (i : Int) < 3 then 10 else mv_bad) (ls' := [mv_R 22, mv_I (i : Int)]) (st' := []) (M1 := (mv_st M 24 (mv_up (M 24) i (M 22 2)))) rfl ?_
  refine mv_tt' (by omega) ?_
  exact mv_ret (fun n => rfl) ⟨mv_ag.st mv_ag.rf (by decide), rfl⟩
theorem sp_fl25 {M : mv_M} : mv_Ru 0 206 0 [mv_R 27, mv_I 0, mv_U, mv_U] [] M mv_U (fun M1 => mv_ag [27] M M1) := by
  refine mv_go' 8 (pc' := if 0 < 3 then 10 else 20) (ls' := [mv_R 27, mv_I 0, mv_I 0, mv_I 3]) (st' := []) (M1 := M) rfl ?_
  refine mv_tt' (by first | decide | omega) ?_
  refine mv_go' 4 (pc' := if 0 ≤ 0 ∧ 0 < 3 then 14 else mv_bad) (ls' := [mv_R 27, mv_I 0, mv_I 0, mv_I 3]) (st' := []) (M1 := (mv_st M 27 (mv_up (M 27) 0 0))) rfl ?_
  refine mv_tt' (by omega) ?_
  refine mv_go' 5 (pc' := if (mv_w (0 + 1)) < 3 then 10 else 20) (ls' := [mv_R 27, mv_I 0, mv_I (mv_w (0 + 1)), mv_I 3]) (st' := []) (M1 := (mv_st M 27 (mv_up (M 27) 0 0))) rfl ?_
  rw [show mv_w (0 + 1) = 0 + 1 from mv_w_id (by omega) (by omega)]
  rw [show (0 + 1 : Int) = 1 from by decide]
  refine mv_tt' (by first | decide | omega) ?_
  refine mv_go' 4 (pc' := if 0 ≤ 1 ∧ 1 < 3 then 14 else mv_bad) (ls' := [mv_R 27, mv_I 0, mv_I 1, mv_I 3]) (st' := []) (M1 := (mv_st (mv_st M 27 (mv_up (M 27) 0 0)) 27 (mv_up (mv_up (M 27) 0 0) 1 0))) rfl ?_
  refine mv_tt' (by omega) ?_
  refine mv_go' 5 (pc' := if (mv_w (1 + 1)) < 3 then 10 else 20) (ls' := [mv_R 27, mv_I 0, mv_I (mv_w (1 + 1)), mv_I 3]) (st' := []) (M1 := (mv_st (mv_st M 27 (mv_up (M 27) 0 0)) 27 (mv_up (mv_up (M 27) 0 0) 1 0))) rfl ?_
  rw [show mv_w (1 + 1) = 1 + 1 from mv_w_id (by omega) (by omega)]
  rw [show (1 + 1 : Int) = 2 from by decide]
  refine mv_tt' (by first | decide | omega) ?_
  refine mv_go' 4 (pc' := if 0 ≤ 2 ∧ 2 < 3 then 14 else mv_bad) (ls' := [mv_R 27, mv_I 0, mv_I 2, mv_I 3]) (st' := []) (M1 := (mv_st (mv_st (mv_st M 27 (mv_up (M 27) 0 0)) 27 (mv_up (mv_up (M 27) 0 0) 1 0)) 27 (mv_up (mv_up (mv_up (M 27) 0 0) 1 0) 2 0))) rfl ?_
  refine mv_tt' (by omega) ?_
  refine mv_go' 5 (pc' := if (mv_w (2 + 1)) < 3 then 10 else 20) (ls' := [mv_R 27, mv_I 0, mv_I (mv_w (2 + 1)), mv_I 3]) (st' := []) (M1 := (mv_st (mv_st (mv_st M 27 (mv_up (M 27) 0 0)) 27 (mv_up (mv_up (M 27) 0 0) 1 0)) 27 (mv_up (mv_up (mv_up (M 27) 0 0) 1 0) 2 0))) rfl ?_
  rw [show mv_w (2 + 1) = 2 + 1 from mv_w_id (by omega) (by omega)]
  rw [show (2 + 1 : Int) = 3 from by decide]
  refine mv_ff' (by first | decide | omega) ?_
  exact mv_ret (fun n => rfl) (by repeat (first | exact mv_ag.rf | refine mv_ag.st ?_ (by decide)))
theorem sp_cclr25 {M : mv_M} : mv_Ru 1 0 0 [mv_R 25] [] M mv_U (fun M1 => mv_ag [25, 27] M M1 ∧ M1 25 2 = 0) := by
  refine mv_go' 6 (pc' := 10) (ls' := [mv_R 25]) (st' := [mv_I 0, mv_R 27]) (M1 := (mv_st M 25 (mv_up (M 25) 2 0))) rfl ?_
  refine mv_call (st2 := []) rfl (Or.inr rfl) rfl rfl rfl (sp_fl25) (by first | decide | omega) (fun Ma23 hm24 => ?_)
  have hy := hm24
  exact mv_ret (fun n => rfl) ⟨mv_ag.tr (mv_ag.st mv_ag.rf (by decide)) (hy.wd (by decide)), by rw [hy 25 (by decide)]; rfl⟩
theorem sp_cend25 {M : mv_M} {i : Nat} (hi : i < 3) : mv_Ru 0 2 0 [mv_R 25, mv_I (i : Int)] [] M mv_U (fun M1 => mv_ag [27] M M1 ∧ M1 27 = mv_up (M 27) i (M 25 2)) := by
  refine mv_go' 6 (pc' := if 0 ≤ (i : Int) ∧ (i : Int) < 3 then 10 else mv_bad) (ls' := [mv_R 25, mv_I (i : Int)]) (st' := []) (M1 := (mv_st M 27 (mv_up (M 27) i (M 25 2)))) rfl ?_
  refine mv_tt' (by omega) ?_
  exact mv_ret (fun n => rfl) ⟨mv_ag.st mv_ag.rf (by decide), rfl⟩
theorem sp_cclr {M : mv_M} {l : Nat} {z : Int} (hl : sp_ly l) (e : z = (l : Int)) : mv_Ru 1 0 0 [mv_R z.toNat] [] M mv_U (fun M1 => mv_ag [l, l + 2] M M1 ∧ M1 l 2 = 0) := by
  subst e
  rw [Int.toNat_natCast]
  rcases hl with q | q | q | q | q | q <;> subst q
  · exact sp_cclr10
  · exact sp_cclr13
  · exact sp_cclr16
  · exact sp_cclr19
  · exact sp_cclr22
  · exact sp_cclr25
theorem sp_cend {M : mv_M} {l i : Nat} {z : Int} (hl : sp_ly l) (e : z = (l : Int)) (hi : i < 3) : mv_Ru 0 2 0 [mv_R z.toNat, mv_I (i : Int)] [] M mv_U (fun M1 => mv_ag [l + 2] M M1 ∧ M1 (l + 2) = mv_up (M (l + 2)) i (M l 2)) := by
  subst e
  rw [Int.toNat_natCast]
  rcases hl with q | q | q | q | q | q <;> subst q
  · exact sp_cend10 hi
  · exact sp_cend13 hi
  · exact sp_cend16 hi
  · exact sp_cend19 hi
  · exact sp_cend22 hi
  · exact sp_cend25 hi
theorem sp_lyg0 {l : Nat} {z : Int} (hl : sp_ly l) (e : z = (l : Int)) : (mv_rcv 1 0 (List.take 1 [mv_R z.toNat]).reverse && Nat.ble 1 [mv_R z.toNat].length && Nat.ble (mv_cats (List.drop 1 [mv_R z.toNat])) 8 && Nat.ble (mv_lay (List.take 1 [mv_R z.toNat]).reverse).length (mv_nl 0)) = true := by
  subst e
  rcases hl with q | q | q | q | q | q <;> subst q <;> rfl
theorem sp_lyg2 {l : Nat} {s z : Int} (hl : sp_ly l) (e : z = (l : Int)) : (mv_rcv 1 2 (List.take 2 [mv_I s, mv_R z.toNat]).reverse && Nat.ble 2 [mv_I s, mv_R z.toNat].length && Nat.ble (mv_cats (List.drop 2 [mv_I s, mv_R z.toNat])) 8 && Nat.ble (mv_lay (List.take 2 [mv_I s, mv_R z.toNat]).reverse).length (mv_nl 2)) = true := by
  subst e
  rcases hl with q | q | q | q | q | q <;> subst q <;> rfl
/-! a text's parts, one behind the other -/
def sp_ex (f : Nat → Int) (t : Nat) (s : Int) (p : Nat) : Bool × Nat × List Int := if tk_K f t p = s then (true, tk_N f t p, []) else (false, tk_Q f t p, [])
def sp_Rt (f : Nat → Int) (t : Nat) : Nat → Bool × Nat × List Int
  | 0 => (true, 0, [])
  | i + 1 => sp_thn (sp_thn (sp_thn (sp_Rt f t i) (sp_ex f t ((i + 256 : Nat) : Int))) (fun p => sp_pr f t 2600 0 0 p)) (sp_ex f t 59)
/-- a result so far: its place in the tape, not more steps than bytes -/
def sp_rok (t : Nat) (r : Bool × Nat × List Int) : Prop := r.1 = true → r.2.1 ≤ t ∧ r.2.2.length ≤ r.2.1
theorem sp_rok_ex {f : Nat → Int} {t : Nat} {s : Int} {r : Bool × Nat × List Int} (h : sp_rok t r) (hs : s ≠ 302) : sp_rok t (sp_thn r (sp_ex f t s)) ∧ ((sp_thn r (sp_ex f t s)).1 = true → r.1 = true) := by
  by_cases g : r.1 = true
  · rw [sp_thn_t g]
    have h1 := h g
    refine ⟨fun z => ?_, fun _ => g⟩
    by_cases c : tk_K f t r.2.1 = s
    · have hN := tk_ok f t r.2.1 h1.1
      have hN2 := hN.2 (by omega)
      have e : sp_ex f t s r.2.1 = (true, tk_N f t r.2.1, []) := if_pos c
      rw [e]
      exact ⟨hN.1, by simp only [List.append_nil]; omega⟩
    · have e : sp_ex f t s r.2.1 = (false, tk_Q f t r.2.1, []) := if_neg c
      rw [e] at z
      cases z
  · rw [sp_thn_f g]
    exact ⟨h, fun z => z⟩
theorem sp_rok_E {f : Nat → Int} {t : Nat} {r : Bool × Nat × List Int} (ht : t ≤ 160) (h : sp_rok t r) : sp_rok t (sp_thn r (fun p => sp_pr f t 2600 0 0 p)) ∧ ((sp_thn r (fun p => sp_pr f t 2600 0 0 p)).1 = true → r.1 = true) := by
  by_cases g : r.1 = true
  · rw [sp_thn_t g]
    have h1 := h g
    refine ⟨fun z => ?_, fun _ => g⟩
    have h2 := sp_pz_ok (W := tk_W f t) (Q := tk_Q f t) (tk_ok f t) 2600 0 0 r.2.1 h1.1 (by omega) (by show 16 * (t - r.2.1) + 6 < 2600; omega) z
    refine ⟨h2.2.1, ?_⟩
    have := h2.2.2
    show (r.2.2 ++ (sp_pz (tk_K f t) (tk_W f t) (tk_N f t) (tk_Q f t) 2600 0 0 r.2.1).2.2).length ≤ (sp_pz (tk_K f t) (tk_W f t) (tk_N f t) (tk_Q f t) 2600 0 0 r.2.1).2.1
    rw [List.length_append]
    omega
  · rw [sp_thn_f g]
    exact ⟨h, fun z => z⟩
theorem sp_Rt_ok (f : Nat → Int) {t : Nat} (ht : t ≤ 160) : ∀ i : Nat, i ≤ 3 → sp_rok t (sp_Rt f t i)
  | 0, _ => fun _ => ⟨Nat.zero_le _, Nat.le_refl _⟩
  | i + 1, hi => (sp_rok_ex (sp_rok_E ht (sp_rok_ex (sp_Rt_ok f ht i (by omega)) (by omega)).1).1 (by decide)).1
theorem sp_cexr {f : Nat → Int} {t l : Nat} {s : Int} {c : List Int} {r : Bool × Nat × List Int} {M0 M : mv_M} (hl : sp_ly l) (ht : t ≤ 160) (hb : ∀ j, j < t → 0 ≤ f j ∧ f j ≤ 255) (h : sp_cr f t l r c M0 M) (hr : r.1 = true → r.2.1 ≤ t ∧ (c ++ r.2.2).length ≤ 160) (hs : s ≠ 303) : mv_Ru 8 9 0 [mv_R 28, mv_I s] [] M mv_U (sp_cr f t l (sp_thn r (sp_ex f t s)) c M0) := by
  by_cases g : r.1 = true
  · have h2 := (sp_cr_t g).1 h
    have hr2 := hr g
    by_cases k : tk_K f t r.2.1 = s
    · have e : sp_ex f t s r.2.1 = (true, tk_N f t r.2.1, []) := if_pos k
      exact (sp_cex_t hl ht hr2.1 hb h2 hs k).imp (fun M1 q => sp_cr_thn g (by
        rw [e]
        exact (sp_cr_t (r := (true, tk_N f t r.2.1, [])) rfl).2 (by rw [show (c ++ r.2.2) ++ (true, tk_N f t r.2.1, ([] : List Int)).2.2 = c ++ r.2.2 from List.append_nil _]; exact q)))
    · have e : sp_ex f t s r.2.1 = (false, tk_Q f t r.2.1, []) := if_neg k
      exact (sp_cex_f hl h2 hr2.2 k).imp (fun M1 q => sp_cr_thn g (by
        rw [e]
        exact (sp_cr_f (r := (false, tk_Q f t r.2.1, [])) Bool.false_ne_true).2 q))
  · exact (sp_cex_x hl ((sp_cr_f g).1 h) hs).imp (fun M1 q => sp_cr_tnf g q)
theorem sp_cEr {f : Nat → Int} {t l : Nat} {c : List Int} {r : Bool × Nat × List Int} {M0 M : mv_M} (hl : sp_ly l) (ht : t ≤ 160) (hb : ∀ j, j < t → 0 ≤ f j ∧ f j ≤ 255) (h : sp_cr f t l r c M0 M) (hr : r.1 = true → r.2.1 ≤ t ∧ (c ++ r.2.2).length ≤ r.2.1) : mv_Ru 49 15 0 [mv_R 28, mv_I 0, mv_U] [] M mv_U (sp_cr f t l (sp_thn r (fun p => sp_pr f t 2600 0 0 p)) c M0) := by
  by_cases g : r.1 = true
  · have h2 := (sp_cr_t g).1 h
    have hr2 := hr g
    exact ((sp_CX_all (M0 := M0) hl ht hb 2600).1.1.1 0 r.2.1 (c ++ r.2.2) M (by omega) hr2.1 (by omega) hr2.2 h2).imp (fun M1 q => sp_cr_thn g q)
  · exact ((sp_cF_0 (d := 0) hl ((sp_cr_f g).1 h)).up (by omega)).imp (fun M1 q => sp_cr_tnf g q)
