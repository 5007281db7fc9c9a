/-! the words of the class, String by String -/
theorem sp_ci3 {M : mv_M} {i n : Int} (h : 0 ≤ i ∧ i < n) : mv_Ru 0 207 0 [mv_I i, mv_I n, mv_X] [] M (mv_I i) (fun M1 => M1 = M) := by
  refine mv_go' 2 (pc' := if i < 0 then 9 else 4) (ls' := [mv_I i, mv_I n, mv_X]) (st' := []) (M1 := M) rfl ?_
  refine mv_ff' (by omega) ?_
  refine mv_go' 3 (pc' := if i < n then 16 else 9) (ls' := [mv_I i, mv_I n, mv_X]) (st' := []) (M1 := M) rfl ?_
  refine mv_tt' (by omega) ?_
  refine mv_go' 1 (pc' := 17) (ls' := [mv_I i, mv_I n, mv_X]) (st' := [mv_I i]) (M1 := M) rfl ?_
  exact mv_ret (fun n => rfl) rfl
theorem sp_ci0 {M : mv_M} {i n : Int} (h : 0 ≤ i ∧ i < n) : mv_Ru 1 200 0 [mv_I i, mv_I n] [] M mv_U (fun M1 => M1 = M) := by
  refine mv_go' 3 (pc' := 5) (ls' := [mv_I i, mv_I n]) (st' := [mv_X, mv_I n, mv_I i]) (M1 := M) rfl ?_
  refine mv_callP (st2 := [mv_I i]) rfl (Or.inr rfl) rfl rfl rfl (sp_ci3 (by omega)) (by first | decide | omega) ?_
  refine mv_go' 1 (pc' := 9) (ls' := [mv_I i, mv_I n]) (st' := []) (M1 := M) rfl ?_
  exact mv_ret (fun n => rfl) rfl
theorem sp_lat1 {M : mv_M} : mv_Ru 0 199 0 [mv_R 211] [] M (mv_I 1) (fun M1 => M1 = M) := by
  refine mv_go' 2 (pc' := if 1 = 0 then 17 else 6) (ls' := [mv_R 211]) (st' := []) (M1 := M) rfl ?_
  refine mv_ff' (by first | decide | omega) ?_
  refine mv_go' 3 (pc' := if 0 = 0 then 13 else 17) (ls' := [mv_R 211]) (st' := []) (M1 := M) rfl ?_
  refine mv_tt' (by first | decide | omega) ?_
  refine mv_go' 2 (pc' := 18) (ls' := [mv_R 211]) (st' := [mv_I 1]) (M1 := M) rfl ?_
  exact mv_ret (fun n => rfl) rfl
theorem sp_cod1 {M : mv_M} : mv_Ru 0 198 0 [mv_R 211] [] M (mv_I 0) (fun M1 => M1 = M) := by
  refine mv_go' 2 (pc' := if 1 = 0 then 13 else 6) (ls' := [mv_R 211]) (st' := []) (M1 := M) rfl ?_
  refine mv_ff' (by first | decide | omega) ?_
  refine mv_go' 3 (pc' := 14) (ls' := [mv_R 211]) (st' := [mv_I 0]) (M1 := M) rfl ?_
  exact mv_ret (fun n => rfl) rfl
theorem sp_len1 {M : mv_M} : mv_Ru 1 194 0 [mv_R 211] [] M (mv_I 5) (fun M1 => M1 = M) := by
  refine mv_go' 4 (pc' := 6) (ls' := [mv_R 211]) (st' := [mv_R 211, mv_I 5]) (M1 := M) rfl ?_
  refine mv_callP (st2 := [mv_I 0, mv_I 5]) rfl (Or.inl rfl) rfl rfl rfl (sp_cod1) (by first | decide | omega) ?_
  refine mv_go' 1 (pc' := 10) (ls' := [mv_R 211]) (st' := [mv_I (mv_shr 5 0)]) (M1 := M) rfl ?_
  exact mv_Ru.val (mv_ret (fun n => rfl) rfl) (congrArg mv_I (by decide))
theorem sp_la1 {M : mv_M} {j : Nat} (h : j < 5) : mv_Ru 2 201 0 [mv_R 231, mv_I (j : Int)] [] M (mv_I (mv_nn 0 (sp_wl 0) j)) (fun M1 => M1 = M) := by
  refine mv_go' 3 (pc' := 3) (ls' := [mv_R 231, mv_I (j : Int)]) (st' := [mv_I 5, mv_I (j : Int)]) (M1 := M) rfl ?_
  refine mv_callP (st2 := []) rfl (Or.inr rfl) rfl rfl rfl (sp_ci0 (by omega)) (by first | decide | omega) ?_
  refine mv_go' 3 (pc' := if 0 ≤ (j : Int) ∧ (j : Int) < 5 then 9 else mv_bad) (ls' := [mv_R 231, mv_I (j : Int)]) (st' := [mv_I (mv_ro 231 j)]) (M1 := M) rfl ?_
  refine mv_tt' (by omega) ?_
  refine mv_go' 3 (pc' := 14) (ls' := [mv_R 231, mv_I (j : Int)]) (st' := [mv_I (mv_i2c (mv_and (mv_ro 231 j) 255))]) (M1 := M) rfl ?_
  have h2 : ∀ x : Fin 5, (0 ≤ (fun j : Nat => (mv_i2c (mv_and (mv_ro 231 j) 255))) x ∧ (fun j : Nat => (mv_i2c (mv_and (mv_ro 231 j) 255))) x < 65536) ∧ (fun j : Nat => (mv_i2c (mv_and (mv_ro 231 j) 255))) x = mv_nn 0 (sp_wl 0) x := by decide
  exact mv_Ru.val (mv_ret (fun n => if_pos (c := 0 ≤ (mv_i2c (mv_and (mv_ro 231 j) 255)) ∧ (mv_i2c (mv_and (mv_ro 231 j) 255)) < 65536) (h2 ⟨j, h⟩).1) rfl) (congrArg mv_I (h2 ⟨j, h⟩).2)
theorem sp_cha1 {M : mv_M} {j : Nat} (h : j < 5) : mv_Ru 3 195 0 [mv_R 211, mv_I (j : Int)] [] M (mv_I (mv_nn 0 (sp_wl 0) j)) (fun M1 => M1 = M) := by
  refine mv_go' 1 (pc' := 1) (ls' := [mv_R 211, mv_I (j : Int)]) (st' := [mv_R 211]) (M1 := M) rfl ?_
  refine mv_callP (st2 := [mv_I 1]) rfl (Or.inl rfl) rfl rfl rfl (sp_lat1) (by first | decide | omega) ?_
  refine mv_go' 1 (pc' := if 1 = 0 then 16 else 7) (ls' := [mv_R 211, mv_I (j : Int)]) (st' := []) (M1 := M) rfl ?_
  refine mv_ff' (by first | decide | omega) ?_
  refine mv_go' 3 (pc' := 12) (ls' := [mv_R 211, mv_I (j : Int)]) (st' := [mv_I (j : Int), mv_R 231]) (M1 := M) rfl ?_
  refine mv_callP (st2 := [mv_I (mv_nn 0 (sp_wl 0) j)]) rfl (Or.inr rfl) rfl rfl rfl (sp_la1 (by omega)) (by first | decide | omega) ?_
  have h2 : ∀ x : Fin 5, (0 ≤ (fun j : Nat => (mv_nn 0 (sp_wl 0) j)) x ∧ (fun j : Nat => (mv_nn 0 (sp_wl 0) j)) x < 65536) ∧ (fun j : Nat => (mv_nn 0 (sp_wl 0) j)) x = mv_nn 0 (sp_wl 0) x := by decide
  exact mv_Ru.val (mv_ret (fun n => if_pos (c := 0 ≤ (mv_nn 0 (sp_wl 0) j) ∧ (mv_nn 0 (sp_wl 0) j) < 65536) (h2 ⟨j, h⟩).1) rfl) (congrArg mv_I (h2 ⟨j, h⟩).2)
theorem sp_lat2 {M : mv_M} : mv_Ru 0 199 0 [mv_R 212] [] M (mv_I 1) (fun M1 => M1 = M) := by
  refine mv_go' 2 (pc' := if 1 = 0 then 17 else 6) (ls' := [mv_R 212]) (st' := []) (M1 := M) rfl ?_
  refine mv_ff' (by first | decide | omega) ?_
  refine mv_go' 3 (pc' := if 0 = 0 then 13 else 17) (ls' := [mv_R 212]) (st' := []) (M1 := M) rfl ?_
  refine mv_tt' (by first | decide | omega) ?_
  refine mv_go' 2 (pc' := 18) (ls' := [mv_R 212]) (st' := [mv_I 1]) (M1 := M) rfl ?_
  exact mv_ret (fun n => rfl) rfl
theorem sp_cod2 {M : mv_M} : mv_Ru 0 198 0 [mv_R 212] [] M (mv_I 0) (fun M1 => M1 = M) := by
  refine mv_go' 2 (pc' := if 1 = 0 then 13 else 6) (ls' := [mv_R 212]) (st' := []) (M1 := M) rfl ?_
  refine mv_ff' (by first | decide | omega) ?_
  refine mv_go' 3 (pc' := 14) (ls' := [mv_R 212]) (st' := [mv_I 0]) (M1 := M) rfl ?_
  exact mv_ret (fun n => rfl) rfl
theorem sp_len2 {M : mv_M} : mv_Ru 1 194 0 [mv_R 212] [] M (mv_I 5) (fun M1 => M1 = M) := by
  refine mv_go' 4 (pc' := 6) (ls' := [mv_R 212]) (st' := [mv_R 212, mv_I 5]) (M1 := M) rfl ?_
  refine mv_callP (st2 := [mv_I 0, mv_I 5]) rfl (Or.inl rfl) rfl rfl rfl (sp_cod2) (by first | decide | omega) ?_
  refine mv_go' 1 (pc' := 10) (ls' := [mv_R 212]) (st' := [mv_I (mv_shr 5 0)]) (M1 := M) rfl ?_
  exact mv_Ru.val (mv_ret (fun n => rfl) rfl) (congrArg mv_I (by decide))
theorem sp_la2 {M : mv_M} {j : Nat} (h : j < 5) : mv_Ru 2 201 0 [mv_R 232, mv_I (j : Int)] [] M (mv_I (mv_nn 0 (sp_wl 1) j)) (fun M1 => M1 = M) := by
  refine mv_go' 3 (pc' := 3) (ls' := [mv_R 232, mv_I (j : Int)]) (st' := [mv_I 5, mv_I (j : Int)]) (M1 := M) rfl ?_
  refine mv_callP (st2 := []) rfl (Or.inr rfl) rfl rfl rfl (sp_ci0 (by omega)) (by first | decide | omega) ?_
  refine mv_go' 3 (pc' := if 0 ≤ (j : Int) ∧ (j : Int) < 5 then 9 else mv_bad) (ls' := [mv_R 232, mv_I (j : Int)]) (st' := [mv_I (mv_ro 232 j)]) (M1 := M) rfl ?_
  refine mv_tt' (by omega) ?_
  refine mv_go' 3 (pc' := 14) (ls' := [mv_R 232, mv_I (j : Int)]) (st' := [mv_I (mv_i2c (mv_and (mv_ro 232 j) 255))]) (M1 := M) rfl ?_
  have h2 : ∀ x : Fin 5, (0 ≤ (fun j : Nat => (mv_i2c (mv_and (mv_ro 232 j) 255))) x ∧ (fun j : Nat => (mv_i2c (mv_and (mv_ro 232 j) 255))) x < 65536) ∧ (fun j : Nat => (mv_i2c (mv_and (mv_ro 232 j) 255))) x = mv_nn 0 (sp_wl 1) x := by decide
  exact mv_Ru.val (mv_ret (fun n => if_pos (c := 0 ≤ (mv_i2c (mv_and (mv_ro 232 j) 255)) ∧ (mv_i2c (mv_and (mv_ro 232 j) 255)) < 65536) (h2 ⟨j, h⟩).1) rfl) (congrArg mv_I (h2 ⟨j, h⟩).2)
theorem sp_cha2 {M : mv_M} {j : Nat} (h : j < 5) : mv_Ru 3 195 0 [mv_R 212, mv_I (j : Int)] [] M (mv_I (mv_nn 0 (sp_wl 1) j)) (fun M1 => M1 = M) := by
  refine mv_go' 1 (pc' := 1) (ls' := [mv_R 212, mv_I (j : Int)]) (st' := [mv_R 212]) (M1 := M) rfl ?_
  refine mv_callP (st2 := [mv_I 1]) rfl (Or.inl rfl) rfl rfl rfl (sp_lat2) (by first | decide | omega) ?_
  refine mv_go' 1 (pc' := if 1 = 0 then 16 else 7) (ls' := [mv_R 212, mv_I (j : Int)]) (st' := []) (M1 := M) rfl ?_
  refine mv_ff' (by first | decide | omega) ?_
  refine mv_go' 3 (pc' := 12) (ls' := [mv_R 212, mv_I (j : Int)]) (st' := [mv_I (j : Int), mv_R 232]) (M1 := M) rfl ?_
  refine mv_callP (st2 := [mv_I (mv_nn 0 (sp_wl 1) j)]) rfl (Or.inr rfl) rfl rfl rfl (sp_la2 (by omega)) (by first | decide | omega) ?_
  have h2 : ∀ x : Fin 5, (0 ≤ (fun j : Nat => (mv_nn 0 (sp_wl 1) j)) x ∧ (fun j : Nat => (mv_nn 0 (sp_wl 1) j)) x < 65536) ∧ (fun j : Nat => (mv_nn 0 (sp_wl 1) j)) x = mv_nn 0 (sp_wl 1) x := by decide
  exact mv_Ru.val (mv_ret (fun n => if_pos (c := 0 ≤ (mv_nn 0 (sp_wl 1) j) ∧ (mv_nn 0 (sp_wl 1) j) < 65536) (h2 ⟨j, h⟩).1) rfl) (congrArg mv_I (h2 ⟨j, h⟩).2)
theorem sp_lat3 {M : mv_M} : mv_Ru 0 199 0 [mv_R 213] [] M (mv_I 1) (fun M1 => M1 = M) := by
  refine mv_go' 2 (pc' := if 1 = 0 then 17 else 6) (ls' := [mv_R 213]) (st' := []) (M1 := M) rfl ?_
  refine mv_ff' (by first | decide | omega) ?_
  refine mv_go' 3 (pc' := if 0 = 0 then 13 else 17) (ls' := [mv_R 213]) (st' := []) (M1 := M) rfl ?_
  refine mv_tt' (by first | decide | omega) ?_
  refine mv_go' 2 (pc' := 18) (ls' := [mv_R 213]) (st' := [mv_I 1]) (M1 := M) rfl ?_
  exact mv_ret (fun n => rfl) rfl
theorem sp_cod3 {M : mv_M} : mv_Ru 0 198 0 [mv_R 213] [] M (mv_I 0) (fun M1 => M1 = M) := by
  refine mv_go' 2 (pc' := if 1 = 0 then 13 else 6) (ls' := [mv_R 213]) (st' := []) (M1 := M) rfl ?_
  refine mv_ff' (by first | decide | omega) ?_
  refine mv_go' 3 (pc' := 14) (ls' := [mv_R 213]) (st' := [mv_I 0]) (M1 := M) rfl ?_
  exact mv_ret (fun n => rfl) rfl
theorem sp_len3 {M : mv_M} : mv_Ru 1 194 0 [mv_R 213] [] M (mv_I 5) (fun M1 => M1 = M) := by
  refine mv_go' 4 (pc' := 6) (ls' := [mv_R 213]) (st' := [mv_R 213, mv_I 5]) (M1 := M) rfl ?_
  refine mv_callP (st2 := [mv_I 0, mv_I 5]) rfl (Or.inl rfl) rfl rfl rfl (sp_cod3) (by first | decide | omega) ?_
  refine mv_go' 1 (pc' := 10) (ls' := [mv_R 213]) (st' := [mv_I (mv_shr 5 0)]) (M1 := M) rfl ?_
  exact mv_Ru.val (mv_ret (fun n => rfl) rfl) (congrArg mv_I (by decide))
theorem sp_la3 {M : mv_M} {j : Nat} (h : j < 5) : mv_Ru 2 201 0 [mv_R 233, mv_I (j : Int)] [] M (mv_I (mv_nn 0 (sp_wl 2) j)) (fun M1 => M1 = M) := by
  refine mv_go' 3 (pc' := 3) (ls' := [mv_R 233, mv_I (j : Int)]) (st' := [mv_I 5, mv_I (j : Int)]) (M1 := M) rfl ?_
  refine mv_callP (st2 := []) rfl (Or.inr rfl) rfl rfl rfl (sp_ci0 (by omega)) (by first | decide | omega) ?_
  refine mv_go' 3 (pc' := if 0 ≤ (j : Int) ∧ (j : Int) < 5 then 9 else mv_bad) (ls' := [mv_R 233, mv_I (j : Int)]) (st' := [mv_I (mv_ro 233 j)]) (M1 := M) rfl ?_
  refine mv_tt' (by omega) ?_
  refine mv_go' 3 (pc' := 14) (ls' := [mv_R 233, mv_I (j : Int)]) (st' := [mv_I (mv_i2c (mv_and (mv_ro 233 j) 255))]) (M1 := M) rfl ?_
  have h2 : ∀ x : Fin 5, (0 ≤ (fun j : Nat => (mv_i2c (mv_and (mv_ro 233 j) 255))) x ∧ (fun j : Nat => (mv_i2c (mv_and (mv_ro 233 j) 255))) x < 65536) ∧ (fun j : Nat => (mv_i2c (mv_and (mv_ro 233 j) 255))) x = mv_nn 0 (sp_wl 2) x := by decide
  exact mv_Ru.val (mv_ret (fun n => if_pos (c := 0 ≤ (mv_i2c (mv_and (mv_ro 233 j) 255)) ∧ (mv_i2c (mv_and (mv_ro 233 j) 255)) < 65536) (h2 ⟨j, h⟩).1) rfl) (congrArg mv_I (h2 ⟨j, h⟩).2)
theorem sp_cha3 {M : mv_M} {j : Nat} (h : j < 5) : mv_Ru 3 195 0 [mv_R 213, mv_I (j : Int)] [] M (mv_I (mv_nn 0 (sp_wl 2) j)) (fun M1 => M1 = M) := by
  refine mv_go' 1 (pc' := 1) (ls' := [mv_R 213, mv_I (j : Int)]) (st' := [mv_R 213]) (M1 := M) rfl ?_
  refine mv_callP (st2 := [mv_I 1]) rfl (Or.inl rfl) rfl rfl rfl (sp_lat3) (by first | decide | omega) ?_
  refine mv_go' 1 (pc' := if 1 = 0 then 16 else 7) (ls' := [mv_R 213, mv_I (j : Int)]) (st' := []) (M1 := M) rfl ?_
  refine mv_ff' (by first | decide | omega) ?_
  refine mv_go' 3 (pc' := 12) (ls' := [mv_R 213, mv_I (j : Int)]) (st' := [mv_I (j : Int), mv_R 233]) (M1 := M) rfl ?_
  refine mv_callP (st2 := [mv_I (mv_nn 0 (sp_wl 2) j)]) rfl (Or.inr rfl) rfl rfl rfl (sp_la3 (by omega)) (by first | decide | omega) ?_
  have h2 : ∀ x : Fin 5, (0 ≤ (fun j : Nat => (mv_nn 0 (sp_wl 2) j)) x ∧ (fun j : Nat => (mv_nn 0 (sp_wl 2) j)) x < 65536) ∧ (fun j : Nat => (mv_nn 0 (sp_wl 2) j)) x = mv_nn 0 (sp_wl 2) x := by decide
  exact mv_Ru.val (mv_ret (fun n => if_pos (c := 0 ≤ (mv_nn 0 (sp_wl 2) j) ∧ (mv_nn 0 (sp_wl 2) j) < 65536) (h2 ⟨j, h⟩).1) rfl) (congrArg mv_I (h2 ⟨j, h⟩).2)
theorem sp_lat4 {M : mv_M} : mv_Ru 0 199 0 [mv_R 214] [] M (mv_I 1) (fun M1 => M1 = M) := by
  refine mv_go' 2 (pc' := if 1 = 0 then 17 else 6) (ls' := [mv_R 214]) (st' := []) (M1 := M) rfl ?_
  refine mv_ff' (by first | decide | omega) ?_
  refine mv_go' 3 (pc' := if 0 = 0 then 13 else 17) (ls' := [mv_R 214]) (st' := []) (M1 := M) rfl ?_
  refine mv_tt' (by first | decide | omega) ?_
  refine mv_go' 2 (pc' := 18) (ls' := [mv_R 214]) (st' := [mv_I 1]) (M1 := M) rfl ?_
  exact mv_ret (fun n => rfl) rfl
theorem sp_cod4 {M : mv_M} : mv_Ru 0 198 0 [mv_R 214] [] M (mv_I 0) (fun M1 => M1 = M) := by
  refine mv_go' 2 (pc' := if 1 = 0 then 13 else 6) (ls' := [mv_R 214]) (st' := []) (M1 := M) rfl ?_
  refine mv_ff' (by first | decide | omega) ?_
  refine mv_go' 3 (pc' := 14) (ls' := [mv_R 214]) (st' := [mv_I 0]) (M1 := M) rfl ?_
  exact mv_ret (fun n => rfl) rfl
theorem sp_len4 {M : mv_M} : mv_Ru 1 194 0 [mv_R 214] [] M (mv_I 2) (fun M1 => M1 = M) := by
  refine mv_go' 4 (pc' := 6) (ls' := [mv_R 214]) (st' := [mv_R 214, mv_I 2]) (M1 := M) rfl ?_
  refine mv_callP (st2 := [mv_I 0, mv_I 2]) rfl (Or.inl rfl) rfl rfl rfl (sp_cod4) (by first | decide | omega) ?_
  refine mv_go' 1 (pc' := 10) (ls' := [mv_R 214]) (st' := [mv_I (mv_shr 2 0)]) (M1 := M) rfl ?_
  exact mv_Ru.val (mv_ret (fun n => rfl) rfl) (congrArg mv_I (by decide))
theorem sp_la4 {M : mv_M} {j : Nat} (h : j < 2) : mv_Ru 2 201 0 [mv_R 234, mv_I (j : Int)] [] M (mv_I (mv_nn 0 (sp_wl 3) j)) (fun M1 => M1 = M) := by
  refine mv_go' 3 (pc' := 3) (ls' := [mv_R 234, mv_I (j : Int)]) (st' := [mv_I 2, mv_I (j : Int)]) (M1 := M) rfl ?_
  refine mv_callP (st2 := []) rfl (Or.inr rfl) rfl rfl rfl (sp_ci0 (by omega)) (by first | decide | omega) ?_
  refine mv_go' 3 (pc' := if 0 ≤ (j : Int) ∧ (j : Int) < 2 then 9 else mv_bad) (ls' := [mv_R 234, mv_I (j : Int)]) (st' := [mv_I (mv_ro 234 j)]) (M1 := M) rfl ?_
  refine mv_tt' (by omega) ?_
  refine mv_go' 3 (pc' := 14) (ls' := [mv_R 234, mv_I (j : Int)]) (st' := [mv_I (mv_i2c (mv_and (mv_ro 234 j) 255))]) (M1 := M) rfl ?_
  have h2 : ∀ x : Fin 2, (0 ≤ (fun j : Nat => (mv_i2c (mv_and (mv_ro 234 j) 255))) x ∧ (fun j : Nat => (mv_i2c (mv_and (mv_ro 234 j) 255))) x < 65536) ∧ (fun j : Nat => (mv_i2c (mv_and (mv_ro 234 j) 255))) x = mv_nn 0 (sp_wl 3) x := by decide
  exact mv_Ru.val (mv_ret (fun n => if_pos (c := 0 ≤ (mv_i2c (mv_and (mv_ro 234 j) 255)) ∧ (mv_i2c (mv_and (mv_ro 234 j) 255)) < 65536) (h2 ⟨j, h⟩).1) rfl) (congrArg mv_I (h2 ⟨j, h⟩).2)
theorem sp_cha4 {M : mv_M} {j : Nat} (h : j < 2) : mv_Ru 3 195 0 [mv_R 214, mv_I (j : Int)] [] M (mv_I (mv_nn 0 (sp_wl 3) j)) (fun M1 => M1 = M) := by
  refine mv_go' 1 (pc' := 1) (ls' := [mv_R 214, mv_I (j : Int)]) (st' := [mv_R 214]) (M1 := M) rfl ?_
  refine mv_callP (st2 := [mv_I 1]) rfl (Or.inl rfl) rfl rfl rfl (sp_lat4) (by first | decide | omega) ?_
  refine mv_go' 1 (pc' := if 1 = 0 then 16 else 7) (ls' := [mv_R 214, mv_I (j : Int)]) (st' := []) (M1 := M) rfl ?_
  refine mv_ff' (by first | decide | omega) ?_
  refine mv_go' 3 (pc' := 12) (ls' := [mv_R 214, mv_I (j : Int)]) (st' := [mv_I (j : Int), mv_R 234]) (M1 := M) rfl ?_
  refine mv_callP (st2 := [mv_I (mv_nn 0 (sp_wl 3) j)]) rfl (Or.inr rfl) rfl rfl rfl (sp_la4 (by omega)) (by first | decide | omega) ?_
  have h2 : ∀ x : Fin 2, (0 ≤ (fun j : Nat => (mv_nn 0 (sp_wl 3) j)) x ∧ (fun j : Nat => (mv_nn 0 (sp_wl 3) j)) x < 65536) ∧ (fun j : Nat => (mv_nn 0 (sp_wl 3) j)) x = mv_nn 0 (sp_wl 3) x := by decide
  exact mv_Ru.val (mv_ret (fun n => if_pos (c := 0 ≤ (mv_nn 0 (sp_wl 3) j) ∧ (mv_nn 0 (sp_wl 3) j) < 65536) (h2 ⟨j, h⟩).1) rfl) (congrArg mv_I (h2 ⟨j, h⟩).2)
theorem sp_lat5 {M : mv_M} : mv_Ru 0 199 0 [mv_R 215] [] M (mv_I 1) (fun M1 => M1 = M) := by
  refine mv_go' 2 (pc' := if 1 = 0 then 17 else 6) (ls' := [mv_R 215]) (st' := []) (M1 := M) rfl ?_
  refine mv_ff' (by first | decide | omega) ?_
  refine mv_go' 3 (pc' := if 0 = 0 then 13 else 17) (ls' := [mv_R 215]) (st' := []) (M1 := M) rfl ?_
  refine mv_tt' (by first | decide | omega) ?_
  refine mv_go' 2 (pc' := 18) (ls' := [mv_R 215]) (st' := [mv_I 1]) (M1 := M) rfl ?_
  exact mv_ret (fun n => rfl) rfl
theorem sp_cod5 {M : mv_M} : mv_Ru 0 198 0 [mv_R 215] [] M (mv_I 0) (fun M1 => M1 = M) := by
  refine mv_go' 2 (pc' := if 1 = 0 then 13 else 6) (ls' := [mv_R 215]) (st' := []) (M1 := M) rfl ?_
  refine mv_ff' (by first | decide | omega) ?_
  refine mv_go' 3 (pc' := 14) (ls' := [mv_R 215]) (st' := [mv_I 0]) (M1 := M) rfl ?_
  exact mv_ret (fun n => rfl) rfl
theorem sp_len5 {M : mv_M} : mv_Ru 1 194 0 [mv_R 215] [] M (mv_I 3) (fun M1 => M1 = M) := by
  refine mv_go' 4 (pc' := 6) (ls' := [mv_R 215]) (st' := [mv_R 215, mv_I 3]) (M1 := M) rfl ?_
  refine mv_callP (st2 := [mv_I 0, mv_I 3]) rfl (Or.inl rfl) rfl rfl rfl (sp_cod5) (by first | decide | omega) ?_
  refine mv_go' 1 (pc' := 10) (ls' := [mv_R 215]) (st' := [mv_I (mv_shr 3 0)]) (M1 := M) rfl ?_
  exact mv_Ru.val (mv_ret (fun n => rfl) rfl) (congrArg mv_I (by decide))
theorem sp_la5 {M : mv_M} {j : Nat} (h : j < 3) : mv_Ru 2 201 0 [mv_R 235, mv_I (j : Int)] [] M (mv_I (mv_nn 0 (sp_wl 4) j)) (fun M1 => M1 = M) := by
  refine mv_go' 3 (pc' := 3) (ls' := [mv_R 235, mv_I (j : Int)]) (st' := [mv_I 3, mv_I (j : Int)]) (M1 := M) rfl ?_
  refine mv_callP (st2 := []) rfl (Or.inr rfl) rfl rfl rfl (sp_ci0 (by omega)) (by first | decide | omega) ?_
  refine mv_go' 3 (pc' := if 0 ≤ (j : Int) ∧ (j : Int) < 3 then 9 else mv_bad) (ls' := [mv_R 235, mv_I (j : Int)]) (st' := [mv_I (mv_ro 235 j)]) (M1 := M) rfl ?_
  refine mv_tt' (by omega) ?_
  refine mv_go' 3 (pc' := 14) (ls' := [mv_R 235, mv_I (j : Int)]) (st' := [mv_I (mv_i2c (mv_and (mv_ro 235 j) 255))]) (M1 := M) rfl ?_
  have h2 : ∀ x : Fin 3, (0 ≤ (fun j : Nat => (mv_i2c (mv_and (mv_ro 235 j) 255))) x ∧ (fun j : Nat => (mv_i2c (mv_and (mv_ro 235 j) 255))) x < 65536) ∧ (fun j : Nat => (mv_i2c (mv_and (mv_ro 235 j) 255))) x = mv_nn 0 (sp_wl 4) x := by decide
  exact mv_Ru.val (mv_ret (fun n => if_pos (c := 0 ≤ (mv_i2c (mv_and (mv_ro 235 j) 255)) ∧ (mv_i2c (mv_and (mv_ro 235 j) 255)) < 65536) (h2 ⟨j, h⟩).1) rfl) (congrArg mv_I (h2 ⟨j, h⟩).2)
theorem sp_cha5 {M : mv_M} {j : Nat} (h : j < 3) : mv_Ru 3 195 0 [mv_R 215, mv_I (j : Int)] [] M (mv_I (mv_nn 0 (sp_wl 4) j)) (fun M1 => M1 = M) := by
  refine mv_go' 1 (pc' := 1) (ls' := [mv_R 215, mv_I (j : Int)]) (st' := [mv_R 215]) (M1 := M) rfl ?_
  refine mv_callP (st2 := [mv_I 1]) rfl (Or.inl rfl) rfl rfl rfl (sp_lat5) (by first | decide | omega) ?_
  refine mv_go' 1 (pc' := if 1 = 0 then 16 else 7) (ls' := [mv_R 215, mv_I (j : Int)]) (st' := []) (M1 := M) rfl ?_
  refine mv_ff' (by first | decide | omega) ?_
  refine mv_go' 3 (pc' := 12) (ls' := [mv_R 215, mv_I (j : Int)]) (st' := [mv_I (j : Int), mv_R 235]) (M1 := M) rfl ?_
  refine mv_callP (st2 := [mv_I (mv_nn 0 (sp_wl 4) j)]) rfl (Or.inr rfl) rfl rfl rfl (sp_la5 (by omega)) (by first | decide | omega) ?_
  have h2 : ∀ x : Fin 3, (0 ≤ (fun j : Nat => (mv_nn 0 (sp_wl 4) j)) x ∧ (fun j : Nat => (mv_nn 0 (sp_wl 4) j)) x < 65536) ∧ (fun j : Nat => (mv_nn 0 (sp_wl 4) j)) x = mv_nn 0 (sp_wl 4) x := by decide
  exact mv_Ru.val (mv_ret (fun n => if_pos (c := 0 ≤ (mv_nn 0 (sp_wl 4) j) ∧ (mv_nn 0 (sp_wl 4) j) < 65536) (h2 ⟨j, h⟩).1) rfl) (congrArg mv_I (h2 ⟨j, h⟩).2)
theorem sp_lat6 {M : mv_M} : mv_Ru 0 199 0 [mv_R 216] [] M (mv_I 1) (fun M1 => M1 = M) := by
  refine mv_go' 2 (pc' := if 1 = 0 then 17 else 6) (ls' := [mv_R 216]) (st' := []) (M1 := M) rfl ?_
  refine mv_ff' (by first | decide | omega) ?_
  refine mv_go' 3 (pc' := if 0 = 0 then 13 else 17) (ls' := [mv_R 216]) (st' := []) (M1 := M) rfl ?_
  refine mv_tt' (by first | decide | omega) ?_
  refine mv_go' 2 (pc' := 18) (ls' := [mv_R 216]) (st' := [mv_I 1]) (M1 := M) rfl ?_
  exact mv_ret (fun n => rfl) rfl
theorem sp_cod6 {M : mv_M} : mv_Ru 0 198 0 [mv_R 216] [] M (mv_I 0) (fun M1 => M1 = M) := by
  refine mv_go' 2 (pc' := if 1 = 0 then 13 else 6) (ls' := [mv_R 216]) (st' := []) (M1 := M) rfl ?_
  refine mv_ff' (by first | decide | omega) ?_
  refine mv_go' 3 (pc' := 14) (ls' := [mv_R 216]) (st' := [mv_I 0]) (M1 := M) rfl ?_
  exact mv_ret (fun n => rfl) rfl
theorem sp_len6 {M : mv_M} : mv_Ru 1 194 0 [mv_R 216] [] M (mv_I 3) (fun M1 => M1 = M) := by
  refine mv_go' 4 (pc' := 6) (ls' := [mv_R 216]) (st' := [mv_R 216, mv_I 3]) (M1 := M) rfl ?_
  refine mv_callP (st2 := [mv_I 0, mv_I 3]) rfl (Or.inl rfl) rfl rfl rfl (sp_cod6) (by first | decide | omega) ?_
  refine mv_go' 1 (pc' := 10) (ls' := [mv_R 216]) (st' := [mv_I (mv_shr 3 0)]) (M1 := M) rfl ?_
  exact mv_Ru.val (mv_ret (fun n => rfl) rfl) (congrArg mv_I (by decide))
theorem sp_la6 {M : mv_M} {j : Nat} (h : j < 3) : mv_Ru 2 201 0 [mv_R 236, mv_I (j : Int)] [] M (mv_I (mv_nn 0 (sp_wl 5) j)) (fun M1 => M1 = M) := by
  refine mv_go' 3 (pc' := 3) (ls' := [mv_R 236, mv_I (j : Int)]) (st' := [mv_I 3, mv_I (j : Int)]) (M1 := M) rfl ?_
  refine mv_callP (st2 := []) rfl (Or.inr rfl) rfl rfl rfl (sp_ci0 (by omega)) (by first | decide | omega) ?_
  refine mv_go' 3 (pc' := if 0 ≤ (j : Int) ∧ (j : Int) < 3 then 9 else mv_bad) (ls' := [mv_R 236, mv_I (j : Int)]) (st' := [mv_I (mv_ro 236 j)]) (M1 := M) rfl ?_
  refine mv_tt' (by omega) ?_
  refine mv_go' 3 (pc' := 14) (ls' := [mv_R 236, mv_I (j : Int)]) (st' := [mv_I (mv_i2c (mv_and (mv_ro 236 j) 255))]) (M1 := M) rfl ?_
  have h2 : ∀ x : Fin 3, (0 ≤ (fun j : Nat => (mv_i2c (mv_and (mv_ro 236 j) 255))) x ∧ (fun j : Nat => (mv_i2c (mv_and (mv_ro 236 j) 255))) x < 65536) ∧ (fun j : Nat => (mv_i2c (mv_and (mv_ro 236 j) 255))) x = mv_nn 0 (sp_wl 5) x := by decide
  exact mv_Ru.val (mv_ret (fun n => if_pos (c := 0 ≤ (mv_i2c (mv_and (mv_ro 236 j) 255)) ∧ (mv_i2c (mv_and (mv_ro 236 j) 255)) < 65536) (h2 ⟨j, h⟩).1) rfl) (congrArg mv_I (h2 ⟨j, h⟩).2)
theorem sp_cha6 {M : mv_M} {j : Nat} (h : j < 3) : mv_Ru 3 195 0 [mv_R 216, mv_I (j : Int)] [] M (mv_I (mv_nn 0 (sp_wl 5) j)) (fun M1 => M1 = M) := by
  refine mv_go' 1 (pc' := 1) (ls' := [mv_R 216, mv_I (j : Int)]) (st' := [mv_R 216]) (M1 := M) rfl ?_
  refine mv_callP (st2 := [mv_I 1]) rfl (Or.inl rfl) rfl rfl rfl (sp_lat6) (by first | decide | omega) ?_
  refine mv_go' 1 (pc' := if 1 = 0 then 16 else 7) (ls' := [mv_R 216, mv_I (j : Int)]) (st' := []) (M1 := M) rfl ?_
  refine mv_ff' (by first | decide | omega) ?_
  refine mv_go' 3 (pc' := 12) (ls' := [mv_R 216, mv_I (j : Int)]) (st' := [mv_I (j : Int), mv_R 236]) (M1 := M) rfl ?_
  refine mv_callP (st2 := [mv_I (mv_nn 0 (sp_wl 5) j)]) rfl (Or.inr rfl) rfl rfl rfl (sp_la6 (by omega)) (by first | decide | omega) ?_
  have h2 : ∀ x : Fin 3, (0 ≤ (fun j : Nat => (mv_nn 0 (sp_wl 5) j)) x ∧ (fun j : Nat => (mv_nn 0 (sp_wl 5) j)) x < 65536) ∧ (fun j : Nat => (mv_nn 0 (sp_wl 5) j)) x = mv_nn 0 (sp_wl 5) x := by decide
  exact mv_Ru.val (mv_ret (fun n => if_pos (c := 0 ≤ (mv_nn 0 (sp_wl 5) j) ∧ (mv_nn 0 (sp_wl 5) j) < 65536) (h2 ⟨j, h⟩).1) rfl) (congrArg mv_I (h2 ⟨j, h⟩).2)
theorem sp_lat7 {M : mv_M} : mv_Ru 0 199 0 [mv_R 217] [] M (mv_I 1) (fun M1 => M1 = M) := by
  refine mv_go' 2 (pc' := if 1 = 0 then 17 else 6) (ls' := [mv_R 217]) (st' := []) (M1 := M) rfl ?_
  refine mv_ff' (by first | decide | omega) ?_
  refine mv_go' 3 (pc' := if 0 = 0 then 13 else 17) (ls' := [mv_R 217]) (st' := []) (M1 := M) rfl ?_
  refine mv_tt' (by first | decide | omega) ?_
  refine mv_go' 2 (pc' := 18) (ls' := [mv_R 217]) (st' := [mv_I 1]) (M1 := M) rfl ?_
  exact mv_ret (fun n => rfl) rfl
theorem sp_cod7 {M : mv_M} : mv_Ru 0 198 0 [mv_R 217] [] M (mv_I 0) (fun M1 => M1 = M) := by
  refine mv_go' 2 (pc' := if 1 = 0 then 13 else 6) (ls' := [mv_R 217]) (st' := []) (M1 := M) rfl ?_
  refine mv_ff' (by first | decide | omega) ?_
  refine mv_go' 3 (pc' := 14) (ls' := [mv_R 217]) (st' := [mv_I 0]) (M1 := M) rfl ?_
  exact mv_ret (fun n => rfl) rfl
theorem sp_len7 {M : mv_M} : mv_Ru 1 194 0 [mv_R 217] [] M (mv_I 4) (fun M1 => M1 = M) := by
  refine mv_go' 4 (pc' := 6) (ls' := [mv_R 217]) (st' := [mv_R 217, mv_I 4]) (M1 := M) rfl ?_
  refine mv_callP (st2 := [mv_I 0, mv_I 4]) rfl (Or.inl rfl) rfl rfl rfl (sp_cod7) (by first | decide | omega) ?_
  refine mv_go' 1 (pc' := 10) (ls' := [mv_R 217]) (st' := [mv_I (mv_shr 4 0)]) (M1 := M) rfl ?_
  exact mv_Ru.val (mv_ret (fun n => rfl) rfl) (congrArg mv_I (by decide))
theorem sp_la7 {M : mv_M} {j : Nat} (h : j < 4) : mv_Ru 2 201 0 [mv_R 237, mv_I (j : Int)] [] M (mv_I (mv_nn 0 (sp_wl 6) j)) (fun M1 => M1 = M) := by
  refine mv_go' 3 (pc' := 3) (ls' := [mv_R 237, mv_I (j : Int)]) (st' := [mv_I 4, mv_I (j : Int)]) (M1 := M) rfl ?_
  refine mv_callP (st2 := []) rfl (Or.inr rfl) rfl rfl rfl (sp_ci0 (by omega)) (by first | decide | omega) ?_
  refine mv_go' 3 (pc' := if 0 ≤ (j : Int) ∧ (j : Int) < 4 then 9 else mv_bad) (ls' := [mv_R 237, mv_I (j : Int)]) (st' := [mv_I (mv_ro 237 j)]) (M1 := M) rfl ?_
  refine mv_tt' (by omega) ?_
  refine mv_go' 3 (pc' := 14) (ls' := [mv_R 237, mv_I (j : Int)]) (st' := [mv_I (mv_i2c (mv_and (mv_ro 237 j) 255))]) (M1 := M) rfl ?_
  have h2 : ∀ x : Fin 4, (0 ≤ (fun j : Nat => (mv_i2c (mv_and (mv_ro 237 j) 255))) x ∧ (fun j : Nat => (mv_i2c (mv_and (mv_ro 237 j) 255))) x < 65536) ∧ (fun j : Nat => (mv_i2c (mv_and (mv_ro 237 j) 255))) x = mv_nn 0 (sp_wl 6) x := by decide
  exact mv_Ru.val (mv_ret (fun n => if_pos (c := 0 ≤ (mv_i2c (mv_and (mv_ro 237 j) 255)) ∧ (mv_i2c (mv_and (mv_ro 237 j) 255)) < 65536) (h2 ⟨j, h⟩).1) rfl) (congrArg mv_I (h2 ⟨j, h⟩).2)
theorem sp_cha7 {M : mv_M} {j : Nat} (h : j < 4) : mv_Ru 3 195 0 [mv_R 217, mv_I (j : Int)] [] M (mv_I (mv_nn 0 (sp_wl 6) j)) (fun M1 => M1 = M) := by
  refine mv_go' 1 (pc' := 1) (ls' := [mv_R 217, mv_I (j : Int)]) (st' := [mv_R 217]) (M1 := M) rfl ?_
  refine mv_callP (st2 := [mv_I 1]) rfl (Or.inl rfl) rfl rfl rfl (sp_lat7) (by first | decide | omega) ?_
  refine mv_go' 1 (pc' := if 1 = 0 then 16 else 7) (ls' := [mv_R 217, mv_I (j : Int)]) (st' := []) (M1 := M) rfl ?_
  refine mv_ff' (by first | decide | omega) ?_
  refine mv_go' 3 (pc' := 12) (ls' := [mv_R 217, mv_I (j : Int)]) (st' := [mv_I (j : Int), mv_R 237]) (M1 := M) rfl ?_
  refine mv_callP (st2 := [mv_I (mv_nn 0 (sp_wl 6) j)]) rfl (Or.inr rfl) rfl rfl rfl (sp_la7 (by omega)) (by first | decide | omega) ?_
  have h2 : ∀ x : Fin 4, (0 ≤ (fun j : Nat => (mv_nn 0 (sp_wl 6) j)) x ∧ (fun j : Nat => (mv_nn 0 (sp_wl 6) j)) x < 65536) ∧ (fun j : Nat => (mv_nn 0 (sp_wl 6) j)) x = mv_nn 0 (sp_wl 6) x := by decide
  exact mv_Ru.val (mv_ret (fun n => if_pos (c := 0 ≤ (mv_nn 0 (sp_wl 6) j) ∧ (mv_nn 0 (sp_wl 6) j) < 65536) (h2 ⟨j, h⟩).1) rfl) (congrArg mv_I (h2 ⟨j, h⟩).2)
theorem sp_lat8 {M : mv_M} : mv_Ru 0 199 0 [mv_R 218] [] M (mv_I 1) (fun M1 => M1 = M) := by
  refine mv_go' 2 (pc' := if 1 = 0 then 17 else 6) (ls' := [mv_R 218]) (st' := []) (M1 := M) rfl ?_
  refine mv_ff' (by first | decide | omega) ?_
  refine mv_go' 3 (pc' := if 0 = 0 then 13 else 17) (ls' := [mv_R 218]) (st' := []) (M1 := M) rfl ?_
  refine mv_tt' (by first | decide | omega) ?_
  refine mv_go' 2 (pc' := 18) (ls' := [mv_R 218]) (st' := [mv_I 1]) (M1 := M) rfl ?_
  exact mv_ret (fun n => rfl) rfl
theorem sp_cod8 {M : mv_M} : mv_Ru 0 198 0 [mv_R 218] [] M (mv_I 0) (fun M1 => M1 = M) := by
  refine mv_go' 2 (pc' := if 1 = 0 then 13 else 6) (ls' := [mv_R 218]) (st' := []) (M1 := M) rfl ?_
  refine mv_ff' (by first | decide | omega) ?_
  refine mv_go' 3 (pc' := 14) (ls' := [mv_R 218]) (st' := [mv_I 0]) (M1 := M) rfl ?_
  exact mv_ret (fun n => rfl) rfl
theorem sp_len8 {M : mv_M} : mv_Ru 1 194 0 [mv_R 218] [] M (mv_I 4) (fun M1 => M1 = M) := by
  refine mv_go' 4 (pc' := 6) (ls' := [mv_R 218]) (st' := [mv_R 218, mv_I 4]) (M1 := M) rfl ?_
  refine mv_callP (st2 := [mv_I 0, mv_I 4]) rfl (Or.inl rfl) rfl rfl rfl (sp_cod8) (by first | decide | omega) ?_
  refine mv_go' 1 (pc' := 10) (ls' := [mv_R 218]) (st' := [mv_I (mv_shr 4 0)]) (M1 := M) rfl ?_
  exact mv_Ru.val (mv_ret (fun n => rfl) rfl) (congrArg mv_I (by decide))
theorem sp_la8 {M : mv_M} {j : Nat} (h : j < 4) : mv_Ru 2 201 0 [mv_R 238, mv_I (j : Int)] [] M (mv_I (mv_nn 0 (sp_wl 7) j)) (fun M1 => M1 = M) := by
  refine mv_go' 3 (pc' := 3) (ls' := [mv_R 238, mv_I (j : Int)]) (st' := [mv_I 4, mv_I (j : Int)]) (M1 := M) rfl ?_
  refine mv_callP (st2 := []) rfl (Or.inr rfl) rfl rfl rfl (sp_ci0 (by omega)) (by first | decide | omega) ?_
  refine mv_go' 3 (pc' := if 0 ≤ (j : Int) ∧ (j : Int) < 4 then 9 else mv_bad) (ls' := [mv_R 238, mv_I (j : Int)]) (st' := [mv_I (mv_ro 238 j)]) (M1 := M) rfl ?_
  refine mv_tt' (by omega) ?_
  refine mv_go' 3 (pc' := 14) (ls' := [mv_R 238, mv_I (j : Int)]) (st' := [mv_I (mv_i2c (mv_and (mv_ro 238 j) 255))]) (M1 := M) rfl ?_
  have h2 : ∀ x : Fin 4, (0 ≤ (fun j : Nat => (mv_i2c (mv_and (mv_ro 238 j) 255))) x ∧ (fun j : Nat => (mv_i2c (mv_and (mv_ro 238 j) 255))) x < 65536) ∧ (fun j : Nat => (mv_i2c (mv_and (mv_ro 238 j) 255))) x = mv_nn 0 (sp_wl 7) x := by decide
  exact mv_Ru.val (mv_ret (fun n => if_pos (c := 0 ≤ (mv_i2c (mv_and (mv_ro 238 j) 255)) ∧ (mv_i2c (mv_and (mv_ro 238 j) 255)) < 65536) (h2 ⟨j, h⟩).1) rfl) (congrArg mv_I (h2 ⟨j, h⟩).2)
theorem sp_cha8 {M : mv_M} {j : Nat} (h : j < 4) : mv_Ru 3 195 0 [mv_R 218, mv_I (j : Int)] [] M (mv_I (mv_nn 0 (sp_wl 7) j)) (fun M1 => M1 = M) := by
  refine mv_go' 1 (pc' := 1) (ls' := [mv_R 218, mv_I (j : Int)]) (st' := [mv_R 218]) (M1 := M) rfl ?_
  refine mv_callP (st2 := [mv_I 1]) rfl (Or.inl rfl) rfl rfl rfl (sp_lat8) (by first | decide | omega) ?_
  refine mv_go' 1 (pc' := if 1 = 0 then 16 else 7) (ls' := [mv_R 218, mv_I (j : Int)]) (st' := []) (M1 := M) rfl ?_
  refine mv_ff' (by first | decide | omega) ?_
  refine mv_go' 3 (pc' := 12) (ls' := [mv_R 218, mv_I (j : Int)]) (st' := [mv_I (j : Int), mv_R 238]) (M1 := M) rfl ?_
  refine mv_callP (st2 := [mv_I (mv_nn 0 (sp_wl 7) j)]) rfl (Or.inr rfl) rfl rfl rfl (sp_la8 (by omega)) (by first | decide | omega) ?_
  have h2 : ∀ x : Fin 4, (0 ≤ (fun j : Nat => (mv_nn 0 (sp_wl 7) j)) x ∧ (fun j : Nat => (mv_nn 0 (sp_wl 7) j)) x < 65536) ∧ (fun j : Nat => (mv_nn 0 (sp_wl 7) j)) x = mv_nn 0 (sp_wl 7) x := by decide
  exact mv_Ru.val (mv_ret (fun n => if_pos (c := 0 ≤ (mv_nn 0 (sp_wl 7) j) ∧ (mv_nn 0 (sp_wl 7) j) < 65536) (h2 ⟨j, h⟩).1) rfl) (congrArg mv_I (h2 ⟨j, h⟩).2)
theorem sp_lat9 {M : mv_M} : mv_Ru 0 199 0 [mv_R 219] [] M (mv_I 1) (fun M1 => M1 = M) := by
  refine mv_go' 2 (pc' := if 1 = 0 then 17 else 6) (ls' := [mv_R 219]) (st' := []) (M1 := M) rfl ?_
  refine mv_ff' (by first | decide | omega) ?_
  refine mv_go' 3 (pc' := if 0 = 0 then 13 else 17) (ls' := [mv_R 219]) (st' := []) (M1 := M) rfl ?_
  refine mv_tt' (by first | decide | omega) ?_
  refine mv_go' 2 (pc' := 18) (ls' := [mv_R 219]) (st' := [mv_I 1]) (M1 := M) rfl ?_
  exact mv_ret (fun n => rfl) rfl
theorem sp_cod9 {M : mv_M} : mv_Ru 0 198 0 [mv_R 219] [] M (mv_I 0) (fun M1 => M1 = M) := by
  refine mv_go' 2 (pc' := if 1 = 0 then 13 else 6) (ls' := [mv_R 219]) (st' := []) (M1 := M) rfl ?_
  refine mv_ff' (by first | decide | omega) ?_
  refine mv_go' 3 (pc' := 14) (ls' := [mv_R 219]) (st' := [mv_I 0]) (M1 := M) rfl ?_
  exact mv_ret (fun n => rfl) rfl
theorem sp_len9 {M : mv_M} : mv_Ru 1 194 0 [mv_R 219] [] M (mv_I 5) (fun M1 => M1 = M) := by
  refine mv_go' 4 (pc' := 6) (ls' := [mv_R 219]) (st' := [mv_R 219, mv_I 5]) (M1 := M) rfl ?_
  refine mv_callP (st2 := [mv_I 0, mv_I 5]) rfl (Or.inl rfl) rfl rfl rfl (sp_cod9) (by first | decide | omega) ?_
  refine mv_go' 1 (pc' := 10) (ls' := [mv_R 219]) (st' := [mv_I (mv_shr 5 0)]) (M1 := M) rfl ?_
  exact mv_Ru.val (mv_ret (fun n => rfl) rfl) (congrArg mv_I (by decide))
theorem sp_la9 {M : mv_M} {j : Nat} (h : j < 5) : mv_Ru 2 201 0 [mv_R 239, mv_I (j : Int)] [] M (mv_I (mv_nn 0 (sp_wl 8) j)) (fun M1 => M1 = M) := by
  refine mv_go' 3 (pc' := 3) (ls' := [mv_R 239, mv_I (j : Int)]) (st' := [mv_I 5, mv_I (j : Int)]) (M1 := M) rfl ?_
  refine mv_callP (st2 := []) rfl (Or.inr rfl) rfl rfl rfl (sp_ci0 (by omega)) (by first | decide | omega) ?_
  refine mv_go' 3 (pc' := if 0 ≤ (j : Int) ∧ (j : Int) < 5 then 9 else mv_bad) (ls' := [mv_R 239, mv_I (j : Int)]) (st' := [mv_I (mv_ro 239 j)]) (M1 := M) rfl ?_
  refine mv_tt' (by omega) ?_
  refine mv_go' 3 (pc' := 14) (ls' := [mv_R 239, mv_I (j : Int)]) (st' := [mv_I (mv_i2c (mv_and (mv_ro 239 j) 255))]) (M1 := M) rfl ?_
  have h2 : ∀ x : Fin 5, (0 ≤ (fun j : Nat => (mv_i2c (mv_and (mv_ro 239 j) 255))) x ∧ (fun j : Nat => (mv_i2c (mv_and (mv_ro 239 j) 255))) x < 65536) ∧ (fun j : Nat => (mv_i2c (mv_and (mv_ro 239 j) 255))) x = mv_nn 0 (sp_wl 8) x := by decide
  exact mv_Ru.val (mv_ret (fun n => if_pos (c := 0 ≤ (mv_i2c (mv_and (mv_ro 239 j) 255)) ∧ (mv_i2c (mv_and (mv_ro 239 j) 255)) < 65536) (h2 ⟨j, h⟩).1) rfl) (congrArg mv_I (h2 ⟨j, h⟩).2)
theorem sp_cha9 {M : mv_M} {j : Nat} (h : j < 5) : mv_Ru 3 195 0 [mv_R 219, mv_I (j : Int)] [] M (mv_I (mv_nn 0 (sp_wl 8) j)) (fun M1 => M1 = M) := by
  refine mv_go' 1 (pc' := 1) (ls' := [mv_R 219, mv_I (j : Int)]) (st' := [mv_R 219]) (M1 := M) rfl ?_
  refine mv_callP (st2 := [mv_I 1]) rfl (Or.inl rfl) rfl rfl rfl (sp_lat9) (by first | decide | omega) ?_
  refine mv_go' 1 (pc' := if 1 = 0 then 16 else 7) (ls' := [mv_R 219, mv_I (j : Int)]) (st' := []) (M1 := M) rfl ?_
  refine mv_ff' (by first | decide | omega) ?_
  refine mv_go' 3 (pc' := 12) (ls' := [mv_R 219, mv_I (j : Int)]) (st' := [mv_I (j : Int), mv_R 239]) (M1 := M) rfl ?_
  refine mv_callP (st2 := [mv_I (mv_nn 0 (sp_wl 8) j)]) rfl (Or.inr rfl) rfl rfl rfl (sp_la9 (by omega)) (by first | decide | omega) ?_
  have h2 : ∀ x : Fin 5, (0 ≤ (fun j : Nat => (mv_nn 0 (sp_wl 8) j)) x ∧ (fun j : Nat => (mv_nn 0 (sp_wl 8) j)) x < 65536) ∧ (fun j : Nat => (mv_nn 0 (sp_wl 8) j)) x = mv_nn 0 (sp_wl 8) x := by decide
  exact mv_Ru.val (mv_ret (fun n => if_pos (c := 0 ≤ (mv_nn 0 (sp_wl 8) j) ∧ (mv_nn 0 (sp_wl 8) j) < 65536) (h2 ⟨j, h⟩).1) rfl) (congrArg mv_I (h2 ⟨j, h⟩).2)
theorem sp_lat10 {M : mv_M} : mv_Ru 0 199 0 [mv_R 220] [] M (mv_I 1) (fun M1 => M1 = M) := by
  refine mv_go' 2 (pc' := if 1 = 0 then 17 else 6) (ls' := [mv_R 220]) (st' := []) (M1 := M) rfl ?_
  refine mv_ff' (by first | decide | omega) ?_
  refine mv_go' 3 (pc' := if 0 = 0 then 13 else 17) (ls' := [mv_R 220]) (st' := []) (M1 := M) rfl ?_
  refine mv_tt' (by first | decide | omega) ?_
  refine mv_go' 2 (pc' := 18) (ls' := [mv_R 220]) (st' := [mv_I 1]) (M1 := M) rfl ?_
  exact mv_ret (fun n => rfl) rfl
theorem sp_cod10 {M : mv_M} : mv_Ru 0 198 0 [mv_R 220] [] M (mv_I 0) (fun M1 => M1 = M) := by
  refine mv_go' 2 (pc' := if 1 = 0 then 13 else 6) (ls' := [mv_R 220]) (st' := []) (M1 := M) rfl ?_
  refine mv_ff' (by first | decide | omega) ?_
  refine mv_go' 3 (pc' := 14) (ls' := [mv_R 220]) (st' := [mv_I 0]) (M1 := M) rfl ?_
  exact mv_ret (fun n => rfl) rfl
theorem sp_len10 {M : mv_M} : mv_Ru 1 194 0 [mv_R 220] [] M (mv_I 4) (fun M1 => M1 = M) := by
  refine mv_go' 4 (pc' := 6) (ls' := [mv_R 220]) (st' := [mv_R 220, mv_I 4]) (M1 := M) rfl ?_
  refine mv_callP (st2 := [mv_I 0, mv_I 4]) rfl (Or.inl rfl) rfl rfl rfl (sp_cod10) (by first | decide | omega) ?_
  refine mv_go' 1 (pc' := 10) (ls' := [mv_R 220]) (st' := [mv_I (mv_shr 4 0)]) (M1 := M) rfl ?_
  exact mv_Ru.val (mv_ret (fun n => rfl) rfl) (congrArg mv_I (by decide))
theorem sp_la10 {M : mv_M} {j : Nat} (h : j < 4) : mv_Ru 2 201 0 [mv_R 240, mv_I (j : Int)] [] M (mv_I (mv_nn 0 (sp_wl 9) j)) (fun M1 => M1 = M) := by
  refine mv_go' 3 (pc' := 3) (ls' := [mv_R 240, mv_I (j : Int)]) (st' := [mv_I 4, mv_I (j : Int)]) (M1 := M) rfl ?_
  refine mv_callP (st2 := []) rfl (Or.inr rfl) rfl rfl rfl (sp_ci0 (by omega)) (by first | decide | omega) ?_
  refine mv_go' 3 (pc' := if 0 ≤ (j : Int) ∧ (j : Int) < 4 then 9 else mv_bad) (ls' := [mv_R 240, mv_I (j : Int)]) (st' := [mv_I (mv_ro 240 j)]) (M1 := M) rfl ?_
  refine mv_tt' (by omega) ?_
  refine mv_go' 3 (pc' := 14) (ls' := [mv_R 240, mv_I (j : Int)]) (st' := [mv_I (mv_i2c (mv_and (mv_ro 240 j) 255))]) (M1 := M) rfl ?_
  have h2 : ∀ x : Fin 4, (0 ≤ (fun j : Nat => (mv_i2c (mv_and (mv_ro 240 j) 255))) x ∧ (fun j : Nat => (mv_i2c (mv_and (mv_ro 240 j) 255))) x < 65536) ∧ (fun j : Nat => (mv_i2c (mv_and (mv_ro 240 j) 255))) x = mv_nn 0 (sp_wl 9) x := by decide
  exact mv_Ru.val (mv_ret (fun n => if_pos (c := 0 ≤ (mv_i2c (mv_and (mv_ro 240 j) 255)) ∧ (mv_i2c (mv_and (mv_ro 240 j) 255)) < 65536) (h2 ⟨j, h⟩).1) rfl) (congrArg mv_I (h2 ⟨j, h⟩).2)
theorem sp_cha10 {M : mv_M} {j : Nat} (h : j < 4) : mv_Ru 3 195 0 [mv_R 220, mv_I (j : Int)] [] M (mv_I (mv_nn 0 (sp_wl 9) j)) (fun M1 => M1 = M) := by
  refine mv_go' 1 (pc' := 1) (ls' := [mv_R 220, mv_I (j : Int)]) (st' := [mv_R 220]) (M1 := M) rfl ?_
  refine mv_callP (st2 := [mv_I 1]) rfl (Or.inl rfl) rfl rfl rfl (sp_lat10) (by first | decide | omega) ?_
  refine mv_go' 1 (pc' := if 1 = 0 then 16 else 7) (ls' := [mv_R 220, mv_I (j : Int)]) (st' := []) (M1 := M) rfl ?_
  refine mv_ff' (by first | decide | omega) ?_
  refine mv_go' 3 (pc' := 12) (ls' := [mv_R 220, mv_I (j : Int)]) (st' := [mv_I (j : Int), mv_R 240]) (M1 := M) rfl ?_
  refine mv_callP (st2 := [mv_I (mv_nn 0 (sp_wl 9) j)]) rfl (Or.inr rfl) rfl rfl rfl (sp_la10 (by omega)) (by first | decide | omega) ?_
  have h2 : ∀ x : Fin 4, (0 ≤ (fun j : Nat => (mv_nn 0 (sp_wl 9) j)) x ∧ (fun j : Nat => (mv_nn 0 (sp_wl 9) j)) x < 65536) ∧ (fun j : Nat => (mv_nn 0 (sp_wl 9) j)) x = mv_nn 0 (sp_wl 9) x := by decide
  exact mv_Ru.val (mv_ret (fun n => if_pos (c := 0 ≤ (mv_nn 0 (sp_wl 9) j) ∧ (mv_nn 0 (sp_wl 9) j) < 65536) (h2 ⟨j, h⟩).1) rfl) (congrArg mv_I (h2 ⟨j, h⟩).2)
theorem sp_lat11 {M : mv_M} : mv_Ru 0 199 0 [mv_R 221] [] M (mv_I 1) (fun M1 => M1 = M) := by
  refine mv_go' 2 (pc' := if 1 = 0 then 17 else 6) (ls' := [mv_R 221]) (st' := []) (M1 := M) rfl ?_
  refine mv_ff' (by first | decide | omega) ?_
  refine mv_go' 3 (pc' := if 0 = 0 then 13 else 17) (ls' := [mv_R 221]) (st' := []) (M1 := M) rfl ?_
  refine mv_tt' (by first | decide | omega) ?_
  refine mv_go' 2 (pc' := 18) (ls' := [mv_R 221]) (st' := [mv_I 1]) (M1 := M) rfl ?_
  exact mv_ret (fun n => rfl) rfl
theorem sp_cod11 {M : mv_M} : mv_Ru 0 198 0 [mv_R 221] [] M (mv_I 0) (fun M1 => M1 = M) := by
  refine mv_go' 2 (pc' := if 1 = 0 then 13 else 6) (ls' := [mv_R 221]) (st' := []) (M1 := M) rfl ?_
  refine mv_ff' (by first | decide | omega) ?_
  refine mv_go' 3 (pc' := 14) (ls' := [mv_R 221]) (st' := [mv_I 0]) (M1 := M) rfl ?_
  exact mv_ret (fun n => rfl) rfl
theorem sp_len11 {M : mv_M} : mv_Ru 1 194 0 [mv_R 221] [] M (mv_I 5) (fun M1 => M1 = M) := by
  refine mv_go' 4 (pc' := 6) (ls' := [mv_R 221]) (st' := [mv_R 221, mv_I 5]) (M1 := M) rfl ?_
  refine mv_callP (st2 := [mv_I 0, mv_I 5]) rfl (Or.inl rfl) rfl rfl rfl (sp_cod11) (by first | decide | omega) ?_
  refine mv_go' 1 (pc' := 10) (ls' := [mv_R 221]) (st' := [mv_I (mv_shr 5 0)]) (M1 := M) rfl ?_
  exact mv_Ru.val (mv_ret (fun n => rfl) rfl) (congrArg mv_I (by decide))
theorem sp_la11 {M : mv_M} {j : Nat} (h : j < 5) : mv_Ru 2 201 0 [mv_R 241, mv_I (j : Int)] [] M (mv_I (mv_nn 0 (sp_wl 10) j)) (fun M1 => M1 = M) := by
  refine mv_go' 3 (pc' := 3) (ls' := [mv_R 241, mv_I (j : Int)]) (st' := [mv_I 5, mv_I (j : Int)]) (M1 := M) rfl ?_
  refine mv_callP (st2 := []) rfl (Or.inr rfl) rfl rfl rfl (sp_ci0 (by omega)) (by first | decide | omega) ?_
  refine mv_go' 3 (pc' := if 0 ≤ (j : Int) ∧ (j : Int) < 5 then 9 else mv_bad) (ls' := [mv_R 241, mv_I (j : Int)]) (st' := [mv_I (mv_ro 241 j)]) (M1 := M) rfl ?_
  refine mv_tt' (by omega) ?_
  refine mv_go' 3 (pc' := 14) (ls' := [mv_R 241, mv_I (j : Int)]) (st' := [mv_I (mv_i2c (mv_and (mv_ro 241 j) 255))]) (M1 := M) rfl ?_
  have h2 : ∀ x : Fin 5, (0 ≤ (fun j : Nat => (mv_i2c (mv_and (mv_ro 241 j) 255))) x ∧ (fun j : Nat => (mv_i2c (mv_and (mv_ro 241 j) 255))) x < 65536) ∧ (fun j : Nat => (mv_i2c (mv_and (mv_ro 241 j) 255))) x = mv_nn 0 (sp_wl 10) x := by decide
  exact mv_Ru.val (mv_ret (fun n => if_pos (c := 0 ≤ (mv_i2c (mv_and (mv_ro 241 j) 255)) ∧ (mv_i2c (mv_and (mv_ro 241 j) 255)) < 65536) (h2 ⟨j, h⟩).1) rfl) (congrArg mv_I (h2 ⟨j, h⟩).2)
theorem sp_cha11 {M : mv_M} {j : Nat} (h : j < 5) : mv_Ru 3 195 0 [mv_R 221, mv_I (j : Int)] [] M (mv_I (mv_nn 0 (sp_wl 10) j)) (fun M1 => M1 = M) := by
  refine mv_go' 1 (pc' := 1) (ls' := [mv_R 221, mv_I (j : Int)]) (st' := [mv_R 221]) (M1 := M) rfl ?_
  refine mv_callP (st2 := [mv_I 1]) rfl (Or.inl rfl) rfl rfl rfl (sp_lat11) (by first | decide | omega) ?_
  refine mv_go' 1 (pc' := if 1 = 0 then 16 else 7) (ls' := [mv_R 221, mv_I (j : Int)]) (st' := []) (M1 := M) rfl ?_
  refine mv_ff' (by first | decide | omega) ?_
  refine mv_go' 3 (pc' := 12) (ls' := [mv_R 221, mv_I (j : Int)]) (st' := [mv_I (j : Int), mv_R 241]) (M1 := M) rfl ?_
  refine mv_callP (st2 := [mv_I (mv_nn 0 (sp_wl 10) j)]) rfl (Or.inr rfl) rfl rfl rfl (sp_la11 (by omega)) (by first | decide | omega) ?_
  have h2 : ∀ x : Fin 5, (0 ≤ (fun j : Nat => (mv_nn 0 (sp_wl 10) j)) x ∧ (fun j : Nat => (mv_nn 0 (sp_wl 10) j)) x < 65536) ∧ (fun j : Nat => (mv_nn 0 (sp_wl 10) j)) x = mv_nn 0 (sp_wl 10) x := by decide
  exact mv_Ru.val (mv_ret (fun n => if_pos (c := 0 ≤ (mv_nn 0 (sp_wl 10) j) ∧ (mv_nn 0 (sp_wl 10) j) < 65536) (h2 ⟨j, h⟩).1) rfl) (congrArg mv_I (h2 ⟨j, h⟩).2)
theorem sp_lat12 {M : mv_M} : mv_Ru 0 199 0 [mv_R 222] [] M (mv_I 1) (fun M1 => M1 = M) := by
  refine mv_go' 2 (pc' := if 1 = 0 then 17 else 6) (ls' := [mv_R 222]) (st' := []) (M1 := M) rfl ?_
  refine mv_ff' (by first | decide | omega) ?_
  refine mv_go' 3 (pc' := if 0 = 0 then 13 else 17) (ls' := [mv_R 222]) (st' := []) (M1 := M) rfl ?_
  refine mv_tt' (by first | decide | omega) ?_
  refine mv_go' 2 (pc' := 18) (ls' := [mv_R 222]) (st' := [mv_I 1]) (M1 := M) rfl ?_
  exact mv_ret (fun n => rfl) rfl
theorem sp_cod12 {M : mv_M} : mv_Ru 0 198 0 [mv_R 222] [] M (mv_I 0) (fun M1 => M1 = M) := by
  refine mv_go' 2 (pc' := if 1 = 0 then 13 else 6) (ls' := [mv_R 222]) (st' := []) (M1 := M) rfl ?_
  refine mv_ff' (by first | decide | omega) ?_
  refine mv_go' 3 (pc' := 14) (ls' := [mv_R 222]) (st' := [mv_I 0]) (M1 := M) rfl ?_
  exact mv_ret (fun n => rfl) rfl
theorem sp_len12 {M : mv_M} : mv_Ru 1 194 0 [mv_R 222] [] M (mv_I 4) (fun M1 => M1 = M) := by
  refine mv_go' 4 (pc' := 6) (ls' := [mv_R 222]) (st' := [mv_R 222, mv_I 4]) (M1 := M) rfl ?_
  refine mv_callP (st2 := [mv_I 0, mv_I 4]) rfl (Or.inl rfl) rfl rfl rfl (sp_cod12) (by first | decide | omega) ?_
  refine mv_go' 1 (pc' := 10) (ls' := [mv_R 222]) (st' := [mv_I (mv_shr 4 0)]) (M1 := M) rfl ?_
  exact mv_Ru.val (mv_ret (fun n => rfl) rfl) (congrArg mv_I (by decide))
theorem sp_la12 {M : mv_M} {j : Nat} (h : j < 4) : mv_Ru 2 201 0 [mv_R 242, mv_I (j : Int)] [] M (mv_I (mv_nn 0 (sp_wl 11) j)) (fun M1 => M1 = M) := by
  refine mv_go' 3 (pc' := 3) (ls' := [mv_R 242, mv_I (j : Int)]) (st' := [mv_I 4, mv_I (j : Int)]) (M1 := M) rfl ?_
  refine mv_callP (st2 := []) rfl (Or.inr rfl) rfl rfl rfl (sp_ci0 (by omega)) (by first | decide | omega) ?_
  refine mv_go' 3 (pc' := if 0 ≤ (j : Int) ∧ (j : Int) < 4 then 9 else mv_bad) (ls' := [mv_R 242, mv_I (j : Int)]) (st' := [mv_I (mv_ro 242 j)]) (M1 := M) rfl ?_
  refine mv_tt' (by omega) ?_
  refine mv_go' 3 (pc' := 14) (ls' := [mv_R 242, mv_I (j : Int)]) (st' := [mv_I (mv_i2c (mv_and (mv_ro 242 j) 255))]) (M1 := M) rfl ?_
  have h2 : ∀ x : Fin 4, (0 ≤ (fun j : Nat => (mv_i2c (mv_and (mv_ro 242 j) 255))) x ∧ (fun j : Nat => (mv_i2c (mv_and (mv_ro 242 j) 255))) x < 65536) ∧ (fun j : Nat => (mv_i2c (mv_and (mv_ro 242 j) 255))) x = mv_nn 0 (sp_wl 11) x := by decide
  exact mv_Ru.val (mv_ret (fun n => if_pos (c := 0 ≤ (mv_i2c (mv_and (mv_ro 242 j) 255)) ∧ (mv_i2c (mv_and (mv_ro 242 j) 255)) < 65536) (h2 ⟨j, h⟩).1) rfl) (congrArg mv_I (h2 ⟨j, h⟩).2)
theorem sp_cha12 {M : mv_M} {j : Nat} (h : j < 4) : mv_Ru 3 195 0 [mv_R 222, mv_I (j : Int)] [] M (mv_I (mv_nn 0 (sp_wl 11) j)) (fun M1 => M1 = M) := by
  refine mv_go' 1 (pc' := 1) (ls' := [mv_R 222, mv_I (j : Int)]) (st' := [mv_R 222]) (M1 := M) rfl ?_
  refine mv_callP (st2 := [mv_I 1]) rfl (Or.inl rfl) rfl rfl rfl (sp_lat12) (by first | decide | omega) ?_
  refine mv_go' 1 (pc' := if 1 = 0 then 16 else 7) (ls' := [mv_R 222, mv_I (j : Int)]) (st' := []) (M1 := M) rfl ?_
  refine mv_ff' (by first | decide | omega) ?_
  refine mv_go' 3 (pc' := 12) (ls' := [mv_R 222, mv_I (j : Int)]) (st' := [mv_I (j : Int), mv_R 242]) (M1 := M) rfl ?_
  refine mv_callP (st2 := [mv_I (mv_nn 0 (sp_wl 11) j)]) rfl (Or.inr rfl) rfl rfl rfl (sp_la12 (by omega)) (by first | decide | omega) ?_
  have h2 : ∀ x : Fin 4, (0 ≤ (fun j : Nat => (mv_nn 0 (sp_wl 11) j)) x ∧ (fun j : Nat => (mv_nn 0 (sp_wl 11) j)) x < 65536) ∧ (fun j : Nat => (mv_nn 0 (sp_wl 11) j)) x = mv_nn 0 (sp_wl 11) x := by decide
  exact mv_Ru.val (mv_ret (fun n => if_pos (c := 0 ≤ (mv_nn 0 (sp_wl 11) j) ∧ (mv_nn 0 (sp_wl 11) j) < 65536) (h2 ⟨j, h⟩).1) rfl) (congrArg mv_I (h2 ⟨j, h⟩).2)
theorem sp_lat13 {M : mv_M} : mv_Ru 0 199 0 [mv_R 223] [] M (mv_I 1) (fun M1 => M1 = M) := by
  refine mv_go' 2 (pc' := if 1 = 0 then 17 else 6) (ls' := [mv_R 223]) (st' := []) (M1 := M) rfl ?_
  refine mv_ff' (by first | decide | omega) ?_
  refine mv_go' 3 (pc' := if 0 = 0 then 13 else 17) (ls' := [mv_R 223]) (st' := []) (M1 := M) rfl ?_
  refine mv_tt' (by first | decide | omega) ?_
  refine mv_go' 2 (pc' := 18) (ls' := [mv_R 223]) (st' := [mv_I 1]) (M1 := M) rfl ?_
  exact mv_ret (fun n => rfl) rfl
theorem sp_cod13 {M : mv_M} : mv_Ru 0 198 0 [mv_R 223] [] M (mv_I 0) (fun M1 => M1 = M) := by
  refine mv_go' 2 (pc' := if 1 = 0 then 13 else 6) (ls' := [mv_R 223]) (st' := []) (M1 := M) rfl ?_
  refine mv_ff' (by first | decide | omega) ?_
  refine mv_go' 3 (pc' := 14) (ls' := [mv_R 223]) (st' := [mv_I 0]) (M1 := M) rfl ?_
  exact mv_ret (fun n => rfl) rfl
theorem sp_len13 {M : mv_M} : mv_Ru 1 194 0 [mv_R 223] [] M (mv_I 8) (fun M1 => M1 = M) := by
  refine mv_go' 4 (pc' := 6) (ls' := [mv_R 223]) (st' := [mv_R 223, mv_I 8]) (M1 := M) rfl ?_
  refine mv_callP (st2 := [mv_I 0, mv_I 8]) rfl (Or.inl rfl) rfl rfl rfl (sp_cod13) (by first | decide | omega) ?_
  refine mv_go' 1 (pc' := 10) (ls' := [mv_R 223]) (st' := [mv_I (mv_shr 8 0)]) (M1 := M) rfl ?_
  exact mv_Ru.val (mv_ret (fun n => rfl) rfl) (congrArg mv_I (by decide))
