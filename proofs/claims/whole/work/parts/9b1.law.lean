/-! the law: its cases -/
theorem sp_law0 {i : Nat} {M : mv_M} {v : mv_V} {Q : mv_M → Prop} (hI : sp_Inv M) (hL : (i : Int) + 7 ≤ M 203 0) (hL2 : M 203 0 ≤ 3584) (hr : ∀ j, -2147483648 ≤ M 202 j ∧ M 202 j ≤ 2147483647) (e : ∀ M1, sp_Inv M1 → mv_hi M M1 → mv_Ru 61 208 1373 [mv_R 202, mv_R 0, mv_R 100, mv_I (i : Int)] [] M1 v Q) : mv_Ru 61 208 192 [mv_R 202, mv_R 0, mv_R 100, mv_I (i : Int)] [] M v Q := by
  obtain ⟨z, hz⟩ := sp_k0 (M 202 (i + 1)) M hI
  refine mv_go' 5 (pc' := 197) (ls' := [mv_R 202, mv_R 0, mv_R 100, mv_I (i : Int)]) (st' := [mv_I (mv_w ((i : Int) + 1)), mv_R 202, mv_R 0]) (M1 := M) rfl ?_
  rw [show mv_w ((i : Int) + 1) = ((i + 1 : Nat) : Int) from by (rw [show mv_w ((i : Int) + 1) = (i : Int) + 1 from mv_w_id (by omega) (by omega)]) <;> omega]
  refine mv_go' 1 (pc' := if 0 ≤ ((i + 1 : Nat) : Int) ∧ ((i + 1 : Nat) : Int) < (M 203 0) then 198 else mv_bad) (ls' := [mv_R 202, mv_R 0, mv_R 100, mv_I (i : Int)]) (st' := [mv_I (M 202 (i + 1)), mv_R 0]) (M1 := M) rfl ?_
  refine mv_tt' (by omega) ?_
  refine mv_call (st2 := [mv_I z]) rfl (Or.inl rfl) rfl rfl rfl (hz.hi) (by first | decide | omega) (fun Ma1 hm2 => ?_)
  have h1 := hm2
  have e203 : Ma1 203 0 = M 203 0 := congrFun (h1.2 203 (by decide)) 0
  refine mv_go' 5 (pc' := 206) (ls' := [mv_R 202, mv_R 0, mv_R 100, mv_I (i : Int)]) (st' := [mv_I (mv_w ((i : Int) + 1)), mv_R 202, mv_R 100, mv_I z]) (M1 := Ma1) rfl ?_
  rw [show mv_w ((i : Int) + 1) = ((i + 1 : Nat) : Int) from by (rw [show mv_w ((i : Int) + 1) = (i : Int) + 1 from mv_w_id (by omega) (by omega)]) <;> omega]
  refine mv_go' 1 (pc' := if 0 ≤ ((i + 1 : Nat) : Int) ∧ ((i + 1 : Nat) : Int) < (Ma1 203 0) then 207 else mv_bad) (ls' := [mv_R 202, mv_R 0, mv_R 100, mv_I (i : Int)]) (st' := [mv_I (Ma1 202 (i + 1)), mv_R 100, mv_I z]) (M1 := Ma1) rfl ?_
  refine mv_tt' (by omega) ?_
  rw [show Ma1 202 (i + 1) = M 202 (i + 1) from by exact congrFun (h1.2 202 (by decide)) (i + 1)]
  refine mv_call (st2 := [mv_I z, mv_I z]) rfl (Or.inl rfl) rfl rfl rfl ((h1.1).hi) (by first | decide | omega) (fun Ma3 hm4 => ?_)
  have h2 := hm4
  refine mv_go' 1 (pc' := if z = z then 1373 else 213) (ls' := [mv_R 202, mv_R 0, mv_R 100, mv_I (i : Int)]) (st' := []) (M1 := Ma3) rfl ?_
  refine mv_tt' (by first | decide | omega) ?_
  exact e _ h2.1 (fun j hj => (h2.2 j hj).trans (h1.2 j hj))
theorem sp_law1 {i : Nat} {M : mv_M} {v : mv_V} {Q : mv_M → Prop} (hI : sp_Inv M) (hL : (i : Int) + 7 ≤ M 203 0) (hL2 : M 203 0 ≤ 3584) (hr : ∀ j, -2147483648 ≤ M 202 j ∧ M 202 j ≤ 2147483647) (e : ∀ M1, sp_Inv M1 → mv_hi M M1 → mv_Ru 61 208 1373 [mv_R 202, mv_R 0, mv_R 100, mv_I (i : Int)] [] M1 v Q) : mv_Ru 61 208 215 [mv_R 202, mv_R 0, mv_R 100, mv_I (i : Int)] [] M v Q := by
  obtain ⟨z, hz⟩ := sp_k1 (M 202 (i + 1)) M hI
  refine mv_go' 5 (pc' := 220) (ls' := [mv_R 202, mv_R 0, mv_R 100, mv_I (i : Int)]) (st' := [mv_I (mv_w ((i : Int) + 1)), mv_R 202, mv_R 0]) (M1 := M) rfl ?_
  rw [show mv_w ((i : Int) + 1) = ((i + 1 : Nat) : Int) from by (rw [show mv_w ((i : Int) + 1) = (i : Int) + 1 from mv_w_id (by omega) (by omega)]) <;> omega]
  refine mv_go' 1 (pc' := if 0 ≤ ((i + 1 : Nat) : Int) ∧ ((i + 1 : Nat) : Int) < (M 203 0) then 221 else mv_bad) (ls' := [mv_R 202, mv_R 0, mv_R 100, mv_I (i : Int)]) (st' := [mv_I (M 202 (i + 1)), mv_R 0]) (M1 := M) rfl ?_
  refine mv_tt' (by omega) ?_
  refine mv_call (st2 := [mv_I z]) rfl (Or.inl rfl) rfl rfl rfl (hz.hi) (by first | decide | omega) (fun Ma5 hm6 => ?_)
  have h1 := hm6
  have e203 : Ma5 203 0 = M 203 0 := congrFun (h1.2 203 (by decide)) 0
  refine mv_go' 5 (pc' := 229) (ls' := [mv_R 202, mv_R 0, mv_R 100, mv_I (i : Int)]) (st' := [mv_I (mv_w ((i : Int) + 1)), mv_R 202, mv_R 100, mv_I z]) (M1 := Ma5) rfl ?_
  rw [show mv_w ((i : Int) + 1) = ((i + 1 : Nat) : Int) from by (rw [show mv_w ((i : Int) + 1) = (i : Int) + 1 from mv_w_id (by omega) (by omega)]) <;> omega]
  refine mv_go' 1 (pc' := if 0 ≤ ((i + 1 : Nat) : Int) ∧ ((i + 1 : Nat) : Int) < (Ma5 203 0) then 230 else mv_bad) (ls' := [mv_R 202, mv_R 0, mv_R 100, mv_I (i : Int)]) (st' := [mv_I (Ma5 202 (i + 1)), mv_R 100, mv_I z]) (M1 := Ma5) rfl ?_
  refine mv_tt' (by omega) ?_
  rw [show Ma5 202 (i + 1) = M 202 (i + 1) from by exact congrFun (h1.2 202 (by decide)) (i + 1)]
  refine mv_call (st2 := [mv_I z, mv_I z]) rfl (Or.inl rfl) rfl rfl rfl ((h1.1).hi) (by first | decide | omega) (fun Ma7 hm8 => ?_)
  have h2 := hm8
  refine mv_go' 1 (pc' := if z = z then 1373 else 236) (ls' := [mv_R 202, mv_R 0, mv_R 100, mv_I (i : Int)]) (st' := []) (M1 := Ma7) rfl ?_
  refine mv_tt' (by first | decide | omega) ?_
  exact e _ h2.1 (fun j hj => (h2.2 j hj).trans (h1.2 j hj))
theorem sp_law2 {i : Nat} {M : mv_M} {v : mv_V} {Q : mv_M → Prop} (hI : sp_Inv M) (hL : (i : Int) + 7 ≤ M 203 0) (hL2 : M 203 0 ≤ 3584) (hr : ∀ j, -2147483648 ≤ M 202 j ∧ M 202 j ≤ 2147483647) (e : ∀ M1, sp_Inv M1 → mv_hi M M1 → mv_Ru 61 208 1373 [mv_R 202, mv_R 0, mv_R 100, mv_I (i : Int)] [] M1 v Q) : mv_Ru 61 208 238 [mv_R 202, mv_R 0, mv_R 100, mv_I (i : Int)] [] M v Q := by
  obtain ⟨z, hz⟩ := sp_k2 (M 202 (i + 1)) (M 202 (i + 2)) (M 202 (i + 3)) (M 202 (i + 4)) (M 202 (i + 5)) (M 202 (i + 6)) M hI
  refine mv_go' 5 (pc' := 243) (ls' := [mv_R 202, mv_R 0, mv_R 100, mv_I (i : Int)]) (st' := [mv_I (mv_w ((i : Int) + 1)), mv_R 202, mv_R 0]) (M1 := M) rfl ?_
  rw [show mv_w ((i : Int) + 1) = ((i + 1 : Nat) : Int) from by (rw [show mv_w ((i : Int) + 1) = (i : Int) + 1 from mv_w_id (by omega) (by omega)]) <;> omega]
  refine mv_go' 1 (pc' := if 0 ≤ ((i + 1 : Nat) : Int) ∧ ((i + 1 : Nat) : Int) < (M 203 0) then 244 else mv_bad) (ls' := [mv_R 202, mv_R 0, mv_R 100, mv_I (i : Int)]) (st' := [mv_I (M 202 (i + 1)), mv_R 0]) (M1 := M) rfl ?_
  refine mv_tt' (by omega) ?_
  refine mv_go' 4 (pc' := 248) (ls' := [mv_R 202, mv_R 0, mv_R 100, mv_I (i : Int)]) (st' := [mv_I (mv_w ((i : Int) + 2)), mv_R 202, mv_I (M 202 (i + 1)), mv_R 0]) (M1 := M) rfl ?_
  rw [show mv_w ((i : Int) + 2) = ((i + 2 : Nat) : Int) from by (rw [show mv_w ((i : Int) + 2) = (i : Int) + 2 from mv_w_id (by omega) (by omega)]) <;> omega]
  refine mv_go' 1 (pc' := if 0 ≤ ((i + 2 : Nat) : Int) ∧ ((i + 2 : Nat) : Int) < (M 203 0) then 249 else mv_bad) (ls' := [mv_R 202, mv_R 0, mv_R 100, mv_I (i : Int)]) (st' := [mv_I (M 202 (i + 2)), mv_I (M 202 (i + 1)), mv_R 0]) (M1 := M) rfl ?_
  refine mv_tt' (by omega) ?_
  refine mv_go' 4 (pc' := 253) (ls' := [mv_R 202, mv_R 0, mv_R 100, mv_I (i : Int)]) (st' := [mv_I (mv_w ((i : Int) + 3)), mv_R 202, mv_I (M 202 (i + 2)), mv_I (M 202 (i + 1)), mv_R 0]) (M1 := M) rfl ?_
  rw [show mv_w ((i : Int) + 3) = ((i + 3 : Nat) : Int) from by (rw [show mv_w ((i : Int) + 3) = (i : Int) + 3 from mv_w_id (by omega) (by omega)]) <;> omega]
  refine mv_go' 1 (pc' := if 0 ≤ ((i + 3 : Nat) : Int) ∧ ((i + 3 : Nat) : Int) < (M 203 0) then 254 else mv_bad) (ls' := [mv_R 202, mv_R 0, mv_R 100, mv_I (i : Int)]) (st' := [mv_I (M 202 (i + 3)), mv_I (M 202 (i + 2)), mv_I (M 202 (i + 1)), mv_R 0]) (M1 := M) rfl ?_
  refine mv_tt' (by omega) ?_
  refine mv_go' 4 (pc' := 258) (ls' := [mv_R 202, mv_R 0, mv_R 100, mv_I (i : Int)]) (st' := [mv_I (mv_w ((i : Int) + 4)), mv_R 202, mv_I (M 202 (i + 3)), mv_I (M 202 (i + 2)), mv_I (M 202 (i + 1)), mv_R 0]) (M1 := M) rfl ?_
  rw [show mv_w ((i : Int) + 4) = ((i + 4 : Nat) : Int) from by (rw [show mv_w ((i : Int) + 4) = (i : Int) + 4 from mv_w_id (by omega) (by omega)]) <;> omega]
  refine mv_go' 1 (pc' := if 0 ≤ ((i + 4 : Nat) : Int) ∧ ((i + 4 : Nat) : Int) < (M 203 0) then 259 else mv_bad) (ls' := [mv_R 202, mv_R 0, mv_R 100, mv_I (i : Int)]) (st' := [mv_I (M 202 (i + 4)), mv_I (M 202 (i + 3)), mv_I (M 202 (i + 2)), mv_I (M 202 (i + 1)), mv_R 0]) (M1 := M) rfl ?_
  refine mv_tt' (by omega) ?_
  refine mv_go' 4 (pc' := 263) (ls' := [mv_R 202, mv_R 0, mv_R 100, mv_I (i : Int)]) (st' := [mv_I (mv_w ((i : Int) + 5)), mv_R 202, mv_I (M 202 (i + 4)), mv_I (M 202 (i + 3)), mv_I (M 202 (i + 2)), mv_I (M 202 (i + 1)), mv_R 0]) (M1 := M) rfl ?_
  rw [show mv_w ((i : Int) + 5) = ((i + 5 : Nat) : Int) from by (rw [show mv_w ((i : Int) + 5) = (i : Int) + 5 from mv_w_id (by omega) (by omega)]) <;> omega]
  refine mv_go' 1 (pc' := if 0 ≤ ((i + 5 : Nat) : Int) ∧ ((i + 5 : Nat) : Int) < (M 203 0) then 264 else mv_bad) (ls' := [mv_R 202, mv_R 0, mv_R 100, mv_I (i : Int)]) (st' := [mv_I (M 202 (i + 5)), mv_I (M 202 (i + 4)), mv_I (M 202 (i + 3)), mv_I (M 202 (i + 2)), mv_I (M 202 (i + 1)), mv_R 0]) (M1 := M) rfl ?_
  refine mv_tt' (by omega) ?_
  refine mv_go' 4 (pc' := 269) (ls' := [mv_R 202, mv_R 0, mv_R 100, mv_I (i : Int)]) (st' := [mv_I (mv_w ((i : Int) + 6)), mv_R 202, mv_I (M 202 (i + 5)), mv_I (M 202 (i + 4)), mv_I (M 202 (i + 3)), mv_I (M 202 (i + 2)), mv_I (M 202 (i + 1)), mv_R 0]) (M1 := M) rfl ?_
  rw [show mv_w ((i : Int) + 6) = ((i + 6 : Nat) : Int) from by (rw [show mv_w ((i : Int) + 6) = (i : Int) + 6 from mv_w_id (by omega) (by omega)]) <;> omega]
  refine mv_go' 1 (pc' := if 0 ≤ ((i + 6 : Nat) : Int) ∧ ((i + 6 : Nat) : Int) < (M 203 0) then 270 else mv_bad) (ls' := [mv_R 202, mv_R 0, mv_R 100, mv_I (i : Int)]) (st' := [mv_I (M 202 (i + 6)), mv_I (M 202 (i + 5)), mv_I (M 202 (i + 4)), mv_I (M 202 (i + 3)), mv_I (M 202 (i + 2)), mv_I (M 202 (i + 1)), mv_R 0]) (M1 := M) rfl ?_
  refine mv_tt' (by omega) ?_
  refine mv_call (st2 := [mv_I z]) rfl (Or.inl rfl) rfl rfl rfl (hz.hi) (by first | decide | omega) (fun Ma9 hm10 => ?_)
  have h1 := hm10
  have e203 : Ma9 203 0 = M 203 0 := congrFun (h1.2 203 (by decide)) 0
  refine mv_go' 5 (pc' := 278) (ls' := [mv_R 202, mv_R 0, mv_R 100, mv_I (i : Int)]) (st' := [mv_I (mv_w ((i : Int) + 1)), mv_R 202, mv_R 100, mv_I z]) (M1 := Ma9) rfl ?_
  rw [show mv_w ((i : Int) + 1) = ((i + 1 : Nat) : Int) from by (rw [show mv_w ((i : Int) + 1) = (i : Int) + 1 from mv_w_id (by omega) (by omega)]) <;> omega]
  refine mv_go' 1 (pc' := if 0 ≤ ((i + 1 : Nat) : Int) ∧ ((i + 1 : Nat) : Int) < (Ma9 203 0) then 279 else mv_bad) (ls' := [mv_R 202, mv_R 0, mv_R 100, mv_I (i : Int)]) (st' := [mv_I (Ma9 202 (i + 1)), mv_R 100, mv_I z]) (M1 := Ma9) rfl ?_
  refine mv_tt' (by omega) ?_
  rw [show Ma9 202 (i + 1) = M 202 (i + 1) from by exact congrFun (h1.2 202 (by decide)) (i + 1)]
  refine mv_go' 4 (pc' := 283) (ls' := [mv_R 202, mv_R 0, mv_R 100, mv_I (i : Int)]) (st' := [mv_I (mv_w ((i : Int) + 2)), mv_R 202, mv_I (M 202 (i + 1)), mv_R 100, mv_I z]) (M1 := Ma9) rfl ?_
  rw [show mv_w ((i : Int) + 2) = ((i + 2 : Nat) : Int) from by (rw [show mv_w ((i : Int) + 2) = (i : Int) + 2 from mv_w_id (by omega) (by omega)]) <;> omega]
  refine mv_go' 1 (pc' := if 0 ≤ ((i + 2 : Nat) : Int) ∧ ((i + 2 : Nat) : Int) < (Ma9 203 0) then 284 else mv_bad) (ls' := [mv_R 202, mv_R 0, mv_R 100, mv_I (i : Int)]) (st' := [mv_I (Ma9 202 (i + 2)), mv_I (M 202 (i + 1)), mv_R 100, mv_I z]) (M1 := Ma9) rfl ?_
  refine mv_tt' (by omega) ?_
  rw [show Ma9 202 (i + 2) = M 202 (i + 2) from by exact congrFun (h1.2 202 (by decide)) (i + 2)]
  refine mv_go' 4 (pc' := 288) (ls' := [mv_R 202, mv_R 0, mv_R 100, mv_I (i : Int)]) (st' := [mv_I (mv_w ((i : Int) + 3)), mv_R 202, mv_I (M 202 (i + 2)), mv_I (M 202 (i + 1)), mv_R 100, mv_I z]) (M1 := Ma9) rfl ?_
  rw [show mv_w ((i : Int) + 3) = ((i + 3 : Nat) : Int) from by (rw [show mv_w ((i : Int) + 3) = (i : Int) + 3 from mv_w_id (by omega) (by omega)]) <;> omega]
  refine mv_go' 1 (pc' := if 0 ≤ ((i + 3 : Nat) : Int) ∧ ((i + 3 : Nat) : Int) < (Ma9 203 0) then 289 else mv_bad) (ls' := [mv_R 202, mv_R 0, mv_R 100, mv_I (i : Int)]) (st' := [mv_I (Ma9 202 (i + 3)), mv_I (M 202 (i + 2)), mv_I (M 202 (i + 1)), mv_R 100, mv_I z]) (M1 := Ma9) rfl ?_
  refine mv_tt' (by omega) ?_
  rw [show Ma9 202 (i + 3) = M 202 (i + 3) from by exact congrFun (h1.2 202 (by decide)) (i + 3)]
  refine mv_go' 4 (pc' := 293) (ls' := [mv_R 202, mv_R 0, mv_R 100, mv_I (i : Int)]) (st' := [mv_I (mv_w ((i : Int) + 4)), mv_R 202, mv_I (M 202 (i + 3)), mv_I (M 202 (i + 2)), mv_I (M 202 (i + 1)), mv_R 100, mv_I z]) (M1 := Ma9) rfl ?_
  rw [show mv_w ((i : Int) + 4) = ((i + 4 : Nat) : Int) from by (rw [show mv_w ((i : Int) + 4) = (i : Int) + 4 from mv_w_id (by omega) (by omega)]) <;> omega]
  refine mv_go' 1 (pc' := if 0 ≤ ((i + 4 : Nat) : Int) ∧ ((i + 4 : Nat) : Int) < (Ma9 203 0) then 294 else mv_bad) (ls' := [mv_R 202, mv_R 0, mv_R 100, mv_I (i : Int)]) (st' := [mv_I (Ma9 202 (i + 4)), mv_I (M 202 (i + 3)), mv_I (M 202 (i + 2)), mv_I (M 202 (i + 1)), mv_R 100, mv_I z]) (M1 := Ma9) rfl ?_
  refine mv_tt' (by omega) ?_
  rw [show Ma9 202 (i + 4) = M 202 (i + 4) from by exact congrFun (h1.2 202 (by decide)) (i + 4)]
  refine mv_go' 4 (pc' := 298) (ls' := [mv_R 202, mv_R 0, mv_R 100, mv_I (i : Int)]) (st' := [mv_I (mv_w ((i : Int) + 5)), mv_R 202, mv_I (M 202 (i + 4)), mv_I (M 202 (i + 3)), mv_I (M 202 (i + 2)), mv_I (M 202 (i + 1)), mv_R 100, mv_I z]) (M1 := Ma9) rfl ?_
  rw [show mv_w ((i : Int) + 5) = ((i + 5 : Nat) : Int) from by (rw [show mv_w ((i : Int) + 5) = (i : Int) + 5 from mv_w_id (by omega) (by omega)]) <;> omega]
  refine mv_go' 1 (pc' := if 0 ≤ ((i + 5 : Nat) : Int) ∧ ((i + 5 : Nat) : Int) < (Ma9 203 0) then 299 else mv_bad) (ls' := [mv_R 202, mv_R 0, mv_R 100, mv_I (i : Int)]) (st' := [mv_I (Ma9 202 (i + 5)), mv_I (M 202 (i + 4)), mv_I (M 202 (i + 3)), mv_I (M 202 (i + 2)), mv_I (M 202 (i + 1)), mv_R 100, mv_I z]) (M1 := Ma9) rfl ?_
  refine mv_tt' (by omega) ?_
  rw [show Ma9 202 (i + 5) = M 202 (i + 5) from by exact congrFun (h1.2 202 (by decide)) (i + 5)]
  refine mv_go' 4 (pc' := 304) (ls' := [mv_R 202, mv_R 0, mv_R 100, mv_I (i : Int)]) (st' := [mv_I (mv_w ((i : Int) + 6)), mv_R 202, mv_I (M 202 (i + 5)), mv_I (M 202 (i + 4)), mv_I (M 202 (i + 3)), mv_I (M 202 (i + 2)), mv_I (M 202 (i + 1)), mv_R 100, mv_I z]) (M1 := Ma9) rfl ?_
  rw [show mv_w ((i : Int) + 6) = ((i + 6 : Nat) : Int) from by (rw [show mv_w ((i : Int) + 6) = (i : Int) + 6 from mv_w_id (by omega) (by omega)]) <;> omega]
  refine mv_go' 1 (pc' := if 0 ≤ ((i + 6 : Nat) : Int) ∧ ((i + 6 : Nat) : Int) < (Ma9 203 0) then 305 else mv_bad) (ls' := [mv_R 202, mv_R 0, mv_R 100, mv_I (i : Int)]) (st' := [mv_I (Ma9 202 (i + 6)), mv_I (M 202 (i + 5)), mv_I (M 202 (i + 4)), mv_I (M 202 (i + 3)), mv_I (M 202 (i + 2)), mv_I (M 202 (i + 1)), mv_R 100, mv_I z]) (M1 := Ma9) rfl ?_
  refine mv_tt' (by omega) ?_
  rw [show Ma9 202 (i + 6) = M 202 (i + 6) from by exact congrFun (h1.2 202 (by decide)) (i + 6)]
  refine mv_call (st2 := [mv_I z, mv_I z]) rfl (Or.inl rfl) rfl rfl rfl ((h1.1).hi) (by first | decide | omega) (fun Ma11 hm12 => ?_)
  have h2 := hm12
  refine mv_go' 1 (pc' := if z = z then 1373 else 311) (ls' := [mv_R 202, mv_R 0, mv_R 100, mv_I (i : Int)]) (st' := []) (M1 := Ma11) rfl ?_
  refine mv_tt' (by first | decide | omega) ?_
  exact e _ h2.1 (fun j hj => (h2.2 j hj).trans (h1.2 j hj))
theorem sp_law3 {i : Nat} {M : mv_M} {v : mv_V} {Q : mv_M → Prop} (hI : sp_Inv M) (hL : (i : Int) + 7 ≤ M 203 0) (hL2 : M 203 0 ≤ 3584) (hr : ∀ j, -2147483648 ≤ M 202 j ∧ M 202 j ≤ 2147483647) (e : ∀ M1, sp_Inv M1 → mv_hi M M1 → mv_Ru 61 208 1373 [mv_R 202, mv_R 0, mv_R 100, mv_I (i : Int)] [] M1 v Q) : mv_Ru 61 208 313 [mv_R 202, mv_R 0, mv_R 100, mv_I (i : Int)] [] M v Q := by
  obtain ⟨z, hz⟩ := sp_k3  M hI
  refine mv_go' 1 (pc' := 314) (ls' := [mv_R 202, mv_R 0, mv_R 100, mv_I (i : Int)]) (st' := [mv_R 0]) (M1 := M) rfl ?_
  refine mv_call (st2 := [mv_I z]) rfl (Or.inl rfl) rfl rfl rfl (hz.hi) (by first | decide | omega) (fun Ma13 hm14 => ?_)
  have h1 := hm14
  have e203 : Ma13 203 0 = M 203 0 := congrFun (h1.2 203 (by decide)) 0
  refine mv_go' 1 (pc' := 318) (ls' := [mv_R 202, mv_R 0, mv_R 100, mv_I (i : Int)]) (st' := [mv_R 100, mv_I z]) (M1 := Ma13) rfl ?_
  refine mv_call (st2 := [mv_I z, mv_I z]) rfl (Or.inl rfl) rfl rfl rfl ((h1.1).hi) (by first | decide | omega) (fun Ma15 hm16 => ?_)
  have h2 := hm16
  refine mv_go' 1 (pc' := if z = z then 1373 else 324) (ls' := [mv_R 202, mv_R 0, mv_R 100, mv_I (i : Int)]) (st' := []) (M1 := Ma15) rfl ?_
  refine mv_tt' (by first | decide | omega) ?_
  exact e _ h2.1 (fun j hj => (h2.2 j hj).trans (h1.2 j hj))
theorem sp_law4 {i : Nat} {M : mv_M} {v : mv_V} {Q : mv_M → Prop} (hI : sp_Inv M) (hL : (i : Int) + 7 ≤ M 203 0) (hL2 : M 203 0 ≤ 3584) (hr : ∀ j, -2147483648 ≤ M 202 j ∧ M 202 j ≤ 2147483647) (e : ∀ M1, sp_Inv M1 → mv_hi M M1 → mv_Ru 61 208 1373 [mv_R 202, mv_R 0, mv_R 100, mv_I (i : Int)] [] M1 v Q) : mv_Ru 61 208 326 [mv_R 202, mv_R 0, mv_R 100, mv_I (i : Int)] [] M v Q := by
  obtain ⟨z, hz⟩ := sp_k4 (M 202 (i + 1)) M hI
  refine mv_go' 5 (pc' := 331) (ls' := [mv_R 202, mv_R 0, mv_R 100, mv_I (i : Int)]) (st' := [mv_I (mv_w ((i : Int) + 1)), mv_R 202, mv_R 0]) (M1 := M) rfl ?_
  rw [show mv_w ((i : Int) + 1) = ((i + 1 : Nat) : Int) from by (rw [show mv_w ((i : Int) + 1) = (i : Int) + 1 from mv_w_id (by omega) (by omega)]) <;> omega]
  refine mv_go' 1 (pc' := if 0 ≤ ((i + 1 : Nat) : Int) ∧ ((i + 1 : Nat) : Int) < (M 203 0) then 332 else mv_bad) (ls' := [mv_R 202, mv_R 0, mv_R 100, mv_I (i : Int)]) (st' := [mv_I (M 202 (i + 1)), mv_R 0]) (M1 := M) rfl ?_
  refine mv_tt' (by omega) ?_
  refine mv_call (st2 := [mv_I z]) rfl (Or.inl rfl) rfl rfl rfl (hz.hi) (by first | decide | omega) (fun Ma17 hm18 => ?_)
  have h1 := hm18
  have e203 : Ma17 203 0 = M 203 0 := congrFun (h1.2 203 (by decide)) 0
  refine mv_go' 5 (pc' := 340) (ls' := [mv_R 202, mv_R 0, mv_R 100, mv_I (i : Int)]) (st' := [mv_I (mv_w ((i : Int) + 1)), mv_R 202, mv_R 100, mv_I z]) (M1 := Ma17) rfl ?_
  rw [show mv_w ((i : Int) + 1) = ((i + 1 : Nat) : Int) from by (rw [show mv_w ((i : Int) + 1) = (i : Int) + 1 from mv_w_id (by omega) (by omega)]) <;> omega]
  refine mv_go' 1 (pc' := if 0 ≤ ((i + 1 : Nat) : Int) ∧ ((i + 1 : Nat) : Int) < (Ma17 203 0) then 341 else mv_bad) (ls' := [mv_R 202, mv_R 0, mv_R 100, mv_I (i : Int)]) (st' := [mv_I (Ma17 202 (i + 1)), mv_R 100, mv_I z]) (M1 := Ma17) rfl ?_
  refine mv_tt' (by omega) ?_
  rw [show Ma17 202 (i + 1) = M 202 (i + 1) from by exact congrFun (h1.2 202 (by decide)) (i + 1)]
  refine mv_call (st2 := [mv_I z, mv_I z]) rfl (Or.inl rfl) rfl rfl rfl ((h1.1).hi) (by first | decide | omega) (fun Ma19 hm20 => ?_)
  have h2 := hm20
  refine mv_go' 1 (pc' := if z = z then 1373 else 347) (ls' := [mv_R 202, mv_R 0, mv_R 100, mv_I (i : Int)]) (st' := []) (M1 := Ma19) rfl ?_
  refine mv_tt' (by first | decide | omega) ?_
  exact e _ h2.1 (fun j hj => (h2.2 j hj).trans (h1.2 j hj))
theorem sp_law5 {i : Nat} {M : mv_M} {v : mv_V} {Q : mv_M → Prop} (hI : sp_Inv M) (hL : (i : Int) + 7 ≤ M 203 0) (hL2 : M 203 0 ≤ 3584) (hr : ∀ j, -2147483648 ≤ M 202 j ∧ M 202 j ≤ 2147483647) (e : ∀ M1, sp_Inv M1 → mv_hi M M1 → mv_Ru 61 208 1373 [mv_R 202, mv_R 0, mv_R 100, mv_I (i : Int)] [] M1 v Q) : mv_Ru 61 208 349 [mv_R 202, mv_R 0, mv_R 100, mv_I (i : Int)] [] M v Q := by
  obtain ⟨z, hz⟩ := sp_k5 (M 202 (i + 1)) (M 202 (i + 2)) (M 202 (i + 3)) (hr (i + 3)).1 (by have := (hr (i + 3)).2; omega) M hI
  refine mv_go' 5 (pc' := 354) (ls' := [mv_R 202, mv_R 0, mv_R 100, mv_I (i : Int)]) (st' := [mv_I (mv_w ((i : Int) + 1)), mv_R 202, mv_R 0]) (M1 := M) rfl ?_
  rw [show mv_w ((i : Int) + 1) = ((i + 1 : Nat) : Int) from by (rw [show mv_w ((i : Int) + 1) = (i : Int) + 1 from mv_w_id (by omega) (by omega)]) <;> omega]
  refine mv_go' 1 (pc' := if 0 ≤ ((i + 1 : Nat) : Int) ∧ ((i + 1 : Nat) : Int) < (M 203 0) then 355 else mv_bad) (ls' := [mv_R 202, mv_R 0, mv_R 100, mv_I (i : Int)]) (st' := [mv_I (M 202 (i + 1)), mv_R 0]) (M1 := M) rfl ?_
  refine mv_tt' (by omega) ?_
  refine mv_go' 4 (pc' := 359) (ls' := [mv_R 202, mv_R 0, mv_R 100, mv_I (i : Int)]) (st' := [mv_I (mv_w ((i : Int) + 2)), mv_R 202, mv_I (M 202 (i + 1)), mv_R 0]) (M1 := M) rfl ?_
  rw [show mv_w ((i : Int) + 2) = ((i + 2 : Nat) : Int) from by (rw [show mv_w ((i : Int) + 2) = (i : Int) + 2 from mv_w_id (by omega) (by omega)]) <;> omega]
  refine mv_go' 1 (pc' := if 0 ≤ ((i + 2 : Nat) : Int) ∧ ((i + 2 : Nat) : Int) < (M 203 0) then 360 else mv_bad) (ls' := [mv_R 202, mv_R 0, mv_R 100, mv_I (i : Int)]) (st' := [mv_I (M 202 (i + 2)), mv_I (M 202 (i + 1)), mv_R 0]) (M1 := M) rfl ?_
  refine mv_tt' (by omega) ?_
  refine mv_go' 4 (pc' := 364) (ls' := [mv_R 202, mv_R 0, mv_R 100, mv_I (i : Int)]) (st' := [mv_I (mv_w ((i : Int) + 3)), mv_R 202, mv_I (M 202 (i + 2)), mv_I (M 202 (i + 1)), mv_R 0]) (M1 := M) rfl ?_
  rw [show mv_w ((i : Int) + 3) = ((i + 3 : Nat) : Int) from by (rw [show mv_w ((i : Int) + 3) = (i : Int) + 3 from mv_w_id (by omega) (by omega)]) <;> omega]
  refine mv_go' 1 (pc' := if 0 ≤ ((i + 3 : Nat) : Int) ∧ ((i + 3 : Nat) : Int) < (M 203 0) then 365 else mv_bad) (ls' := [mv_R 202, mv_R 0, mv_R 100, mv_I (i : Int)]) (st' := [mv_I (M 202 (i + 3)), mv_I (M 202 (i + 2)), mv_I (M 202 (i + 1)), mv_R 0]) (M1 := M) rfl ?_
  refine mv_tt' (by omega) ?_
  refine mv_call (st2 := [mv_I z]) rfl (Or.inl rfl) rfl rfl rfl (hz.hi) (by first | decide | omega) (fun Ma21 hm22 => ?_)
  have h1 := hm22
  have e203 : Ma21 203 0 = M 203 0 := congrFun (h1.2 203 (by decide)) 0
  refine mv_go' 5 (pc' := 373) (ls' := [mv_R 202, mv_R 0, mv_R 100, mv_I (i : Int)]) (st' := [mv_I (mv_w ((i : Int) + 1)), mv_R 202, mv_R 100, mv_I z]) (M1 := Ma21) rfl ?_
  rw [show mv_w ((i : Int) + 1) = ((i + 1 : Nat) : Int) from by (rw [show mv_w ((i : Int) + 1) = (i : Int) + 1 from mv_w_id (by omega) (by omega)]) <;> omega]
  refine mv_go' 1 (pc' := if 0 ≤ ((i + 1 : Nat) : Int) ∧ ((i + 1 : Nat) : Int) < (Ma21 203 0) then 374 else mv_bad) (ls' := [mv_R 202, mv_R 0, mv_R 100, mv_I (i : Int)]) (st' := [mv_I (Ma21 202 (i + 1)), mv_R 100, mv_I z]) (M1 := Ma21) rfl ?_
  refine mv_tt' (by omega) ?_
  rw [show Ma21 202 (i + 1) = M 202 (i + 1) from by exact congrFun (h1.2 202 (by decide)) (i + 1)]
  refine mv_go' 4 (pc' := 378) (ls' := [mv_R 202, mv_R 0, mv_R 100, mv_I (i : Int)]) (st' := [mv_I (mv_w ((i : Int) + 2)), mv_R 202, mv_I (M 202 (i + 1)), mv_R 100, mv_I z]) (M1 := Ma21) rfl ?_
  rw [show mv_w ((i : Int) + 2) = ((i + 2 : Nat) : Int) from by (rw [show mv_w ((i : Int) + 2) = (i : Int) + 2 from mv_w_id (by omega) (by omega)]) <;> omega]
  refine mv_go' 1 (pc' := if 0 ≤ ((i + 2 : Nat) : Int) ∧ ((i + 2 : Nat) : Int) < (Ma21 203 0) then 379 else mv_bad) (ls' := [mv_R 202, mv_R 0, mv_R 100, mv_I (i : Int)]) (st' := [mv_I (Ma21 202 (i + 2)), mv_I (M 202 (i + 1)), mv_R 100, mv_I z]) (M1 := Ma21) rfl ?_
  refine mv_tt' (by omega) ?_
  rw [show Ma21 202 (i + 2) = M 202 (i + 2) from by exact congrFun (h1.2 202 (by decide)) (i + 2)]
  refine mv_go' 4 (pc' := 383) (ls' := [mv_R 202, mv_R 0, mv_R 100, mv_I (i : Int)]) (st' := [mv_I (mv_w ((i : Int) + 3)), mv_R 202, mv_I (M 202 (i + 2)), mv_I (M 202 (i + 1)), mv_R 100, mv_I z]) (M1 := Ma21) rfl ?_
  rw [show mv_w ((i : Int) + 3) = ((i + 3 : Nat) : Int) from by (rw [show mv_w ((i : Int) + 3) = (i : Int) + 3 from mv_w_id (by omega) (by omega)]) <;> omega]
  refine mv_go' 1 (pc' := if 0 ≤ ((i + 3 : Nat) : Int) ∧ ((i + 3 : Nat) : Int) < (Ma21 203 0) then 384 else mv_bad) (ls' := [mv_R 202, mv_R 0, mv_R 100, mv_I (i : Int)]) (st' := [mv_I (Ma21 202 (i + 3)), mv_I (M 202 (i + 2)), mv_I (M 202 (i + 1)), mv_R 100, mv_I z]) (M1 := Ma21) rfl ?_
  refine mv_tt' (by omega) ?_
  rw [show Ma21 202 (i + 3) = M 202 (i + 3) from by exact congrFun (h1.2 202 (by decide)) (i + 3)]
  refine mv_call (st2 := [mv_I z, mv_I z]) rfl (Or.inl rfl) rfl rfl rfl ((h1.1).hi) (by first | decide | omega) (fun Ma23 hm24 => ?_)
  have h2 := hm24
  refine mv_go' 1 (pc' := if z = z then 1373 else 390) (ls' := [mv_R 202, mv_R 0, mv_R 100, mv_I (i : Int)]) (st' := []) (M1 := Ma23) rfl ?_
  refine mv_tt' (by first | decide | omega) ?_
  exact e _ h2.1 (fun j hj => (h2.2 j hj).trans (h1.2 j hj))
theorem sp_law6 {i : Nat} {M : mv_M} {v : mv_V} {Q : mv_M → Prop} (hI : sp_Inv M) (hL : (i : Int) + 7 ≤ M 203 0) (hL2 : M 203 0 ≤ 3584) (hr : ∀ j, -2147483648 ≤ M 202 j ∧ M 202 j ≤ 2147483647) (e : ∀ M1, sp_Inv M1 → mv_hi M M1 → mv_Ru 61 208 1373 [mv_R 202, mv_R 0, mv_R 100, mv_I (i : Int)] [] M1 v Q) : mv_Ru 61 208 392 [mv_R 202, mv_R 0, mv_R 100, mv_I (i : Int)] [] M v Q := by
  obtain ⟨z, hz⟩ := sp_k6 (M 202 (i + 1)) (M 202 (i + 2)) M hI
  refine mv_go' 5 (pc' := 397) (ls' := [mv_R 202, mv_R 0, mv_R 100, mv_I (i : Int)]) (st' := [mv_I (mv_w ((i : Int) + 1)), mv_R 202, mv_R 0]) (M1 := M) rfl ?_
  rw [show mv_w ((i : Int) + 1) = ((i + 1 : Nat) : Int) from by (rw [show mv_w ((i : Int) + 1) = (i : Int) + 1 from mv_w_id (by omega) (by omega)]) <;> omega]
  refine mv_go' 1 (pc' := if 0 ≤ ((i + 1 : Nat) : Int) ∧ ((i + 1 : Nat) : Int) < (M 203 0) then 398 else mv_bad) (ls' := [mv_R 202, mv_R 0, mv_R 100, mv_I (i : Int)]) (st' := [mv_I (M 202 (i + 1)), mv_R 0]) (M1 := M) rfl ?_
  refine mv_tt' (by omega) ?_
  refine mv_go' 4 (pc' := 402) (ls' := [mv_R 202, mv_R 0, mv_R 100, mv_I (i : Int)]) (st' := [mv_I (mv_w ((i : Int) + 2)), mv_R 202, mv_I (M 202 (i + 1)), mv_R 0]) (M1 := M) rfl ?_
  rw [show mv_w ((i : Int) + 2) = ((i + 2 : Nat) : Int) from by (rw [show mv_w ((i : Int) + 2) = (i : Int) + 2 from mv_w_id (by omega) (by omega)]) <;> omega]
  refine mv_go' 1 (pc' := if 0 ≤ ((i + 2 : Nat) : Int) ∧ ((i + 2 : Nat) : Int) < (M 203 0) then 403 else mv_bad) (ls' := [mv_R 202, mv_R 0, mv_R 100, mv_I (i : Int)]) (st' := [mv_I (M 202 (i + 2)), mv_I (M 202 (i + 1)), mv_R 0]) (M1 := M) rfl ?_
  refine mv_tt' (by omega) ?_
  refine mv_call (st2 := [mv_I z]) rfl (Or.inl rfl) rfl rfl rfl (hz.hi) (by first | decide | omega) (fun Ma25 hm26 => ?_)
  have h1 := hm26
  have e203 : Ma25 203 0 = M 203 0 := congrFun (h1.2 203 (by decide)) 0
  refine mv_go' 5 (pc' := 411) (ls' := [mv_R 202, mv_R 0, mv_R 100, mv_I (i : Int)]) (st' := [mv_I (mv_w ((i : Int) + 1)), mv_R 202, mv_R 100, mv_I z]) (M1 := Ma25) rfl ?_
  rw [show mv_w ((i : Int) + 1) = ((i + 1 : Nat) : Int) from by (rw [show mv_w ((i : Int) + 1) = (i : Int) + 1 from mv_w_id (by omega) (by omega)]) <;> omega]
  refine mv_go' 1 (pc' := if 0 ≤ ((i + 1 : Nat) : Int) ∧ ((i + 1 : Nat) : Int) < (Ma25 203 0) then 412 else mv_bad) (ls' := [mv_R 202, mv_R 0, mv_R 100, mv_I (i : Int)]) (st' := [mv_I (Ma25 202 (i + 1)), mv_R 100, mv_I z]) (M1 := Ma25) rfl ?_
  refine mv_tt' (by omega) ?_
  rw [show Ma25 202 (i + 1) = M 202 (i + 1) from by exact congrFun (h1.2 202 (by decide)) (i + 1)]
  refine mv_go' 4 (pc' := 416) (ls' := [mv_R 202, mv_R 0, mv_R 100, mv_I (i : Int)]) (st' := [mv_I (mv_w ((i : Int) + 2)), mv_R 202, mv_I (M 202 (i + 1)), mv_R 100, mv_I z]) (M1 := Ma25) rfl ?_
  rw [show mv_w ((i : Int) + 2) = ((i + 2 : Nat) : Int) from by (rw [show mv_w ((i : Int) + 2) = (i : Int) + 2 from mv_w_id (by omega) (by omega)]) <;> omega]
  refine mv_go' 1 (pc' := if 0 ≤ ((i + 2 : Nat) : Int) ∧ ((i + 2 : Nat) : Int) < (Ma25 203 0) then 417 else mv_bad) (ls' := [mv_R 202, mv_R 0, mv_R 100, mv_I (i : Int)]) (st' := [mv_I (Ma25 202 (i + 2)), mv_I (M 202 (i + 1)), mv_R 100, mv_I z]) (M1 := Ma25) rfl ?_
  refine mv_tt' (by omega) ?_
  rw [show Ma25 202 (i + 2) = M 202 (i + 2) from by exact congrFun (h1.2 202 (by decide)) (i + 2)]
  refine mv_call (st2 := [mv_I z, mv_I z]) rfl (Or.inl rfl) rfl rfl rfl ((h1.1).hi) (by first | decide | omega) (fun Ma27 hm28 => ?_)
  have h2 := hm28
  refine mv_go' 1 (pc' := if z = z then 1373 else 423) (ls' := [mv_R 202, mv_R 0, mv_R 100, mv_I (i : Int)]) (st' := []) (M1 := Ma27) rfl ?_
  refine mv_tt' (by first | decide | omega) ?_
  exact e _ h2.1 (fun j hj => (h2.2 j hj).trans (h1.2 j hj))
theorem sp_law7 {i : Nat} {M : mv_M} {v : mv_V} {Q : mv_M → Prop} (hI : sp_Inv M) (hL : (i : Int) + 7 ≤ M 203 0) (hL2 : M 203 0 ≤ 3584) (hr : ∀ j, -2147483648 ≤ M 202 j ∧ M 202 j ≤ 2147483647) (e : ∀ M1, sp_Inv M1 → mv_hi M M1 → mv_Ru 61 208 1373 [mv_R 202, mv_R 0, mv_R 100, mv_I (i : Int)] [] M1 v Q) : mv_Ru 61 208 425 [mv_R 202, mv_R 0, mv_R 100, mv_I (i : Int)] [] M v Q := by
  obtain ⟨z, hz⟩ := sp_k7 (M 202 (i + 1)) (M 202 (i + 2)) (M 202 (i + 3)) M hI
  refine mv_go' 5 (pc' := 430) (ls' := [mv_R 202, mv_R 0, mv_R 100, mv_I (i : Int)]) (st' := [mv_I (mv_w ((i : Int) + 1)), mv_R 202, mv_R 0]) (M1 := M) rfl ?_
  rw [show mv_w ((i : Int) + 1) = ((i + 1 : Nat) : Int) from by (rw [show mv_w ((i : Int) + 1) = (i : Int) + 1 from mv_w_id (by omega) (by omega)]) <;> omega]
  refine mv_go' 1 (pc' := if 0 ≤ ((i + 1 : Nat) : Int) ∧ ((i + 1 : Nat) : Int) < (M 203 0) then 431 else mv_bad) (ls' := [mv_R 202, mv_R 0, mv_R 100, mv_I (i : Int)]) (st' := [mv_I (M 202 (i + 1)), mv_R 0]) (M1 := M) rfl ?_
  refine mv_tt' (by omega) ?_
  refine mv_go' 4 (pc' := 435) (ls' := [mv_R 202, mv_R 0, mv_R 100, mv_I (i : Int)]) (st' := [mv_I (mv_w ((i : Int) + 2)), mv_R 202, mv_I (M 202 (i + 1)), mv_R 0]) (M1 := M) rfl ?_
  rw [show mv_w ((i : Int) + 2) = ((i + 2 : Nat) : Int) from by (rw [show mv_w ((i : Int) + 2) = (i : Int) + 2 from mv_w_id (by omega) (by omega)]) <;> omega]
  refine mv_go' 1 (pc' := if 0 ≤ ((i + 2 : Nat) : Int) ∧ ((i + 2 : Nat) : Int) < (M 203 0) then 436 else mv_bad) (ls' := [mv_R 202, mv_R 0, mv_R 100, mv_I (i : Int)]) (st' := [mv_I (M 202 (i + 2)), mv_I (M 202 (i + 1)), mv_R 0]) (M1 := M) rfl ?_
  refine mv_tt' (by omega) ?_
  refine mv_go' 4 (pc' := 440) (ls' := [mv_R 202, mv_R 0, mv_R 100, mv_I (i : Int)]) (st' := [mv_I (mv_w ((i : Int) + 3)), mv_R 202, mv_I (M 202 (i + 2)), mv_I (M 202 (i + 1)), mv_R 0]) (M1 := M) rfl ?_
  rw [show mv_w ((i : Int) + 3) = ((i + 3 : Nat) : Int) from by (rw [show mv_w ((i : Int) + 3) = (i : Int) + 3 from mv_w_id (by omega) (by omega)]) <;> omega]
  refine mv_go' 1 (pc' := if 0 ≤ ((i + 3 : Nat) : Int) ∧ ((i + 3 : Nat) : Int) < (M 203 0) then 441 else mv_bad) (ls' := [mv_R 202, mv_R 0, mv_R 100, mv_I (i : Int)]) (st' := [mv_I (M 202 (i + 3)), mv_I (M 202 (i + 2)), mv_I (M 202 (i + 1)), mv_R 0]) (M1 := M) rfl ?_
  refine mv_tt' (by omega) ?_
  refine mv_call (st2 := [mv_I z]) rfl (Or.inl rfl) rfl rfl rfl (hz.hi) (by first | decide | omega) (fun Ma29 hm30 => ?_)
  have h1 := hm30
  have e203 : Ma29 203 0 = M 203 0 := congrFun (h1.2 203 (by decide)) 0
  refine mv_go' 5 (pc' := 449) (ls' := [mv_R 202, mv_R 0, mv_R 100, mv_I (i : Int)]) (st' := [mv_I (mv_w ((i : Int) + 1)), mv_R 202, mv_R 100, mv_I z]) (M1 := Ma29) rfl ?_
  rw [show mv_w ((i : Int) + 1) = ((i + 1 : Nat) : Int) from by (rw [show mv_w ((i : Int) + 1) = (i : Int) + 1 from mv_w_id (by omega) (by omega)]) <;> omega]
  refine mv_go' 1 (pc' := if 0 ≤ ((i + 1 : Nat) : Int) ∧ ((i + 1 : Nat) : Int) < (Ma29 203 0) then 450 else mv_bad) (ls' := [mv_R 202, mv_R 0, mv_R 100, mv_I (i : Int)]) (st' := [mv_I (Ma29 202 (i + 1)), mv_R 100, mv_I z]) (M1 := Ma29) rfl ?_
  refine mv_tt' (by omega) ?_
  rw [show Ma29 202 (i + 1) = M 202 (i + 1) from by exact congrFun (h1.2 202 (by decide)) (i + 1)]
  refine mv_go' 4 (pc' := 454) (ls' := [mv_R 202, mv_R 0, mv_R 100, mv_I (i : Int)]) (st' := [mv_I (mv_w ((i : Int) + 2)), mv_R 202, mv_I (M 202 (i + 1)), mv_R 100, mv_I z]) (M1 := Ma29) rfl ?_
  rw [show mv_w ((i : Int) + 2) = ((i + 2 : Nat) : Int) from by (rw [show mv_w ((i : Int) + 2) = (i : Int) + 2 from mv_w_id (by omega) (by omega)]) <;> omega]
  refine mv_go' 1 (pc' := if 0 ≤ ((i + 2 : Nat) : Int) ∧ ((i + 2 : Nat) : Int) < (Ma29 203 0) then 455 else mv_bad) (ls' := [mv_R 202, mv_R 0, mv_R 100, mv_I (i : Int)]) (st' := [mv_I (Ma29 202 (i + 2)), mv_I (M 202 (i + 1)), mv_R 100, mv_I z]) (M1 := Ma29) rfl ?_
  refine mv_tt' (by omega) ?_
  rw [show Ma29 202 (i + 2) = M 202 (i + 2) from by exact congrFun (h1.2 202 (by decide)) (i + 2)]
  refine mv_go' 4 (pc' := 459) (ls' := [mv_R 202, mv_R 0, mv_R 100, mv_I (i : Int)]) (st' := [mv_I (mv_w ((i : Int) + 3)), mv_R 202, mv_I (M 202 (i + 2)), mv_I (M 202 (i + 1)), mv_R 100, mv_I z]) (M1 := Ma29) rfl ?_
  rw [show mv_w ((i : Int) + 3) = ((i + 3 : Nat) : Int) from by (rw [show mv_w ((i : Int) + 3) = (i : Int) + 3 from mv_w_id (by omega) (by omega)]) <;> omega]
  refine mv_go' 1 (pc' := if 0 ≤ ((i + 3 : Nat) : Int) ∧ ((i + 3 : Nat) : Int) < (Ma29 203 0) then 460 else mv_bad) (ls' := [mv_R 202, mv_R 0, mv_R 100, mv_I (i : Int)]) (st' := [mv_I (Ma29 202 (i + 3)), mv_I (M 202 (i + 2)), mv_I (M 202 (i + 1)), mv_R 100, mv_I z]) (M1 := Ma29) rfl ?_
  refine mv_tt' (by omega) ?_
  rw [show Ma29 202 (i + 3) = M 202 (i + 3) from by exact congrFun (h1.2 202 (by decide)) (i + 3)]
  refine mv_call (st2 := [mv_I z, mv_I z]) rfl (Or.inl rfl) rfl rfl rfl ((h1.1).hi) (by first | decide | omega) (fun Ma31 hm32 => ?_)
  have h2 := hm32
  refine mv_go' 1 (pc' := if z = z then 1373 else 466) (ls' := [mv_R 202, mv_R 0, mv_R 100, mv_I (i : Int)]) (st' := []) (M1 := Ma31) rfl ?_
  refine mv_tt' (by first | decide | omega) ?_
  exact e _ h2.1 (fun j hj => (h2.2 j hj).trans (h1.2 j hj))
theorem sp_law8 {i : Nat} {M : mv_M} {v : mv_V} {Q : mv_M → Prop} (hI : sp_Inv M) (hL : (i : Int) + 7 ≤ M 203 0) (hL2 : M 203 0 ≤ 3584) (hr : ∀ j, -2147483648 ≤ M 202 j ∧ M 202 j ≤ 2147483647) (e : ∀ M1, sp_Inv M1 → mv_hi M M1 → mv_Ru 61 208 1373 [mv_R 202, mv_R 0, mv_R 100, mv_I (i : Int)] [] M1 v Q) : mv_Ru 61 208 468 [mv_R 202, mv_R 0, mv_R 100, mv_I (i : Int)] [] M v Q := by
  obtain ⟨z, hz⟩ := sp_k8 (M 202 (i + 1)) (M 202 (i + 2)) M hI
  refine mv_go' 5 (pc' := 473) (ls' := [mv_R 202, mv_R 0, mv_R 100, mv_I (i : Int)]) (st' := [mv_I (mv_w ((i : Int) + 1)), mv_R 202, mv_R 0]) (M1 := M) rfl ?_
  rw [show mv_w ((i : Int) + 1) = ((i + 1 : Nat) : Int) from by (rw [show mv_w ((i : Int) + 1) = (i : Int) + 1 from mv_w_id (by omega) (by omega)]) <;> omega]
  refine mv_go' 1 (pc' := if 0 ≤ ((i + 1 : Nat) : Int) ∧ ((i + 1 : Nat) : Int) < (M 203 0) then 474 else mv_bad) (ls' := [mv_R 202, mv_R 0, mv_R 100, mv_I (i : Int)]) (st' := [mv_I (M 202 (i + 1)), mv_R 0]) (M1 := M) rfl ?_
  refine mv_tt' (by omega) ?_
  refine mv_go' 4 (pc' := 478) (ls' := [mv_R 202, mv_R 0, mv_R 100, mv_I (i : Int)]) (st' := [mv_I (mv_w ((i : Int) + 2)), mv_R 202, mv_I (M 202 (i + 1)), mv_R 0]) (M1 := M) rfl ?_
  rw [show mv_w ((i : Int) + 2) = ((i + 2 : Nat) : Int) from by (rw [show mv_w ((i : Int) + 2) = (i : Int) + 2 from mv_w_id (by omega) (by omega)]) <;> omega]
  refine mv_go' 1 (pc' := if 0 ≤ ((i + 2 : Nat) : Int) ∧ ((i + 2 : Nat) : Int) < (M 203 0) then 479 else mv_bad) (ls' := [mv_R 202, mv_R 0, mv_R 100, mv_I (i : Int)]) (st' := [mv_I (M 202 (i + 2)), mv_I (M 202 (i + 1)), mv_R 0]) (M1 := M) rfl ?_
  refine mv_tt' (by omega) ?_
  refine mv_call (st2 := [mv_I z]) rfl (Or.inl rfl) rfl rfl rfl (hz.hi) (by first | decide | omega) (fun Ma33 hm34 => ?_)
  have h1 := hm34
  have e203 : Ma33 203 0 = M 203 0 := congrFun (h1.2 203 (by decide)) 0
  refine mv_go' 5 (pc' := 487) (ls' := [mv_R 202, mv_R 0, mv_R 100, mv_I (i : Int)]) (st' := [mv_I (mv_w ((i : Int) + 1)), mv_R 202, mv_R 100, mv_I z]) (M1 := Ma33) rfl ?_
  rw [show mv_w ((i : Int) + 1) = ((i + 1 : Nat) : Int) from by (rw [show mv_w ((i : Int) + 1) = (i : Int) + 1 from mv_w_id (by omega) (by omega)]) <;> omega]
  refine mv_go' 1 (pc' := if 0 ≤ ((i + 1 : Nat) : Int) ∧ ((i + 1 : Nat) : Int) < (Ma33 203 0) then 488 else mv_bad) (ls' := [mv_R 202, mv_R 0, mv_R 100, mv_I (i : Int)]) (st' := [mv_I (Ma33 202 (i + 1)), mv_R 100, mv_I z]) (M1 := Ma33) rfl ?_
  refine mv_tt' (by omega) ?_
  rw [show Ma33 202 (i + 1) = M 202 (i + 1) from by exact congrFun (h1.2 202 (by decide)) (i + 1)]
  refine mv_go' 4 (pc' := 492) (ls' := [mv_R 202, mv_R 0, mv_R 100, mv_I (i : Int)]) (st' := [mv_I (mv_w ((i : Int) + 2)), mv_R 202, mv_I (M 202 (i + 1)), mv_R 100, mv_I z]) (M1 := Ma33) rfl ?_
  rw [show mv_w ((i : Int) + 2) = ((i + 2 : Nat) : Int) from by (rw [show mv_w ((i : Int) + 2) = (i : Int) + 2 from mv_w_id (by omega) (by omega)]) <;> omega]
  refine mv_go' 1 (pc' := if 0 ≤ ((i + 2 : Nat) : Int) ∧ ((i + 2 : Nat) : Int) < (Ma33 203 0) then 493 else mv_bad) (ls' := [mv_R 202, mv_R 0, mv_R 100, mv_I (i : Int)]) (st' := [mv_I (Ma33 202 (i + 2)), mv_I (M 202 (i + 1)), mv_R 100, mv_I z]) (M1 := Ma33) rfl ?_
  refine mv_tt' (by omega) ?_
  rw [show Ma33 202 (i + 2) = M 202 (i + 2) from by exact congrFun (h1.2 202 (by decide)) (i + 2)]
  refine mv_call (st2 := [mv_I z, mv_I z]) rfl (Or.inl rfl) rfl rfl rfl ((h1.1).hi) (by first | decide | omega) (fun Ma35 hm36 => ?_)
  have h2 := hm36
  refine mv_go' 1 (pc' := if z = z then 1373 else 499) (ls' := [mv_R 202, mv_R 0, mv_R 100, mv_I (i : Int)]) (st' := []) (M1 := Ma35) rfl ?_
  refine mv_tt' (by first | decide | omega) ?_
  exact e _ h2.1 (fun j hj => (h2.2 j hj).trans (h1.2 j hj))
theorem sp_law9 {i : Nat} {M : mv_M} {v : mv_V} {Q : mv_M → Prop} (hI : sp_Inv M) (hL : (i : Int) + 7 ≤ M 203 0) (hL2 : M 203 0 ≤ 3584) (hr : ∀ j, -2147483648 ≤ M 202 j ∧ M 202 j ≤ 2147483647) (e : ∀ M1, sp_Inv M1 → mv_hi M M1 → mv_Ru 61 208 1373 [mv_R 202, mv_R 0, mv_R 100, mv_I (i : Int)] [] M1 v Q) : mv_Ru 61 208 501 [mv_R 202, mv_R 0, mv_R 100, mv_I (i : Int)] [] M v Q := by
  obtain ⟨z, hz⟩ := sp_k9 (M 202 (i + 1)) (M 202 (i + 2)) (M 202 (i + 3)) M hI
  refine mv_go' 5 (pc' := 506) (ls' := [mv_R 202, mv_R 0, mv_R 100, mv_I (i : Int)]) (st' := [mv_I (mv_w ((i : Int) + 1)), mv_R 202, mv_R 0]) (M1 := M) rfl ?_
  rw [show mv_w ((i : Int) + 1) = ((i + 1 : Nat) : Int) from by (rw [show mv_w ((i : Int) + 1) = (i : Int) + 1 from mv_w_id (by omega) (by omega)]) <;> omega]
  refine mv_go' 1 (pc' := if 0 ≤ ((i + 1 : Nat) : Int) ∧ ((i + 1 : Nat) : Int) < (M 203 0) then 507 else mv_bad) (ls' := [mv_R 202, mv_R 0, mv_R 100, mv_I (i : Int)]) (st' := [mv_I (M 202 (i + 1)), mv_R 0]) (M1 := M) rfl ?_
  refine mv_tt' (by omega) ?_
  refine mv_go' 4 (pc' := 511) (ls' := [mv_R 202, mv_R 0, mv_R 100, mv_I (i : Int)]) (st' := [mv_I (mv_w ((i : Int) + 2)), mv_R 202, mv_I (M 202 (i + 1)), mv_R 0]) (M1 := M) rfl ?_
  rw [show mv_w ((i : Int) + 2) = ((i + 2 : Nat) : Int) from by (rw [show mv_w ((i : Int) + 2) = (i : Int) + 2 from mv_w_id (by omega) (by omega)]) <;> omega]
  refine mv_go' 1 (pc' := if 0 ≤ ((i + 2 : Nat) : Int) ∧ ((i + 2 : Nat) : Int) < (M 203 0) then 512 else mv_bad) (ls' := [mv_R 202, mv_R 0, mv_R 100, mv_I (i : Int)]) (st' := [mv_I (M 202 (i + 2)), mv_I (M 202 (i + 1)), mv_R 0]) (M1 := M) rfl ?_
  refine mv_tt' (by omega) ?_
  refine mv_go' 4 (pc' := 516) (ls' := [mv_R 202, mv_R 0, mv_R 100, mv_I (i : Int)]) (st' := [mv_I (mv_w ((i : Int) + 3)), mv_R 202, mv_I (M 202 (i + 2)), mv_I (M 202 (i + 1)), mv_R 0]) (M1 := M) rfl ?_
  rw [show mv_w ((i : Int) + 3) = ((i + 3 : Nat) : Int) from by (rw [show mv_w ((i : Int) + 3) = (i : Int) + 3 from mv_w_id (by omega) (by omega)]) <;> omega]
  refine mv_go' 1 (pc' := if 0 ≤ ((i + 3 : Nat) : Int) ∧ ((i + 3 : Nat) : Int) < (M 203 0) then 517 else mv_bad) (ls' := [mv_R 202, mv_R 0, mv_R 100, mv_I (i : Int)]) (st' := [mv_I (M 202 (i + 3)), mv_I (M 202 (i + 2)), mv_I (M 202 (i + 1)), mv_R 0]) (M1 := M) rfl ?_
  refine mv_tt' (by omega) ?_
  refine mv_call (st2 := [mv_I z]) rfl (Or.inl rfl) rfl rfl rfl (hz.hi) (by first | decide | omega) (fun Ma37 hm38 => ?_)
  have h1 := hm38
  have e203 : Ma37 203 0 = M 203 0 := congrFun (h1.2 203 (by decide)) 0
  refine mv_go' 5 (pc' := 525) (ls' := [mv_R 202, mv_R 0, mv_R 100, mv_I (i : Int)]) (st' := [mv_I (mv_w ((i : Int) + 1)), mv_R 202, mv_R 100, mv_I z]) (M1 := Ma37) rfl ?_
  rw [show mv_w ((i : Int) + 1) = ((i + 1 : Nat) : Int) from by (rw [show mv_w ((i : Int) + 1) = (i : Int) + 1 from mv_w_id (by omega) (by omega)]) <;> omega]
  refine mv_go' 1 (pc' := if 0 ≤ ((i + 1 : Nat) : Int) ∧ ((i + 1 : Nat) : Int) < (Ma37 203 0) then 526 else mv_bad) (ls' := [mv_R 202, mv_R 0, mv_R 100, mv_I (i : Int)]) (st' := [mv_I (Ma37 202 (i + 1)), mv_R 100, mv_I z]) (M1 := Ma37) rfl ?_
  refine mv_tt' (by omega) ?_
  rw [show Ma37 202 (i + 1) = M 202 (i + 1) from by exact congrFun (h1.2 202 (by decide)) (i + 1)]
  refine mv_go' 4 (pc' := 530) (ls' := [mv_R 202, mv_R 0, mv_R 100, mv_I (i : Int)]) (st' := [mv_I (mv_w ((i : Int) + 2)), mv_R 202, mv_I (M 202 (i + 1)), mv_R 100, mv_I z]) (M1 := Ma37) rfl ?_
  rw [show mv_w ((i : Int) + 2) = ((i + 2 : Nat) : Int) from by (rw [show mv_w ((i : Int) + 2) = (i : Int) + 2 from mv_w_id (by omega) (by omega)]) <;> omega]
  refine mv_go' 1 (pc' := if 0 ≤ ((i + 2 : Nat) : Int) ∧ ((i + 2 : Nat) : Int) < (Ma37 203 0) then 531 else mv_bad) (ls' := [mv_R 202, mv_R 0, mv_R 100, mv_I (i : Int)]) (st' := [mv_I (Ma37 202 (i + 2)), mv_I (M 202 (i + 1)), mv_R 100, mv_I z]) (M1 := Ma37) rfl ?_
  refine mv_tt' (by omega) ?_
  rw [show Ma37 202 (i + 2) = M 202 (i + 2) from by exact congrFun (h1.2 202 (by decide)) (i + 2)]
  refine mv_go' 4 (pc' := 535) (ls' := [mv_R 202, mv_R 0, mv_R 100, mv_I (i : Int)]) (st' := [mv_I (mv_w ((i : Int) + 3)), mv_R 202, mv_I (M 202 (i + 2)), mv_I (M 202 (i + 1)), mv_R 100, mv_I z]) (M1 := Ma37) rfl ?_
  rw [show mv_w ((i : Int) + 3) = ((i + 3 : Nat) : Int) from by (rw [show mv_w ((i : Int) + 3) = (i : Int) + 3 from mv_w_id (by omega) (by omega)]) <;> omega]
  refine mv_go' 1 (pc' := if 0 ≤ ((i + 3 : Nat) : Int) ∧ ((i + 3 : Nat) : Int) < (Ma37 203 0) then 536 else mv_bad) (ls' := [mv_R 202, mv_R 0, mv_R 100, mv_I (i : Int)]) (st' := [mv_I (Ma37 202 (i + 3)), mv_I (M 202 (i + 2)), mv_I (M 202 (i + 1)), mv_R 100, mv_I z]) (M1 := Ma37) rfl ?_
  refine mv_tt' (by omega) ?_
  rw [show Ma37 202 (i + 3) = M 202 (i + 3) from by exact congrFun (h1.2 202 (by decide)) (i + 3)]
  refine mv_call (st2 := [mv_I z, mv_I z]) rfl (Or.inl rfl) rfl rfl rfl ((h1.1).hi) (by first | decide | omega) (fun Ma39 hm40 => ?_)
  have h2 := hm40
  refine mv_go' 1 (pc' := if z = z then 1373 else 542) (ls' := [mv_R 202, mv_R 0, mv_R 100, mv_I (i : Int)]) (st' := []) (M1 := Ma39) rfl ?_
  refine mv_tt' (by first | decide | omega) ?_
  exact e _ h2.1 (fun j hj => (h2.2 j hj).trans (h1.2 j hj))
theorem sp_law10 {i : Nat} {M : mv_M} {v : mv_V} {Q : mv_M → Prop} (hI : sp_Inv M) (hL : (i : Int) + 7 ≤ M 203 0) (hL2 : M 203 0 ≤ 3584) (hr : ∀ j, -2147483648 ≤ M 202 j ∧ M 202 j ≤ 2147483647) (e : ∀ M1, sp_Inv M1 → mv_hi M M1 → mv_Ru 61 208 1373 [mv_R 202, mv_R 0, mv_R 100, mv_I (i : Int)] [] M1 v Q) : mv_Ru 61 208 544 [mv_R 202, mv_R 0, mv_R 100, mv_I (i : Int)] [] M v Q := by
  obtain ⟨z, hz⟩ := sp_k10  M hI
  refine mv_go' 1 (pc' := 545) (ls' := [mv_R 202, mv_R 0, mv_R 100, mv_I (i : Int)]) (st' := [mv_R 0]) (M1 := M) rfl ?_
  refine mv_call (st2 := [mv_I z]) rfl (Or.inl rfl) rfl rfl rfl (hz.hi) (by first | decide | omega) (fun Ma41 hm42 => ?_)
  have h1 := hm42
  have e203 : Ma41 203 0 = M 203 0 := congrFun (h1.2 203 (by decide)) 0
  refine mv_go' 1 (pc' := 549) (ls' := [mv_R 202, mv_R 0, mv_R 100, mv_I (i : Int)]) (st' := [mv_R 100, mv_I z]) (M1 := Ma41) rfl ?_
  refine mv_call (st2 := [mv_I z, mv_I z]) rfl (Or.inl rfl) rfl rfl rfl ((h1.1).hi) (by first | decide | omega) (fun Ma43 hm44 => ?_)
  have h2 := hm44
  refine mv_go' 1 (pc' := if z = z then 1373 else 555) (ls' := [mv_R 202, mv_R 0, mv_R 100, mv_I (i : Int)]) (st' := []) (M1 := Ma43) rfl ?_
  refine mv_tt' (by first | decide | omega) ?_
  exact e _ h2.1 (fun j hj => (h2.2 j hj).trans (h1.2 j hj))
theorem sp_law11 {i : Nat} {M : mv_M} {v : mv_V} {Q : mv_M → Prop} (hI : sp_Inv M) (hL : (i : Int) + 7 ≤ M 203 0) (hL2 : M 203 0 ≤ 3584) (hr : ∀ j, -2147483648 ≤ M 202 j ∧ M 202 j ≤ 2147483647) (e : ∀ M1, sp_Inv M1 → mv_hi M M1 → mv_Ru 61 208 1373 [mv_R 202, mv_R 0, mv_R 100, mv_I (i : Int)] [] M1 v Q) : mv_Ru 61 208 557 [mv_R 202, mv_R 0, mv_R 100, mv_I (i : Int)] [] M v Q := by
  obtain ⟨z, hz⟩ := sp_k11 (M 202 (i + 1)) (M 202 (i + 2)) M hI
  refine mv_go' 5 (pc' := 562) (ls' := [mv_R 202, mv_R 0, mv_R 100, mv_I (i : Int)]) (st' := [mv_I (mv_w ((i : Int) + 1)), mv_R 202, mv_R 0]) (M1 := M) rfl ?_
  rw [show mv_w ((i : Int) + 1) = ((i + 1 : Nat) : Int) from by (rw [show mv_w ((i : Int) + 1) = (i : Int) + 1 from mv_w_id (by omega) (by omega)]) <;> omega]
  refine mv_go' 1 (pc' := if 0 ≤ ((i + 1 : Nat) : Int) ∧ ((i + 1 : Nat) : Int) < (M 203 0) then 563 else mv_bad) (ls' := [mv_R 202, mv_R 0, mv_R 100, mv_I (i : Int)]) (st' := [mv_I (M 202 (i + 1)), mv_R 0]) (M1 := M) rfl ?_
  refine mv_tt' (by omega) ?_
  refine mv_go' 4 (pc' := 567) (ls' := [mv_R 202, mv_R 0, mv_R 100, mv_I (i : Int)]) (st' := [mv_I (mv_w ((i : Int) + 2)), mv_R 202, mv_I (M 202 (i + 1)), mv_R 0]) (M1 := M) rfl ?_
  rw [show mv_w ((i : Int) + 2) = ((i + 2 : Nat) : Int) from by (rw [show mv_w ((i : Int) + 2) = (i : Int) + 2 from mv_w_id (by omega) (by omega)]) <;> omega]
  refine mv_go' 1 (pc' := if 0 ≤ ((i + 2 : Nat) : Int) ∧ ((i + 2 : Nat) : Int) < (M 203 0) then 568 else mv_bad) (ls' := [mv_R 202, mv_R 0, mv_R 100, mv_I (i : Int)]) (st' := [mv_I (M 202 (i + 2)), mv_I (M 202 (i + 1)), mv_R 0]) (M1 := M) rfl ?_
  refine mv_tt' (by omega) ?_
  refine mv_call (st2 := [mv_I z]) rfl (Or.inl rfl) rfl rfl rfl (hz.hi) (by first | decide | omega) (fun Ma45 hm46 => ?_)
  have h1 := hm46
  have e203 : Ma45 203 0 = M 203 0 := congrFun (h1.2 203 (by decide)) 0
  refine mv_go' 5 (pc' := 576) (ls' := [mv_R 202, mv_R 0, mv_R 100, mv_I (i : Int)]) (st' := [mv_I (mv_w ((i : Int) + 1)), mv_R 202, mv_R 100, mv_I z]) (M1 := Ma45) rfl ?_
  rw [show mv_w ((i : Int) + 1) = ((i + 1 : Nat) : Int) from by (rw [show mv_w ((i : Int) + 1) = (i : Int) + 1 from mv_w_id (by omega) (by omega)]) <;> omega]
  refine mv_go' 1 (pc' := if 0 ≤ ((i + 1 : Nat) : Int) ∧ ((i + 1 : Nat) : Int) < (Ma45 203 0) then 577 else mv_bad) (ls' := [mv_R 202, mv_R 0, mv_R 100, mv_I (i : Int)]) (st' := [mv_I (Ma45 202 (i + 1)), mv_R 100, mv_I z]) (M1 := Ma45) rfl ?_
  refine mv_tt' (by omega) ?_
  rw [show Ma45 202 (i + 1) = M 202 (i + 1) from by exact congrFun (h1.2 202 (by decide)) (i + 1)]
  refine mv_go' 4 (pc' := 581) (ls' := [mv_R 202, mv_R 0, mv_R 100, mv_I (i : Int)]) (st' := [mv_I (mv_w ((i : Int) + 2)), mv_R 202, mv_I (M 202 (i + 1)), mv_R 100, mv_I z]) (M1 := Ma45) rfl ?_
  rw [show mv_w ((i : Int) + 2) = ((i + 2 : Nat) : Int) from by (rw [show mv_w ((i : Int) + 2) = (i : Int) + 2 from mv_w_id (by omega) (by omega)]) <;> omega]
  refine mv_go' 1 (pc' := if 0 ≤ ((i + 2 : Nat) : Int) ∧ ((i + 2 : Nat) : Int) < (Ma45 203 0) then 582 else mv_bad) (ls' := [mv_R 202, mv_R 0, mv_R 100, mv_I (i : Int)]) (st' := [mv_I (Ma45 202 (i + 2)), mv_I (M 202 (i + 1)), mv_R 100, mv_I z]) (M1 := Ma45) rfl ?_
  refine mv_tt' (by omega) ?_
  rw [show Ma45 202 (i + 2) = M 202 (i + 2) from by exact congrFun (h1.2 202 (by decide)) (i + 2)]
  refine mv_call (st2 := [mv_I z, mv_I z]) rfl (Or.inl rfl) rfl rfl rfl ((h1.1).hi) (by first | decide | omega) (fun Ma47 hm48 => ?_)
  have h2 := hm48
  refine mv_go' 1 (pc' := if z = z then 1373 else 588) (ls' := [mv_R 202, mv_R 0, mv_R 100, mv_I (i : Int)]) (st' := []) (M1 := Ma47) rfl ?_
  refine mv_tt' (by first | decide | omega) ?_
  exact e _ h2.1 (fun j hj => (h2.2 j hj).trans (h1.2 j hj))
theorem sp_law12 {i : Nat} {M : mv_M} {v : mv_V} {Q : mv_M → Prop} (hI : sp_Inv M) (hL : (i : Int) + 7 ≤ M 203 0) (hL2 : M 203 0 ≤ 3584) (hr : ∀ j, -2147483648 ≤ M 202 j ∧ M 202 j ≤ 2147483647) (e : ∀ M1, sp_Inv M1 → mv_hi M M1 → mv_Ru 61 208 1373 [mv_R 202, mv_R 0, mv_R 100, mv_I (i : Int)] [] M1 v Q) : mv_Ru 61 208 590 [mv_R 202, mv_R 0, mv_R 100, mv_I (i : Int)] [] M v Q := by
  obtain ⟨z, hz⟩ := sp_k12  M hI
  refine mv_go' 1 (pc' := 591) (ls' := [mv_R 202, mv_R 0, mv_R 100, mv_I (i : Int)]) (st' := [mv_R 0]) (M1 := M) rfl ?_
  refine mv_call (st2 := [mv_I z]) rfl (Or.inl rfl) rfl rfl rfl (hz.hi) (by first | decide | omega) (fun Ma49 hm50 => ?_)
  have h1 := hm50
  have e203 : Ma49 203 0 = M 203 0 := congrFun (h1.2 203 (by decide)) 0
  refine mv_go' 1 (pc' := 595) (ls' := [mv_R 202, mv_R 0, mv_R 100, mv_I (i : Int)]) (st' := [mv_R 100, mv_I z]) (M1 := Ma49) rfl ?_
  refine mv_call (st2 := [mv_I z, mv_I z]) rfl (Or.inl rfl) rfl rfl rfl ((h1.1).hi) (by first | decide | omega) (fun Ma51 hm52 => ?_)
  have h2 := hm52
  refine mv_go' 1 (pc' := if z = z then 1373 else 601) (ls' := [mv_R 202, mv_R 0, mv_R 100, mv_I (i : Int)]) (st' := []) (M1 := Ma51) rfl ?_
  refine mv_tt' (by first | decide | omega) ?_
  exact e _ h2.1 (fun j hj => (h2.2 j hj).trans (h1.2 j hj))
theorem sp_law13 {i : Nat} {M : mv_M} {v : mv_V} {Q : mv_M → Prop} (hI : sp_Inv M) (hL : (i : Int) + 7 ≤ M 203 0) (hL2 : M 203 0 ≤ 3584) (hr : ∀ j, -2147483648 ≤ M 202 j ∧ M 202 j ≤ 2147483647) (e : ∀ M1, sp_Inv M1 → mv_hi M M1 → mv_Ru 61 208 1373 [mv_R 202, mv_R 0, mv_R 100, mv_I (i : Int)] [] M1 v Q) : mv_Ru 61 208 603 [mv_R 202, mv_R 0, mv_R 100, mv_I (i : Int)] [] M v Q := by
  obtain ⟨z, hz⟩ := sp_k13 (M 202 (i + 1)) (M 202 (i + 2)) (hr (i + 2)) M hI
  refine mv_go' 5 (pc' := 608) (ls' := [mv_R 202, mv_R 0, mv_R 100, mv_I (i : Int)]) (st' := [mv_I (mv_w ((i : Int) + 1)), mv_R 202, mv_R 0]) (M1 := M) rfl ?_
  rw [show mv_w ((i : Int) + 1) = ((i + 1 : Nat) : Int) from by (rw [show mv_w ((i : Int) + 1) = (i : Int) + 1 from mv_w_id (by omega) (by omega)]) <;> omega]
  refine mv_go' 1 (pc' := if 0 ≤ ((i + 1 : Nat) : Int) ∧ ((i + 1 : Nat) : Int) < (M 203 0) then 609 else mv_bad) (ls' := [mv_R 202, mv_R 0, mv_R 100, mv_I (i : Int)]) (st' := [mv_I (M 202 (i + 1)), mv_R 0]) (M1 := M) rfl ?_
  refine mv_tt' (by omega) ?_
  refine mv_go' 4 (pc' := 613) (ls' := [mv_R 202, mv_R 0, mv_R 100, mv_I (i : Int)]) (st' := [mv_I (mv_w ((i : Int) + 2)), mv_R 202, mv_I (M 202 (i + 1)), mv_R 0]) (M1 := M) rfl ?_
  rw [show mv_w ((i : Int) + 2) = ((i + 2 : Nat) : Int) from by (rw [show mv_w ((i : Int) + 2) = (i : Int) + 2 from mv_w_id (by omega) (by omega)]) <;> omega]
  refine mv_go' 1 (pc' := if 0 ≤ ((i + 2 : Nat) : Int) ∧ ((i + 2 : Nat) : Int) < (M 203 0) then 614 else mv_bad) (ls' := [mv_R 202, mv_R 0, mv_R 100, mv_I (i : Int)]) (st' := [mv_I (M 202 (i + 2)), mv_I (M 202 (i + 1)), mv_R 0]) (M1 := M) rfl ?_
  refine mv_tt' (by omega) ?_
  refine mv_call (st2 := [mv_I z]) rfl (Or.inl rfl) rfl rfl rfl (hz.hi) (by first | decide | omega) (fun Ma53 hm54 => ?_)
  have h1 := hm54
  have e203 : Ma53 203 0 = M 203 0 := congrFun (h1.2 203 (by decide)) 0
  refine mv_go' 5 (pc' := 622) (ls' := [mv_R 202, mv_R 0, mv_R 100, mv_I (i : Int)]) (st' := [mv_I (mv_w ((i : Int) + 1)), mv_R 202, mv_R 100, mv_I z]) (M1 := Ma53) rfl ?_
  rw [show mv_w ((i : Int) + 1) = ((i + 1 : Nat) : Int) from by (rw [show mv_w ((i : Int) + 1) = (i : Int) + 1 from mv_w_id (by omega) (by omega)]) <;> omega]
  refine mv_go' 1 (pc' := if 0 ≤ ((i + 1 : Nat) : Int) ∧ ((i + 1 : Nat) : Int) < (Ma53 203 0) then 623 else mv_bad) (ls' := [mv_R 202, mv_R 0, mv_R 100, mv_I (i : Int)]) (st' := [mv_I (Ma53 202 (i + 1)), mv_R 100, mv_I z]) (M1 := Ma53) rfl ?_
  refine mv_tt' (by omega) ?_
  rw [show Ma53 202 (i + 1) = M 202 (i + 1) from by exact congrFun (h1.2 202 (by decide)) (i + 1)]
  refine mv_go' 4 (pc' := 627) (ls' := [mv_R 202, mv_R 0, mv_R 100, mv_I (i : Int)]) (st' := [mv_I (mv_w ((i : Int) + 2)), mv_R 202, mv_I (M 202 (i + 1)), mv_R 100, mv_I z]) (M1 := Ma53) rfl ?_
  rw [show mv_w ((i : Int) + 2) = ((i + 2 : Nat) : Int) from by (rw [show mv_w ((i : Int) + 2) = (i : Int) + 2 from mv_w_id (by omega) (by omega)]) <;> omega]
  refine mv_go' 1 (pc' := if 0 ≤ ((i + 2 : Nat) : Int) ∧ ((i + 2 : Nat) : Int) < (Ma53 203 0) then 628 else mv_bad) (ls' := [mv_R 202, mv_R 0, mv_R 100, mv_I (i : Int)]) (st' := [mv_I (Ma53 202 (i + 2)), mv_I (M 202 (i + 1)), mv_R 100, mv_I z]) (M1 := Ma53) rfl ?_
  refine mv_tt' (by omega) ?_
  rw [show Ma53 202 (i + 2) = M 202 (i + 2) from by exact congrFun (h1.2 202 (by decide)) (i + 2)]
  refine mv_call (st2 := [mv_I z, mv_I z]) rfl (Or.inl rfl) rfl rfl rfl ((h1.1).hi) (by first | decide | omega) (fun Ma55 hm56 => ?_)
  have h2 := hm56
  refine mv_go' 1 (pc' := if z = z then 1373 else 634) (ls' := [mv_R 202, mv_R 0, mv_R 100, mv_I (i : Int)]) (st' := []) (M1 := Ma55) rfl ?_
  refine mv_tt' (by first | decide | omega) ?_
  exact e _ h2.1 (fun j hj => (h2.2 j hj).trans (h1.2 j hj))
theorem sp_law14 {i : Nat} {M : mv_M} {v : mv_V} {Q : mv_M → Prop} (hI : sp_Inv M) (hL : (i : Int) + 7 ≤ M 203 0) (hL2 : M 203 0 ≤ 3584) (hr : ∀ j, -2147483648 ≤ M 202 j ∧ M 202 j ≤ 2147483647) (e : ∀ M1, sp_Inv M1 → mv_hi M M1 → mv_Ru 61 208 1373 [mv_R 202, mv_R 0, mv_R 100, mv_I (i : Int)] [] M1 v Q) : mv_Ru 61 208 636 [mv_R 202, mv_R 0, mv_R 100, mv_I (i : Int)] [] M v Q := by
  obtain ⟨z, hz⟩ := sp_k14 (M 202 (i + 1)) M hI
  refine mv_go' 5 (pc' := 641) (ls' := [mv_R 202, mv_R 0, mv_R 100, mv_I (i : Int)]) (st' := [mv_I (mv_w ((i : Int) + 1)), mv_R 202, mv_R 0]) (M1 := M) rfl ?_
  rw [show mv_w ((i : Int) + 1) = ((i + 1 : Nat) : Int) from by (rw [show mv_w ((i : Int) + 1) = (i : Int) + 1 from mv_w_id (by omega) (by omega)]) <;> omega]
  refine mv_go' 1 (pc' := if 0 ≤ ((i + 1 : Nat) : Int) ∧ ((i + 1 : Nat) : Int) < (M 203 0) then 642 else mv_bad) (ls' := [mv_R 202, mv_R 0, mv_R 100, mv_I (i : Int)]) (st' := [mv_I (M 202 (i + 1)), mv_R 0]) (M1 := M) rfl ?_
  refine mv_tt' (by omega) ?_
  refine mv_call (st2 := [mv_I z]) rfl (Or.inl rfl) rfl rfl rfl (hz.hi) (by first | decide | omega) (fun Ma57 hm58 => ?_)
  have h1 := hm58
  have e203 : Ma57 203 0 = M 203 0 := congrFun (h1.2 203 (by decide)) 0
  refine mv_go' 5 (pc' := 650) (ls' := [mv_R 202, mv_R 0, mv_R 100, mv_I (i : Int)]) (st' := [mv_I (mv_w ((i : Int) + 1)), mv_R 202, mv_R 100, mv_I z]) (M1 := Ma57) rfl ?_
  rw [show mv_w ((i : Int) + 1) = ((i + 1 : Nat) : Int) from by (rw [show mv_w ((i : Int) + 1) = (i : Int) + 1 from mv_w_id (by omega) (by omega)]) <;> omega]
  refine mv_go' 1 (pc' := if 0 ≤ ((i + 1 : Nat) : Int) ∧ ((i + 1 : Nat) : Int) < (Ma57 203 0) then 651 else mv_bad) (ls' := [mv_R 202, mv_R 0, mv_R 100, mv_I (i : Int)]) (st' := [mv_I (Ma57 202 (i + 1)), mv_R 100, mv_I z]) (M1 := Ma57) rfl ?_
  refine mv_tt' (by omega) ?_
  rw [show Ma57 202 (i + 1) = M 202 (i + 1) from by exact congrFun (h1.2 202 (by decide)) (i + 1)]
  refine mv_call (st2 := [mv_I z, mv_I z]) rfl (Or.inl rfl) rfl rfl rfl ((h1.1).hi) (by first | decide | omega) (fun Ma59 hm60 => ?_)
  have h2 := hm60
  refine mv_go' 1 (pc' := if z = z then 1373 else 657) (ls' := [mv_R 202, mv_R 0, mv_R 100, mv_I (i : Int)]) (st' := []) (M1 := Ma59) rfl ?_
  refine mv_tt' (by first | decide | omega) ?_
  exact e _ h2.1 (fun j hj => (h2.2 j hj).trans (h1.2 j hj))
theorem sp_law15 {i : Nat} {M : mv_M} {v : mv_V} {Q : mv_M → Prop} (hI : sp_Inv M) (hL : (i : Int) + 7 ≤ M 203 0) (hL2 : M 203 0 ≤ 3584) (hr : ∀ j, -2147483648 ≤ M 202 j ∧ M 202 j ≤ 2147483647) (e : ∀ M1, sp_Inv M1 → mv_hi M M1 → mv_Ru 61 208 1373 [mv_R 202, mv_R 0, mv_R 100, mv_I (i : Int)] [] M1 v Q) : mv_Ru 61 208 659 [mv_R 202, mv_R 0, mv_R 100, mv_I (i : Int)] [] M v Q := by
  obtain ⟨z, hz⟩ := sp_k15 (M 202 (i + 1)) M hI
  refine mv_go' 5 (pc' := 664) (ls' := [mv_R 202, mv_R 0, mv_R 100, mv_I (i : Int)]) (st' := [mv_I (mv_w ((i : Int) + 1)), mv_R 202, mv_R 0]) (M1 := M) rfl ?_
  rw [show mv_w ((i : Int) + 1) = ((i + 1 : Nat) : Int) from by (rw [show mv_w ((i : Int) + 1) = (i : Int) + 1 from mv_w_id (by omega) (by omega)]) <;> omega]
  refine mv_go' 1 (pc' := if 0 ≤ ((i + 1 : Nat) : Int) ∧ ((i + 1 : Nat) : Int) < (M 203 0) then 665 else mv_bad) (ls' := [mv_R 202, mv_R 0, mv_R 100, mv_I (i : Int)]) (st' := [mv_I (M 202 (i + 1)), mv_R 0]) (M1 := M) rfl ?_
  refine mv_tt' (by omega) ?_
  refine mv_call (st2 := [mv_I z]) rfl (Or.inl rfl) rfl rfl rfl (hz.hi) (by first | decide | omega) (fun Ma61 hm62 => ?_)
  have h1 := hm62
  have e203 : Ma61 203 0 = M 203 0 := congrFun (h1.2 203 (by decide)) 0
  refine mv_go' 5 (pc' := 673) (ls' := [mv_R 202, mv_R 0, mv_R 100, mv_I (i : Int)]) (st' := [mv_I (mv_w ((i : Int) + 1)), mv_R 202, mv_R 100, mv_I z]) (M1 := Ma61) rfl ?_
  rw [show mv_w ((i : Int) + 1) = ((i + 1 : Nat) : Int) from by (rw [show mv_w ((i : Int) + 1) = (i : Int) + 1 from mv_w_id (by omega) (by omega)]) <;> omega]
  refine mv_go' 1 (pc' := if 0 ≤ ((i + 1 : Nat) : Int) ∧ ((i + 1 : Nat) : Int) < (Ma61 203 0) then 674 else mv_bad) (ls' := [mv_R 202, mv_R 0, mv_R 100, mv_I (i : Int)]) (st' := [mv_I (Ma61 202 (i + 1)), mv_R 100, mv_I z]) (M1 := Ma61) rfl ?_
  refine mv_tt' (by omega) ?_
  rw [show Ma61 202 (i + 1) = M 202 (i + 1) from by exact congrFun (h1.2 202 (by decide)) (i + 1)]
  refine mv_call (st2 := [mv_I z, mv_I z]) rfl (Or.inl rfl) rfl rfl rfl ((h1.1).hi) (by first | decide | omega) (fun Ma63 hm64 => ?_)
  have h2 := hm64
  refine mv_go' 1 (pc' := if z = z then 1373 else 680) (ls' := [mv_R 202, mv_R 0, mv_R 100, mv_I (i : Int)]) (st' := []) (M1 := Ma63) rfl ?_
  refine mv_tt' (by first | decide | omega) ?_
  exact e _ h2.1 (fun j hj => (h2.2 j hj).trans (h1.2 j hj))
theorem sp_law16 {i : Nat} {M : mv_M} {v : mv_V} {Q : mv_M → Prop} (hI : sp_Inv M) (hL : (i : Int) + 7 ≤ M 203 0) (hL2 : M 203 0 ≤ 3584) (hr : ∀ j, -2147483648 ≤ M 202 j ∧ M 202 j ≤ 2147483647) (e : ∀ M1, sp_Inv M1 → mv_hi M M1 → mv_Ru 61 208 1373 [mv_R 202, mv_R 0, mv_R 100, mv_I (i : Int)] [] M1 v Q) : mv_Ru 61 208 682 [mv_R 202, mv_R 0, mv_R 100, mv_I (i : Int)] [] M v Q := by
  obtain ⟨z, hz⟩ := sp_k16 (M 202 (i + 1)) M hI
  refine mv_go' 5 (pc' := 687) (ls' := [mv_R 202, mv_R 0, mv_R 100, mv_I (i : Int)]) (st' := [mv_I (mv_w ((i : Int) + 1)), mv_R 202, mv_R 0]) (M1 := M) rfl ?_
  rw [show mv_w ((i : Int) + 1) = ((i + 1 : Nat) : Int) from by (rw [show mv_w ((i : Int) + 1) = (i : Int) + 1 from mv_w_id (by omega) (by omega)]) <;> omega]
  refine mv_go' 1 (pc' := if 0 ≤ ((i + 1 : Nat) : Int) ∧ ((i + 1 : Nat) : Int) < (M 203 0) then 688 else mv_bad) (ls' := [mv_R 202, mv_R 0, mv_R 100, mv_I (i : Int)]) (st' := [mv_I (M 202 (i + 1)), mv_R 0]) (M1 := M) rfl ?_
  refine mv_tt' (by omega) ?_
  refine mv_call (st2 := [mv_I z]) rfl (Or.inl rfl) rfl rfl rfl (hz.hi) (by first | decide | omega) (fun Ma65 hm66 => ?_)
  have h1 := hm66
  have e203 : Ma65 203 0 = M 203 0 := congrFun (h1.2 203 (by decide)) 0
  refine mv_go' 5 (pc' := 696) (ls' := [mv_R 202, mv_R 0, mv_R 100, mv_I (i : Int)]) (st' := [mv_I (mv_w ((i : Int) + 1)), mv_R 202, mv_R 100, mv_I z]) (M1 := Ma65) rfl ?_
  rw [show mv_w ((i : Int) + 1) = ((i + 1 : Nat) : Int) from by (rw [show mv_w ((i : Int) + 1) = (i : Int) + 1 from mv_w_id (by omega) (by omega)]) <;> omega]
  refine mv_go' 1 (pc' := if 0 ≤ ((i + 1 : Nat) : Int) ∧ ((i + 1 : Nat) : Int) < (Ma65 203 0) then 697 else mv_bad) (ls' := [mv_R 202, mv_R 0, mv_R 100, mv_I (i : Int)]) (st' := [mv_I (Ma65 202 (i + 1)), mv_R 100, mv_I z]) (M1 := Ma65) rfl ?_
  refine mv_tt' (by omega) ?_
  rw [show Ma65 202 (i + 1) = M 202 (i + 1) from by exact congrFun (h1.2 202 (by decide)) (i + 1)]
  refine mv_call (st2 := [mv_I z, mv_I z]) rfl (Or.inl rfl) rfl rfl rfl ((h1.1).hi) (by first | decide | omega) (fun Ma67 hm68 => ?_)
  have h2 := hm68
  refine mv_go' 1 (pc' := if z = z then 1373 else 703) (ls' := [mv_R 202, mv_R 0, mv_R 100, mv_I (i : Int)]) (st' := []) (M1 := Ma67) rfl ?_
  refine mv_tt' (by first | decide | omega) ?_
  exact e _ h2.1 (fun j hj => (h2.2 j hj).trans (h1.2 j hj))
theorem sp_law17 {i : Nat} {M : mv_M} {v : mv_V} {Q : mv_M → Prop} (hI : sp_Inv M) (hL : (i : Int) + 7 ≤ M 203 0) (hL2 : M 203 0 ≤ 3584) (hr : ∀ j, -2147483648 ≤ M 202 j ∧ M 202 j ≤ 2147483647) (e : ∀ M1, sp_Inv M1 → mv_hi M M1 → mv_Ru 61 208 1373 [mv_R 202, mv_R 0, mv_R 100, mv_I (i : Int)] [] M1 v Q) : mv_Ru 61 208 705 [mv_R 202, mv_R 0, mv_R 100, mv_I (i : Int)] [] M v Q := by
  obtain ⟨z, hz⟩ := sp_k17 (M 202 (i + 1)) M hI
  refine mv_go' 5 (pc' := 710) (ls' := [mv_R 202, mv_R 0, mv_R 100, mv_I (i : Int)]) (st' := [mv_I (mv_w ((i : Int) + 1)), mv_R 202, mv_R 0]) (M1 := M) rfl ?_
  rw [show mv_w ((i : Int) + 1) = ((i + 1 : Nat) : Int) from by (rw [show mv_w ((i : Int) + 1) = (i : Int) + 1 from mv_w_id (by omega) (by omega)]) <;> omega]
  refine mv_go' 1 (pc' := if 0 ≤ ((i + 1 : Nat) : Int) ∧ ((i + 1 : Nat) : Int) < (M 203 0) then 711 else mv_bad) (ls' := [mv_R 202, mv_R 0, mv_R 100, mv_I (i : Int)]) (st' := [mv_I (M 202 (i + 1)), mv_R 0]) (M1 := M) rfl ?_
  refine mv_tt' (by omega) ?_
  refine mv_call (st2 := [mv_I z]) rfl (Or.inl rfl) rfl rfl rfl (hz.hi) (by first | decide | omega) (fun Ma69 hm70 => ?_)
  have h1 := hm70
  have e203 : Ma69 203 0 = M 203 0 := congrFun (h1.2 203 (by decide)) 0
  refine mv_go' 5 (pc' := 719) (ls' := [mv_R 202, mv_R 0, mv_R 100, mv_I (i : Int)]) (st' := [mv_I (mv_w ((i : Int) + 1)), mv_R 202, mv_R 100, mv_I z]) (M1 := Ma69) rfl ?_
  rw [show mv_w ((i : Int) + 1) = ((i + 1 : Nat) : Int) from by (rw [show mv_w ((i : Int) + 1) = (i : Int) + 1 from mv_w_id (by omega) (by omega)]) <;> omega]
  refine mv_go' 1 (pc' := if 0 ≤ ((i + 1 : Nat) : Int) ∧ ((i + 1 : Nat) : Int) < (Ma69 203 0) then 720 else mv_bad) (ls' := [mv_R 202, mv_R 0, mv_R 100, mv_I (i : Int)]) (st' := [mv_I (Ma69 202 (i + 1)), mv_R 100, mv_I z]) (M1 := Ma69) rfl ?_
  refine mv_tt' (by omega) ?_
  rw [show Ma69 202 (i + 1) = M 202 (i + 1) from by exact congrFun (h1.2 202 (by decide)) (i + 1)]
  refine mv_call (st2 := [mv_I z, mv_I z]) rfl (Or.inl rfl) rfl rfl rfl ((h1.1).hi) (by first | decide | omega) (fun Ma71 hm72 => ?_)
  have h2 := hm72
  refine mv_go' 1 (pc' := if z = z then 1373 else 726) (ls' := [mv_R 202, mv_R 0, mv_R 100, mv_I (i : Int)]) (st' := []) (M1 := Ma71) rfl ?_
  refine mv_tt' (by first | decide | omega) ?_
  exact e _ h2.1 (fun j hj => (h2.2 j hj).trans (h1.2 j hj))
theorem sp_law18 {i : Nat} {M : mv_M} {v : mv_V} {Q : mv_M → Prop} (hI : sp_Inv M) (hL : (i : Int) + 7 ≤ M 203 0) (hL2 : M 203 0 ≤ 3584) (hr : ∀ j, -2147483648 ≤ M 202 j ∧ M 202 j ≤ 2147483647) (e : ∀ M1, sp_Inv M1 → mv_hi M M1 → mv_Ru 61 208 1373 [mv_R 202, mv_R 0, mv_R 100, mv_I (i : Int)] [] M1 v Q) : mv_Ru 61 208 728 [mv_R 202, mv_R 0, mv_R 100, mv_I (i : Int)] [] M v Q := by
  obtain ⟨z, hz⟩ := sp_k18 (M 202 (i + 1)) M hI
  refine mv_go' 5 (pc' := 733) (ls' := [mv_R 202, mv_R 0, mv_R 100, mv_I (i : Int)]) (st' := [mv_I (mv_w ((i : Int) + 1)), mv_R 202, mv_R 0]) (M1 := M) rfl ?_
  rw [show mv_w ((i : Int) + 1) = ((i + 1 : Nat) : Int) from by (rw [show mv_w ((i : Int) + 1) = (i : Int) + 1 from mv_w_id (by omega) (by omega)]) <;> omega]
  refine mv_go' 1 (pc' := if 0 ≤ ((i + 1 : Nat) : Int) ∧ ((i + 1 : Nat) : Int) < (M 203 0) then 734 else mv_bad) (ls' := [mv_R 202, mv_R 0, mv_R 100, mv_I (i : Int)]) (st' := [mv_I (M 202 (i + 1)), mv_R 0]) (M1 := M) rfl ?_
  refine mv_tt' (by omega) ?_
  refine mv_call (st2 := [mv_I z]) rfl (Or.inl rfl) rfl rfl rfl (hz.hi) (by first | decide | omega) (fun Ma73 hm74 => ?_)
  have h1 := hm74
  have e203 : Ma73 203 0 = M 203 0 := congrFun (h1.2 203 (by decide)) 0
  refine mv_go' 5 (pc' := 742) (ls' := [mv_R 202, mv_R 0, mv_R 100, mv_I (i : Int)]) (st' := [mv_I (mv_w ((i : Int) + 1)), mv_R 202, mv_R 100, mv_I z]) (M1 := Ma73) rfl ?_
  rw [show mv_w ((i : Int) + 1) = ((i + 1 : Nat) : Int) from by (rw [show mv_w ((i : Int) + 1) = (i : Int) + 1 from mv_w_id (by omega) (by omega)]) <;> omega]
  refine mv_go' 1 (pc' := if 0 ≤ ((i + 1 : Nat) : Int) ∧ ((i + 1 : Nat) : Int) < (Ma73 203 0) then 743 else mv_bad) (ls' := [mv_R 202, mv_R 0, mv_R 100, mv_I (i : Int)]) (st' := [mv_I (Ma73 202 (i + 1)), mv_R 100, mv_I z]) (M1 := Ma73) rfl ?_
  refine mv_tt' (by omega) ?_
  rw [show Ma73 202 (i + 1) = M 202 (i + 1) from by exact congrFun (h1.2 202 (by decide)) (i + 1)]
  refine mv_call (st2 := [mv_I z, mv_I z]) rfl (Or.inl rfl) rfl rfl rfl ((h1.1).hi) (by first | decide | omega) (fun Ma75 hm76 => ?_)
  have h2 := hm76
  refine mv_go' 1 (pc' := if z = z then 1373 else 749) (ls' := [mv_R 202, mv_R 0, mv_R 100, mv_I (i : Int)]) (st' := []) (M1 := Ma75) rfl ?_
  refine mv_tt' (by first | decide | omega) ?_
  exact e _ h2.1 (fun j hj => (h2.2 j hj).trans (h1.2 j hj))
theorem sp_law19 {i : Nat} {M : mv_M} {v : mv_V} {Q : mv_M → Prop} (hI : sp_Inv M) (hL : (i : Int) + 7 ≤ M 203 0) (hL2 : M 203 0 ≤ 3584) (hr : ∀ j, -2147483648 ≤ M 202 j ∧ M 202 j ≤ 2147483647) (e : ∀ M1, sp_Inv M1 → mv_hi M M1 → mv_Ru 61 208 1373 [mv_R 202, mv_R 0, mv_R 100, mv_I (i : Int)] [] M1 v Q) : mv_Ru 61 208 751 [mv_R 202, mv_R 0, mv_R 100, mv_I (i : Int)] [] M v Q := by
  obtain ⟨z, hz⟩ := sp_k19 (M 202 (i + 1)) M hI
  refine mv_go' 5 (pc' := 756) (ls' := [mv_R 202, mv_R 0, mv_R 100, mv_I (i : Int)]) (st' := [mv_I (mv_w ((i : Int) + 1)), mv_R 202, mv_R 0]) (M1 := M) rfl ?_
  rw [show mv_w ((i : Int) + 1) = ((i + 1 : Nat) : Int) from by (rw [show mv_w ((i : Int) + 1) = (i : Int) + 1 from mv_w_id (by omega) (by omega)]) <;> omega]
  refine mv_go' 1 (pc' := if 0 ≤ ((i + 1 : Nat) : Int) ∧ ((i + 1 : Nat) : Int) < (M 203 0) then 757 else mv_bad) (ls' := [mv_R 202, mv_R 0, mv_R 100, mv_I (i : Int)]) (st' := [mv_I (M 202 (i + 1)), mv_R 0]) (M1 := M) rfl ?_
  refine mv_tt' (by omega) ?_
  refine mv_call (st2 := [mv_I z]) rfl (Or.inl rfl) rfl rfl rfl (hz.hi) (by first | decide | omega) (fun Ma77 hm78 => ?_)
  have h1 := hm78
  have e203 : Ma77 203 0 = M 203 0 := congrFun (h1.2 203 (by decide)) 0
  refine mv_go' 5 (pc' := 765) (ls' := [mv_R 202, mv_R 0, mv_R 100, mv_I (i : Int)]) (st' := [mv_I (mv_w ((i : Int) + 1)), mv_R 202, mv_R 100, mv_I z]) (M1 := Ma77) rfl ?_
  rw [show mv_w ((i : Int) + 1) = ((i + 1 : Nat) : Int) from by (rw [show mv_w ((i : Int) + 1) = (i : Int) + 1 from mv_w_id (by omega) (by omega)]) <;> omega]
  refine mv_go' 1 (pc' := if 0 ≤ ((i + 1 : Nat) : Int) ∧ ((i + 1 : Nat) : Int) < (Ma77 203 0) then 766 else mv_bad) (ls' := [mv_R 202, mv_R 0, mv_R 100, mv_I (i : Int)]) (st' := [mv_I (Ma77 202 (i + 1)), mv_R 100, mv_I z]) (M1 := Ma77) rfl ?_
  refine mv_tt' (by omega) ?_
  rw [show Ma77 202 (i + 1) = M 202 (i + 1) from by exact congrFun (h1.2 202 (by decide)) (i + 1)]
  refine mv_call (st2 := [mv_I z, mv_I z]) rfl (Or.inl rfl) rfl rfl rfl ((h1.1).hi) (by first | decide | omega) (fun Ma79 hm80 => ?_)
  have h2 := hm80
  refine mv_go' 1 (pc' := if z = z then 1373 else 772) (ls' := [mv_R 202, mv_R 0, mv_R 100, mv_I (i : Int)]) (st' := []) (M1 := Ma79) rfl ?_
  refine mv_tt' (by first | decide | omega) ?_
  exact e _ h2.1 (fun j hj => (h2.2 j hj).trans (h1.2 j hj))
theorem sp_law20 {i : Nat} {M : mv_M} {v : mv_V} {Q : mv_M → Prop} (hI : sp_Inv M) (hL : (i : Int) + 7 ≤ M 203 0) (hL2 : M 203 0 ≤ 3584) (hr : ∀ j, -2147483648 ≤ M 202 j ∧ M 202 j ≤ 2147483647) (e : ∀ M1, sp_Inv M1 → mv_hi M M1 → mv_Ru 61 208 1373 [mv_R 202, mv_R 0, mv_R 100, mv_I (i : Int)] [] M1 v Q) : mv_Ru 61 208 774 [mv_R 202, mv_R 0, mv_R 100, mv_I (i : Int)] [] M v Q := by
  obtain ⟨z, hz⟩ := sp_k20 (M 202 (i + 1)) (M 202 (i + 2)) M hI
  refine mv_go' 5 (pc' := 779) (ls' := [mv_R 202, mv_R 0, mv_R 100, mv_I (i : Int)]) (st' := [mv_I (mv_w ((i : Int) + 1)), mv_R 202, mv_R 0]) (M1 := M) rfl ?_
  rw [show mv_w ((i : Int) + 1) = ((i + 1 : Nat) : Int) from by (rw [show mv_w ((i : Int) + 1) = (i : Int) + 1 from mv_w_id (by omega) (by omega)]) <;> omega]
  refine mv_go' 1 (pc' := if 0 ≤ ((i + 1 : Nat) : Int) ∧ ((i + 1 : Nat) : Int) < (M 203 0) then 780 else mv_bad) (ls' := [mv_R 202, mv_R 0, mv_R 100, mv_I (i : Int)]) (st' := [mv_I (M 202 (i + 1)), mv_R 0]) (M1 := M) rfl ?_
  refine mv_tt' (by omega) ?_
  refine mv_go' 4 (pc' := 784) (ls' := [mv_R 202, mv_R 0, mv_R 100, mv_I (i : Int)]) (st' := [mv_I (mv_w ((i : Int) + 2)), mv_R 202, mv_I (M 202 (i + 1)), mv_R 0]) (M1 := M) rfl ?_
  rw [show mv_w ((i : Int) + 2) = ((i + 2 : Nat) : Int) from by (rw [show mv_w ((i : Int) + 2) = (i : Int) + 2 from mv_w_id (by omega) (by omega)]) <;> omega]
  refine mv_go' 1 (pc' := if 0 ≤ ((i + 2 : Nat) : Int) ∧ ((i + 2 : Nat) : Int) < (M 203 0) then 785 else mv_bad) (ls' := [mv_R 202, mv_R 0, mv_R 100, mv_I (i : Int)]) (st' := [mv_I (M 202 (i + 2)), mv_I (M 202 (i + 1)), mv_R 0]) (M1 := M) rfl ?_
  refine mv_tt' (by omega) ?_
  refine mv_call (st2 := [mv_I z]) rfl (Or.inl rfl) rfl rfl rfl (hz.hi) (by first | decide | omega) (fun Ma81 hm82 => ?_)
  have h1 := hm82
  have e203 : Ma81 203 0 = M 203 0 := congrFun (h1.2 203 (by decide)) 0
  refine mv_go' 5 (pc' := 793) (ls' := [mv_R 202, mv_R 0, mv_R 100, mv_I (i : Int)]) (st' := [mv_I (mv_w ((i : Int) + 1)), mv_R 202, mv_R 100, mv_I z]) (M1 := Ma81) rfl ?_
  rw [show mv_w ((i : Int) + 1) = ((i + 1 : Nat) : Int) from by (rw [show mv_w ((i : Int) + 1) = (i : Int) + 1 from mv_w_id (by omega) (by omega)]) <;> omega]
  refine mv_go' 1 (pc' := if 0 ≤ ((i + 1 : Nat) : Int) ∧ ((i + 1 : Nat) : Int) < (Ma81 203 0) then 794 else mv_bad) (ls' := [mv_R 202, mv_R 0, mv_R 100, mv_I (i : Int)]) (st' := [mv_I (Ma81 202 (i + 1)), mv_R 100, mv_I z]) (M1 := Ma81) rfl ?_
  refine mv_tt' (by omega) ?_
  rw [show Ma81 202 (i + 1) = M 202 (i + 1) from by exact congrFun (h1.2 202 (by decide)) (i + 1)]
  refine mv_go' 4 (pc' := 798) (ls' := [mv_R 202, mv_R 0, mv_R 100, mv_I (i : Int)]) (st' := [mv_I (mv_w ((i : Int) + 2)), mv_R 202, mv_I (M 202 (i + 1)), mv_R 100, mv_I z]) (M1 := Ma81) rfl ?_
  rw [show mv_w ((i : Int) + 2) = ((i + 2 : Nat) : Int) from by (rw [show mv_w ((i : Int) + 2) = (i : Int) + 2 from mv_w_id (by omega) (by omega)]) <;> omega]
  refine mv_go' 1 (pc' := if 0 ≤ ((i + 2 : Nat) : Int) ∧ ((i + 2 : Nat) : Int) < (Ma81 203 0) then 799 else mv_bad) (ls' := [mv_R 202, mv_R 0, mv_R 100, mv_I (i : Int)]) (st' := [mv_I (Ma81 202 (i + 2)), mv_I (M 202 (i + 1)), mv_R 100, mv_I z]) (M1 := Ma81) rfl ?_
  refine mv_tt' (by omega) ?_
  rw [show Ma81 202 (i + 2) = M 202 (i + 2) from by exact congrFun (h1.2 202 (by decide)) (i + 2)]
  refine mv_call (st2 := [mv_I z, mv_I z]) rfl (Or.inl rfl) rfl rfl rfl ((h1.1).hi) (by first | decide | omega) (fun Ma83 hm84 => ?_)
  have h2 := hm84
  refine mv_go' 1 (pc' := if z = z then 1373 else 805) (ls' := [mv_R 202, mv_R 0, mv_R 100, mv_I (i : Int)]) (st' := []) (M1 := Ma83) rfl ?_
  refine mv_tt' (by first | decide | omega) ?_
  exact e _ h2.1 (fun j hj => (h2.2 j hj).trans (h1.2 j hj))
theorem sp_law21 {i : Nat} {M : mv_M} {v : mv_V} {Q : mv_M → Prop} (hI : sp_Inv M) (hL : (i : Int) + 7 ≤ M 203 0) (hL2 : M 203 0 ≤ 3584) (hr : ∀ j, -2147483648 ≤ M 202 j ∧ M 202 j ≤ 2147483647) (e : ∀ M1, sp_Inv M1 → mv_hi M M1 → mv_Ru 61 208 1373 [mv_R 202, mv_R 0, mv_R 100, mv_I (i : Int)] [] M1 v Q) : mv_Ru 61 208 807 [mv_R 202, mv_R 0, mv_R 100, mv_I (i : Int)] [] M v Q := by
  obtain ⟨z, hz⟩ := sp_k21 (M 202 (i + 1)) (M 202 (i + 2)) (M 202 (i + 3)) M hI
  refine mv_go' 5 (pc' := 812) (ls' := [mv_R 202, mv_R 0, mv_R 100, mv_I (i : Int)]) (st' := [mv_I (mv_w ((i : Int) + 1)), mv_R 202, mv_R 0]) (M1 := M) rfl ?_
  rw [show mv_w ((i : Int) + 1) = ((i + 1 : Nat) : Int) from by (rw [show mv_w ((i : Int) + 1) = (i : Int) + 1 from mv_w_id (by omega) (by omega)]) <;> omega]
  refine mv_go' 1 (pc' := if 0 ≤ ((i + 1 : Nat) : Int) ∧ ((i + 1 : Nat) : Int) < (M 203 0) then 813 else mv_bad) (ls' := [mv_R 202, mv_R 0, mv_R 100, mv_I (i : Int)]) (st' := [mv_I (M 202 (i + 1)), mv_R 0]) (M1 := M) rfl ?_
  refine mv_tt' (by omega) ?_
  refine mv_go' 4 (pc' := 817) (ls' := [mv_R 202, mv_R 0, mv_R 100, mv_I (i : Int)]) (st' := [mv_I (mv_w ((i : Int) + 2)), mv_R 202, mv_I (M 202 (i + 1)), mv_R 0]) (M1 := M) rfl ?_
  rw [show mv_w ((i : Int) + 2) = ((i + 2 : Nat) : Int) from by (rw [show mv_w ((i : Int) + 2) = (i : Int) + 2 from mv_w_id (by omega) (by omega)]) <;> omega]
  refine mv_go' 1 (pc' := if 0 ≤ ((i + 2 : Nat) : Int) ∧ ((i + 2 : Nat) : Int) < (M 203 0) then 818 else mv_bad) (ls' := [mv_R 202, mv_R 0, mv_R 100, mv_I (i : Int)]) (st' := [mv_I (M 202 (i + 2)), mv_I (M 202 (i + 1)), mv_R 0]) (M1 := M) rfl ?_
  refine mv_tt' (by omega) ?_
  refine mv_go' 4 (pc' := 822) (ls' := [mv_R 202, mv_R 0, mv_R 100, mv_I (i : Int)]) (st' := [mv_I (mv_w ((i : Int) + 3)), mv_R 202, mv_I (M 202 (i + 2)), mv_I (M 202 (i + 1)), mv_R 0]) (M1 := M) rfl ?_
  rw [show mv_w ((i : Int) + 3) = ((i + 3 : Nat) : Int) from by (rw [show mv_w ((i : Int) + 3) = (i : Int) + 3 from mv_w_id (by omega) (by omega)]) <;> omega]
  refine mv_go' 1 (pc' := if 0 ≤ ((i + 3 : Nat) : Int) ∧ ((i + 3 : Nat) : Int) < (M 203 0) then 823 else mv_bad) (ls' := [mv_R 202, mv_R 0, mv_R 100, mv_I (i : Int)]) (st' := [mv_I (M 202 (i + 3)), mv_I (M 202 (i + 2)), mv_I (M 202 (i + 1)), mv_R 0]) (M1 := M) rfl ?_
  refine mv_tt' (by omega) ?_
  refine mv_call (st2 := [mv_I z]) rfl (Or.inl rfl) rfl rfl rfl (hz.hi) (by first | decide | omega) (fun Ma85 hm86 => ?_)
  have h1 := hm86
  have e203 : Ma85 203 0 = M 203 0 := congrFun (h1.2 203 (by decide)) 0
  refine mv_go' 5 (pc' := 831) (ls' := [mv_R 202, mv_R 0, mv_R 100, mv_I (i : Int)]) (st' := [mv_I (mv_w ((i : Int) + 1)), mv_R 202, mv_R 100, mv_I z]) (M1 := Ma85) rfl ?_
  rw [show mv_w ((i : Int) + 1) = ((i + 1 : Nat) : Int) from by (rw [show mv_w ((i : Int) + 1) = (i : Int) + 1 from mv_w_id (by omega) (by omega)]) <;> omega]
  refine mv_go' 1 (pc' := if 0 ≤ ((i + 1 : Nat) : Int) ∧ ((i + 1 : Nat) : Int) < (Ma85 203 0) then 832 else mv_bad) (ls' := [mv_R 202, mv_R 0, mv_R 100, mv_I (i : Int)]) (st' := [mv_I (Ma85 202 (i + 1)), mv_R 100, mv_I z]) (M1 := Ma85) rfl ?_
  refine mv_tt' (by omega) ?_
  rw [show Ma85 202 (i + 1) = M 202 (i + 1) from by exact congrFun (h1.2 202 (by decide)) (i + 1)]
  refine mv_go' 4 (pc' := 836) (ls' := [mv_R 202, mv_R 0, mv_R 100, mv_I (i : Int)]) (st' := [mv_I (mv_w ((i : Int) + 2)), mv_R 202, mv_I (M 202 (i + 1)), mv_R 100, mv_I z]) (M1 := Ma85) rfl ?_
  rw [show mv_w ((i : Int) + 2) = ((i + 2 : Nat) : Int) from by (rw [show mv_w ((i : Int) + 2) = (i : Int) + 2 from mv_w_id (by omega) (by omega)]) <;> omega]
  refine mv_go' 1 (pc' := if 0 ≤ ((i + 2 : Nat) : Int) ∧ ((i + 2 : Nat) : Int) < (Ma85 203 0) then 837 else mv_bad) (ls' := [mv_R 202, mv_R 0, mv_R 100, mv_I (i : Int)]) (st' := [mv_I (Ma85 202 (i + 2)), mv_I (M 202 (i + 1)), mv_R 100, mv_I z]) (M1 := Ma85) rfl ?_
  refine mv_tt' (by omega) ?_
  rw [show Ma85 202 (i + 2) = M 202 (i + 2) from by exact congrFun (h1.2 202 (by decide)) (i + 2)]
  refine mv_go' 4 (pc' := 841) (ls' := [mv_R 202, mv_R 0, mv_R 100, mv_I (i : Int)]) (st' := [mv_I (mv_w ((i : Int) + 3)), mv_R 202, mv_I (M 202 (i + 2)), mv_I (M 202 (i + 1)), mv_R 100, mv_I z]) (M1 := Ma85) rfl ?_
  rw [show mv_w ((i : Int) + 3) = ((i + 3 : Nat) : Int) from by (rw [show mv_w ((i : Int) + 3) = (i : Int) + 3 from mv_w_id (by omega) (by omega)]) <;> omega]
  refine mv_go' 1 (pc' := if 0 ≤ ((i + 3 : Nat) : Int) ∧ ((i + 3 : Nat) : Int) < (Ma85 203 0) then 842 else mv_bad) (ls' := [mv_R 202, mv_R 0, mv_R 100, mv_I (i : Int)]) (st' := [mv_I (Ma85 202 (i + 3)), mv_I (M 202 (i + 2)), mv_I (M 202 (i + 1)), mv_R 100, mv_I z]) (M1 := Ma85) rfl ?_
  refine mv_tt' (by omega) ?_
  rw [show Ma85 202 (i + 3) = M 202 (i + 3) from by exact congrFun (h1.2 202 (by decide)) (i + 3)]
  refine mv_call (st2 := [mv_I z, mv_I z]) rfl (Or.inl rfl) rfl rfl rfl ((h1.1).hi) (by first | decide | omega) (fun Ma87 hm88 => ?_)
  have h2 := hm88
  refine mv_go' 1 (pc' := if z = z then 1373 else 848) (ls' := [mv_R 202, mv_R 0, mv_R 100, mv_I (i : Int)]) (st' := []) (M1 := Ma87) rfl ?_
  refine mv_tt' (by first | decide | omega) ?_
  exact e _ h2.1 (fun j hj => (h2.2 j hj).trans (h1.2 j hj))
theorem sp_law22 {i : Nat} {M : mv_M} {v : mv_V} {Q : mv_M → Prop} (hI : sp_Inv M) (hL : (i : Int) + 7 ≤ M 203 0) (hL2 : M 203 0 ≤ 3584) (hr : ∀ j, -2147483648 ≤ M 202 j ∧ M 202 j ≤ 2147483647) (e : ∀ M1, sp_Inv M1 → mv_hi M M1 → mv_Ru 61 208 1373 [mv_R 202, mv_R 0, mv_R 100, mv_I (i : Int)] [] M1 v Q) : mv_Ru 61 208 850 [mv_R 202, mv_R 0, mv_R 100, mv_I (i : Int)] [] M v Q := by
  obtain ⟨z, hz⟩ := sp_k22 (M 202 (i + 1)) (M 202 (i + 2)) (M 202 (i + 3)) M hI
  refine mv_go' 5 (pc' := 855) (ls' := [mv_R 202, mv_R 0, mv_R 100, mv_I (i : Int)]) (st' := [mv_I (mv_w ((i : Int) + 1)), mv_R 202, mv_R 0]) (M1 := M) rfl ?_
  rw [show mv_w ((i : Int) + 1) = ((i + 1 : Nat) : Int) from by (rw [show mv_w ((i : Int) + 1) = (i : Int) + 1 from mv_w_id (by omega) (by omega)]) <;> omega]
  refine mv_go' 1 (pc' := if 0 ≤ ((i + 1 : Nat) : Int) ∧ ((i + 1 : Nat) : Int) < (M 203 0) then 856 else mv_bad) (ls' := [mv_R 202, mv_R 0, mv_R 100, mv_I (i : Int)]) (st' := [mv_I (M 202 (i + 1)), mv_R 0]) (M1 := M) rfl ?_
  refine mv_tt' (by omega) ?_
  refine mv_go' 4 (pc' := 860) (ls' := [mv_R 202, mv_R 0, mv_R 100, mv_I (i : Int)]) (st' := [mv_I (mv_w ((i : Int) + 2)), mv_R 202, mv_I (M 202 (i + 1)), mv_R 0]) (M1 := M) rfl ?_
  rw [show mv_w ((i : Int) + 2) = ((i + 2 : Nat) : Int) from by (rw [show mv_w ((i : Int) + 2) = (i : Int) + 2 from mv_w_id (by omega) (by omega)]) <;> omega]
  refine mv_go' 1 (pc' := if 0 ≤ ((i + 2 : Nat) : Int) ∧ ((i + 2 : Nat) : Int) < (M 203 0) then 861 else mv_bad) (ls' := [mv_R 202, mv_R 0, mv_R 100, mv_I (i : Int)]) (st' := [mv_I (M 202 (i + 2)), mv_I (M 202 (i + 1)), mv_R 0]) (M1 := M) rfl ?_
  refine mv_tt' (by omega) ?_
  refine mv_go' 4 (pc' := 865) (ls' := [mv_R 202, mv_R 0, mv_R 100, mv_I (i : Int)]) (st' := [mv_I (mv_w ((i : Int) + 3)), mv_R 202, mv_I (M 202 (i + 2)), mv_I (M 202 (i + 1)), mv_R 0]) (M1 := M) rfl ?_
  rw [show mv_w ((i : Int) + 3) = ((i + 3 : Nat) : Int) from by (rw [show mv_w ((i : Int) + 3) = (i : Int) + 3 from mv_w_id (by omega) (by omega)]) <;> omega]
  refine mv_go' 1 (pc' := if 0 ≤ ((i + 3 : Nat) : Int) ∧ ((i + 3 : Nat) : Int) < (M 203 0) then 866 else mv_bad) (ls' := [mv_R 202, mv_R 0, mv_R 100, mv_I (i : Int)]) (st' := [mv_I (M 202 (i + 3)), mv_I (M 202 (i + 2)), mv_I (M 202 (i + 1)), mv_R 0]) (M1 := M) rfl ?_
  refine mv_tt' (by omega) ?_
  refine mv_call (st2 := [mv_I z]) rfl (Or.inl rfl) rfl rfl rfl (hz.hi) (by first | decide | omega) (fun Ma89 hm90 => ?_)
  have h1 := hm90
  have e203 : Ma89 203 0 = M 203 0 := congrFun (h1.2 203 (by decide)) 0
  refine mv_go' 5 (pc' := 874) (ls' := [mv_R 202, mv_R 0, mv_R 100, mv_I (i : Int)]) (st' := [mv_I (mv_w ((i : Int) + 1)), mv_R 202, mv_R 100, mv_I z]) (M1 := Ma89) rfl ?_
  rw [show mv_w ((i : Int) + 1) = ((i + 1 : Nat) : Int) from by (rw [show mv_w ((i : Int) + 1) = (i : Int) + 1 from mv_w_id (by omega) (by omega)]) <;> omega]
  refine mv_go' 1 (pc' := if 0 ≤ ((i + 1 : Nat) : Int) ∧ ((i + 1 : Nat) : Int) < (Ma89 203 0) then 875 else mv_bad) (ls' := [mv_R 202, mv_R 0, mv_R 100, mv_I (i : Int)]) (st' := [mv_I (Ma89 202 (i + 1)), mv_R 100, mv_I z]) (M1 := Ma89) rfl ?_
  refine mv_tt' (by omega) ?_
  rw [show Ma89 202 (i + 1) = M 202 (i + 1) from by exact congrFun (h1.2 202 (by decide)) (i + 1)]
  refine mv_go' 4 (pc' := 879) (ls' := [mv_R 202, mv_R 0, mv_R 100, mv_I (i : Int)]) (st' := [mv_I (mv_w ((i : Int) + 2)), mv_R 202, mv_I (M 202 (i + 1)), mv_R 100, mv_I z]) (M1 := Ma89) rfl ?_
  rw [show mv_w ((i : Int) + 2) = ((i + 2 : Nat) : Int) from by (rw [show mv_w ((i : Int) + 2) = (i : Int) + 2 from mv_w_id (by omega) (by omega)]) <;> omega]
  refine mv_go' 1 (pc' := if 0 ≤ ((i + 2 : Nat) : Int) ∧ ((i + 2 : Nat) : Int) < (Ma89 203 0) then 880 else mv_bad) (ls' := [mv_R 202, mv_R 0, mv_R 100, mv_I (i : Int)]) (st' := [mv_I (Ma89 202 (i + 2)), mv_I (M 202 (i + 1)), mv_R 100, mv_I z]) (M1 := Ma89) rfl ?_
  refine mv_tt' (by omega) ?_
  rw [show Ma89 202 (i + 2) = M 202 (i + 2) from by exact congrFun (h1.2 202 (by decide)) (i + 2)]
  refine mv_go' 4 (pc' := 884) (ls' := [mv_R 202, mv_R 0, mv_R 100, mv_I (i : Int)]) (st' := [mv_I (mv_w ((i : Int) + 3)), mv_R 202, mv_I (M 202 (i + 2)), mv_I (M 202 (i + 1)), mv_R 100, mv_I z]) (M1 := Ma89) rfl ?_
  rw [show mv_w ((i : Int) + 3) = ((i + 3 : Nat) : Int) from by (rw [show mv_w ((i : Int) + 3) = (i : Int) + 3 from mv_w_id (by omega) (by omega)]) <;> omega]
  refine mv_go' 1 (pc' := if 0 ≤ ((i + 3 : Nat) : Int) ∧ ((i + 3 : Nat) : Int) < (Ma89 203 0) then 885 else mv_bad) (ls' := [mv_R 202, mv_R 0, mv_R 100, mv_I (i : Int)]) (st' := [mv_I (Ma89 202 (i + 3)), mv_I (M 202 (i + 2)), mv_I (M 202 (i + 1)), mv_R 100, mv_I z]) (M1 := Ma89) rfl ?_
  refine mv_tt' (by omega) ?_
  rw [show Ma89 202 (i + 3) = M 202 (i + 3) from by exact congrFun (h1.2 202 (by decide)) (i + 3)]
  refine mv_call (st2 := [mv_I z, mv_I z]) rfl (Or.inl rfl) rfl rfl rfl ((h1.1).hi) (by first | decide | omega) (fun Ma91 hm92 => ?_)
  have h2 := hm92
  refine mv_go' 1 (pc' := if z = z then 1373 else 891) (ls' := [mv_R 202, mv_R 0, mv_R 100, mv_I (i : Int)]) (st' := []) (M1 := Ma91) rfl ?_
  refine mv_tt' (by first | decide | omega) ?_
  exact e _ h2.1 (fun j hj => (h2.2 j hj).trans (h1.2 j hj))
theorem sp_law23 {i : Nat} {M : mv_M} {v : mv_V} {Q : mv_M → Prop} (hI : sp_Inv M) (hL : (i : Int) + 7 ≤ M 203 0) (hL2 : M 203 0 ≤ 3584) (hr : ∀ j, -2147483648 ≤ M 202 j ∧ M 202 j ≤ 2147483647) (e : ∀ M1, sp_Inv M1 → mv_hi M M1 → mv_Ru 61 208 1373 [mv_R 202, mv_R 0, mv_R 100, mv_I (i : Int)] [] M1 v Q) : mv_Ru 61 208 893 [mv_R 202, mv_R 0, mv_R 100, mv_I (i : Int)] [] M v Q := by
  obtain ⟨z, hz⟩ := sp_k23 (M 202 (i + 1)) (M 202 (i + 2)) (M 202 (i + 3)) M hI
  refine mv_go' 5 (pc' := 898) (ls' := [mv_R 202, mv_R 0, mv_R 100, mv_I (i : Int)]) (st' := [mv_I (mv_w ((i : Int) + 1)), mv_R 202, mv_R 0]) (M1 := M) rfl ?_
  rw [show mv_w ((i : Int) + 1) = ((i + 1 : Nat) : Int) from by (rw [show mv_w ((i : Int) + 1) = (i : Int) + 1 from mv_w_id (by omega) (by omega)]) <;> omega]
  refine mv_go' 1 (pc' := if 0 ≤ ((i + 1 : Nat) : Int) ∧ ((i + 1 : Nat) : Int) < (M 203 0) then 899 else mv_bad) (ls' := [mv_R 202, mv_R 0, mv_R 100, mv_I (i : Int)]) (st' := [mv_I (M 202 (i + 1)), mv_R 0]) (M1 := M) rfl ?_
  refine mv_tt' (by omega) ?_
  refine mv_go' 4 (pc' := 903) (ls' := [mv_R 202, mv_R 0, mv_R 100, mv_I (i : Int)]) (st' := [mv_I (mv_w ((i : Int) + 2)), mv_R 202, mv_I (M 202 (i + 1)), mv_R 0]) (M1 := M) rfl ?_
  rw [show mv_w ((i : Int) + 2) = ((i + 2 : Nat) : Int) from by (rw [show mv_w ((i : Int) + 2) = (i : Int) + 2 from mv_w_id (by omega) (by omega)]) <;> omega]
  refine mv_go' 1 (pc' := if 0 ≤ ((i + 2 : Nat) : Int) ∧ ((i + 2 : Nat) : Int) < (M 203 0) then 904 else mv_bad) (ls' := [mv_R 202, mv_R 0, mv_R 100, mv_I (i : Int)]) (st' := [mv_I (M 202 (i + 2)), mv_I (M 202 (i + 1)), mv_R 0]) (M1 := M) rfl ?_
  refine mv_tt' (by omega) ?_
  refine mv_go' 4 (pc' := 908) (ls' := [mv_R 202, mv_R 0, mv_R 100, mv_I (i : Int)]) (st' := [mv_I (mv_w ((i : Int) + 3)), mv_R 202, mv_I (M 202 (i + 2)), mv_I (M 202 (i + 1)), mv_R 0]) (M1 := M) rfl ?_
  rw [show mv_w ((i : Int) + 3) = ((i + 3 : Nat) : Int) from by (rw [show mv_w ((i : Int) + 3) = (i : Int) + 3 from mv_w_id (by omega) (by omega)]) <;> omega]
  refine mv_go' 1 (pc' := if 0 ≤ ((i + 3 : Nat) : Int) ∧ ((i + 3 : Nat) : Int) < (M 203 0) then 909 else mv_bad) (ls' := [mv_R 202, mv_R 0, mv_R 100, mv_I (i : Int)]) (st' := [mv_I (M 202 (i + 3)), mv_I (M 202 (i + 2)), mv_I (M 202 (i + 1)), mv_R 0]) (M1 := M) rfl ?_
  refine mv_tt' (by omega) ?_
  refine mv_call (st2 := [mv_I z]) rfl (Or.inl rfl) rfl rfl rfl (hz.hi) (by first | decide | omega) (fun Ma93 hm94 => ?_)
  have h1 := hm94
  have e203 : Ma93 203 0 = M 203 0 := congrFun (h1.2 203 (by decide)) 0
  refine mv_go' 5 (pc' := 917) (ls' := [mv_R 202, mv_R 0, mv_R 100, mv_I (i : Int)]) (st' := [mv_I (mv_w ((i : Int) + 1)), mv_R 202, mv_R 100, mv_I z]) (M1 := Ma93) rfl ?_
  rw [show mv_w ((i : Int) + 1) = ((i + 1 : Nat) : Int) from by (rw [show mv_w ((i : Int) + 1) = (i : Int) + 1 from mv_w_id (by omega) (by omega)]) <;> omega]
  refine mv_go' 1 (pc' := if 0 ≤ ((i + 1 : Nat) : Int) ∧ ((i + 1 : Nat) : Int) < (Ma93 203 0) then 918 else mv_bad) (ls' := [mv_R 202, mv_R 0, mv_R 100, mv_I (i : Int)]) (st' := [mv_I (Ma93 202 (i + 1)), mv_R 100, mv_I z]) (M1 := Ma93) rfl ?_
  refine mv_tt' (by omega) ?_
  rw [show Ma93 202 (i + 1) = M 202 (i + 1) from by exact congrFun (h1.2 202 (by decide)) (i + 1)]
  refine mv_go' 4 (pc' := 922) (ls' := [mv_R 202, mv_R 0, mv_R 100, mv_I (i : Int)]) (st' := [mv_I (mv_w ((i : Int) + 2)), mv_R 202, mv_I (M 202 (i + 1)), mv_R 100, mv_I z]) (M1 := Ma93) rfl ?_
  rw [show mv_w ((i : Int) + 2) = ((i + 2 : Nat) : Int) from by (rw [show mv_w ((i : Int) + 2) = (i : Int) + 2 from mv_w_id (by omega) (by omega)]) <;> omega]
  refine mv_go' 1 (pc' := if 0 ≤ ((i + 2 : Nat) : Int) ∧ ((i + 2 : Nat) : Int) < (Ma93 203 0) then 923 else mv_bad) (ls' := [mv_R 202, mv_R 0, mv_R 100, mv_I (i : Int)]) (st' := [mv_I (Ma93 202 (i + 2)), mv_I (M 202 (i + 1)), mv_R 100, mv_I z]) (M1 := Ma93) rfl ?_
  refine mv_tt' (by omega) ?_
  rw [show Ma93 202 (i + 2) = M 202 (i + 2) from by exact congrFun (h1.2 202 (by decide)) (i + 2)]
  refine mv_go' 4 (pc' := 927) (ls' := [mv_R 202, mv_R 0, mv_R 100, mv_I (i : Int)]) (st' := [mv_I (mv_w ((i : Int) + 3)), mv_R 202, mv_I (M 202 (i + 2)), mv_I (M 202 (i + 1)), mv_R 100, mv_I z]) (M1 := Ma93) rfl ?_
  rw [show mv_w ((i : Int) + 3) = ((i + 3 : Nat) : Int) from by (rw [show mv_w ((i : Int) + 3) = (i : Int) + 3 from mv_w_id (by omega) (by omega)]) <;> omega]
  refine mv_go' 1 (pc' := if 0 ≤ ((i + 3 : Nat) : Int) ∧ ((i + 3 : Nat) : Int) < (Ma93 203 0) then 928 else mv_bad) (ls' := [mv_R 202, mv_R 0, mv_R 100, mv_I (i : Int)]) (st' := [mv_I (Ma93 202 (i + 3)), mv_I (M 202 (i + 2)), mv_I (M 202 (i + 1)), mv_R 100, mv_I z]) (M1 := Ma93) rfl ?_
  refine mv_tt' (by omega) ?_
  rw [show Ma93 202 (i + 3) = M 202 (i + 3) from by exact congrFun (h1.2 202 (by decide)) (i + 3)]
  refine mv_call (st2 := [mv_I z, mv_I z]) rfl (Or.inl rfl) rfl rfl rfl ((h1.1).hi) (by first | decide | omega) (fun Ma95 hm96 => ?_)
  have h2 := hm96
  refine mv_go' 1 (pc' := if z = z then 1373 else 934) (ls' := [mv_R 202, mv_R 0, mv_R 100, mv_I (i : Int)]) (st' := []) (M1 := Ma95) rfl ?_
  refine mv_tt' (by first | decide | omega) ?_
  exact e _ h2.1 (fun j hj => (h2.2 j hj).trans (h1.2 j hj))
theorem sp_law24 {i : Nat} {M : mv_M} {v : mv_V} {Q : mv_M → Prop} (hI : sp_Inv M) (hL : (i : Int) + 7 ≤ M 203 0) (hL2 : M 203 0 ≤ 3584) (hr : ∀ j, -2147483648 ≤ M 202 j ∧ M 202 j ≤ 2147483647) (e : ∀ M1, sp_Inv M1 → mv_hi M M1 → mv_Ru 61 208 1373 [mv_R 202, mv_R 0, mv_R 100, mv_I (i : Int)] [] M1 v Q) : mv_Ru 61 208 936 [mv_R 202, mv_R 0, mv_R 100, mv_I (i : Int)] [] M v Q := by
  obtain ⟨z, hz⟩ := sp_k24 (M 202 (i + 1)) M hI
  refine mv_go' 5 (pc' := 941) (ls' := [mv_R 202, mv_R 0, mv_R 100, mv_I (i : Int)]) (st' := [mv_I (mv_w ((i : Int) + 1)), mv_R 202, mv_R 0]) (M1 := M) rfl ?_
  rw [show mv_w ((i : Int) + 1) = ((i + 1 : Nat) : Int) from by (rw [show mv_w ((i : Int) + 1) = (i : Int) + 1 from mv_w_id (by omega) (by omega)]) <;> omega]
  refine mv_go' 1 (pc' := if 0 ≤ ((i + 1 : Nat) : Int) ∧ ((i + 1 : Nat) : Int) < (M 203 0) then 942 else mv_bad) (ls' := [mv_R 202, mv_R 0, mv_R 100, mv_I (i : Int)]) (st' := [mv_I (M 202 (i + 1)), mv_R 0]) (M1 := M) rfl ?_
  refine mv_tt' (by omega) ?_
  refine mv_call (st2 := [mv_I z]) rfl (Or.inl rfl) rfl rfl rfl (hz.hi) (by first | decide | omega) (fun Ma97 hm98 => ?_)
  have h1 := hm98
  have e203 : Ma97 203 0 = M 203 0 := congrFun (h1.2 203 (by decide)) 0
  refine mv_go' 5 (pc' := 950) (ls' := [mv_R 202, mv_R 0, mv_R 100, mv_I (i : Int)]) (st' := [mv_I (mv_w ((i : Int) + 1)), mv_R 202, mv_R 100, mv_I z]) (M1 := Ma97) rfl ?_
  rw [show mv_w ((i : Int) + 1) = ((i + 1 : Nat) : Int) from by (rw [show mv_w ((i : Int) + 1) = (i : Int) + 1 from mv_w_id (by omega) (by omega)]) <;> omega]
  refine mv_go' 1 (pc' := if 0 ≤ ((i + 1 : Nat) : Int) ∧ ((i + 1 : Nat) : Int) < (Ma97 203 0) then 951 else mv_bad) (ls' := [mv_R 202, mv_R 0, mv_R 100, mv_I (i : Int)]) (st' := [mv_I (Ma97 202 (i + 1)), mv_R 100, mv_I z]) (M1 := Ma97) rfl ?_
  refine mv_tt' (by omega) ?_
  rw [show Ma97 202 (i + 1) = M 202 (i + 1) from by exact congrFun (h1.2 202 (by decide)) (i + 1)]
  refine mv_call (st2 := [mv_I z, mv_I z]) rfl (Or.inl rfl) rfl rfl rfl ((h1.1).hi) (by first | decide | omega) (fun Ma99 hm100 => ?_)
  have h2 := hm100
  refine mv_go' 1 (pc' := if z = z then 1373 else 957) (ls' := [mv_R 202, mv_R 0, mv_R 100, mv_I (i : Int)]) (st' := []) (M1 := Ma99) rfl ?_
  refine mv_tt' (by first | decide | omega) ?_
  exact e _ h2.1 (fun j hj => (h2.2 j hj).trans (h1.2 j hj))
theorem sp_law25 {i : Nat} {M : mv_M} {v : mv_V} {Q : mv_M → Prop} (hI : sp_Inv M) (hL : (i : Int) + 7 ≤ M 203 0) (hL2 : M 203 0 ≤ 3584) (hr : ∀ j, -2147483648 ≤ M 202 j ∧ M 202 j ≤ 2147483647) (e : ∀ M1, sp_Inv M1 → mv_hi M M1 → mv_Ru 61 208 1373 [mv_R 202, mv_R 0, mv_R 100, mv_I (i : Int)] [] M1 v Q) : mv_Ru 61 208 959 [mv_R 202, mv_R 0, mv_R 100, mv_I (i : Int)] [] M v Q := by
  obtain ⟨z, hz⟩ := sp_k25 (M 202 (i + 1)) (M 202 (i + 2)) M hI
  refine mv_go' 5 (pc' := 964) (ls' := [mv_R 202, mv_R 0, mv_R 100, mv_I (i : Int)]) (st' := [mv_I (mv_w ((i : Int) + 1)), mv_R 202, mv_R 0]) (M1 := M) rfl ?_
  rw [show mv_w ((i : Int) + 1) = ((i + 1 : Nat) : Int) from by (rw [show mv_w ((i : Int) + 1) = (i : Int) + 1 from mv_w_id (by omega) (by omega)]) <;> omega]
  refine mv_go' 1 (pc' := if 0 ≤ ((i + 1 : Nat) : Int) ∧ ((i + 1 : Nat) : Int) < (M 203 0) then 965 else mv_bad) (ls' := [mv_R 202, mv_R 0, mv_R 100, mv_I (i : Int)]) (st' := [mv_I (M 202 (i + 1)), mv_R 0]) (M1 := M) rfl ?_
  refine mv_tt' (by omega) ?_
  refine mv_go' 4 (pc' := 969) (ls' := [mv_R 202, mv_R 0, mv_R 100, mv_I (i : Int)]) (st' := [mv_I (mv_w ((i : Int) + 2)), mv_R 202, mv_I (M 202 (i + 1)), mv_R 0]) (M1 := M) rfl ?_
  rw [show mv_w ((i : Int) + 2) = ((i + 2 : Nat) : Int) from by (rw [show mv_w ((i : Int) + 2) = (i : Int) + 2 from mv_w_id (by omega) (by omega)]) <;> omega]
  refine mv_go' 1 (pc' := if 0 ≤ ((i + 2 : Nat) : Int) ∧ ((i + 2 : Nat) : Int) < (M 203 0) then 970 else mv_bad) (ls' := [mv_R 202, mv_R 0, mv_R 100, mv_I (i : Int)]) (st' := [mv_I (M 202 (i + 2)), mv_I (M 202 (i + 1)), mv_R 0]) (M1 := M) rfl ?_
  refine mv_tt' (by omega) ?_
  refine mv_call (st2 := [mv_I z]) rfl (Or.inl rfl) rfl rfl rfl (hz.hi) (by first | decide | omega) (fun Ma101 hm102 => ?_)
  have h1 := hm102
  have e203 : Ma101 203 0 = M 203 0 := congrFun (h1.2 203 (by decide)) 0
  refine mv_go' 5 (pc' := 978) (ls' := [mv_R 202, mv_R 0, mv_R 100, mv_I (i : Int)]) (st' := [mv_I (mv_w ((i : Int) + 1)), mv_R 202, mv_R 100, mv_I z]) (M1 := Ma101) rfl ?_
  rw [show mv_w ((i : Int) + 1) = ((i + 1 : Nat) : Int) from by (rw [show mv_w ((i : Int) + 1) = (i : Int) + 1 from mv_w_id (by omega) (by omega)]) <;> omega]
  refine mv_go' 1 (pc' := if 0 ≤ ((i + 1 : Nat) : Int) ∧ ((i + 1 : Nat) : Int) < (Ma101 203 0) then 979 else mv_bad) (ls' := [mv_R 202, mv_R 0, mv_R 100, mv_I (i : Int)]) (st' := [mv_I (Ma101 202 (i + 1)), mv_R 100, mv_I z]) (M1 := Ma101) rfl ?_
  refine mv_tt' (by omega) ?_
  rw [show Ma101 202 (i + 1) = M 202 (i + 1) from by exact congrFun (h1.2 202 (by decide)) (i + 1)]
  refine mv_go' 4 (pc' := 983) (ls' := [mv_R 202, mv_R 0, mv_R 100, mv_I (i : Int)]) (st' := [mv_I (mv_w ((i : Int) + 2)), mv_R 202, mv_I (M 202 (i + 1)), mv_R 100, mv_I z]) (M1 := Ma101) rfl ?_
  rw [show mv_w ((i : Int) + 2) = ((i + 2 : Nat) : Int) from by (rw [show mv_w ((i : Int) + 2) = (i : Int) + 2 from mv_w_id (by omega) (by omega)]) <;> omega]
  refine mv_go' 1 (pc' := if 0 ≤ ((i + 2 : Nat) : Int) ∧ ((i + 2 : Nat) : Int) < (Ma101 203 0) then 984 else mv_bad) (ls' := [mv_R 202, mv_R 0, mv_R 100, mv_I (i : Int)]) (st' := [mv_I (Ma101 202 (i + 2)), mv_I (M 202 (i + 1)), mv_R 100, mv_I z]) (M1 := Ma101) rfl ?_
  refine mv_tt' (by omega) ?_
  rw [show Ma101 202 (i + 2) = M 202 (i + 2) from by exact congrFun (h1.2 202 (by decide)) (i + 2)]
  refine mv_call (st2 := [mv_I z, mv_I z]) rfl (Or.inl rfl) rfl rfl rfl ((h1.1).hi) (by first | decide | omega) (fun Ma103 hm104 => ?_)
  have h2 := hm104
  refine mv_go' 1 (pc' := if z = z then 1373 else 990) (ls' := [mv_R 202, mv_R 0, mv_R 100, mv_I (i : Int)]) (st' := []) (M1 := Ma103) rfl ?_
  refine mv_tt' (by first | decide | omega) ?_
  exact e _ h2.1 (fun j hj => (h2.2 j hj).trans (h1.2 j hj))
theorem sp_law26 {i : Nat} {M : mv_M} {v : mv_V} {Q : mv_M → Prop} (hI : sp_Inv M) (hL : (i : Int) + 7 ≤ M 203 0) (hL2 : M 203 0 ≤ 3584) (hr : ∀ j, -2147483648 ≤ M 202 j ∧ M 202 j ≤ 2147483647) (e : ∀ M1, sp_Inv M1 → mv_hi M M1 → mv_Ru 61 208 1373 [mv_R 202, mv_R 0, mv_R 100, mv_I (i : Int)] [] M1 v Q) : mv_Ru 61 208 992 [mv_R 202, mv_R 0, mv_R 100, mv_I (i : Int)] [] M v Q := by
  obtain ⟨z, hz⟩ := sp_k26 (M 202 (i + 1)) (M 202 (i + 2)) M hI
  refine mv_go' 5 (pc' := 997) (ls' := [mv_R 202, mv_R 0, mv_R 100, mv_I (i : Int)]) (st' := [mv_I (mv_w ((i : Int) + 1)), mv_R 202, mv_R 0]) (M1 := M) rfl ?_
  rw [show mv_w ((i : Int) + 1) = ((i + 1 : Nat) : Int) from by (rw [show mv_w ((i : Int) + 1) = (i : Int) + 1 from mv_w_id (by omega) (by omega)]) <;> omega]
  refine mv_go' 1 (pc' := if 0 ≤ ((i + 1 : Nat) : Int) ∧ ((i + 1 : Nat) : Int) < (M 203 0) then 998 else mv_bad) (ls' := [mv_R 202, mv_R 0, mv_R 100, mv_I (i : Int)]) (st' := [mv_I (M 202 (i + 1)), mv_R 0]) (M1 := M) rfl ?_
  refine mv_tt' (by omega) ?_
  refine mv_go' 4 (pc' := 1002) (ls' := [mv_R 202, mv_R 0, mv_R 100, mv_I (i : Int)]) (st' := [mv_I (mv_w ((i : Int) + 2)), mv_R 202, mv_I (M 202 (i + 1)), mv_R 0]) (M1 := M) rfl ?_
  rw [show mv_w ((i : Int) + 2) = ((i + 2 : Nat) : Int) from by (rw [show mv_w ((i : Int) + 2) = (i : Int) + 2 from mv_w_id (by omega) (by omega)]) <;> omega]
  refine mv_go' 1 (pc' := if 0 ≤ ((i + 2 : Nat) : Int) ∧ ((i + 2 : Nat) : Int) < (M 203 0) then 1003 else mv_bad) (ls' := [mv_R 202, mv_R 0, mv_R 100, mv_I (i : Int)]) (st' := [mv_I (M 202 (i + 2)), mv_I (M 202 (i + 1)), mv_R 0]) (M1 := M) rfl ?_
  refine mv_tt' (by omega) ?_
  refine mv_call (st2 := [mv_I z]) rfl (Or.inl rfl) rfl rfl rfl (hz.hi) (by first | decide | omega) (fun Ma105 hm106 => ?_)
  have h1 := hm106
  have e203 : Ma105 203 0 = M 203 0 := congrFun (h1.2 203 (by decide)) 0
  refine mv_go' 5 (pc' := 1011) (ls' := [mv_R 202, mv_R 0, mv_R 100, mv_I (i : Int)]) (st' := [mv_I (mv_w ((i : Int) + 1)), mv_R 202, mv_R 100, mv_I z]) (M1 := Ma105) rfl ?_
  rw [show mv_w ((i : Int) + 1) = ((i + 1 : Nat) : Int) from by (rw [show mv_w ((i : Int) + 1) = (i : Int) + 1 from mv_w_id (by omega) (by omega)]) <;> omega]
  refine mv_go' 1 (pc' := if 0 ≤ ((i + 1 : Nat) : Int) ∧ ((i + 1 : Nat) : Int) < (Ma105 203 0) then 1012 else mv_bad) (ls' := [mv_R 202, mv_R 0, mv_R 100, mv_I (i : Int)]) (st' := [mv_I (Ma105 202 (i + 1)), mv_R 100, mv_I z]) (M1 := Ma105) rfl ?_
  refine mv_tt' (by omega) ?_
  rw [show Ma105 202 (i + 1) = M 202 (i + 1) from by exact congrFun (h1.2 202 (by decide)) (i + 1)]
  refine mv_go' 4 (pc' := 1016) (ls' := [mv_R 202, mv_R 0, mv_R 100, mv_I (i : Int)]) (st' := [mv_I (mv_w ((i : Int) + 2)), mv_R 202, mv_I (M 202 (i + 1)), mv_R 100, mv_I z]) (M1 := Ma105) rfl ?_
  rw [show mv_w ((i : Int) + 2) = ((i + 2 : Nat) : Int) from by (rw [show mv_w ((i : Int) + 2) = (i : Int) + 2 from mv_w_id (by omega) (by omega)]) <;> omega]
  refine mv_go' 1 (pc' := if 0 ≤ ((i + 2 : Nat) : Int) ∧ ((i + 2 : Nat) : Int) < (Ma105 203 0) then 1017 else mv_bad) (ls' := [mv_R 202, mv_R 0, mv_R 100, mv_I (i : Int)]) (st' := [mv_I (Ma105 202 (i + 2)), mv_I (M 202 (i + 1)), mv_R 100, mv_I z]) (M1 := Ma105) rfl ?_
  refine mv_tt' (by omega) ?_
  rw [show Ma105 202 (i + 2) = M 202 (i + 2) from by exact congrFun (h1.2 202 (by decide)) (i + 2)]
  refine mv_call (st2 := [mv_I z, mv_I z]) rfl (Or.inl rfl) rfl rfl rfl ((h1.1).hi) (by first | decide | omega) (fun Ma107 hm108 => ?_)
  have h2 := hm108
  refine mv_go' 1 (pc' := if z = z then 1373 else 1023) (ls' := [mv_R 202, mv_R 0, mv_R 100, mv_I (i : Int)]) (st' := []) (M1 := Ma107) rfl ?_
  refine mv_tt' (by first | decide | omega) ?_
  exact e _ h2.1 (fun j hj => (h2.2 j hj).trans (h1.2 j hj))
theorem sp_law27 {i : Nat} {M : mv_M} {v : mv_V} {Q : mv_M → Prop} (hI : sp_Inv M) (hL : (i : Int) + 7 ≤ M 203 0) (hL2 : M 203 0 ≤ 3584) (hr : ∀ j, -2147483648 ≤ M 202 j ∧ M 202 j ≤ 2147483647) (e : ∀ M1, sp_Inv M1 → mv_hi M M1 → mv_Ru 61 208 1373 [mv_R 202, mv_R 0, mv_R 100, mv_I (i : Int)] [] M1 v Q) : mv_Ru 61 208 1025 [mv_R 202, mv_R 0, mv_R 100, mv_I (i : Int)] [] M v Q := by
  obtain ⟨z, hz⟩ := sp_k27 (M 202 (i + 1)) (M 202 (i + 2)) M hI
  refine mv_go' 5 (pc' := 1030) (ls' := [mv_R 202, mv_R 0, mv_R 100, mv_I (i : Int)]) (st' := [mv_I (mv_w ((i : Int) + 1)), mv_R 202, mv_R 0]) (M1 := M) rfl ?_
  rw [show mv_w ((i : Int) + 1) = ((i + 1 : Nat) : Int) from by (rw [show mv_w ((i : Int) + 1) = (i : Int) + 1 from mv_w_id (by omega) (by omega)]) <;> omega]
  refine mv_go' 1 (pc' := if 0 ≤ ((i + 1 : Nat) : Int) ∧ ((i + 1 : Nat) : Int) < (M 203 0) then 1031 else mv_bad) (ls' := [mv_R 202, mv_R 0, mv_R 100, mv_I (i : Int)]) (st' := [mv_I (M 202 (i + 1)), mv_R 0]) (M1 := M) rfl ?_
  refine mv_tt' (by omega) ?_
  refine mv_go' 4 (pc' := 1035) (ls' := [mv_R 202, mv_R 0, mv_R 100, mv_I (i : Int)]) (st' := [mv_I (mv_w ((i : Int) + 2)), mv_R 202, mv_I (M 202 (i + 1)), mv_R 0]) (M1 := M) rfl ?_
  rw [show mv_w ((i : Int) + 2) = ((i + 2 : Nat) : Int) from by (rw [show mv_w ((i : Int) + 2) = (i : Int) + 2 from mv_w_id (by omega) (by omega)]) <;> omega]
  refine mv_go' 1 (pc' := if 0 ≤ ((i + 2 : Nat) : Int) ∧ ((i + 2 : Nat) : Int) < (M 203 0) then 1036 else mv_bad) (ls' := [mv_R 202, mv_R 0, mv_R 100, mv_I (i : Int)]) (st' := [mv_I (M 202 (i + 2)), mv_I (M 202 (i + 1)), mv_R 0]) (M1 := M) rfl ?_
  refine mv_tt' (by omega) ?_
  refine mv_call (st2 := [mv_I z]) rfl (Or.inl rfl) rfl rfl rfl (hz.hi) (by first | decide | omega) (fun Ma109 hm110 => ?_)
  have h1 := hm110
  have e203 : Ma109 203 0 = M 203 0 := congrFun (h1.2 203 (by decide)) 0
  refine mv_go' 5 (pc' := 1044) (ls' := [mv_R 202, mv_R 0, mv_R 100, mv_I (i : Int)]) (st' := [mv_I (mv_w ((i : Int) + 1)), mv_R 202, mv_R 100, mv_I z]) (M1 := Ma109) rfl ?_
  rw [show mv_w ((i : Int) + 1) = ((i + 1 : Nat) : Int) from by (rw [show mv_w ((i : Int) + 1) = (i : Int) + 1 from mv_w_id (by omega) (by omega)]) <;> omega]
  refine mv_go' 1 (pc' := if 0 ≤ ((i + 1 : Nat) : Int) ∧ ((i + 1 : Nat) : Int) < (Ma109 203 0) then 1045 else mv_bad) (ls' := [mv_R 202, mv_R 0, mv_R 100, mv_I (i : Int)]) (st' := [mv_I (Ma109 202 (i + 1)), mv_R 100, mv_I z]) (M1 := Ma109) rfl ?_
  refine mv_tt' (by omega) ?_
  rw [show Ma109 202 (i + 1) = M 202 (i + 1) from by exact congrFun (h1.2 202 (by decide)) (i + 1)]
  refine mv_go' 4 (pc' := 1049) (ls' := [mv_R 202, mv_R 0, mv_R 100, mv_I (i : Int)]) (st' := [mv_I (mv_w ((i : Int) + 2)), mv_R 202, mv_I (M 202 (i + 1)), mv_R 100, mv_I z]) (M1 := Ma109) rfl ?_
  rw [show mv_w ((i : Int) + 2) = ((i + 2 : Nat) : Int) from by (rw [show mv_w ((i : Int) + 2) = (i : Int) + 2 from mv_w_id (by omega) (by omega)]) <;> omega]
  refine mv_go' 1 (pc' := if 0 ≤ ((i + 2 : Nat) : Int) ∧ ((i + 2 : Nat) : Int) < (Ma109 203 0) then 1050 else mv_bad) (ls' := [mv_R 202, mv_R 0, mv_R 100, mv_I (i : Int)]) (st' := [mv_I (Ma109 202 (i + 2)), mv_I (M 202 (i + 1)), mv_R 100, mv_I z]) (M1 := Ma109) rfl ?_
  refine mv_tt' (by omega) ?_
  rw [show Ma109 202 (i + 2) = M 202 (i + 2) from by exact congrFun (h1.2 202 (by decide)) (i + 2)]
  refine mv_call (st2 := [mv_I z, mv_I z]) rfl (Or.inl rfl) rfl rfl rfl ((h1.1).hi) (by first | decide | omega) (fun Ma111 hm112 => ?_)
  have h2 := hm112
  refine mv_go' 1 (pc' := if z = z then 1373 else 1056) (ls' := [mv_R 202, mv_R 0, mv_R 100, mv_I (i : Int)]) (st' := []) (M1 := Ma111) rfl ?_
  refine mv_tt' (by first | decide | omega) ?_
  exact e _ h2.1 (fun j hj => (h2.2 j hj).trans (h1.2 j hj))
theorem sp_law28 {i : Nat} {M : mv_M} {v : mv_V} {Q : mv_M → Prop} (hI : sp_Inv M) (hL : (i : Int) + 7 ≤ M 203 0) (hL2 : M 203 0 ≤ 3584) (hr : ∀ j, -2147483648 ≤ M 202 j ∧ M 202 j ≤ 2147483647) (e : ∀ M1, sp_Inv M1 → mv_hi M M1 → mv_Ru 61 208 1373 [mv_R 202, mv_R 0, mv_R 100, mv_I (i : Int)] [] M1 v Q) : mv_Ru 61 208 1058 [mv_R 202, mv_R 0, mv_R 100, mv_I (i : Int)] [] M v Q := by
  obtain ⟨z, hz⟩ := sp_k28 (M 202 (i + 1)) (M 202 (i + 2)) (M 202 (i + 3)) (M 202 (i + 4)) M hI
  refine mv_go' 5 (pc' := 1063) (ls' := [mv_R 202, mv_R 0, mv_R 100, mv_I (i : Int)]) (st' := [mv_I (mv_w ((i : Int) + 1)), mv_R 202, mv_R 0]) (M1 := M) rfl ?_
  rw [show mv_w ((i : Int) + 1) = ((i + 1 : Nat) : Int) from by (rw [show mv_w ((i : Int) + 1) = (i : Int) + 1 from mv_w_id (by omega) (by omega)]) <;> omega]
  refine mv_go' 1 (pc' := if 0 ≤ ((i + 1 : Nat) : Int) ∧ ((i + 1 : Nat) : Int) < (M 203 0) then 1064 else mv_bad) (ls' := [mv_R 202, mv_R 0, mv_R 100, mv_I (i : Int)]) (st' := [mv_I (M 202 (i + 1)), mv_R 0]) (M1 := M) rfl ?_
  refine mv_tt' (by omega) ?_
  refine mv_go' 4 (pc' := 1068) (ls' := [mv_R 202, mv_R 0, mv_R 100, mv_I (i : Int)]) (st' := [mv_I (mv_w ((i : Int) + 2)), mv_R 202, mv_I (M 202 (i + 1)), mv_R 0]) (M1 := M) rfl ?_
  rw [show mv_w ((i : Int) + 2) = ((i + 2 : Nat) : Int) from by (rw [show mv_w ((i : Int) + 2) = (i : Int) + 2 from mv_w_id (by omega) (by omega)]) <;> omega]
  refine mv_go' 1 (pc' := if 0 ≤ ((i + 2 : Nat) : Int) ∧ ((i + 2 : Nat) : Int) < (M 203 0) then 1069 else mv_bad) (ls' := [mv_R 202, mv_R 0, mv_R 100, mv_I (i : Int)]) (st' := [mv_I (M 202 (i + 2)), mv_I (M 202 (i + 1)), mv_R 0]) (M1 := M) rfl ?_
  refine mv_tt' (by omega) ?_
  refine mv_go' 4 (pc' := 1073) (ls' := [mv_R 202, mv_R 0, mv_R 100, mv_I (i : Int)]) (st' := [mv_I (mv_w ((i : Int) + 3)), mv_R 202, mv_I (M 202 (i + 2)), mv_I (M 202 (i + 1)), mv_R 0]) (M1 := M) rfl ?_
  rw [show mv_w ((i : Int) + 3) = ((i + 3 : Nat) : Int) from by (rw [show mv_w ((i : Int) + 3) = (i : Int) + 3 from mv_w_id (by omega) (by omega)]) <;> omega]
  refine mv_go' 1 (pc' := if 0 ≤ ((i + 3 : Nat) : Int) ∧ ((i + 3 : Nat) : Int) < (M 203 0) then 1074 else mv_bad) (ls' := [mv_R 202, mv_R 0, mv_R 100, mv_I (i : Int)]) (st' := [mv_I (M 202 (i + 3)), mv_I (M 202 (i + 2)), mv_I (M 202 (i + 1)), mv_R 0]) (M1 := M) rfl ?_
  refine mv_tt' (by omega) ?_
  refine mv_go' 4 (pc' := 1078) (ls' := [mv_R 202, mv_R 0, mv_R 100, mv_I (i : Int)]) (st' := [mv_I (mv_w ((i : Int) + 4)), mv_R 202, mv_I (M 202 (i + 3)), mv_I (M 202 (i + 2)), mv_I (M 202 (i + 1)), mv_R 0]) (M1 := M) rfl ?_
  rw [show mv_w ((i : Int) + 4) = ((i + 4 : Nat) : Int) from by (rw [show mv_w ((i : Int) + 4) = (i : Int) + 4 from mv_w_id (by omega) (by omega)]) <;> omega]
  refine mv_go' 1 (pc' := if 0 ≤ ((i + 4 : Nat) : Int) ∧ ((i + 4 : Nat) : Int) < (M 203 0) then 1079 else mv_bad) (ls' := [mv_R 202, mv_R 0, mv_R 100, mv_I (i : Int)]) (st' := [mv_I (M 202 (i + 4)), mv_I (M 202 (i + 3)), mv_I (M 202 (i + 2)), mv_I (M 202 (i + 1)), mv_R 0]) (M1 := M) rfl ?_
  refine mv_tt' (by omega) ?_
  refine mv_call (st2 := [mv_L z]) rfl (Or.inl rfl) rfl rfl rfl (hz.hi) (by first | decide | omega) (fun Ma113 hm114 => ?_)
  have h1 := hm114
  have e203 : Ma113 203 0 = M 203 0 := congrFun (h1.2 203 (by decide)) 0
  refine mv_go' 5 (pc' := 1087) (ls' := [mv_R 202, mv_R 0, mv_R 100, mv_I (i : Int)]) (st' := [mv_I (mv_w ((i : Int) + 1)), mv_R 202, mv_R 100, mv_L z]) (M1 := Ma113) rfl ?_
  rw [show mv_w ((i : Int) + 1) = ((i + 1 : Nat) : Int) from by (rw [show mv_w ((i : Int) + 1) = (i : Int) + 1 from mv_w_id (by omega) (by omega)]) <;> omega]
  refine mv_go' 1 (pc' := if 0 ≤ ((i + 1 : Nat) : Int) ∧ ((i + 1 : Nat) : Int) < (Ma113 203 0) then 1088 else mv_bad) (ls' := [mv_R 202, mv_R 0, mv_R 100, mv_I (i : Int)]) (st' := [mv_I (Ma113 202 (i + 1)), mv_R 100, mv_L z]) (M1 := Ma113) rfl ?_
  refine mv_tt' (by omega) ?_
  rw [show Ma113 202 (i + 1) = M 202 (i + 1) from by exact congrFun (h1.2 202 (by decide)) (i + 1)]
  refine mv_go' 4 (pc' := 1092) (ls' := [mv_R 202, mv_R 0, mv_R 100, mv_I (i : Int)]) (st' := [mv_I (mv_w ((i : Int) + 2)), mv_R 202, mv_I (M 202 (i + 1)), mv_R 100, mv_L z]) (M1 := Ma113) rfl ?_
  rw [show mv_w ((i : Int) + 2) = ((i + 2 : Nat) : Int) from by (rw [show mv_w ((i : Int) + 2) = (i : Int) + 2 from mv_w_id (by omega) (by omega)]) <;> omega]
  refine mv_go' 1 (pc' := if 0 ≤ ((i + 2 : Nat) : Int) ∧ ((i + 2 : Nat) : Int) < (Ma113 203 0) then 1093 else mv_bad) (ls' := [mv_R 202, mv_R 0, mv_R 100, mv_I (i : Int)]) (st' := [mv_I (Ma113 202 (i + 2)), mv_I (M 202 (i + 1)), mv_R 100, mv_L z]) (M1 := Ma113) rfl ?_
  refine mv_tt' (by omega) ?_
  rw [show Ma113 202 (i + 2) = M 202 (i + 2) from by exact congrFun (h1.2 202 (by decide)) (i + 2)]
  refine mv_go' 4 (pc' := 1097) (ls' := [mv_R 202, mv_R 0, mv_R 100, mv_I (i : Int)]) (st' := [mv_I (mv_w ((i : Int) + 3)), mv_R 202, mv_I (M 202 (i + 2)), mv_I (M 202 (i + 1)), mv_R 100, mv_L z]) (M1 := Ma113) rfl ?_
  rw [show mv_w ((i : Int) + 3) = ((i + 3 : Nat) : Int) from by (rw [show mv_w ((i : Int) + 3) = (i : Int) + 3 from mv_w_id (by omega) (by omega)]) <;> omega]
  refine mv_go' 1 (pc' := if 0 ≤ ((i + 3 : Nat) : Int) ∧ ((i + 3 : Nat) : Int) < (Ma113 203 0) then 1098 else mv_bad) (ls' := [mv_R 202, mv_R 0, mv_R 100, mv_I (i : Int)]) (st' := [mv_I (Ma113 202 (i + 3)), mv_I (M 202 (i + 2)), mv_I (M 202 (i + 1)), mv_R 100, mv_L z]) (M1 := Ma113) rfl ?_
  refine mv_tt' (by omega) ?_
  rw [show Ma113 202 (i + 3) = M 202 (i + 3) from by exact congrFun (h1.2 202 (by decide)) (i + 3)]
  refine mv_go' 4 (pc' := 1102) (ls' := [mv_R 202, mv_R 0, mv_R 100, mv_I (i : Int)]) (st' := [mv_I (mv_w ((i : Int) + 4)), mv_R 202, mv_I (M 202 (i + 3)), mv_I (M 202 (i + 2)), mv_I (M 202 (i + 1)), mv_R 100, mv_L z]) (M1 := Ma113) rfl ?_
  rw [show mv_w ((i : Int) + 4) = ((i + 4 : Nat) : Int) from by (rw [show mv_w ((i : Int) + 4) = (i : Int) + 4 from mv_w_id (by omega) (by omega)]) <;> omega]
  refine mv_go' 1 (pc' := if 0 ≤ ((i + 4 : Nat) : Int) ∧ ((i + 4 : Nat) : Int) < (Ma113 203 0) then 1103 else mv_bad) (ls' := [mv_R 202, mv_R 0, mv_R 100, mv_I (i : Int)]) (st' := [mv_I (Ma113 202 (i + 4)), mv_I (M 202 (i + 3)), mv_I (M 202 (i + 2)), mv_I (M 202 (i + 1)), mv_R 100, mv_L z]) (M1 := Ma113) rfl ?_
  refine mv_tt' (by omega) ?_
  rw [show Ma113 202 (i + 4) = M 202 (i + 4) from by exact congrFun (h1.2 202 (by decide)) (i + 4)]
  refine mv_call (st2 := [mv_L z, mv_L z]) rfl (Or.inl rfl) rfl rfl rfl ((h1.1).hi) (by first | decide | omega) (fun Ma115 hm116 => ?_)
  have h2 := hm116
  refine mv_go' 1 (pc' := 1107) (ls' := [mv_R 202, mv_R 0, mv_R 100, mv_I (i : Int)]) (st' := [mv_I (mv_lcmp z z)]) (M1 := Ma115) rfl ?_
  rw [show mv_lcmp z z = 0 from by (unfold mv_lcmp; rw [if_neg (by omega), if_pos rfl])]
  refine mv_go' 1 (pc' := if 0 = 0 then 1373 else 1110) (ls' := [mv_R 202, mv_R 0, mv_R 100, mv_I (i : Int)]) (st' := []) (M1 := Ma115) rfl ?_
  refine mv_tt' (by first | decide | omega) ?_
  exact e _ h2.1 (fun j hj => (h2.2 j hj).trans (h1.2 j hj))
theorem sp_law29 {i : Nat} {M : mv_M} {v : mv_V} {Q : mv_M → Prop} (hI : sp_Inv M) (hL : (i : Int) + 7 ≤ M 203 0) (hL2 : M 203 0 ≤ 3584) (hr : ∀ j, -2147483648 ≤ M 202 j ∧ M 202 j ≤ 2147483647) (e : ∀ M1, sp_Inv M1 → mv_hi M M1 → mv_Ru 61 208 1373 [mv_R 202, mv_R 0, mv_R 100, mv_I (i : Int)] [] M1 v Q) : mv_Ru 61 208 1112 [mv_R 202, mv_R 0, mv_R 100, mv_I (i : Int)] [] M v Q := by
  obtain ⟨z, hz⟩ := sp_k29  M hI
  refine mv_go' 1 (pc' := 1113) (ls' := [mv_R 202, mv_R 0, mv_R 100, mv_I (i : Int)]) (st' := [mv_R 0]) (M1 := M) rfl ?_
  refine mv_call (st2 := [mv_I z]) rfl (Or.inl rfl) rfl rfl rfl (hz.hi) (by first | decide | omega) (fun Ma117 hm118 => ?_)
  have h1 := hm118
  have e203 : Ma117 203 0 = M 203 0 := congrFun (h1.2 203 (by decide)) 0
  refine mv_go' 1 (pc' := 1117) (ls' := [mv_R 202, mv_R 0, mv_R 100, mv_I (i : Int)]) (st' := [mv_R 100, mv_I z]) (M1 := Ma117) rfl ?_
  refine mv_call (st2 := [mv_I z, mv_I z]) rfl (Or.inl rfl) rfl rfl rfl ((h1.1).hi) (by first | decide | omega) (fun Ma119 hm120 => ?_)
  have h2 := hm120
  refine mv_go' 1 (pc' := if z = z then 1373 else 1123) (ls' := [mv_R 202, mv_R 0, mv_R 100, mv_I (i : Int)]) (st' := []) (M1 := Ma119) rfl ?_
  refine mv_tt' (by first | decide | omega) ?_
  exact e _ h2.1 (fun j hj => (h2.2 j hj).trans (h1.2 j hj))
theorem sp_law30 {i : Nat} {M : mv_M} {v : mv_V} {Q : mv_M → Prop} (hI : sp_Inv M) (hL : (i : Int) + 7 ≤ M 203 0) (hL2 : M 203 0 ≤ 3584) (hr : ∀ j, -2147483648 ≤ M 202 j ∧ M 202 j ≤ 2147483647) (e : ∀ M1, sp_Inv M1 → mv_hi M M1 → mv_Ru 61 208 1373 [mv_R 202, mv_R 0, mv_R 100, mv_I (i : Int)] [] M1 v Q) : mv_Ru 61 208 1125 [mv_R 202, mv_R 0, mv_R 100, mv_I (i : Int)] [] M v Q := by
  obtain ⟨z, hz⟩ := sp_k30  M hI
  refine mv_go' 1 (pc' := 1126) (ls' := [mv_R 202, mv_R 0, mv_R 100, mv_I (i : Int)]) (st' := [mv_R 0]) (M1 := M) rfl ?_
  refine mv_call (st2 := [mv_I z]) rfl (Or.inl rfl) rfl rfl rfl (hz.hi) (by first | decide | omega) (fun Ma121 hm122 => ?_)
  have h1 := hm122
  have e203 : Ma121 203 0 = M 203 0 := congrFun (h1.2 203 (by decide)) 0
  refine mv_go' 1 (pc' := 1130) (ls' := [mv_R 202, mv_R 0, mv_R 100, mv_I (i : Int)]) (st' := [mv_R 100, mv_I z]) (M1 := Ma121) rfl ?_
  refine mv_call (st2 := [mv_I z, mv_I z]) rfl (Or.inl rfl) rfl rfl rfl ((h1.1).hi) (by first | decide | omega) (fun Ma123 hm124 => ?_)
  have h2 := hm124
  refine mv_go' 1 (pc' := if z = z then 1373 else 1136) (ls' := [mv_R 202, mv_R 0, mv_R 100, mv_I (i : Int)]) (st' := []) (M1 := Ma123) rfl ?_
  refine mv_tt' (by first | decide | omega) ?_
  exact e _ h2.1 (fun j hj => (h2.2 j hj).trans (h1.2 j hj))
theorem sp_law31 {i : Nat} {M : mv_M} {v : mv_V} {Q : mv_M → Prop} (hI : sp_Inv M) (hL : (i : Int) + 7 ≤ M 203 0) (hL2 : M 203 0 ≤ 3584) (hr : ∀ j, -2147483648 ≤ M 202 j ∧ M 202 j ≤ 2147483647) (e : ∀ M1, sp_Inv M1 → mv_hi M M1 → mv_Ru 61 208 1373 [mv_R 202, mv_R 0, mv_R 100, mv_I (i : Int)] [] M1 v Q) : mv_Ru 61 208 1138 [mv_R 202, mv_R 0, mv_R 100, mv_I (i : Int)] [] M v Q := by
  obtain ⟨z, hz⟩ := sp_k31 (M 202 (i + 1)) (M 202 (i + 2)) (M 202 (i + 3)) M hI
  refine mv_go' 5 (pc' := 1143) (ls' := [mv_R 202, mv_R 0, mv_R 100, mv_I (i : Int)]) (st' := [mv_I (mv_w ((i : Int) + 1)), mv_R 202, mv_R 0]) (M1 := M) rfl ?_
  rw [show mv_w ((i : Int) + 1) = ((i + 1 : Nat) : Int) from by (rw [show mv_w ((i : Int) + 1) = (i : Int) + 1 from mv_w_id (by omega) (by omega)]) <;> omega]
  refine mv_go' 1 (pc' := if 0 ≤ ((i + 1 : Nat) : Int) ∧ ((i + 1 : Nat) : Int) < (M 203 0) then 1144 else mv_bad) (ls' := [mv_R 202, mv_R 0, mv_R 100, mv_I (i : Int)]) (st' := [mv_I (M 202 (i + 1)), mv_R 0]) (M1 := M) rfl ?_
  refine mv_tt' (by omega) ?_
  refine mv_go' 4 (pc' := 1148) (ls' := [mv_R 202, mv_R 0, mv_R 100, mv_I (i : Int)]) (st' := [mv_I (mv_w ((i : Int) + 2)), mv_R 202, mv_I (M 202 (i + 1)), mv_R 0]) (M1 := M) rfl ?_
  rw [show mv_w ((i : Int) + 2) = ((i + 2 : Nat) : Int) from by (rw [show mv_w ((i : Int) + 2) = (i : Int) + 2 from mv_w_id (by omega) (by omega)]) <;> omega]
  refine mv_go' 1 (pc' := if 0 ≤ ((i + 2 : Nat) : Int) ∧ ((i + 2 : Nat) : Int) < (M 203 0) then 1149 else mv_bad) (ls' := [mv_R 202, mv_R 0, mv_R 100, mv_I (i : Int)]) (st' := [mv_I (M 202 (i + 2)), mv_I (M 202 (i + 1)), mv_R 0]) (M1 := M) rfl ?_
  refine mv_tt' (by omega) ?_
  refine mv_go' 4 (pc' := 1153) (ls' := [mv_R 202, mv_R 0, mv_R 100, mv_I (i : Int)]) (st' := [mv_I (mv_w ((i : Int) + 3)), mv_R 202, mv_I (M 202 (i + 2)), mv_I (M 202 (i + 1)), mv_R 0]) (M1 := M) rfl ?_
  rw [show mv_w ((i : Int) + 3) = ((i + 3 : Nat) : Int) from by (rw [show mv_w ((i : Int) + 3) = (i : Int) + 3 from mv_w_id (by omega) (by omega)]) <;> omega]
  refine mv_go' 1 (pc' := if 0 ≤ ((i + 3 : Nat) : Int) ∧ ((i + 3 : Nat) : Int) < (M 203 0) then 1154 else mv_bad) (ls' := [mv_R 202, mv_R 0, mv_R 100, mv_I (i : Int)]) (st' := [mv_I (M 202 (i + 3)), mv_I (M 202 (i + 2)), mv_I (M 202 (i + 1)), mv_R 0]) (M1 := M) rfl ?_
  refine mv_tt' (by omega) ?_
  refine mv_call (st2 := [mv_I z]) rfl (Or.inl rfl) rfl rfl rfl (hz.hi) (by first | decide | omega) (fun Ma125 hm126 => ?_)
  have h1 := hm126
  have e203 : Ma125 203 0 = M 203 0 := congrFun (h1.2 203 (by decide)) 0
  refine mv_go' 5 (pc' := 1162) (ls' := [mv_R 202, mv_R 0, mv_R 100, mv_I (i : Int)]) (st' := [mv_I (mv_w ((i : Int) + 1)), mv_R 202, mv_R 100, mv_I z]) (M1 := Ma125) rfl ?_
  rw [show mv_w ((i : Int) + 1) = ((i + 1 : Nat) : Int) from by (rw [show mv_w ((i : Int) + 1) = (i : Int) + 1 from mv_w_id (by omega) (by omega)]) <;> omega]
  refine mv_go' 1 (pc' := if 0 ≤ ((i + 1 : Nat) : Int) ∧ ((i + 1 : Nat) : Int) < (Ma125 203 0) then 1163 else mv_bad) (ls' := [mv_R 202, mv_R 0, mv_R 100, mv_I (i : Int)]) (st' := [mv_I (Ma125 202 (i + 1)), mv_R 100, mv_I z]) (M1 := Ma125) rfl ?_
  refine mv_tt' (by omega) ?_
  rw [show Ma125 202 (i + 1) = M 202 (i + 1) from by exact congrFun (h1.2 202 (by decide)) (i + 1)]
  refine mv_go' 4 (pc' := 1167) (ls' := [mv_R 202, mv_R 0, mv_R 100, mv_I (i : Int)]) (st' := [mv_I (mv_w ((i : Int) + 2)), mv_R 202, mv_I (M 202 (i + 1)), mv_R 100, mv_I z]) (M1 := Ma125) rfl ?_
  rw [show mv_w ((i : Int) + 2) = ((i + 2 : Nat) : Int) from by (rw [show mv_w ((i : Int) + 2) = (i : Int) + 2 from mv_w_id (by omega) (by omega)]) <;> omega]
  refine mv_go' 1 (pc' := if 0 ≤ ((i + 2 : Nat) : Int) ∧ ((i + 2 : Nat) : Int) < (Ma125 203 0) then 1168 else mv_bad) (ls' := [mv_R 202, mv_R 0, mv_R 100, mv_I (i : Int)]) (st' := [mv_I (Ma125 202 (i + 2)), mv_I (M 202 (i + 1)), mv_R 100, mv_I z]) (M1 := Ma125) rfl ?_
  refine mv_tt' (by omega) ?_
  rw [show Ma125 202 (i + 2) = M 202 (i + 2) from by exact congrFun (h1.2 202 (by decide)) (i + 2)]
  refine mv_go' 4 (pc' := 1172) (ls' := [mv_R 202, mv_R 0, mv_R 100, mv_I (i : Int)]) (st' := [mv_I (mv_w ((i : Int) + 3)), mv_R 202, mv_I (M 202 (i + 2)), mv_I (M 202 (i + 1)), mv_R 100, mv_I z]) (M1 := Ma125) rfl ?_
  rw [show mv_w ((i : Int) + 3) = ((i + 3 : Nat) : Int) from by (rw [show mv_w ((i : Int) + 3) = (i : Int) + 3 from mv_w_id (by omega) (by omega)]) <;> omega]
  refine mv_go' 1 (pc' := if 0 ≤ ((i + 3 : Nat) : Int) ∧ ((i + 3 : Nat) : Int) < (Ma125 203 0) then 1173 else mv_bad) (ls' := [mv_R 202, mv_R 0, mv_R 100, mv_I (i : Int)]) (st' := [mv_I (Ma125 202 (i + 3)), mv_I (M 202 (i + 2)), mv_I (M 202 (i + 1)), mv_R 100, mv_I z]) (M1 := Ma125) rfl ?_
  refine mv_tt' (by omega) ?_
  rw [show Ma125 202 (i + 3) = M 202 (i + 3) from by exact congrFun (h1.2 202 (by decide)) (i + 3)]
  refine mv_call (st2 := [mv_I z, mv_I z]) rfl (Or.inl rfl) rfl rfl rfl ((h1.1).hi) (by first | decide | omega) (fun Ma127 hm128 => ?_)
  have h2 := hm128
  refine mv_go' 1 (pc' := if z = z then 1373 else 1179) (ls' := [mv_R 202, mv_R 0, mv_R 100, mv_I (i : Int)]) (st' := []) (M1 := Ma127) rfl ?_
  refine mv_tt' (by first | decide | omega) ?_
  exact e _ h2.1 (fun j hj => (h2.2 j hj).trans (h1.2 j hj))
theorem sp_law32 {i : Nat} {M : mv_M} {v : mv_V} {Q : mv_M → Prop} (hI : sp_Inv M) (hL : (i : Int) + 7 ≤ M 203 0) (hL2 : M 203 0 ≤ 3584) (hr : ∀ j, -2147483648 ≤ M 202 j ∧ M 202 j ≤ 2147483647) (e : ∀ M1, sp_Inv M1 → mv_hi M M1 → mv_Ru 61 208 1373 [mv_R 202, mv_R 0, mv_R 100, mv_I (i : Int)] [] M1 v Q) : mv_Ru 61 208 1181 [mv_R 202, mv_R 0, mv_R 100, mv_I (i : Int)] [] M v Q := by
  obtain ⟨z, hz⟩ := sp_k32 (M 202 (i + 1)) (M 202 (i + 2)) (M 202 (i + 3)) M hI
  refine mv_go' 5 (pc' := 1186) (ls' := [mv_R 202, mv_R 0, mv_R 100, mv_I (i : Int)]) (st' := [mv_I (mv_w ((i : Int) + 1)), mv_R 202, mv_R 0]) (M1 := M) rfl ?_
  rw [show mv_w ((i : Int) + 1) = ((i + 1 : Nat) : Int) from by (rw [show mv_w ((i : Int) + 1) = (i : Int) + 1 from mv_w_id (by omega) (by omega)]) <;> omega]
  refine mv_go' 1 (pc' := if 0 ≤ ((i + 1 : Nat) : Int) ∧ ((i + 1 : Nat) : Int) < (M 203 0) then 1187 else mv_bad) (ls' := [mv_R 202, mv_R 0, mv_R 100, mv_I (i : Int)]) (st' := [mv_I (M 202 (i + 1)), mv_R 0]) (M1 := M) rfl ?_
  refine mv_tt' (by omega) ?_
  refine mv_go' 4 (pc' := 1191) (ls' := [mv_R 202, mv_R 0, mv_R 100, mv_I (i : Int)]) (st' := [mv_I (mv_w ((i : Int) + 2)), mv_R 202, mv_I (M 202 (i + 1)), mv_R 0]) (M1 := M) rfl ?_
  rw [show mv_w ((i : Int) + 2) = ((i + 2 : Nat) : Int) from by (rw [show mv_w ((i : Int) + 2) = (i : Int) + 2 from mv_w_id (by omega) (by omega)]) <;> omega]
  refine mv_go' 1 (pc' := if 0 ≤ ((i + 2 : Nat) : Int) ∧ ((i + 2 : Nat) : Int) < (M 203 0) then 1192 else mv_bad) (ls' := [mv_R 202, mv_R 0, mv_R 100, mv_I (i : Int)]) (st' := [mv_I (M 202 (i + 2)), mv_I (M 202 (i + 1)), mv_R 0]) (M1 := M) rfl ?_
  refine mv_tt' (by omega) ?_
  refine mv_go' 4 (pc' := 1196) (ls' := [mv_R 202, mv_R 0, mv_R 100, mv_I (i : Int)]) (st' := [mv_I (mv_w ((i : Int) + 3)), mv_R 202, mv_I (M 202 (i + 2)), mv_I (M 202 (i + 1)), mv_R 0]) (M1 := M) rfl ?_
  rw [show mv_w ((i : Int) + 3) = ((i + 3 : Nat) : Int) from by (rw [show mv_w ((i : Int) + 3) = (i : Int) + 3 from mv_w_id (by omega) (by omega)]) <;> omega]
  refine mv_go' 1 (pc' := if 0 ≤ ((i + 3 : Nat) : Int) ∧ ((i + 3 : Nat) : Int) < (M 203 0) then 1197 else mv_bad) (ls' := [mv_R 202, mv_R 0, mv_R 100, mv_I (i : Int)]) (st' := [mv_I (M 202 (i + 3)), mv_I (M 202 (i + 2)), mv_I (M 202 (i + 1)), mv_R 0]) (M1 := M) rfl ?_
  refine mv_tt' (by omega) ?_
  refine mv_call (st2 := [mv_I z]) rfl (Or.inl rfl) rfl rfl rfl (hz.hi) (by first | decide | omega) (fun Ma129 hm130 => ?_)
  have h1 := hm130
  have e203 : Ma129 203 0 = M 203 0 := congrFun (h1.2 203 (by decide)) 0
  refine mv_go' 5 (pc' := 1205) (ls' := [mv_R 202, mv_R 0, mv_R 100, mv_I (i : Int)]) (st' := [mv_I (mv_w ((i : Int) + 1)), mv_R 202, mv_R 100, mv_I z]) (M1 := Ma129) rfl ?_
  rw [show mv_w ((i : Int) + 1) = ((i + 1 : Nat) : Int) from by (rw [show mv_w ((i : Int) + 1) = (i : Int) + 1 from mv_w_id (by omega) (by omega)]) <;> omega]
  refine mv_go' 1 (pc' := if 0 ≤ ((i + 1 : Nat) : Int) ∧ ((i + 1 : Nat) : Int) < (Ma129 203 0) then 1206 else mv_bad) (ls' := [mv_R 202, mv_R 0, mv_R 100, mv_I (i : Int)]) (st' := [mv_I (Ma129 202 (i + 1)), mv_R 100, mv_I z]) (M1 := Ma129) rfl ?_
  refine mv_tt' (by omega) ?_
  rw [show Ma129 202 (i + 1) = M 202 (i + 1) from by exact congrFun (h1.2 202 (by decide)) (i + 1)]
  refine mv_go' 4 (pc' := 1210) (ls' := [mv_R 202, mv_R 0, mv_R 100, mv_I (i : Int)]) (st' := [mv_I (mv_w ((i : Int) + 2)), mv_R 202, mv_I (M 202 (i + 1)), mv_R 100, mv_I z]) (M1 := Ma129) rfl ?_
  rw [show mv_w ((i : Int) + 2) = ((i + 2 : Nat) : Int) from by (rw [show mv_w ((i : Int) + 2) = (i : Int) + 2 from mv_w_id (by omega) (by omega)]) <;> omega]
  refine mv_go' 1 (pc' := if 0 ≤ ((i + 2 : Nat) : Int) ∧ ((i + 2 : Nat) : Int) < (Ma129 203 0) then 1211 else mv_bad) (ls' := [mv_R 202, mv_R 0, mv_R 100, mv_I (i : Int)]) (st' := [mv_I (Ma129 202 (i + 2)), mv_I (M 202 (i + 1)), mv_R 100, mv_I z]) (M1 := Ma129) rfl ?_
  refine mv_tt' (by omega) ?_
  rw [show Ma129 202 (i + 2) = M 202 (i + 2) from by exact congrFun (h1.2 202 (by decide)) (i + 2)]
  refine mv_go' 4 (pc' := 1215) (ls' := [mv_R 202, mv_R 0, mv_R 100, mv_I (i : Int)]) (st' := [mv_I (mv_w ((i : Int) + 3)), mv_R 202, mv_I (M 202 (i + 2)), mv_I (M 202 (i + 1)), mv_R 100, mv_I z]) (M1 := Ma129) rfl ?_
  rw [show mv_w ((i : Int) + 3) = ((i + 3 : Nat) : Int) from by (rw [show mv_w ((i : Int) + 3) = (i : Int) + 3 from mv_w_id (by omega) (by omega)]) <;> omega]
  refine mv_go' 1 (pc' := if 0 ≤ ((i + 3 : Nat) : Int) ∧ ((i + 3 : Nat) : Int) < (Ma129 203 0) then 1216 else mv_bad) (ls' := [mv_R 202, mv_R 0, mv_R 100, mv_I (i : Int)]) (st' := [mv_I (Ma129 202 (i + 3)), mv_I (M 202 (i + 2)), mv_I (M 202 (i + 1)), mv_R 100, mv_I z]) (M1 := Ma129) rfl ?_
  refine mv_tt' (by omega) ?_
  rw [show Ma129 202 (i + 3) = M 202 (i + 3) from by exact congrFun (h1.2 202 (by decide)) (i + 3)]
  refine mv_call (st2 := [mv_I z, mv_I z]) rfl (Or.inl rfl) rfl rfl rfl ((h1.1).hi) (by first | decide | omega) (fun Ma131 hm132 => ?_)
  have h2 := hm132
  refine mv_go' 1 (pc' := if z = z then 1373 else 1222) (ls' := [mv_R 202, mv_R 0, mv_R 100, mv_I (i : Int)]) (st' := []) (M1 := Ma131) rfl ?_
  refine mv_tt' (by first | decide | omega) ?_
  exact e _ h2.1 (fun j hj => (h2.2 j hj).trans (h1.2 j hj))
theorem sp_law33 {i : Nat} {M : mv_M} {v : mv_V} {Q : mv_M → Prop} (hI : sp_Inv M) (hL : (i : Int) + 7 ≤ M 203 0) (hL2 : M 203 0 ≤ 3584) (hr : ∀ j, -2147483648 ≤ M 202 j ∧ M 202 j ≤ 2147483647) (e : ∀ M1, sp_Inv M1 → mv_hi M M1 → mv_Ru 61 208 1373 [mv_R 202, mv_R 0, mv_R 100, mv_I (i : Int)] [] M1 v Q) : mv_Ru 61 208 1224 [mv_R 202, mv_R 0, mv_R 100, mv_I (i : Int)] [] M v Q := by
  obtain ⟨z, hz⟩ := sp_k33 (M 202 (i + 1)) (M 202 (i + 2)) (M 202 (i + 3)) (M 202 (i + 4)) (M 202 (i + 5)) M hI
  refine mv_go' 5 (pc' := 1229) (ls' := [mv_R 202, mv_R 0, mv_R 100, mv_I (i : Int)]) (st' := [mv_I (mv_w ((i : Int) + 1)), mv_R 202, mv_R 0]) (M1 := M) rfl ?_
  rw [show mv_w ((i : Int) + 1) = ((i + 1 : Nat) : Int) from by (rw [show mv_w ((i : Int) + 1) = (i : Int) + 1 from mv_w_id (by omega) (by omega)]) <;> omega]
  refine mv_go' 1 (pc' := if 0 ≤ ((i + 1 : Nat) : Int) ∧ ((i + 1 : Nat) : Int) < (M 203 0) then 1230 else mv_bad) (ls' := [mv_R 202, mv_R 0, mv_R 100, mv_I (i : Int)]) (st' := [mv_I (M 202 (i + 1)), mv_R 0]) (M1 := M) rfl ?_
  refine mv_tt' (by omega) ?_
  refine mv_go' 4 (pc' := 1234) (ls' := [mv_R 202, mv_R 0, mv_R 100, mv_I (i : Int)]) (st' := [mv_I (mv_w ((i : Int) + 2)), mv_R 202, mv_I (M 202 (i + 1)), mv_R 0]) (M1 := M) rfl ?_
  rw [show mv_w ((i : Int) + 2) = ((i + 2 : Nat) : Int) from by (rw [show mv_w ((i : Int) + 2) = (i : Int) + 2 from mv_w_id (by omega) (by omega)]) <;> omega]
  refine mv_go' 1 (pc' := if 0 ≤ ((i + 2 : Nat) : Int) ∧ ((i + 2 : Nat) : Int) < (M 203 0) then 1235 else mv_bad) (ls' := [mv_R 202, mv_R 0, mv_R 100, mv_I (i : Int)]) (st' := [mv_I (M 202 (i + 2)), mv_I (M 202 (i + 1)), mv_R 0]) (M1 := M) rfl ?_
  refine mv_tt' (by omega) ?_
  refine mv_go' 4 (pc' := 1239) (ls' := [mv_R 202, mv_R 0, mv_R 100, mv_I (i : Int)]) (st' := [mv_I (mv_w ((i : Int) + 3)), mv_R 202, mv_I (M 202 (i + 2)), mv_I (M 202 (i + 1)), mv_R 0]) (M1 := M) rfl ?_
  rw [show mv_w ((i : Int) + 3) = ((i + 3 : Nat) : Int) from by (rw [show mv_w ((i : Int) + 3) = (i : Int) + 3 from mv_w_id (by omega) (by omega)]) <;> omega]
  refine mv_go' 1 (pc' := if 0 ≤ ((i + 3 : Nat) : Int) ∧ ((i + 3 : Nat) : Int) < (M 203 0) then 1240 else mv_bad) (ls' := [mv_R 202, mv_R 0, mv_R 100, mv_I (i : Int)]) (st' := [mv_I (M 202 (i + 3)), mv_I (M 202 (i + 2)), mv_I (M 202 (i + 1)), mv_R 0]) (M1 := M) rfl ?_
  refine mv_tt' (by omega) ?_
  refine mv_go' 4 (pc' := 1244) (ls' := [mv_R 202, mv_R 0, mv_R 100, mv_I (i : Int)]) (st' := [mv_I (mv_w ((i : Int) + 4)), mv_R 202, mv_I (M 202 (i + 3)), mv_I (M 202 (i + 2)), mv_I (M 202 (i + 1)), mv_R 0]) (M1 := M) rfl ?_
  rw [show mv_w ((i : Int) + 4) = ((i + 4 : Nat) : Int) from by (rw [show mv_w ((i : Int) + 4) = (i : Int) + 4 from mv_w_id (by omega) (by omega)]) <;> omega]
  refine mv_go' 1 (pc' := if 0 ≤ ((i + 4 : Nat) : Int) ∧ ((i + 4 : Nat) : Int) < (M 203 0) then 1245 else mv_bad) (ls' := [mv_R 202, mv_R 0, mv_R 100, mv_I (i : Int)]) (st' := [mv_I (M 202 (i + 4)), mv_I (M 202 (i + 3)), mv_I (M 202 (i + 2)), mv_I (M 202 (i + 1)), mv_R 0]) (M1 := M) rfl ?_
  refine mv_tt' (by omega) ?_
  refine mv_go' 4 (pc' := 1249) (ls' := [mv_R 202, mv_R 0, mv_R 100, mv_I (i : Int)]) (st' := [mv_I (mv_w ((i : Int) + 5)), mv_R 202, mv_I (M 202 (i + 4)), mv_I (M 202 (i + 3)), mv_I (M 202 (i + 2)), mv_I (M 202 (i + 1)), mv_R 0]) (M1 := M) rfl ?_
  rw [show mv_w ((i : Int) + 5) = ((i + 5 : Nat) : Int) from by (rw [show mv_w ((i : Int) + 5) = (i : Int) + 5 from mv_w_id (by omega) (by omega)]) <;> omega]
  refine mv_go' 1 (pc' := if 0 ≤ ((i + 5 : Nat) : Int) ∧ ((i + 5 : Nat) : Int) < (M 203 0) then 1250 else mv_bad) (ls' := [mv_R 202, mv_R 0, mv_R 100, mv_I (i : Int)]) (st' := [mv_I (M 202 (i + 5)), mv_I (M 202 (i + 4)), mv_I (M 202 (i + 3)), mv_I (M 202 (i + 2)), mv_I (M 202 (i + 1)), mv_R 0]) (M1 := M) rfl ?_
  refine mv_tt' (by omega) ?_
  refine mv_call (st2 := [mv_I z]) rfl (Or.inl rfl) rfl rfl rfl (hz.hi) (by first | decide | omega) (fun Ma133 hm134 => ?_)
  have h1 := hm134
  have e203 : Ma133 203 0 = M 203 0 := congrFun (h1.2 203 (by decide)) 0
  refine mv_go' 5 (pc' := 1258) (ls' := [mv_R 202, mv_R 0, mv_R 100, mv_I (i : Int)]) (st' := [mv_I (mv_w ((i : Int) + 1)), mv_R 202, mv_R 100, mv_I z]) (M1 := Ma133) rfl ?_
  rw [show mv_w ((i : Int) + 1) = ((i + 1 : Nat) : Int) from by (rw [show mv_w ((i : Int) + 1) = (i : Int) + 1 from mv_w_id (by omega) (by omega)]) <;> omega]
  refine mv_go' 1 (pc' := if 0 ≤ ((i + 1 : Nat) : Int) ∧ ((i + 1 : Nat) : Int) < (Ma133 203 0) then 1259 else mv_bad) (ls' := [mv_R 202, mv_R 0, mv_R 100, mv_I (i : Int)]) (st' := [mv_I (Ma133 202 (i + 1)), mv_R 100, mv_I z]) (M1 := Ma133) rfl ?_
  refine mv_tt' (by omega) ?_
  rw [show Ma133 202 (i + 1) = M 202 (i + 1) from by exact congrFun (h1.2 202 (by decide)) (i + 1)]
  refine mv_go' 4 (pc' := 1263) (ls' := [mv_R 202, mv_R 0, mv_R 100, mv_I (i : Int)]) (st' := [mv_I (mv_w ((i : Int) + 2)), mv_R 202, mv_I (M 202 (i + 1)), mv_R 100, mv_I z]) (M1 := Ma133) rfl ?_
  rw [show mv_w ((i : Int) + 2) = ((i + 2 : Nat) : Int) from by (rw [show mv_w ((i : Int) + 2) = (i : Int) + 2 from mv_w_id (by omega) (by omega)]) <;> omega]
  refine mv_go' 1 (pc' := if 0 ≤ ((i + 2 : Nat) : Int) ∧ ((i + 2 : Nat) : Int) < (Ma133 203 0) then 1264 else mv_bad) (ls' := [mv_R 202, mv_R 0, mv_R 100, mv_I (i : Int)]) (st' := [mv_I (Ma133 202 (i + 2)), mv_I (M 202 (i + 1)), mv_R 100, mv_I z]) (M1 := Ma133) rfl ?_
  refine mv_tt' (by omega) ?_
  rw [show Ma133 202 (i + 2) = M 202 (i + 2) from by exact congrFun (h1.2 202 (by decide)) (i + 2)]
  refine mv_go' 4 (pc' := 1268) (ls' := [mv_R 202, mv_R 0, mv_R 100, mv_I (i : Int)]) (st' := [mv_I (mv_w ((i : Int) + 3)), mv_R 202, mv_I (M 202 (i + 2)), mv_I (M 202 (i + 1)), mv_R 100, mv_I z]) (M1 := Ma133) rfl ?_
  rw [show mv_w ((i : Int) + 3) = ((i + 3 : Nat) : Int) from by (rw [show mv_w ((i : Int) + 3) = (i : Int) + 3 from mv_w_id (by omega) (by omega)]) <;> omega]
  refine mv_go' 1 (pc' := if 0 ≤ ((i + 3 : Nat) : Int) ∧ ((i + 3 : Nat) : Int) < (Ma133 203 0) then 1269 else mv_bad) (ls' := [mv_R 202, mv_R 0, mv_R 100, mv_I (i : Int)]) (st' := [mv_I (Ma133 202 (i + 3)), mv_I (M 202 (i + 2)), mv_I (M 202 (i + 1)), mv_R 100, mv_I z]) (M1 := Ma133) rfl ?_
  refine mv_tt' (by omega) ?_
  rw [show Ma133 202 (i + 3) = M 202 (i + 3) from by exact congrFun (h1.2 202 (by decide)) (i + 3)]
  refine mv_go' 4 (pc' := 1273) (ls' := [mv_R 202, mv_R 0, mv_R 100, mv_I (i : Int)]) (st' := [mv_I (mv_w ((i : Int) + 4)), mv_R 202, mv_I (M 202 (i + 3)), mv_I (M 202 (i + 2)), mv_I (M 202 (i + 1)), mv_R 100, mv_I z]) (M1 := Ma133) rfl ?_
  rw [show mv_w ((i : Int) + 4) = ((i + 4 : Nat) : Int) from by (rw [show mv_w ((i : Int) + 4) = (i : Int) + 4 from mv_w_id (by omega) (by omega)]) <;> omega]
  refine mv_go' 1 (pc' := if 0 ≤ ((i + 4 : Nat) : Int) ∧ ((i + 4 : Nat) : Int) < (Ma133 203 0) then 1274 else mv_bad) (ls' := [mv_R 202, mv_R 0, mv_R 100, mv_I (i : Int)]) (st' := [mv_I (Ma133 202 (i + 4)), mv_I (M 202 (i + 3)), mv_I (M 202 (i + 2)), mv_I (M 202 (i + 1)), mv_R 100, mv_I z]) (M1 := Ma133) rfl ?_
  refine mv_tt' (by omega) ?_
  rw [show Ma133 202 (i + 4) = M 202 (i + 4) from by exact congrFun (h1.2 202 (by decide)) (i + 4)]
  refine mv_go' 4 (pc' := 1278) (ls' := [mv_R 202, mv_R 0, mv_R 100, mv_I (i : Int)]) (st' := [mv_I (mv_w ((i : Int) + 5)), mv_R 202, mv_I (M 202 (i + 4)), mv_I (M 202 (i + 3)), mv_I (M 202 (i + 2)), mv_I (M 202 (i + 1)), mv_R 100, mv_I z]) (M1 := Ma133) rfl ?_
  rw [show mv_w ((i : Int) + 5) = ((i + 5 : Nat) : Int) from by (rw [show mv_w ((i : Int) + 5) = (i : Int) + 5 from mv_w_id (by omega) (by omega)]) <;> omega]
  refine mv_go' 1 (pc' := if 0 ≤ ((i + 5 : Nat) : Int) ∧ ((i + 5 : Nat) : Int) < (Ma133 203 0) then 1279 else mv_bad) (ls' := [mv_R 202, mv_R 0, mv_R 100, mv_I (i : Int)]) (st' := [mv_I (Ma133 202 (i + 5)), mv_I (M 202 (i + 4)), mv_I (M 202 (i + 3)), mv_I (M 202 (i + 2)), mv_I (M 202 (i + 1)), mv_R 100, mv_I z]) (M1 := Ma133) rfl ?_
  refine mv_tt' (by omega) ?_
  rw [show Ma133 202 (i + 5) = M 202 (i + 5) from by exact congrFun (h1.2 202 (by decide)) (i + 5)]
  refine mv_call (st2 := [mv_I z, mv_I z]) rfl (Or.inl rfl) rfl rfl rfl ((h1.1).hi) (by first | decide | omega) (fun Ma135 hm136 => ?_)
  have h2 := hm136
  refine mv_go' 1 (pc' := if z = z then 1373 else 1285) (ls' := [mv_R 202, mv_R 0, mv_R 100, mv_I (i : Int)]) (st' := []) (M1 := Ma135) rfl ?_
  refine mv_tt' (by first | decide | omega) ?_
  exact e _ h2.1 (fun j hj => (h2.2 j hj).trans (h1.2 j hj))
theorem sp_law34 {i : Nat} {M : mv_M} {v : mv_V} {Q : mv_M → Prop} (hI : sp_Inv M) (hL : (i : Int) + 7 ≤ M 203 0) (hL2 : M 203 0 ≤ 3584) (hr : ∀ j, -2147483648 ≤ M 202 j ∧ M 202 j ≤ 2147483647) (e : ∀ M1, sp_Inv M1 → mv_hi M M1 → mv_Ru 61 208 1373 [mv_R 202, mv_R 0, mv_R 100, mv_I (i : Int)] [] M1 v Q) : mv_Ru 61 208 1287 [mv_R 202, mv_R 0, mv_R 100, mv_I (i : Int)] [] M v Q := by
  obtain ⟨z, hz⟩ := sp_k34 (M 202 (i + 1)) (M 202 (i + 2)) (M 202 (i + 3)) (M 202 (i + 4)) (by have := (hr (i + 3)).2; omega) M hI
  refine mv_go' 5 (pc' := 1292) (ls' := [mv_R 202, mv_R 0, mv_R 100, mv_I (i : Int)]) (st' := [mv_I (mv_w ((i : Int) + 1)), mv_R 202, mv_R 0]) (M1 := M) rfl ?_
  rw [show mv_w ((i : Int) + 1) = ((i + 1 : Nat) : Int) from by (rw [show mv_w ((i : Int) + 1) = (i : Int) + 1 from mv_w_id (by omega) (by omega)]) <;> omega]
  refine mv_go' 1 (pc' := if 0 ≤ ((i + 1 : Nat) : Int) ∧ ((i + 1 : Nat) : Int) < (M 203 0) then 1293 else mv_bad) (ls' := [mv_R 202, mv_R 0, mv_R 100, mv_I (i : Int)]) (st' := [mv_I (M 202 (i + 1)), mv_R 0]) (M1 := M) rfl ?_
  refine mv_tt' (by omega) ?_
  refine mv_go' 4 (pc' := 1297) (ls' := [mv_R 202, mv_R 0, mv_R 100, mv_I (i : Int)]) (st' := [mv_I (mv_w ((i : Int) + 2)), mv_R 202, mv_I (M 202 (i + 1)), mv_R 0]) (M1 := M) rfl ?_
  rw [show mv_w ((i : Int) + 2) = ((i + 2 : Nat) : Int) from by (rw [show mv_w ((i : Int) + 2) = (i : Int) + 2 from mv_w_id (by omega) (by omega)]) <;> omega]
  refine mv_go' 1 (pc' := if 0 ≤ ((i + 2 : Nat) : Int) ∧ ((i + 2 : Nat) : Int) < (M 203 0) then 1298 else mv_bad) (ls' := [mv_R 202, mv_R 0, mv_R 100, mv_I (i : Int)]) (st' := [mv_I (M 202 (i + 2)), mv_I (M 202 (i + 1)), mv_R 0]) (M1 := M) rfl ?_
  refine mv_tt' (by omega) ?_
  refine mv_go' 4 (pc' := 1302) (ls' := [mv_R 202, mv_R 0, mv_R 100, mv_I (i : Int)]) (st' := [mv_I (mv_w ((i : Int) + 3)), mv_R 202, mv_I (M 202 (i + 2)), mv_I (M 202 (i + 1)), mv_R 0]) (M1 := M) rfl ?_
  rw [show mv_w ((i : Int) + 3) = ((i + 3 : Nat) : Int) from by (rw [show mv_w ((i : Int) + 3) = (i : Int) + 3 from mv_w_id (by omega) (by omega)]) <;> omega]
  refine mv_go' 1 (pc' := if 0 ≤ ((i + 3 : Nat) : Int) ∧ ((i + 3 : Nat) : Int) < (M 203 0) then 1303 else mv_bad) (ls' := [mv_R 202, mv_R 0, mv_R 100, mv_I (i : Int)]) (st' := [mv_I (M 202 (i + 3)), mv_I (M 202 (i + 2)), mv_I (M 202 (i + 1)), mv_R 0]) (M1 := M) rfl ?_
  refine mv_tt' (by omega) ?_
  refine mv_go' 4 (pc' := 1307) (ls' := [mv_R 202, mv_R 0, mv_R 100, mv_I (i : Int)]) (st' := [mv_I (mv_w ((i : Int) + 4)), mv_R 202, mv_I (M 202 (i + 3)), mv_I (M 202 (i + 2)), mv_I (M 202 (i + 1)), mv_R 0]) (M1 := M) rfl ?_
  rw [show mv_w ((i : Int) + 4) = ((i + 4 : Nat) : Int) from by (rw [show mv_w ((i : Int) + 4) = (i : Int) + 4 from mv_w_id (by omega) (by omega)]) <;> omega]
  refine mv_go' 1 (pc' := if 0 ≤ ((i + 4 : Nat) : Int) ∧ ((i + 4 : Nat) : Int) < (M 203 0) then 1308 else mv_bad) (ls' := [mv_R 202, mv_R 0, mv_R 100, mv_I (i : Int)]) (st' := [mv_I (M 202 (i + 4)), mv_I (M 202 (i + 3)), mv_I (M 202 (i + 2)), mv_I (M 202 (i + 1)), mv_R 0]) (M1 := M) rfl ?_
  refine mv_tt' (by omega) ?_
  refine mv_call (st2 := [mv_I z]) rfl (Or.inl rfl) rfl rfl rfl (hz.hi) (by first | decide | omega) (fun Ma137 hm138 => ?_)
  have h1 := hm138
  have e203 : Ma137 203 0 = M 203 0 := congrFun (h1.2 203 (by decide)) 0
  refine mv_go' 5 (pc' := 1316) (ls' := [mv_R 202, mv_R 0, mv_R 100, mv_I (i : Int)]) (st' := [mv_I (mv_w ((i : Int) + 1)), mv_R 202, mv_R 100, mv_I z]) (M1 := Ma137) rfl ?_
  rw [show mv_w ((i : Int) + 1) = ((i + 1 : Nat) : Int) from by (rw [show mv_w ((i : Int) + 1) = (i : Int) + 1 from mv_w_id (by omega) (by omega)]) <;> omega]
  refine mv_go' 1 (pc' := if 0 ≤ ((i + 1 : Nat) : Int) ∧ ((i + 1 : Nat) : Int) < (Ma137 203 0) then 1317 else mv_bad) (ls' := [mv_R 202, mv_R 0, mv_R 100, mv_I (i : Int)]) (st' := [mv_I (Ma137 202 (i + 1)), mv_R 100, mv_I z]) (M1 := Ma137) rfl ?_
  refine mv_tt' (by omega) ?_
  rw [show Ma137 202 (i + 1) = M 202 (i + 1) from by exact congrFun (h1.2 202 (by decide)) (i + 1)]
  refine mv_go' 4 (pc' := 1321) (ls' := [mv_R 202, mv_R 0, mv_R 100, mv_I (i : Int)]) (st' := [mv_I (mv_w ((i : Int) + 2)), mv_R 202, mv_I (M 202 (i + 1)), mv_R 100, mv_I z]) (M1 := Ma137) rfl ?_
  rw [show mv_w ((i : Int) + 2) = ((i + 2 : Nat) : Int) from by (rw [show mv_w ((i : Int) + 2) = (i : Int) + 2 from mv_w_id (by omega) (by omega)]) <;> omega]
  refine mv_go' 1 (pc' := if 0 ≤ ((i + 2 : Nat) : Int) ∧ ((i + 2 : Nat) : Int) < (Ma137 203 0) then 1322 else mv_bad) (ls' := [mv_R 202, mv_R 0, mv_R 100, mv_I (i : Int)]) (st' := [mv_I (Ma137 202 (i + 2)), mv_I (M 202 (i + 1)), mv_R 100, mv_I z]) (M1 := Ma137) rfl ?_
  refine mv_tt' (by omega) ?_
  rw [show Ma137 202 (i + 2) = M 202 (i + 2) from by exact congrFun (h1.2 202 (by decide)) (i + 2)]
  refine mv_go' 4 (pc' := 1326) (ls' := [mv_R 202, mv_R 0, mv_R 100, mv_I (i : Int)]) (st' := [mv_I (mv_w ((i : Int) + 3)), mv_R 202, mv_I (M 202 (i + 2)), mv_I (M 202 (i + 1)), mv_R 100, mv_I z]) (M1 := Ma137) rfl ?_
  rw [show mv_w ((i : Int) + 3) = ((i + 3 : Nat) : Int) from by (rw [show mv_w ((i : Int) + 3) = (i : Int) + 3 from mv_w_id (by omega) (by omega)]) <;> omega]
  refine mv_go' 1 (pc' := if 0 ≤ ((i + 3 : Nat) : Int) ∧ ((i + 3 : Nat) : Int) < (Ma137 203 0) then 1327 else mv_bad) (ls' := [mv_R 202, mv_R 0, mv_R 100, mv_I (i : Int)]) (st' := [mv_I (Ma137 202 (i + 3)), mv_I (M 202 (i + 2)), mv_I (M 202 (i + 1)), mv_R 100, mv_I z]) (M1 := Ma137) rfl ?_
  refine mv_tt' (by omega) ?_
  rw [show Ma137 202 (i + 3) = M 202 (i + 3) from by exact congrFun (h1.2 202 (by decide)) (i + 3)]
  refine mv_go' 4 (pc' := 1331) (ls' := [mv_R 202, mv_R 0, mv_R 100, mv_I (i : Int)]) (st' := [mv_I (mv_w ((i : Int) + 4)), mv_R 202, mv_I (M 202 (i + 3)), mv_I (M 202 (i + 2)), mv_I (M 202 (i + 1)), mv_R 100, mv_I z]) (M1 := Ma137) rfl ?_
  rw [show mv_w ((i : Int) + 4) = ((i + 4 : Nat) : Int) from by (rw [show mv_w ((i : Int) + 4) = (i : Int) + 4 from mv_w_id (by omega) (by omega)]) <;> omega]
  refine mv_go' 1 (pc' := if 0 ≤ ((i + 4 : Nat) : Int) ∧ ((i + 4 : Nat) : Int) < (Ma137 203 0) then 1332 else mv_bad) (ls' := [mv_R 202, mv_R 0, mv_R 100, mv_I (i : Int)]) (st' := [mv_I (Ma137 202 (i + 4)), mv_I (M 202 (i + 3)), mv_I (M 202 (i + 2)), mv_I (M 202 (i + 1)), mv_R 100, mv_I z]) (M1 := Ma137) rfl ?_
  refine mv_tt' (by omega) ?_
  rw [show Ma137 202 (i + 4) = M 202 (i + 4) from by exact congrFun (h1.2 202 (by decide)) (i + 4)]
  refine mv_call (st2 := [mv_I z, mv_I z]) rfl (Or.inl rfl) rfl rfl rfl ((h1.1).hi) (by first | decide | omega) (fun Ma139 hm140 => ?_)
  have h2 := hm140
  refine mv_go' 1 (pc' := if z = z then 1373 else 1338) (ls' := [mv_R 202, mv_R 0, mv_R 100, mv_I (i : Int)]) (st' := []) (M1 := Ma139) rfl ?_
  refine mv_tt' (by first | decide | omega) ?_
  exact e _ h2.1 (fun j hj => (h2.2 j hj).trans (h1.2 j hj))
theorem sp_law35 {i : Nat} {M : mv_M} {v : mv_V} {Q : mv_M → Prop} (hI : sp_Inv M) (hL : (i : Int) + 7 ≤ M 203 0) (hL2 : M 203 0 ≤ 3584) (hr : ∀ j, -2147483648 ≤ M 202 j ∧ M 202 j ≤ 2147483647) (e : ∀ M1, sp_Inv M1 → mv_hi M M1 → mv_Ru 61 208 1373 [mv_R 202, mv_R 0, mv_R 100, mv_I (i : Int)] [] M1 v Q) : mv_Ru 61 208 1340 [mv_R 202, mv_R 0, mv_R 100, mv_I (i : Int)] [] M v Q := by
  obtain ⟨z, hz⟩ := sp_k35 (M 202 (i + 1)) (M 202 (i + 2)) M hI
  refine mv_go' 5 (pc' := 1345) (ls' := [mv_R 202, mv_R 0, mv_R 100, mv_I (i : Int)]) (st' := [mv_I (mv_w ((i : Int) + 1)), mv_R 202, mv_R 0]) (M1 := M) rfl ?_
  rw [show mv_w ((i : Int) + 1) = ((i + 1 : Nat) : Int) from by (rw [show mv_w ((i : Int) + 1) = (i : Int) + 1 from mv_w_id (by omega) (by omega)]) <;> omega]
  refine mv_go' 1 (pc' := if 0 ≤ ((i + 1 : Nat) : Int) ∧ ((i + 1 : Nat) : Int) < (M 203 0) then 1346 else mv_bad) (ls' := [mv_R 202, mv_R 0, mv_R 100, mv_I (i : Int)]) (st' := [mv_I (M 202 (i + 1)), mv_R 0]) (M1 := M) rfl ?_
  refine mv_tt' (by omega) ?_
  refine mv_go' 4 (pc' := 1350) (ls' := [mv_R 202, mv_R 0, mv_R 100, mv_I (i : Int)]) (st' := [mv_I (mv_w ((i : Int) + 2)), mv_R 202, mv_I (M 202 (i + 1)), mv_R 0]) (M1 := M) rfl ?_
  rw [show mv_w ((i : Int) + 2) = ((i + 2 : Nat) : Int) from by (rw [show mv_w ((i : Int) + 2) = (i : Int) + 2 from mv_w_id (by omega) (by omega)]) <;> omega]
  refine mv_go' 1 (pc' := if 0 ≤ ((i + 2 : Nat) : Int) ∧ ((i + 2 : Nat) : Int) < (M 203 0) then 1351 else mv_bad) (ls' := [mv_R 202, mv_R 0, mv_R 100, mv_I (i : Int)]) (st' := [mv_I (M 202 (i + 2)), mv_I (M 202 (i + 1)), mv_R 0]) (M1 := M) rfl ?_
  refine mv_tt' (by omega) ?_
  refine mv_call (st2 := [mv_I z]) rfl (Or.inl rfl) rfl rfl rfl (hz.hi) (by first | decide | omega) (fun Ma141 hm142 => ?_)
  have h1 := hm142
  have e203 : Ma141 203 0 = M 203 0 := congrFun (h1.2 203 (by decide)) 0
  refine mv_go' 5 (pc' := 1359) (ls' := [mv_R 202, mv_R 0, mv_R 100, mv_I (i : Int)]) (st' := [mv_I (mv_w ((i : Int) + 1)), mv_R 202, mv_R 100, mv_I z]) (M1 := Ma141) rfl ?_
  rw [show mv_w ((i : Int) + 1) = ((i + 1 : Nat) : Int) from by (rw [show mv_w ((i : Int) + 1) = (i : Int) + 1 from mv_w_id (by omega) (by omega)]) <;> omega]
  refine mv_go' 1 (pc' := if 0 ≤ ((i + 1 : Nat) : Int) ∧ ((i + 1 : Nat) : Int) < (Ma141 203 0) then 1360 else mv_bad) (ls' := [mv_R 202, mv_R 0, mv_R 100, mv_I (i : Int)]) (st' := [mv_I (Ma141 202 (i + 1)), mv_R 100, mv_I z]) (M1 := Ma141) rfl ?_
  refine mv_tt' (by omega) ?_
  rw [show Ma141 202 (i + 1) = M 202 (i + 1) from by exact congrFun (h1.2 202 (by decide)) (i + 1)]
  refine mv_go' 4 (pc' := 1364) (ls' := [mv_R 202, mv_R 0, mv_R 100, mv_I (i : Int)]) (st' := [mv_I (mv_w ((i : Int) + 2)), mv_R 202, mv_I (M 202 (i + 1)), mv_R 100, mv_I z]) (M1 := Ma141) rfl ?_
  rw [show mv_w ((i : Int) + 2) = ((i + 2 : Nat) : Int) from by (rw [show mv_w ((i : Int) + 2) = (i : Int) + 2 from mv_w_id (by omega) (by omega)]) <;> omega]
  refine mv_go' 1 (pc' := if 0 ≤ ((i + 2 : Nat) : Int) ∧ ((i + 2 : Nat) : Int) < (Ma141 203 0) then 1365 else mv_bad) (ls' := [mv_R 202, mv_R 0, mv_R 100, mv_I (i : Int)]) (st' := [mv_I (Ma141 202 (i + 2)), mv_I (M 202 (i + 1)), mv_R 100, mv_I z]) (M1 := Ma141) rfl ?_
  refine mv_tt' (by omega) ?_
  rw [show Ma141 202 (i + 2) = M 202 (i + 2) from by exact congrFun (h1.2 202 (by decide)) (i + 2)]
  refine mv_call (st2 := [mv_I z, mv_I z]) rfl (Or.inl rfl) rfl rfl rfl ((h1.1).hi) (by first | decide | omega) (fun Ma143 hm144 => ?_)
  have h2 := hm144
  refine mv_go' 1 (pc' := if z = z then 1373 else 1371) (ls' := [mv_R 202, mv_R 0, mv_R 100, mv_I (i : Int)]) (st' := []) (M1 := Ma143) rfl ?_
  refine mv_tt' (by first | decide | omega) ?_
  exact e _ h2.1 (fun j hj => (h2.2 j hj).trans (h1.2 j hj))
/-! the law: its loop -/
theorem sp_law {L : Nat} {M0 : mv_M} (h203 : M0 203 0 = (L : Int)) (h3 : L ≤ 3584) (hr0 : ∀ j, -2147483648 ≤ M0 202 j ∧ M0 202 j ≤ 2147483647) : ∀ (r i : Nat) (M : mv_M), L ≤ i + r → i ≤ 3600 → sp_Inv M → mv_hi M0 M → mv_Ru 61 208 18 [mv_R 202, mv_R 0, mv_R 100, mv_I (i : Int)] [] M (mv_I 1) (fun _ => True) := by
  intro r
  induction r with
  | zero =>
    intro i M hr hi hI hh
    have e203 : M 203 0 = (L : Int) := (congrFun (hh 203 (by decide)) 0).trans h203
    refine mv_go' 6 (pc' := if (mv_w ((M 203 0) - 7)) < (i : Int) then 1379 else 27) (ls' := [mv_R 202, mv_R 0, mv_R 100, mv_I (i : Int)]) (st' := []) (M1 := M) rfl ?_
    rw [show mv_w ((M 203 0) - 7) = (M 203 0) - 7 from mv_w_id (by omega) (by omega)]
    refine mv_tt' (by omega) ?_
    refine mv_go' 1 (pc' := 1380) (ls' := [mv_R 202, mv_R 0, mv_R 100, mv_I (i : Int)]) (st' := [mv_I 1]) (M1 := M) rfl ?_
    exact mv_ret (fun n => rfl) trivial
  | succ r ih =>
    intro i M hr hi hI hh
    have e203 : M 203 0 = (L : Int) := (congrFun (hh 203 (by decide)) 0).trans h203
    by_cases c : i + 7 ≤ L
    · have hL : (i : Int) + 7 ≤ M 203 0 := by omega
      have hL2 : M 203 0 ≤ 3584 := by omega
      have hr1 : ∀ j, -2147483648 ≤ M 202 j ∧ M 202 j ≤ 2147483647 := fun j => by rw [hh 202 (by decide)]; exact hr0 j
      have go : ∀ M1, sp_Inv M1 → mv_hi M M1 → mv_Ru 61 208 1373 [mv_R 202, mv_R 0, mv_R 100, mv_I (i : Int)] [] M1 (mv_I 1) (fun _ => True) := fun M1 q1 q2 => by
        have ih2 := ih (i + 7) M1 (by omega) (by omega) q1 (fun j hj => (q2 j hj).trans (hh j hj))
        refine mv_go' 2 (pc' := 18) (ls' := [mv_R 202, mv_R 0, mv_R 100, mv_I (mv_w ((i : Int) + 7))]) (st' := []) (M1 := M1) rfl ?_
        rw [show mv_w ((i : Int) + 7) = ((i + 7 : Nat) : Int) from by (rw [show mv_w ((i : Int) + 7) = (i : Int) + 7 from mv_w_id (by omega) (by omega)]) <;> omega]
        exact ih2
      have hr := hr1
      refine mv_go' 6 (pc' := if (mv_w ((M 203 0) - 7)) < (i : Int) then 1379 else 27) (ls' := [mv_R 202, mv_R 0, mv_R 100, mv_I (i : Int)]) (st' := []) (M1 := M) rfl ?_
      rw [show mv_w ((M 203 0) - 7) = (M 203 0) - 7 from mv_w_id (by omega) (by omega)]
      refine mv_ff' (by omega) ?_
      refine mv_go' 3 (pc' := if 0 ≤ (i : Int) ∧ (i : Int) < (M 203 0) then 30 else mv_bad) (ls' := [mv_R 202, mv_R 0, mv_R 100, mv_I (i : Int)]) (st' := [mv_I (M 202 i)]) (M1 := M) rfl ?_
      refine mv_tt' (by omega) ?_
      refine mv_go' 3 (pc' := mv_swg [(0, 192), (1, 215), (2, 238), (3, 313), (4, 326), (5, 349), (6, 392), (7, 425), (8, 468), (9, 501), (10, 544), (11, 557), (12, 590), (13, 603), (14, 636), (15, 659), (16, 682), (17, 705), (18, 728), (19, 751), (20, 774), (21, 807), (22, 850), (23, 893), (24, 936), (25, 959), (26, 992), (27, 1025), (28, 1058), (29, 1112), (30, 1125), (31, 1138), (32, 1181), (33, 1224), (34, 1287), (35, 1340)] 1373 (mv_and (M 202 i) 63)) (ls' := [mv_R 202, mv_R 0, mv_R 100, mv_I (i : Int)]) (st' := []) (M1 := M) rfl ?_
      by_cases ha145 : (mv_and (M 202 i) 63) = 0
      · refine mv_pcq (pc2 := 192) (by rw [ha145]; rfl) ?_
        exact sp_law0 hI hL hL2 hr go
      by_cases ha146 : (mv_and (M 202 i) 63) = 1
      · refine mv_pcq (pc2 := 215) (by rw [ha146]; rfl) ?_
        exact sp_law1 hI hL hL2 hr go
      by_cases ha147 : (mv_and (M 202 i) 63) = 2
      · refine mv_pcq (pc2 := 238) (by rw [ha147]; rfl) ?_
        exact sp_law2 hI hL hL2 hr go
      by_cases ha148 : (mv_and (M 202 i) 63) = 3
      · refine mv_pcq (pc2 := 313) (by rw [ha148]; rfl) ?_
        exact sp_law3 hI hL hL2 hr go
      by_cases ha149 : (mv_and (M 202 i) 63) = 4
      · refine mv_pcq (pc2 := 326) (by rw [ha149]; rfl) ?_
        exact sp_law4 hI hL hL2 hr go
      by_cases ha150 : (mv_and (M 202 i) 63) = 5
      · refine mv_pcq (pc2 := 349) (by rw [ha150]; rfl) ?_
        exact sp_law5 hI hL hL2 hr go
      by_cases ha151 : (mv_and (M 202 i) 63) = 6
      · refine mv_pcq (pc2 := 392) (by rw [ha151]; rfl) ?_
        exact sp_law6 hI hL hL2 hr go
      by_cases ha152 : (mv_and (M 202 i) 63) = 7
      · refine mv_pcq (pc2 := 425) (by rw [ha152]; rfl) ?_
        exact sp_law7 hI hL hL2 hr go
      by_cases ha153 : (mv_and (M 202 i) 63) = 8
      · refine mv_pcq (pc2 := 468) (by rw [ha153]; rfl) ?_
        exact sp_law8 hI hL hL2 hr go
      by_cases ha154 : (mv_and (M 202 i) 63) = 9
      · refine mv_pcq (pc2 := 501) (by rw [ha154]; rfl) ?_
        exact sp_law9 hI hL hL2 hr go
      by_cases ha155 : (mv_and (M 202 i) 63) = 10
      · refine mv_pcq (pc2 := 544) (by rw [ha155]; rfl) ?_
        exact sp_law10 hI hL hL2 hr go
      by_cases ha156 : (mv_and (M 202 i) 63) = 11
      · refine mv_pcq (pc2 := 557) (by rw [ha156]; rfl) ?_
        exact sp_law11 hI hL hL2 hr go
      by_cases ha157 : (mv_and (M 202 i) 63) = 12
      · refine mv_pcq (pc2 := 590) (by rw [ha157]; rfl) ?_
        exact sp_law12 hI hL hL2 hr go
      by_cases ha158 : (mv_and (M 202 i) 63) = 13
      · refine mv_pcq (pc2 := 603) (by rw [ha158]; rfl) ?_
        exact sp_law13 hI hL hL2 hr go
      by_cases ha159 : (mv_and (M 202 i) 63) = 14
      · refine mv_pcq (pc2 := 636) (by rw [ha159]; rfl) ?_
        exact sp_law14 hI hL hL2 hr go
      by_cases ha160 : (mv_and (M 202 i) 63) = 15
      · refine mv_pcq (pc2 := 659) (by rw [ha160]; rfl) ?_
        exact sp_law15 hI hL hL2 hr go
      by_cases ha161 : (mv_and (M 202 i) 63) = 16
      · refine mv_pcq (pc2 := 682) (by rw [ha161]; rfl) ?_
        exact sp_law16 hI hL hL2 hr go
      by_cases ha162 : (mv_and (M 202 i) 63) = 17
      · refine mv_pcq (pc2 := 705) (by rw [ha162]; rfl) ?_
        exact sp_law17 hI hL hL2 hr go
      by_cases ha163 : (mv_and (M 202 i) 63) = 18
      · refine mv_pcq (pc2 := 728) (by rw [ha163]; rfl) ?_
        exact sp_law18 hI hL hL2 hr go
      by_cases ha164 : (mv_and (M 202 i) 63) = 19
      · refine mv_pcq (pc2 := 751) (by rw [ha164]; rfl) ?_
        exact sp_law19 hI hL hL2 hr go
      by_cases ha165 : (mv_and (M 202 i) 63) = 20
      · refine mv_pcq (pc2 := 774) (by rw [ha165]; rfl) ?_
        exact sp_law20 hI hL hL2 hr go
      by_cases ha166 : (mv_and (M 202 i) 63) = 21
      · refine mv_pcq (pc2 := 807) (by rw [ha166]; rfl) ?_
        exact sp_law21 hI hL hL2 hr go
      by_cases ha167 : (mv_and (M 202 i) 63) = 22
      · refine mv_pcq (pc2 := 850) (by rw [ha167]; rfl) ?_
        exact sp_law22 hI hL hL2 hr go
      by_cases ha168 : (mv_and (M 202 i) 63) = 23
      · refine mv_pcq (pc2 := 893) (by rw [ha168]; rfl) ?_
        exact sp_law23 hI hL hL2 hr go
      by_cases ha169 : (mv_and (M 202 i) 63) = 24
      · refine mv_pcq (pc2 := 936) (by rw [ha169]; rfl) ?_
        exact sp_law24 hI hL hL2 hr go
      by_cases ha170 : (mv_and (M 202 i) 63) = 25
      · refine mv_pcq (pc2 := 959) (by rw [ha170]; rfl) ?_
        exact sp_law25 hI hL hL2 hr go
      by_cases ha171 : (mv_and (M 202 i) 63) = 26
      · refine mv_pcq (pc2 := 992) (by rw [ha171]; rfl) ?_
        exact sp_law26 hI hL hL2 hr go
      by_cases ha172 : (mv_and (M 202 i) 63) = 27
      · refine mv_pcq (pc2 := 1025) (by rw [ha172]; rfl) ?_
        exact sp_law27 hI hL hL2 hr go
      by_cases ha173 : (mv_and (M 202 i) 63) = 28
      · refine mv_pcq (pc2 := 1058) (by rw [ha173]; rfl) ?_
        exact sp_law28 hI hL hL2 hr go
      by_cases ha174 : (mv_and (M 202 i) 63) = 29
      · refine mv_pcq (pc2 := 1112) (by rw [ha174]; rfl) ?_
        exact sp_law29 hI hL hL2 hr go
      by_cases ha175 : (mv_and (M 202 i) 63) = 30
      · refine mv_pcq (pc2 := 1125) (by rw [ha175]; rfl) ?_
        exact sp_law30 hI hL hL2 hr go
      by_cases ha176 : (mv_and (M 202 i) 63) = 31
      · refine mv_pcq (pc2 := 1138) (by rw [ha176]; rfl) ?_
        exact sp_law31 hI hL hL2 hr go
      by_cases ha177 : (mv_and (M 202 i) 63) = 32
      · refine mv_pcq (pc2 := 1181) (by rw [ha177]; rfl) ?_
        exact sp_law32 hI hL hL2 hr go
      by_cases ha178 : (mv_and (M 202 i) 63) = 33
      · refine mv_pcq (pc2 := 1224) (by rw [ha178]; rfl) ?_
        exact sp_law33 hI hL hL2 hr go
      by_cases ha179 : (mv_and (M 202 i) 63) = 34
      · refine mv_pcq (pc2 := 1287) (by rw [ha179]; rfl) ?_
        exact sp_law34 hI hL hL2 hr go
      by_cases ha180 : (mv_and (M 202 i) 63) = 35
      · refine mv_pcq (pc2 := 1340) (by rw [ha180]; rfl) ?_
        exact sp_law35 hI hL hL2 hr go
      refine mv_pcq (pc2 := 1373) (by simp only [mv_swg, if_neg, ha145, ha146, ha147, ha148, ha149, ha150, ha151, ha152, ha153, ha154, ha155, ha156, ha157, ha158, ha159, ha160, ha161, ha162, ha163, ha164, ha165, ha166, ha167, ha168, ha169, ha170, ha171, ha172, ha173, ha174, ha175, ha176, ha177, ha178, ha179, ha180, not_false_eq_true]) ?_
      exact go _ hI (fun _ _ => rfl)
    · refine mv_go' 6 (pc' := if (mv_w ((M 203 0) - 7)) < (i : Int) then 1379 else 27) (ls' := [mv_R 202, mv_R 0, mv_R 100, mv_I (i : Int)]) (st' := []) (M1 := M) rfl ?_
      rw [show mv_w ((M 203 0) - 7) = (M 203 0) - 7 from mv_w_id (by omega) (by omega)]
      refine mv_tt' (by omega) ?_
      refine mv_go' 1 (pc' := 1380) (ls' := [mv_R 202, mv_R 0, mv_R 100, mv_I (i : Int)]) (st' := [mv_I 1]) (M1 := M) rfl ?_
      exact mv_ret (fun n => rfl) trivial
