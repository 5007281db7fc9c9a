/-! the law before its loop: what is made -/
theorem dn_law_0 : decode (mv_yb 208) 0 = .ok (.new 7, 3) := by decide +kernel
theorem dn_law_3 : decode (mv_yb 208) 3 = .ok (.dup, 1) := by decide +kernel
theorem dn_law_4 : decode (mv_yb 208) 4 = .ok (.invokespecial 9, 3) := by decide +kernel
theorem dn_law_7 : decode (mv_yb 208) 7 = .ok (.astore_n 1, 1) := by decide +kernel
theorem dn_law_8 : decode (mv_yb 208) 8 = .ok (.new 10, 3) := by decide +kernel
theorem dn_law_11 : decode (mv_yb 208) 11 = .ok (.dup, 1) := by decide +kernel
theorem dn_law_12 : decode (mv_yb 208) 12 = .ok (.invokespecial 12, 3) := by decide +kernel
theorem dn_law_15 : decode (mv_yb 208) 15 = .ok (.astore_n 2, 1) := by decide +kernel
theorem dn_law_16 : decode (mv_yb 208) 16 = .ok (.iconst 0, 1) := by decide +kernel
theorem dn_law_17 : decode (mv_yb 208) 17 = .ok (.istore_n 3, 1) := by decide +kernel
theorem cn_gl5 : GoodIn lw_tbl cn_ws5 := goodIn_p _ [119, 202, 129, 217, 162, 236] rfl (by decide +kernel)
set_option maxRecDepth 100000 in
theorem cn_gl6 : GoodIn lw_tbl cn_ws6 := goodIn_p _ [919] rfl (by decide +kernel)
theorem cn_df5 : ∀ j, j < 9 → defaultValue (tyX5 j) = vp_V [.null, .null, .null, .null, .null, .null, .null, .int (Int32.ofInt 0), .int (Int32.ofInt 0)] j := fun j hj => by
  rcases (show j = 0 ∨ j = 1 ∨ j = 2 ∨ j = 3 ∨ j = 4 ∨ j = 5 ∨ j = 6 ∨ j = 7 ∨ j = 8 by omega) with rfl | rfl | rfl | rfl | rfl | rfl | rfl | rfl | rfl <;> rfl
theorem cn_df6 : ∀ j, j < 42 → defaultValue (tyX6 j) = vp_V [.int (Int32.ofInt 0), .int (Int32.ofInt 0), .null, .null, .null, .null, .null, .int (Int32.ofInt 0), .null, .int (Int32.ofInt 0), .null, .null, .int (Int32.ofInt 0), .int (Int32.ofInt 0), .int (Int32.ofInt 0), .null, .null, .null, .null, .null, .null, .int (Int32.ofInt 0), .int (Int32.ofInt 0), .int (Int32.ofInt 0), .int (Int32.ofInt 0), .null, .null, .int (Int32.ofInt 0), .int (Int32.ofInt 0), .int (Int32.ofInt 0), .null, .null, .null, .null, .null, .null, .int (Int32.ofInt 0), .int (Int32.ofInt 0), .int (Int32.ofInt 0), .int (Int32.ofInt 0), .null, .null] j := fun j hj => by
  rcases (show j = 0 ∨ j = 1 ∨ j = 2 ∨ j = 3 ∨ j = 4 ∨ j = 5 ∨ j = 6 ∨ j = 7 ∨ j = 8 ∨ j = 9 ∨ j = 10 ∨ j = 11 ∨ j = 12 ∨ j = 13 ∨ j = 14 ∨ j = 15 ∨ j = 16 ∨ j = 17 ∨ j = 18 ∨ j = 19 ∨ j = 20 ∨ j = 21 ∨ j = 22 ∨ j = 23 ∨ j = 24 ∨ j = 25 ∨ j = 26 ∨ j = 27 ∨ j = 28 ∨ j = 29 ∨ j = 30 ∨ j = 31 ∨ j = 32 ∨ j = 33 ∨ j = 34 ∨ j = 35 ∨ j = 36 ∨ j = 37 ∨ j = 38 ∨ j = 39 ∨ j = 40 ∨ j = 41 by omega) with rfl | rfl | rfl | rfl | rfl | rfl | rfl | rfl | rfl | rfl | rfl | rfl | rfl | rfl | rfl | rfl | rfl | rfl | rfl | rfl | rfl | rfl | rfl | rfl | rfl | rfl | rfl | rfl | rfl | rfl | rfl | rfl | rfl | rfl | rfl | rfl | rfl | rfl | rfl | rfl | rfl | rfl <;> rfl
