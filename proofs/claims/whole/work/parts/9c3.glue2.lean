/-! the two worlds glued -/
theorem cn_B0 {j : Nat} (h : mv_B 0 j = true) : j < 100 ∨ 200 ≤ j := by
  have h : (Nat.blt j 100 || Nat.ble 200 j) = true := h
  rw [Bool.or_eq_true] at h
  exact h.imp (fun a => Nat.le_of_ble_eq_true a) (fun a => Nat.le_of_ble_eq_true a)
theorem cn_B1 {j : Nat} (h : mv_B 1 j = true) : 100 ≤ j := Nat.le_of_ble_eq_true h
theorem cn_idk_lt : (∀ i ∈ mv_idk 0, i < 100) ∧ ∀ i ∈ mv_idk 1, 100 ≤ i ∧ i < 200 := by decide +kernel
theorem cn_ws2 {ad : Nat → Nat} {cA : Nat → ClassId} {M : mv_M} : mv_ws 2 ad cA M = mv_ws 0 ad cA M ++ mv_ws 1 ad cA M := by
  unfold mv_ws
  rw [mv_idk2, List.map_append]
theorem cn_had0 {ad ad' ad0 : Nat → Nat} (h0 : ∀ i, 200 ≤ i → ad i = ad0 i) (h1 : ∀ i, 200 ≤ i → ad' i = ad0 i) (j : Nat) (h : mv_B 0 j = true) : cn_ga ad ad' j = ad j := by
  rcases cn_B0 h with c | c
  · exact cn_ga_lo c
  · rw [cn_ga_hi (by omega), h1 j c, h0 j c]
theorem cn_glueP {D : va_G} {H : Heap} {ad ad' ad0 : Nat → Nat} {cA cA' : Nat → ClassId} {M M' MG : mv_M} (h0 : ∀ i, 200 ≤ i → ad i = ad0 i) (h1 : ∀ i, 200 ≤ i → ad' i = ad0 i) (hn : mv_nM 0 M) (e0 : ∀ i, i < 100 → MG i = M i) (e1 : ∀ i, 100 ≤ i → i < 200 → MG i = M' i)
    (hP : va_P D mv_cl7 (mv_ws 0 ad cA M) H) (hP' : va_P D mv_cl7 (mv_ws 1 ad' cA' M') H) : va_P D mv_cl7 (mv_ws 2 (cn_ga ad ad') (cn_ga cA cA') MG) H := by
  rw [cn_ws2]
  refine va_P.app (cn_P_cg (fun j hj => cn_had0 h0 h1 j hj) (fun i hi => cn_ga_lo (cn_idk_lt.1 i hi)) (fun i hi => e0 i (cn_idk_lt.1 i hi)) hn.2 hP) (cn_P_cg (fun j hj => cn_ga_hi (cn_B1 hj)) (fun i hi => cn_ga_hi (cn_idk_lt.2 i hi).1) (fun i hi => e1 i (cn_idk_lt.2 i hi).1 (cn_idk_lt.2 i hi).2) (fun h => absurd h (by decide)) hP')
theorem cn_glueK {D : va_G} {s : State} {cA cA' : Nat → ClassId} (hK : va_K D mv_cl7 (mv_tys 0 cA) s) (hK' : va_K D mv_cl7 (mv_tys 1 cA') s) : va_K D mv_cl7 (mv_tys 2 (cn_ga cA cA')) s := by
  have e0 : mv_tys 0 (cn_ga cA cA') = mv_tys 0 cA := List.map_congr_left (fun i hi => by rw [cn_ga_lo ((by decide +kernel : ∀ i ∈ mv_aids.filter (mv_B 0), i < 100) i hi)])
  have e1 : mv_tys 1 (cn_ga cA cA') = mv_tys 1 cA' := List.map_congr_left (fun i hi => by rw [cn_ga_hi ((by decide +kernel : ∀ i ∈ mv_aids.filter (mv_B 1), 100 ≤ i) i hi)])
  have e2 : mv_tys 2 (cn_ga cA cA') = mv_tys 0 cA ++ mv_tys 1 cA' := by
    rw [← e0, ← e1]
    unfold mv_tys
    rw [mv_adk2, List.map_append]
  rw [e2]
  exact hK.app hK'
