/-! Ward.suits, Ward.likes -/
theorem sp_csuits_30 {V M : mv_M} {P : Nat → Nat → List Int} {n : Int} {c u : Nat} (hV : sp_c 30 M V) (ho : sp_ok V) (hl : V 0 11 < n) (hn : n ≤ 6) (hP : sp_cts M P n) (hc : c < 6) (hu : (u : Int) < V 0 9) :
    mv_Ru 4 50 0 [mv_R 30, mv_I (c : Int), mv_I (u : Int), mv_U, mv_U] [] M (mv_I (sp_suits V P c u)) (fun M1 => mv_ag [36, 37] M M1) := by
  have hS : ∀ i, 10 ≤ i → i < 28 → i ∉ [36, 37] := fun i h1 h2 => by simp; omega
  have b0 := sp_sa_b P ho c hu 0
  have b1 := sp_sa_b P ho c hu 1
  have b2 := sp_sa_b P ho c hu 2
  have b3 := sp_sa_b P ho c hu 3
  refine mv_go' 4 (pc' := 5) (ls' := [mv_R 30, mv_I (c : Int), mv_I (u : Int), mv_I 0, mv_I 0]) (st' := []) (M1 := M) rfl ?_
  refine mv_go' 3 (pc' := if 0 < 4 then 11 else 28) (ls' := [mv_R 30, mv_I (c : Int), mv_I (u : Int), mv_I 0, mv_I 0]) (st' := []) (M1 := M) rfl ?_
  refine mv_tt' (by decide) ?_
  refine mv_go' 5 (pc' := 17) (ls' := [mv_R 30, mv_I (c : Int), mv_I (u : Int), mv_I 0, mv_I 0]) (st' := [mv_I 0, mv_I (u : Int), mv_I (c : Int), mv_R 30, mv_I 0]) (M1 := M) rfl ?_
  refine mv_call (st2 := [mv_I (sp_sa V P c u 0), mv_I 0]) rfl (Or.inl rfl) rfl rfl rfl (sp_csa_30 (k := 0) hV ho hl hP hc hu (by decide)) (by first | decide | omega) (fun M1 h1 => ?_)
  have hV1 := sp_c_ag hV h1 (by decide)
  have hP1 := sp_cts_ag hP h1 hn hS
  refine mv_go' 4 (pc' := 5) (ls' := [mv_R 30, mv_I (c : Int), mv_I (u : Int), mv_I (mv_w (0 + (sp_sa V P c u 0))), mv_I (mv_w (0 + 1))]) (st' := []) (M1 := M1) rfl ?_
  rw [show mv_w (0 + 1) = 1 from by (rw [show mv_w (0 + 1) = 0 + 1 from mv_w_id (by omega) (by omega)]) <;> omega]
  rw [show mv_w (0 + (sp_sa V P c u 0)) = 0 + (sp_sa V P c u 0) from mv_w_id (by omega) (by omega)]
  refine mv_go' 3 (pc' := if 1 < 4 then 11 else 28) (ls' := [mv_R 30, mv_I (c : Int), mv_I (u : Int), mv_I (0 + (sp_sa V P c u 0)), mv_I 1]) (st' := []) (M1 := M1) rfl ?_
  refine mv_tt' (by decide) ?_
  refine mv_go' 5 (pc' := 17) (ls' := [mv_R 30, mv_I (c : Int), mv_I (u : Int), mv_I (0 + (sp_sa V P c u 0)), mv_I 1]) (st' := [mv_I 1, mv_I (u : Int), mv_I (c : Int), mv_R 30, mv_I (0 + (sp_sa V P c u 0))]) (M1 := M1) rfl ?_
  refine mv_call (st2 := [mv_I (sp_sa V P c u 1), mv_I (0 + (sp_sa V P c u 0))]) rfl (Or.inl rfl) rfl rfl rfl (sp_csa_30 (k := 1) hV1 ho hl hP1 hc hu (by decide)) (by first | decide | omega) (fun M2 h2 => ?_)
  have h2 := h1.tr h2
  have hV2 := sp_c_ag hV h2 (by decide)
  have hP2 := sp_cts_ag hP h2 hn hS
  refine mv_go' 4 (pc' := 5) (ls' := [mv_R 30, mv_I (c : Int), mv_I (u : Int), mv_I (mv_w ((0 + (sp_sa V P c u 0)) + (sp_sa V P c u 1))), mv_I (mv_w (1 + 1))]) (st' := []) (M1 := M2) rfl ?_
  rw [show mv_w (1 + 1) = 2 from by (rw [show mv_w (1 + 1) = 1 + 1 from mv_w_id (by omega) (by omega)]) <;> omega]
  rw [show mv_w ((0 + (sp_sa V P c u 0)) + (sp_sa V P c u 1)) = (0 + (sp_sa V P c u 0)) + (sp_sa V P c u 1) from mv_w_id (by omega) (by omega)]
  refine mv_go' 3 (pc' := if 2 < 4 then 11 else 28) (ls' := [mv_R 30, mv_I (c : Int), mv_I (u : Int), mv_I ((0 + (sp_sa V P c u 0)) + (sp_sa V P c u 1)), mv_I 2]) (st' := []) (M1 := M2) rfl ?_
  refine mv_tt' (by decide) ?_
  refine mv_go' 5 (pc' := 17) (ls' := [mv_R 30, mv_I (c : Int), mv_I (u : Int), mv_I ((0 + (sp_sa V P c u 0)) + (sp_sa V P c u 1)), mv_I 2]) (st' := [mv_I 2, mv_I (u : Int), mv_I (c : Int), mv_R 30, mv_I ((0 + (sp_sa V P c u 0)) + (sp_sa V P c u 1))]) (M1 := M2) rfl ?_
  refine mv_call (st2 := [mv_I (sp_sa V P c u 2), mv_I ((0 + (sp_sa V P c u 0)) + (sp_sa V P c u 1))]) rfl (Or.inl rfl) rfl rfl rfl (sp_csa_30 (k := 2) hV2 ho hl hP2 hc hu (by decide)) (by first | decide | omega) (fun M3 h3 => ?_)
  have h3 := h2.tr h3
  have hV3 := sp_c_ag hV h3 (by decide)
  have hP3 := sp_cts_ag hP h3 hn hS
  refine mv_go' 4 (pc' := 5) (ls' := [mv_R 30, mv_I (c : Int), mv_I (u : Int), mv_I (mv_w (((0 + (sp_sa V P c u 0)) + (sp_sa V P c u 1)) + (sp_sa V P c u 2))), mv_I (mv_w (2 + 1))]) (st' := []) (M1 := M3) rfl ?_
  rw [show mv_w (2 + 1) = 3 from by (rw [show mv_w (2 + 1) = 2 + 1 from mv_w_id (by omega) (by omega)]) <;> omega]
  rw [show mv_w (((0 + (sp_sa V P c u 0)) + (sp_sa V P c u 1)) + (sp_sa V P c u 2)) = ((0 + (sp_sa V P c u 0)) + (sp_sa V P c u 1)) + (sp_sa V P c u 2) from mv_w_id (by omega) (by omega)]
  refine mv_go' 3 (pc' := if 3 < 4 then 11 else 28) (ls' := [mv_R 30, mv_I (c : Int), mv_I (u : Int), mv_I (((0 + (sp_sa V P c u 0)) + (sp_sa V P c u 1)) + (sp_sa V P c u 2)), mv_I 3]) (st' := []) (M1 := M3) rfl ?_
  refine mv_tt' (by decide) ?_
  refine mv_go' 5 (pc' := 17) (ls' := [mv_R 30, mv_I (c : Int), mv_I (u : Int), mv_I (((0 + (sp_sa V P c u 0)) + (sp_sa V P c u 1)) + (sp_sa V P c u 2)), mv_I 3]) (st' := [mv_I 3, mv_I (u : Int), mv_I (c : Int), mv_R 30, mv_I (((0 + (sp_sa V P c u 0)) + (sp_sa V P c u 1)) + (sp_sa V P c u 2))]) (M1 := M3) rfl ?_
  refine mv_call (st2 := [mv_I (sp_sa V P c u 3), mv_I (((0 + (sp_sa V P c u 0)) + (sp_sa V P c u 1)) + (sp_sa V P c u 2))]) rfl (Or.inl rfl) rfl rfl rfl (sp_csa_30 (k := 3) hV3 ho hl hP3 hc hu (by decide)) (by first | decide | omega) (fun M4 h4 => ?_)
  have h4 := h3.tr h4
  refine mv_go' 4 (pc' := 5) (ls' := [mv_R 30, mv_I (c : Int), mv_I (u : Int), mv_I (mv_w ((((0 + (sp_sa V P c u 0)) + (sp_sa V P c u 1)) + (sp_sa V P c u 2)) + (sp_sa V P c u 3))), mv_I (mv_w (3 + 1))]) (st' := []) (M1 := M4) rfl ?_
  rw [show mv_w (3 + 1) = 4 from by (rw [show mv_w (3 + 1) = 3 + 1 from mv_w_id (by omega) (by omega)]) <;> omega]
  rw [show mv_w ((((0 + (sp_sa V P c u 0)) + (sp_sa V P c u 1)) + (sp_sa V P c u 2)) + (sp_sa V P c u 3)) = (((0 + (sp_sa V P c u 0)) + (sp_sa V P c u 1)) + (sp_sa V P c u 2)) + (sp_sa V P c u 3) from mv_w_id (by omega) (by omega)]
  refine mv_go' 3 (pc' := if 4 < 4 then 11 else 28) (ls' := [mv_R 30, mv_I (c : Int), mv_I (u : Int), mv_I ((((0 + (sp_sa V P c u 0)) + (sp_sa V P c u 1)) + (sp_sa V P c u 2)) + (sp_sa V P c u 3)), mv_I 4]) (st' := []) (M1 := M4) rfl ?_
  refine mv_ff' (by decide) ?_
  refine mv_go' 1 (pc' := 29) (ls' := [mv_R 30, mv_I (c : Int), mv_I (u : Int), mv_I ((((0 + (sp_sa V P c u 0)) + (sp_sa V P c u 1)) + (sp_sa V P c u 2)) + (sp_sa V P c u 3)), mv_I 4]) (st' := [mv_I ((((0 + (sp_sa V P c u 0)) + (sp_sa V P c u 1)) + (sp_sa V P c u 2)) + (sp_sa V P c u 3))]) (M1 := M4) rfl ?_
  exact mv_Ru.val (mv_ret (fun n => rfl) (h4)) (congrArg mv_I (by unfold sp_suits; omega))
theorem sp_clikes_30 {V M : mv_M} {P : Nat → Nat → List Int} {n : Int} {c u : Nat} (hV : sp_c 30 M V) (ho : sp_ok V) (hl : V 0 11 < n) (hn : n ≤ 6) (hP : sp_cts M P n) (hc : c < 6) (hu : (u : Int) < V 0 9) :
    mv_Ru 3 54 0 [mv_R 30, mv_I (c : Int), mv_I (u : Int), mv_U, mv_U] [] M (mv_I (sp_likes V P c u)) (fun M1 => mv_ag [36, 37] M M1) := by
  have hS : ∀ i, 10 ≤ i → i < 28 → i ∉ [36, 37] := fun i h1 h2 => by simp; omega
  have b0 := sp_says_b V P 1 u 0 (V 1 (4 * c))
  have b1 := sp_says_b V P 1 u 1 (V 1 (4 * c + 1))
  have b2 := sp_says_b V P 1 u 2 (V 1 (4 * c + 2))
  have b3 := sp_says_b V P 1 u 3 (V 1 (4 * c + 3))
  have h9 := sp_ok_s9 ho
  refine mv_go' 4 (pc' := 5) (ls' := [mv_R 30, mv_I (c : Int), mv_I (u : Int), mv_I 0, mv_I 0]) (st' := []) (M1 := M) rfl ?_
  refine mv_go' 3 (pc' := if 0 < 4 then 11 else 39) (ls' := [mv_R 30, mv_I (c : Int), mv_I (u : Int), mv_I 0, mv_I 0]) (st' := []) (M1 := M) rfl ?_
  refine mv_tt' (by decide) ?_
  refine mv_go' 12 (pc' := 27) (ls' := [mv_R 30, mv_I (c : Int), mv_I (u : Int), mv_I 0, mv_I 0]) (st' := [mv_I (mv_w ((mv_w ((c : Int) * 4)) + 0)), mv_R 31, mv_I 0, mv_I (u : Int), mv_I 1, mv_R 30, mv_I 0]) (M1 := M) rfl ?_
  rw [show mv_w ((mv_w ((c : Int) * 4)) + 0) = ((4 * c : Nat) : Int) from by (rw [show mv_w ((c : Int) * 4) = (c : Int) * 4 from mv_w_id (by omega) (by omega), show mv_w (((c : Int) * 4) + 0) = ((c : Int) * 4) + 0 from mv_w_id (by omega) (by omega)]) <;> omega]
  refine mv_go' 1 (pc' := if 0 ≤ ((4 * c : Nat) : Int) ∧ ((4 * c : Nat) : Int) < 24 then 28 else mv_bad) (ls' := [mv_R 30, mv_I (c : Int), mv_I (u : Int), mv_I 0, mv_I 0]) (st' := [mv_I (M 31 (4 * c)), mv_I 0, mv_I (u : Int), mv_I 1, mv_R 30, mv_I 0]) (M1 := M) rfl ?_
  refine mv_tt' (by omega) ?_
  have hr1 := sp_ok_1 ho (4 * c) (by omega)
  rw [show M 31 (4 * c) = V 1 (4 * c) from by exact sp_c_1 hV (4 * c) (by omega)]
  refine mv_call (st2 := [mv_I (sp_says V P 1 u 0 (V 1 (4 * c))), mv_I 0]) rfl (Or.inl rfl) rfl rfl rfl (sp_csays_30 (p := 1) (k := 0) hV ho hl hP (by decide) hu (by decide)) (by first | decide | omega) (fun M1 h1 => ?_)
  have hV1 := sp_c_ag hV h1 (by decide)
  have hP1 := sp_cts_ag hP h1 hn hS
  refine mv_go' 4 (pc' := 5) (ls' := [mv_R 30, mv_I (c : Int), mv_I (u : Int), mv_I (mv_w (0 + (sp_says V P 1 u 0 (V 1 (4 * c))))), mv_I (mv_w (0 + 1))]) (st' := []) (M1 := M1) rfl ?_
  rw [show mv_w (0 + 1) = 1 from by (rw [show mv_w (0 + 1) = 0 + 1 from mv_w_id (by omega) (by omega)]) <;> omega]
  rw [show mv_w (0 + (sp_says V P 1 u 0 (V 1 (4 * c)))) = 0 + (sp_says V P 1 u 0 (V 1 (4 * c))) from mv_w_id (by omega) (by omega)]
  refine mv_go' 3 (pc' := if 1 < 4 then 11 else 39) (ls' := [mv_R 30, mv_I (c : Int), mv_I (u : Int), mv_I (0 + (sp_says V P 1 u 0 (V 1 (4 * c)))), mv_I 1]) (st' := []) (M1 := M1) rfl ?_
  refine mv_tt' (by decide) ?_
  refine mv_go' 12 (pc' := 27) (ls' := [mv_R 30, mv_I (c : Int), mv_I (u : Int), mv_I (0 + (sp_says V P 1 u 0 (V 1 (4 * c)))), mv_I 1]) (st' := [mv_I (mv_w ((mv_w ((c : Int) * 4)) + 1)), mv_R 31, mv_I 1, mv_I (u : Int), mv_I 1, mv_R 30, mv_I (0 + (sp_says V P 1 u 0 (V 1 (4 * c))))]) (M1 := M1) rfl ?_
  rw [show mv_w ((mv_w ((c : Int) * 4)) + 1) = ((4 * c + 1 : Nat) : Int) from by (rw [show mv_w ((c : Int) * 4) = (c : Int) * 4 from mv_w_id (by omega) (by omega), show mv_w (((c : Int) * 4) + 1) = ((c : Int) * 4) + 1 from mv_w_id (by omega) (by omega)]) <;> omega]
  refine mv_go' 1 (pc' := if 0 ≤ ((4 * c + 1 : Nat) : Int) ∧ ((4 * c + 1 : Nat) : Int) < 24 then 28 else mv_bad) (ls' := [mv_R 30, mv_I (c : Int), mv_I (u : Int), mv_I (0 + (sp_says V P 1 u 0 (V 1 (4 * c)))), mv_I 1]) (st' := [mv_I (M1 31 (4 * c + 1)), mv_I 1, mv_I (u : Int), mv_I 1, mv_R 30, mv_I (0 + (sp_says V P 1 u 0 (V 1 (4 * c))))]) (M1 := M1) rfl ?_
  refine mv_tt' (by omega) ?_
  have hr3 := sp_ok_1 ho (4 * c + 1) (by omega)
  rw [show M1 31 (4 * c + 1) = V 1 (4 * c + 1) from by exact sp_c_1 hV1 (4 * c + 1) (by omega)]
  refine mv_call (st2 := [mv_I (sp_says V P 1 u 1 (V 1 (4 * c + 1))), mv_I (0 + (sp_says V P 1 u 0 (V 1 (4 * c))))]) rfl (Or.inl rfl) rfl rfl rfl (sp_csays_30 (p := 1) (k := 1) hV1 ho hl hP1 (by decide) hu (by decide)) (by first | decide | omega) (fun M2 h2 => ?_)
  have h2 := h1.tr h2
  have hV2 := sp_c_ag hV h2 (by decide)
  have hP2 := sp_cts_ag hP h2 hn hS
  refine mv_go' 4 (pc' := 5) (ls' := [mv_R 30, mv_I (c : Int), mv_I (u : Int), mv_I (mv_w ((0 + (sp_says V P 1 u 0 (V 1 (4 * c)))) + (sp_says V P 1 u 1 (V 1 (4 * c + 1))))), mv_I (mv_w (1 + 1))]) (st' := []) (M1 := M2) rfl ?_
  rw [show mv_w (1 + 1) = 2 from by (rw [show mv_w (1 + 1) = 1 + 1 from mv_w_id (by omega) (by omega)]) <;> omega]
  rw [show mv_w ((0 + (sp_says V P 1 u 0 (V 1 (4 * c)))) + (sp_says V P 1 u 1 (V 1 (4 * c + 1)))) = (0 + (sp_says V P 1 u 0 (V 1 (4 * c)))) + (sp_says V P 1 u 1 (V 1 (4 * c + 1))) from mv_w_id (by omega) (by omega)]
  refine mv_go' 3 (pc' := if 2 < 4 then 11 else 39) (ls' := [mv_R 30, mv_I (c : Int), mv_I (u : Int), mv_I ((0 + (sp_says V P 1 u 0 (V 1 (4 * c)))) + (sp_says V P 1 u 1 (V 1 (4 * c + 1)))), mv_I 2]) (st' := []) (M1 := M2) rfl ?_
  refine mv_tt' (by decide) ?_
  refine mv_go' 12 (pc' := 27) (ls' := [mv_R 30, mv_I (c : Int), mv_I (u : Int), mv_I ((0 + (sp_says V P 1 u 0 (V 1 (4 * c)))) + (sp_says V P 1 u 1 (V 1 (4 * c + 1)))), mv_I 2]) (st' := [mv_I (mv_w ((mv_w ((c : Int) * 4)) + 2)), mv_R 31, mv_I 2, mv_I (u : Int), mv_I 1, mv_R 30, mv_I ((0 + (sp_says V P 1 u 0 (V 1 (4 * c)))) + (sp_says V P 1 u 1 (V 1 (4 * c + 1))))]) (M1 := M2) rfl ?_
  rw [show mv_w ((mv_w ((c : Int) * 4)) + 2) = ((4 * c + 2 : Nat) : Int) from by (rw [show mv_w ((c : Int) * 4) = (c : Int) * 4 from mv_w_id (by omega) (by omega), show mv_w (((c : Int) * 4) + 2) = ((c : Int) * 4) + 2 from mv_w_id (by omega) (by omega)]) <;> omega]
  refine mv_go' 1 (pc' := if 0 ≤ ((4 * c + 2 : Nat) : Int) ∧ ((4 * c + 2 : Nat) : Int) < 24 then 28 else mv_bad) (ls' := [mv_R 30, mv_I (c : Int), mv_I (u : Int), mv_I ((0 + (sp_says V P 1 u 0 (V 1 (4 * c)))) + (sp_says V P 1 u 1 (V 1 (4 * c + 1)))), mv_I 2]) (st' := [mv_I (M2 31 (4 * c + 2)), mv_I 2, mv_I (u : Int), mv_I 1, mv_R 30, mv_I ((0 + (sp_says V P 1 u 0 (V 1 (4 * c)))) + (sp_says V P 1 u 1 (V 1 (4 * c + 1))))]) (M1 := M2) rfl ?_
  refine mv_tt' (by omega) ?_
  have hr5 := sp_ok_1 ho (4 * c + 2) (by omega)
  rw [show M2 31 (4 * c + 2) = V 1 (4 * c + 2) from by exact sp_c_1 hV2 (4 * c + 2) (by omega)]
  refine mv_call (st2 := [mv_I (sp_says V P 1 u 2 (V 1 (4 * c + 2))), mv_I ((0 + (sp_says V P 1 u 0 (V 1 (4 * c)))) + (sp_says V P 1 u 1 (V 1 (4 * c + 1))))]) rfl (Or.inl rfl) rfl rfl rfl (sp_csays_30 (p := 1) (k := 2) hV2 ho hl hP2 (by decide) hu (by decide)) (by first | decide | omega) (fun M3 h3 => ?_)
  have h3 := h2.tr h3
  have hV3 := sp_c_ag hV h3 (by decide)
  have hP3 := sp_cts_ag hP h3 hn hS
  refine mv_go' 4 (pc' := 5) (ls' := [mv_R 30, mv_I (c : Int), mv_I (u : Int), mv_I (mv_w (((0 + (sp_says V P 1 u 0 (V 1 (4 * c)))) + (sp_says V P 1 u 1 (V 1 (4 * c + 1)))) + (sp_says V P 1 u 2 (V 1 (4 * c + 2))))), mv_I (mv_w (2 + 1))]) (st' := []) (M1 := M3) rfl ?_
  rw [show mv_w (2 + 1) = 3 from by (rw [show mv_w (2 + 1) = 2 + 1 from mv_w_id (by omega) (by omega)]) <;> omega]
  rw [show mv_w (((0 + (sp_says V P 1 u 0 (V 1 (4 * c)))) + (sp_says V P 1 u 1 (V 1 (4 * c + 1)))) + (sp_says V P 1 u 2 (V 1 (4 * c + 2)))) = ((0 + (sp_says V P 1 u 0 (V 1 (4 * c)))) + (sp_says V P 1 u 1 (V 1 (4 * c + 1)))) + (sp_says V P 1 u 2 (V 1 (4 * c + 2))) from mv_w_id (by omega) (by omega)]
  refine mv_go' 3 (pc' := if 3 < 4 then 11 else 39) (ls' := [mv_R 30, mv_I (c : Int), mv_I (u : Int), mv_I (((0 + (sp_says V P 1 u 0 (V 1 (4 * c)))) + (sp_says V P 1 u 1 (V 1 (4 * c + 1)))) + (sp_says V P 1 u 2 (V 1 (4 * c + 2)))), mv_I 3]) (st' := []) (M1 := M3) rfl ?_
  refine mv_tt' (by decide) ?_
  refine mv_go' 12 (pc' := 27) (ls' := [mv_R 30, mv_I (c : Int), mv_I (u : Int), mv_I (((0 + (sp_says V P 1 u 0 (V 1 (4 * c)))) + (sp_says V P 1 u 1 (V 1 (4 * c + 1)))) + (sp_says V P 1 u 2 (V 1 (4 * c + 2)))), mv_I 3]) (st' := [mv_I (mv_w ((mv_w ((c : Int) * 4)) + 3)), mv_R 31, mv_I 3, mv_I (u : Int), mv_I 1, mv_R 30, mv_I (((0 + (sp_says V P 1 u 0 (V 1 (4 * c)))) + (sp_says V P 1 u 1 (V 1 (4 * c + 1)))) + (sp_says V P 1 u 2 (V 1 (4 * c + 2))))]) (M1 := M3) rfl ?_
  rw [show mv_w ((mv_w ((c : Int) * 4)) + 3) = ((4 * c + 3 : Nat) : Int) from by (rw [show mv_w ((c : Int) * 4) = (c : Int) * 4 from mv_w_id (by omega) (by omega), show mv_w (((c : Int) * 4) + 3) = ((c : Int) * 4) + 3 from mv_w_id (by omega) (by omega)]) <;> omega]
  refine mv_go' 1 (pc' := if 0 ≤ ((4 * c + 3 : Nat) : Int) ∧ ((4 * c + 3 : Nat) : Int) < 24 then 28 else mv_bad) (ls' := [mv_R 30, mv_I (c : Int), mv_I (u : Int), mv_I (((0 + (sp_says V P 1 u 0 (V 1 (4 * c)))) + (sp_says V P 1 u 1 (V 1 (4 * c + 1)))) + (sp_says V P 1 u 2 (V 1 (4 * c + 2)))), mv_I 3]) (st' := [mv_I (M3 31 (4 * c + 3)), mv_I 3, mv_I (u : Int), mv_I 1, mv_R 30, mv_I (((0 + (sp_says V P 1 u 0 (V 1 (4 * c)))) + (sp_says V P 1 u 1 (V 1 (4 * c + 1)))) + (sp_says V P 1 u 2 (V 1 (4 * c + 2))))]) (M1 := M3) rfl ?_
  refine mv_tt' (by omega) ?_
  have hr7 := sp_ok_1 ho (4 * c + 3) (by omega)
  rw [show M3 31 (4 * c + 3) = V 1 (4 * c + 3) from by exact sp_c_1 hV3 (4 * c + 3) (by omega)]
  refine mv_call (st2 := [mv_I (sp_says V P 1 u 3 (V 1 (4 * c + 3))), mv_I (((0 + (sp_says V P 1 u 0 (V 1 (4 * c)))) + (sp_says V P 1 u 1 (V 1 (4 * c + 1)))) + (sp_says V P 1 u 2 (V 1 (4 * c + 2))))]) rfl (Or.inl rfl) rfl rfl rfl (sp_csays_30 (p := 1) (k := 3) hV3 ho hl hP3 (by decide) hu (by decide)) (by first | decide | omega) (fun M4 h4 => ?_)
  have h4 := h3.tr h4
  have hV4 := sp_c_ag hV h4 (by decide)
  refine mv_go' 4 (pc' := 5) (ls' := [mv_R 30, mv_I (c : Int), mv_I (u : Int), mv_I (mv_w ((((0 + (sp_says V P 1 u 0 (V 1 (4 * c)))) + (sp_says V P 1 u 1 (V 1 (4 * c + 1)))) + (sp_says V P 1 u 2 (V 1 (4 * c + 2)))) + (sp_says V P 1 u 3 (V 1 (4 * c + 3))))), mv_I (mv_w (3 + 1))]) (st' := []) (M1 := M4) rfl ?_
  rw [show mv_w (3 + 1) = 4 from by (rw [show mv_w (3 + 1) = 3 + 1 from mv_w_id (by omega) (by omega)]) <;> omega]
  rw [show mv_w ((((0 + (sp_says V P 1 u 0 (V 1 (4 * c)))) + (sp_says V P 1 u 1 (V 1 (4 * c + 1)))) + (sp_says V P 1 u 2 (V 1 (4 * c + 2)))) + (sp_says V P 1 u 3 (V 1 (4 * c + 3)))) = (((0 + (sp_says V P 1 u 0 (V 1 (4 * c)))) + (sp_says V P 1 u 1 (V 1 (4 * c + 1)))) + (sp_says V P 1 u 2 (V 1 (4 * c + 2)))) + (sp_says V P 1 u 3 (V 1 (4 * c + 3))) from mv_w_id (by omega) (by omega)]
  rw [show 0 + sp_says V P 1 u 0 (V 1 (4 * c)) = sp_says V P 1 u 0 (V 1 (4 * c)) from by omega]
  -- pc 5 cond None ls [mv_R 30, mv_I (c : Int), mv_I (u : Int), mv_I (((sp_says V P 1 u 0 (V 1 (4 * c)) + (sp_says V P 1 u 1 (V 1 (4 * c + 1)))) + (sp_says V P 1 u 2 (V 1 (4 * c + 2)))) + (sp_says V P 1 u 3 (V 1 (4 * c + 3)))), mv_I 4] st []
  have hb := sp_ns_b ho hc
  have hb4 := sp_l4_b V P c u
  refine mv_go' 3 (pc' := if 4 < 4 then 11 else 39) (ls' := [mv_R 30, mv_I (c : Int), mv_I (u : Int), mv_I (((sp_says V P 1 u 0 (V 1 (4 * c)) + (sp_says V P 1 u 1 (V 1 (4 * c + 1)))) + (sp_says V P 1 u 2 (V 1 (4 * c + 2)))) + (sp_says V P 1 u 3 (V 1 (4 * c + 3)))), mv_I 4]) (st' := []) (M1 := M4) rfl ?_
  refine mv_ff' (by decide) ?_
  refine mv_go' 2 (pc' := 41) (ls' := [mv_R 30, mv_I (c : Int), mv_I (u : Int), mv_I (((sp_says V P 1 u 0 (V 1 (4 * c)) + (sp_says V P 1 u 1 (V 1 (4 * c + 1)))) + (sp_says V P 1 u 2 (V 1 (4 * c + 2)))) + (sp_says V P 1 u 3 (V 1 (4 * c + 3)))), mv_I 4]) (st' := [mv_I (c : Int), mv_R 30]) (M1 := M4) rfl ?_
  refine mv_callP (st2 := [mv_I (sp_ns V c)]) rfl (Or.inl rfl) rfl rfl rfl (sp_cns_30 hV4 ho hc) (by first | decide | omega) ?_
  refine mv_go' 5 (pc' := if 0 ≤ (u : Int) ∧ (u : Int) < 6 then 52 else mv_bad) (ls' := [mv_R 30, mv_I (c : Int), mv_I (u : Int), mv_I (((sp_says V P 1 u 0 (V 1 (4 * c)) + (sp_says V P 1 u 1 (V 1 (4 * c + 1)))) + (sp_says V P 1 u 2 (V 1 (4 * c + 2)))) + (sp_says V P 1 u 3 (V 1 (4 * c + 3)))), mv_I (sp_ns V c)]) (st' := [mv_I (M4 34 u)]) (M1 := M4) rfl ?_
  refine mv_tt' (by omega) ?_
  have hr9 := sp_ok_4 ho u (by omega)
  rw [show M4 34 u = V 4 u from by exact sp_c_4 hV4 u (by omega)]
  refine mv_go' 1 (pc' := mv_swg [(2, 84), (3, 108), (4, 89), (5, 95)] 108 (V 4 u)) (ls' := [mv_R 30, mv_I (c : Int), mv_I (u : Int), mv_I (((sp_says V P 1 u 0 (V 1 (4 * c)) + (sp_says V P 1 u 1 (V 1 (4 * c + 1)))) + (sp_says V P 1 u 2 (V 1 (4 * c + 2)))) + (sp_says V P 1 u 3 (V 1 (4 * c + 3)))), mv_I (sp_ns V c)]) (st' := []) (M1 := M4) rfl ?_
  rcases (by omega : V 4 u = 0 ∨ V 4 u = 1 ∨ V 4 u = 2 ∨ V 4 u = 3 ∨ V 4 u = 4 ∨ V 4 u = 5) with e | e | e | e | e | e
  · refine mv_pcq (pc2 := 108) (by rw [e]; rfl) ?_
    refine mv_go' 1 (pc' := 109) (ls' := [mv_R 30, mv_I (c : Int), mv_I (u : Int), mv_I (((sp_says V P 1 u 0 (V 1 (4 * c)) + (sp_says V P 1 u 1 (V 1 (4 * c + 1)))) + (sp_says V P 1 u 2 (V 1 (4 * c + 2)))) + (sp_says V P 1 u 3 (V 1 (4 * c + 3)))), mv_I (sp_ns V c)]) (st' := [mv_I (((sp_says V P 1 u 0 (V 1 (4 * c)) + (sp_says V P 1 u 1 (V 1 (4 * c + 1)))) + (sp_says V P 1 u 2 (V 1 (4 * c + 2)))) + (sp_says V P 1 u 3 (V 1 (4 * c + 3))))]) (M1 := M4) rfl ?_
    exact mv_Ru.val (mv_ret (fun n => rfl) (h4)) (congrArg mv_I (by simp [sp_likes, sp_l4, e]))
  · refine mv_pcq (pc2 := 108) (by rw [e]; rfl) ?_
    refine mv_go' 1 (pc' := 109) (ls' := [mv_R 30, mv_I (c : Int), mv_I (u : Int), mv_I (((sp_says V P 1 u 0 (V 1 (4 * c)) + (sp_says V P 1 u 1 (V 1 (4 * c + 1)))) + (sp_says V P 1 u 2 (V 1 (4 * c + 2)))) + (sp_says V P 1 u 3 (V 1 (4 * c + 3)))), mv_I (sp_ns V c)]) (st' := [mv_I (((sp_says V P 1 u 0 (V 1 (4 * c)) + (sp_says V P 1 u 1 (V 1 (4 * c + 1)))) + (sp_says V P 1 u 2 (V 1 (4 * c + 2)))) + (sp_says V P 1 u 3 (V 1 (4 * c + 3))))]) (M1 := M4) rfl ?_
    exact mv_Ru.val (mv_ret (fun n => rfl) (h4)) (congrArg mv_I (by simp [sp_likes, sp_l4, e]))
  · refine mv_pcq (pc2 := 84) (by rw [e]; rfl) ?_
    refine mv_go' 3 (pc' := 88) (ls' := [mv_R 30, mv_I (c : Int), mv_I (u : Int), mv_I (((sp_says V P 1 u 0 (V 1 (4 * c)) + (sp_says V P 1 u 1 (V 1 (4 * c + 1)))) + (sp_says V P 1 u 2 (V 1 (4 * c + 2)))) + (sp_says V P 1 u 3 (V 1 (4 * c + 3)))), mv_I (sp_ns V c)]) (st' := [mv_I (mv_w ((((sp_says V P 1 u 0 (V 1 (4 * c)) + (sp_says V P 1 u 1 (V 1 (4 * c + 1)))) + (sp_says V P 1 u 2 (V 1 (4 * c + 2)))) + (sp_says V P 1 u 3 (V 1 (4 * c + 3)))) + (sp_ns V c)))]) (M1 := M4) rfl ?_
    rw [show mv_w ((((sp_says V P 1 u 0 (V 1 (4 * c)) + (sp_says V P 1 u 1 (V 1 (4 * c + 1)))) + (sp_says V P 1 u 2 (V 1 (4 * c + 2)))) + (sp_says V P 1 u 3 (V 1 (4 * c + 3)))) + (sp_ns V c)) = (((sp_says V P 1 u 0 (V 1 (4 * c)) + (sp_says V P 1 u 1 (V 1 (4 * c + 1)))) + (sp_says V P 1 u 2 (V 1 (4 * c + 2)))) + (sp_says V P 1 u 3 (V 1 (4 * c + 3)))) + (sp_ns V c) from mv_w_id (by omega) (by omega)]
    exact mv_Ru.val (mv_ret (fun n => rfl) (h4)) (congrArg mv_I (by simp [sp_likes, sp_l4, e]))
  · refine mv_pcq (pc2 := 108) (by rw [e]; rfl) ?_
    refine mv_go' 1 (pc' := 109) (ls' := [mv_R 30, mv_I (c : Int), mv_I (u : Int), mv_I (((sp_says V P 1 u 0 (V 1 (4 * c)) + (sp_says V P 1 u 1 (V 1 (4 * c + 1)))) + (sp_says V P 1 u 2 (V 1 (4 * c + 2)))) + (sp_says V P 1 u 3 (V 1 (4 * c + 3)))), mv_I (sp_ns V c)]) (st' := [mv_I (((sp_says V P 1 u 0 (V 1 (4 * c)) + (sp_says V P 1 u 1 (V 1 (4 * c + 1)))) + (sp_says V P 1 u 2 (V 1 (4 * c + 2)))) + (sp_says V P 1 u 3 (V 1 (4 * c + 3))))]) (M1 := M4) rfl ?_
    exact mv_Ru.val (mv_ret (fun n => rfl) (h4)) (congrArg mv_I (by simp [sp_likes, sp_l4, e]))
  · refine mv_pcq (pc2 := 89) (by rw [e]; rfl) ?_
    refine mv_go' 4 (pc' := 94) (ls' := [mv_R 30, mv_I (c : Int), mv_I (u : Int), mv_I (((sp_says V P 1 u 0 (V 1 (4 * c)) + (sp_says V P 1 u 1 (V 1 (4 * c + 1)))) + (sp_says V P 1 u 2 (V 1 (4 * c + 2)))) + (sp_says V P 1 u 3 (V 1 (4 * c + 3)))), mv_I (sp_ns V c)]) (st' := [mv_I (mv_w (-(mv_w ((((sp_says V P 1 u 0 (V 1 (4 * c)) + (sp_says V P 1 u 1 (V 1 (4 * c + 1)))) + (sp_says V P 1 u 2 (V 1 (4 * c + 2)))) + (sp_says V P 1 u 3 (V 1 (4 * c + 3)))) + (sp_ns V c)))))]) (M1 := M4) rfl ?_
    rw [show mv_w ((((sp_says V P 1 u 0 (V 1 (4 * c)) + (sp_says V P 1 u 1 (V 1 (4 * c + 1)))) + (sp_says V P 1 u 2 (V 1 (4 * c + 2)))) + (sp_says V P 1 u 3 (V 1 (4 * c + 3)))) + (sp_ns V c)) = (((sp_says V P 1 u 0 (V 1 (4 * c)) + (sp_says V P 1 u 1 (V 1 (4 * c + 1)))) + (sp_says V P 1 u 2 (V 1 (4 * c + 2)))) + (sp_says V P 1 u 3 (V 1 (4 * c + 3)))) + (sp_ns V c) from mv_w_id (by omega) (by omega)]
    rw [show mv_w (-((((sp_says V P 1 u 0 (V 1 (4 * c)) + (sp_says V P 1 u 1 (V 1 (4 * c + 1)))) + (sp_says V P 1 u 2 (V 1 (4 * c + 2)))) + (sp_says V P 1 u 3 (V 1 (4 * c + 3)))) + (sp_ns V c))) = -((((sp_says V P 1 u 0 (V 1 (4 * c)) + (sp_says V P 1 u 1 (V 1 (4 * c + 1)))) + (sp_says V P 1 u 2 (V 1 (4 * c + 2)))) + (sp_says V P 1 u 3 (V 1 (4 * c + 3)))) + (sp_ns V c)) from mv_w_id (by omega) (by omega)]
    exact mv_Ru.val (mv_ret (fun n => rfl) (h4)) (congrArg mv_I (by simp [sp_likes, sp_l4, e]))
  · refine mv_pcq (pc2 := 95) (by rw [e]; rfl) ?_
    refine mv_go' 3 (pc' := if 20 < (sp_ns V c) then 102 else 106) (ls' := [mv_R 30, mv_I (c : Int), mv_I (u : Int), mv_I (((sp_says V P 1 u 0 (V 1 (4 * c)) + (sp_says V P 1 u 1 (V 1 (4 * c + 1)))) + (sp_says V P 1 u 2 (V 1 (4 * c + 2)))) + (sp_says V P 1 u 3 (V 1 (4 * c + 3)))), mv_I (sp_ns V c)]) (st' := []) (M1 := M4) rfl ?_
    refine mv_sp' (fun h20 => ?_) (fun h20 => ?_)
    · refine mv_go' 2 (pc' := 107) (ls' := [mv_R 30, mv_I (c : Int), mv_I (u : Int), mv_I (((sp_says V P 1 u 0 (V 1 (4 * c)) + (sp_says V P 1 u 1 (V 1 (4 * c + 1)))) + (sp_says V P 1 u 2 (V 1 (4 * c + 2)))) + (sp_says V P 1 u 3 (V 1 (4 * c + 3)))), mv_I (sp_ns V c)]) (st' := [mv_I 0]) (M1 := M4) rfl ?_
      exact mv_Ru.val (mv_ret (fun n => rfl) (h4)) (congrArg mv_I (by simp [sp_likes, sp_l4, e, h20]))
    · refine mv_go' 1 (pc' := 107) (ls' := [mv_R 30, mv_I (c : Int), mv_I (u : Int), mv_I (((sp_says V P 1 u 0 (V 1 (4 * c)) + (sp_says V P 1 u 1 (V 1 (4 * c + 1)))) + (sp_says V P 1 u 2 (V 1 (4 * c + 2)))) + (sp_says V P 1 u 3 (V 1 (4 * c + 3)))), mv_I (sp_ns V c)]) (st' := [mv_I (((sp_says V P 1 u 0 (V 1 (4 * c)) + (sp_says V P 1 u 1 (V 1 (4 * c + 1)))) + (sp_says V P 1 u 2 (V 1 (4 * c + 2)))) + (sp_says V P 1 u 3 (V 1 (4 * c + 3))))]) (M1 := M4) rfl ?_
      exact mv_Ru.val (mv_ret (fun n => rfl) (h4)) (congrArg mv_I (by simp [sp_likes, sp_l4, e, h20]))
theorem sp_csuits_50 {V M : mv_M} {P : Nat → Nat → List Int} {n : Int} {c u : Nat} (hV : sp_c 50 M V) (ho : sp_ok V) (hl : V 0 11 < n) (hn : n ≤ 6) (hP : sp_cts M P n) (hc : c < 6) (hu : (u : Int) < V 0 9) :
    mv_Ru 4 50 0 [mv_R 50, mv_I (c : Int), mv_I (u : Int), mv_U, mv_U] [] M (mv_I (sp_suits V P c u)) (fun M1 => mv_ag [56, 57] M M1) := by
  have hS : ∀ i, 10 ≤ i → i < 28 → i ∉ [56, 57] := fun i h1 h2 => by simp; omega
  have b0 := sp_sa_b P ho c hu 0
  have b1 := sp_sa_b P ho c hu 1
  have b2 := sp_sa_b P ho c hu 2
  have b3 := sp_sa_b P ho c hu 3
  refine mv_go' 4 (pc' := 5) (ls' := [mv_R 50, mv_I (c : Int), mv_I (u : Int), mv_I 0, mv_I 0]) (st' := []) (M1 := M) rfl ?_
  refine mv_go' 3 (pc' := if 0 < 4 then 11 else 28) (ls' := [mv_R 50, mv_I (c : Int), mv_I (u : Int), mv_I 0, mv_I 0]) (st' := []) (M1 := M) rfl ?_
  refine mv_tt' (by decide) ?_
  refine mv_go' 5 (pc' := 17) (ls' := [mv_R 50, mv_I (c : Int), mv_I (u : Int), mv_I 0, mv_I 0]) (st' := [mv_I 0, mv_I (u : Int), mv_I (c : Int), mv_R 50, mv_I 0]) (M1 := M) rfl ?_
  refine mv_call (st2 := [mv_I (sp_sa V P c u 0), mv_I 0]) rfl (Or.inl rfl) rfl rfl rfl (sp_csa_50 (k := 0) hV ho hl hP hc hu (by decide)) (by first | decide | omega) (fun M1 h1 => ?_)
  have hV1 := sp_c_ag hV h1 (by decide)
  have hP1 := sp_cts_ag hP h1 hn hS
  refine mv_go' 4 (pc' := 5) (ls' := [mv_R 50, mv_I (c : Int), mv_I (u : Int), mv_I (mv_w (0 + (sp_sa V P c u 0))), mv_I (mv_w (0 + 1))]) (st' := []) (M1 := M1) rfl ?_
  rw [show mv_w (0 + 1) = 1 from by (rw [show mv_w (0 + 1) = 0 + 1 from mv_w_id (by omega) (by omega)]) <;> omega]
  rw [show mv_w (0 + (sp_sa V P c u 0)) = 0 + (sp_sa V P c u 0) from mv_w_id (by omega) (by omega)]
  refine mv_go' 3 (pc' := if 1 < 4 then 11 else 28) (ls' := [mv_R 50, mv_I (c : Int), mv_I (u : Int), mv_I (0 + (sp_sa V P c u 0)), mv_I 1]) (st' := []) (M1 := M1) rfl ?_
  refine mv_tt' (by decide) ?_
  refine mv_go' 5 (pc' := 17) (ls' := [mv_R 50, mv_I (c : Int), mv_I (u : Int), mv_I (0 + (sp_sa V P c u 0)), mv_I 1]) (st' := [mv_I 1, mv_I (u : Int), mv_I (c : Int), mv_R 50, mv_I (0 + (sp_sa V P c u 0))]) (M1 := M1) rfl ?_
  refine mv_call (st2 := [mv_I (sp_sa V P c u 1), mv_I (0 + (sp_sa V P c u 0))]) rfl (Or.inl rfl) rfl rfl rfl (sp_csa_50 (k := 1) hV1 ho hl hP1 hc hu (by decide)) (by first | decide | omega) (fun M2 h2 => ?_)
  have h2 := h1.tr h2
  have hV2 := sp_c_ag hV h2 (by decide)
  have hP2 := sp_cts_ag hP h2 hn hS
  refine mv_go' 4 (pc' := 5) (ls' := [mv_R 50, mv_I (c : Int), mv_I (u : Int), mv_I (mv_w ((0 + (sp_sa V P c u 0)) + (sp_sa V P c u 1))), mv_I (mv_w (1 + 1))]) (st' := []) (M1 := M2) rfl ?_
  rw [show mv_w (1 + 1) = 2 from by (rw [show mv_w (1 + 1) = 1 + 1 from mv_w_id (by omega) (by omega)]) <;> omega]
  rw [show mv_w ((0 + (sp_sa V P c u 0)) + (sp_sa V P c u 1)) = (0 + (sp_sa V P c u 0)) + (sp_sa V P c u 1) from mv_w_id (by omega) (by omega)]
  refine mv_go' 3 (pc' := if 2 < 4 then 11 else 28) (ls' := [mv_R 50, mv_I (c : Int), mv_I (u : Int), mv_I ((0 + (sp_sa V P c u 0)) + (sp_sa V P c u 1)), mv_I 2]) (st' := []) (M1 := M2) rfl ?_
  refine mv_tt' (by decide) ?_
  refine mv_go' 5 (pc' := 17) (ls' := [mv_R 50, mv_I (c : Int), mv_I (u : Int), mv_I ((0 + (sp_sa V P c u 0)) + (sp_sa V P c u 1)), mv_I 2]) (st' := [mv_I 2, mv_I (u : Int), mv_I (c : Int), mv_R 50, mv_I ((0 + (sp_sa V P c u 0)) + (sp_sa V P c u 1))]) (M1 := M2) rfl ?_
  refine mv_call (st2 := [mv_I (sp_sa V P c u 2), mv_I ((0 + (sp_sa V P c u 0)) + (sp_sa V P c u 1))]) rfl (Or.inl rfl) rfl rfl rfl (sp_csa_50 (k := 2) hV2 ho hl hP2 hc hu (by decide)) (by first | decide | omega) (fun M3 h3 => ?_)
  have h3 := h2.tr h3
  have hV3 := sp_c_ag hV h3 (by decide)
  have hP3 := sp_cts_ag hP h3 hn hS
  refine mv_go' 4 (pc' := 5) (ls' := [mv_R 50, mv_I (c : Int), mv_I (u : Int), mv_I (mv_w (((0 + (sp_sa V P c u 0)) + (sp_sa V P c u 1)) + (sp_sa V P c u 2))), mv_I (mv_w (2 + 1))]) (st' := []) (M1 := M3) rfl ?_
  rw [show mv_w (2 + 1) = 3 from by (rw [show mv_w (2 + 1) = 2 + 1 from mv_w_id (by omega) (by omega)]) <;> omega]
  rw [show mv_w (((0 + (sp_sa V P c u 0)) + (sp_sa V P c u 1)) + (sp_sa V P c u 2)) = ((0 + (sp_sa V P c u 0)) + (sp_sa V P c u 1)) + (sp_sa V P c u 2) from mv_w_id (by omega) (by omega)]
  refine mv_go' 3 (pc' := if 3 < 4 then 11 else 28) (ls' := [mv_R 50, mv_I (c : Int), mv_I (u : Int), mv_I (((0 + (sp_sa V P c u 0)) + (sp_sa V P c u 1)) + (sp_sa V P c u 2)), mv_I 3]) (st' := []) (M1 := M3) rfl ?_
  refine mv_tt' (by decide) ?_
  refine mv_go' 5 (pc' := 17) (ls' := [mv_R 50, mv_I (c : Int), mv_I (u : Int), mv_I (((0 + (sp_sa V P c u 0)) + (sp_sa V P c u 1)) + (sp_sa V P c u 2)), mv_I 3]) (st' := [mv_I 3, mv_I (u : Int), mv_I (c : Int), mv_R 50, mv_I (((0 + (sp_sa V P c u 0)) + (sp_sa V P c u 1)) + (sp_sa V P c u 2))]) (M1 := M3) rfl ?_
  refine mv_call (st2 := [mv_I (sp_sa V P c u 3), mv_I (((0 + (sp_sa V P c u 0)) + (sp_sa V P c u 1)) + (sp_sa V P c u 2))]) rfl (Or.inl rfl) rfl rfl rfl (sp_csa_50 (k := 3) hV3 ho hl hP3 hc hu (by decide)) (by first | decide | omega) (fun M4 h4 => ?_)
  have h4 := h3.tr h4
  refine mv_go' 4 (pc' := 5) (ls' := [mv_R 50, mv_I (c : Int), mv_I (u : Int), mv_I (mv_w ((((0 + (sp_sa V P c u 0)) + (sp_sa V P c u 1)) + (sp_sa V P c u 2)) + (sp_sa V P c u 3))), mv_I (mv_w (3 + 1))]) (st' := []) (M1 := M4) rfl ?_
  rw [show mv_w (3 + 1) = 4 from by (rw [show mv_w (3 + 1) = 3 + 1 from mv_w_id (by omega) (by omega)]) <;> omega]
  rw [show mv_w ((((0 + (sp_sa V P c u 0)) + (sp_sa V P c u 1)) + (sp_sa V P c u 2)) + (sp_sa V P c u 3)) = (((0 + (sp_sa V P c u 0)) + (sp_sa V P c u 1)) + (sp_sa V P c u 2)) + (sp_sa V P c u 3) from mv_w_id (by omega) (by omega)]
  refine mv_go' 3 (pc' := if 4 < 4 then 11 else 28) (ls' := [mv_R 50, mv_I (c : Int), mv_I (u : Int), mv_I ((((0 + (sp_sa V P c u 0)) + (sp_sa V P c u 1)) + (sp_sa V P c u 2)) + (sp_sa V P c u 3)), mv_I 4]) (st' := []) (M1 := M4) rfl ?_
  refine mv_ff' (by decide) ?_
  refine mv_go' 1 (pc' := 29) (ls' := [mv_R 50, mv_I (c : Int), mv_I (u : Int), mv_I ((((0 + (sp_sa V P c u 0)) + (sp_sa V P c u 1)) + (sp_sa V P c u 2)) + (sp_sa V P c u 3)), mv_I 4]) (st' := [mv_I ((((0 + (sp_sa V P c u 0)) + (sp_sa V P c u 1)) + (sp_sa V P c u 2)) + (sp_sa V P c u 3))]) (M1 := M4) rfl ?_
  exact mv_Ru.val (mv_ret (fun n => rfl) (h4)) (congrArg mv_I (by unfold sp_suits; omega))
theorem sp_clikes_50 {V M : mv_M} {P : Nat → Nat → List Int} {n : Int} {c u : Nat} (hV : sp_c 50 M V) (ho : sp_ok V) (hl : V 0 11 < n) (hn : n ≤ 6) (hP : sp_cts M P n) (hc : c < 6) (hu : (u : Int) < V 0 9) :
    mv_Ru 3 54 0 [mv_R 50, mv_I (c : Int), mv_I (u : Int), mv_U, mv_U] [] M (mv_I (sp_likes V P c u)) (fun M1 => mv_ag [56, 57] M M1) := by
  have hS : ∀ i, 10 ≤ i → i < 28 → i ∉ [56, 57] := fun i h1 h2 => by simp; omega
  have b0 := sp_says_b V P 1 u 0 (V 1 (4 * c))
  have b1 := sp_says_b V P 1 u 1 (V 1 (4 * c + 1))
  have b2 := sp_says_b V P 1 u 2 (V 1 (4 * c + 2))
  have b3 := sp_says_b V P 1 u 3 (V 1 (4 * c + 3))
  have h9 := sp_ok_s9 ho
  refine mv_go' 4 (pc' := 5) (ls' := [mv_R 50, mv_I (c : Int), mv_I (u : Int), mv_I 0, mv_I 0]) (st' := []) (M1 := M) rfl ?_
  refine mv_go' 3 (pc' := if 0 < 4 then 11 else 39) (ls' := [mv_R 50, mv_I (c : Int), mv_I (u : Int), mv_I 0, mv_I 0]) (st' := []) (M1 := M) rfl ?_
  refine mv_tt' (by decide) ?_
  refine mv_go' 12 (pc' := 27) (ls' := [mv_R 50, mv_I (c : Int), mv_I (u : Int), mv_I 0, mv_I 0]) (st' := [mv_I (mv_w ((mv_w ((c : Int) * 4)) + 0)), mv_R 51, mv_I 0, mv_I (u : Int), mv_I 1, mv_R 50, mv_I 0]) (M1 := M) rfl ?_
  rw [show mv_w ((mv_w ((c : Int) * 4)) + 0) = ((4 * c : Nat) : Int) from by (rw [show mv_w ((c : Int) * 4) = (c : Int) * 4 from mv_w_id (by omega) (by omega), show mv_w (((c : Int) * 4) + 0) = ((c : Int) * 4) + 0 from mv_w_id (by omega) (by omega)]) <;> omega]
  refine mv_go' 1 (pc' := if 0 ≤ ((4 * c : Nat) : Int) ∧ ((4 * c : Nat) : Int) < 24 then 28 else mv_bad) (ls' := [mv_R 50, mv_I (c : Int), mv_I (u : Int), mv_I 0, mv_I 0]) (st' := [mv_I (M 51 (4 * c)), mv_I 0, mv_I (u : Int), mv_I 1, mv_R 50, mv_I 0]) (M1 := M) rfl ?_
  refine mv_tt' (by omega) ?_
  have hr11 := sp_ok_1 ho (4 * c) (by omega)
  rw [show M 51 (4 * c) = V 1 (4 * c) from by exact sp_c_1 hV (4 * c) (by omega)]
  refine mv_call (st2 := [mv_I (sp_says V P 1 u 0 (V 1 (4 * c))), mv_I 0]) rfl (Or.inl rfl) rfl rfl rfl (sp_csays_50 (p := 1) (k := 0) hV ho hl hP (by decide) hu (by decide)) (by first | decide | omega) (fun M1 h1 => ?_)
  have hV1 := sp_c_ag hV h1 (by decide)
  have hP1 := sp_cts_ag hP h1 hn hS
  refine mv_go' 4 (pc' := 5) (ls' := [mv_R 50, mv_I (c : Int), mv_I (u : Int), mv_I (mv_w (0 + (sp_says V P 1 u 0 (V 1 (4 * c))))), mv_I (mv_w (0 + 1))]) (st' := []) (M1 := M1) rfl ?_
  rw [show mv_w (0 + 1) = 1 from by (rw [show mv_w (0 + 1) = 0 + 1 from mv_w_id (by omega) (by omega)]) <;> omega]
  rw [show mv_w (0 + (sp_says V P 1 u 0 (V 1 (4 * c)))) = 0 + (sp_says V P 1 u 0 (V 1 (4 * c))) from mv_w_id (by omega) (by omega)]
  refine mv_go' 3 (pc' := if 1 < 4 then 11 else 39) (ls' := [mv_R 50, mv_I (c : Int), mv_I (u : Int), mv_I (0 + (sp_says V P 1 u 0 (V 1 (4 * c)))), mv_I 1]) (st' := []) (M1 := M1) rfl ?_
  refine mv_tt' (by decide) ?_
  refine mv_go' 12 (pc' := 27) (ls' := [mv_R 50, mv_I (c : Int), mv_I (u : Int), mv_I (0 + (sp_says V P 1 u 0 (V 1 (4 * c)))), mv_I 1]) (st' := [mv_I (mv_w ((mv_w ((c : Int) * 4)) + 1)), mv_R 51, mv_I 1, mv_I (u : Int), mv_I 1, mv_R 50, mv_I (0 + (sp_says V P 1 u 0 (V 1 (4 * c))))]) (M1 := M1) rfl ?_
  rw [show mv_w ((mv_w ((c : Int) * 4)) + 1) = ((4 * c + 1 : Nat) : Int) from by (rw [show mv_w ((c : Int) * 4) = (c : Int) * 4 from mv_w_id (by omega) (by omega), show mv_w (((c : Int) * 4) + 1) = ((c : Int) * 4) + 1 from mv_w_id (by omega) (by omega)]) <;> omega]
  refine mv_go' 1 (pc' := if 0 ≤ ((4 * c + 1 : Nat) : Int) ∧ ((4 * c + 1 : Nat) : Int) < 24 then 28 else mv_bad) (ls' := [mv_R 50, mv_I (c : Int), mv_I (u : Int), mv_I (0 + (sp_says V P 1 u 0 (V 1 (4 * c)))), mv_I 1]) (st' := [mv_I (M1 51 (4 * c + 1)), mv_I 1, mv_I (u : Int), mv_I 1, mv_R 50, mv_I (0 + (sp_says V P 1 u 0 (V 1 (4 * c))))]) (M1 := M1) rfl ?_
  refine mv_tt' (by omega) ?_
  have hr13 := sp_ok_1 ho (4 * c + 1) (by omega)
  rw [show M1 51 (4 * c + 1) = V 1 (4 * c + 1) from by exact sp_c_1 hV1 (4 * c + 1) (by omega)]
  refine mv_call (st2 := [mv_I (sp_says V P 1 u 1 (V 1 (4 * c + 1))), mv_I (0 + (sp_says V P 1 u 0 (V 1 (4 * c))))]) rfl (Or.inl rfl) rfl rfl rfl (sp_csays_50 (p := 1) (k := 1) hV1 ho hl hP1 (by decide) hu (by decide)) (by first | decide | omega) (fun M2 h2 => ?_)
  have h2 := h1.tr h2
  have hV2 := sp_c_ag hV h2 (by decide)
  have hP2 := sp_cts_ag hP h2 hn hS
  refine mv_go' 4 (pc' := 5) (ls' := [mv_R 50, mv_I (c : Int), mv_I (u : Int), mv_I (mv_w ((0 + (sp_says V P 1 u 0 (V 1 (4 * c)))) + (sp_says V P 1 u 1 (V 1 (4 * c + 1))))), mv_I (mv_w (1 + 1))]) (st' := []) (M1 := M2) rfl ?_
  rw [show mv_w (1 + 1) = 2 from by (rw [show mv_w (1 + 1) = 1 + 1 from mv_w_id (by omega) (by omega)]) <;> omega]
  rw [show mv_w ((0 + (sp_says V P 1 u 0 (V 1 (4 * c)))) + (sp_says V P 1 u 1 (V 1 (4 * c + 1)))) = (0 + (sp_says V P 1 u 0 (V 1 (4 * c)))) + (sp_says V P 1 u 1 (V 1 (4 * c + 1))) from mv_w_id (by omega) (by omega)]
  refine mv_go' 3 (pc' := if 2 < 4 then 11 else 39) (ls' := [mv_R 50, mv_I (c : Int), mv_I (u : Int), mv_I ((0 + (sp_says V P 1 u 0 (V 1 (4 * c)))) + (sp_says V P 1 u 1 (V 1 (4 * c + 1)))), mv_I 2]) (st' := []) (M1 := M2) rfl ?_
  refine mv_tt' (by decide) ?_
  refine mv_go' 12 (pc' := 27) (ls' := [mv_R 50, mv_I (c : Int), mv_I (u : Int), mv_I ((0 + (sp_says V P 1 u 0 (V 1 (4 * c)))) + (sp_says V P 1 u 1 (V 1 (4 * c + 1)))), mv_I 2]) (st' := [mv_I (mv_w ((mv_w ((c : Int) * 4)) + 2)), mv_R 51, mv_I 2, mv_I (u : Int), mv_I 1, mv_R 50, mv_I ((0 + (sp_says V P 1 u 0 (V 1 (4 * c)))) + (sp_says V P 1 u 1 (V 1 (4 * c + 1))))]) (M1 := M2) rfl ?_
  rw [show mv_w ((mv_w ((c : Int) * 4)) + 2) = ((4 * c + 2 : Nat) : Int) from by (rw [show mv_w ((c : Int) * 4) = (c : Int) * 4 from mv_w_id (by omega) (by omega), show mv_w (((c : Int) * 4) + 2) = ((c : Int) * 4) + 2 from mv_w_id (by omega) (by omega)]) <;> omega]
  refine mv_go' 1 (pc' := if 0 ≤ ((4 * c + 2 : Nat) : Int) ∧ ((4 * c + 2 : Nat) : Int) < 24 then 28 else mv_bad) (ls' := [mv_R 50, mv_I (c : Int), mv_I (u : Int), mv_I ((0 + (sp_says V P 1 u 0 (V 1 (4 * c)))) + (sp_says V P 1 u 1 (V 1 (4 * c + 1)))), mv_I 2]) (st' := [mv_I (M2 51 (4 * c + 2)), mv_I 2, mv_I (u : Int), mv_I 1, mv_R 50, mv_I ((0 + (sp_says V P 1 u 0 (V 1 (4 * c)))) + (sp_says V P 1 u 1 (V 1 (4 * c + 1))))]) (M1 := M2) rfl ?_
  refine mv_tt' (by omega) ?_
  have hr15 := sp_ok_1 ho (4 * c + 2) (by omega)
  rw [show M2 51 (4 * c + 2) = V 1 (4 * c + 2) from by exact sp_c_1 hV2 (4 * c + 2) (by omega)]
  refine mv_call (st2 := [mv_I (sp_says V P 1 u 2 (V 1 (4 * c + 2))), mv_I ((0 + (sp_says V P 1 u 0 (V 1 (4 * c)))) + (sp_says V P 1 u 1 (V 1 (4 * c + 1))))]) rfl (Or.inl rfl) rfl rfl rfl (sp_csays_50 (p := 1) (k := 2) hV2 ho hl hP2 (by decide) hu (by decide)) (by first | decide | omega) (fun M3 h3 => ?_)
  have h3 := h2.tr h3
  have hV3 := sp_c_ag hV h3 (by decide)
  have hP3 := sp_cts_ag hP h3 hn hS
  refine mv_go' 4 (pc' := 5) (ls' := [mv_R 50, mv_I (c : Int), mv_I (u : Int), mv_I (mv_w (((0 + (sp_says V P 1 u 0 (V 1 (4 * c)))) + (sp_says V P 1 u 1 (V 1 (4 * c + 1)))) + (sp_says V P 1 u 2 (V 1 (4 * c + 2))))), mv_I (mv_w (2 + 1))]) (st' := []) (M1 := M3) rfl ?_
  rw [show mv_w (2 + 1) = 3 from by (rw [show mv_w (2 + 1) = 2 + 1 from mv_w_id (by omega) (by omega)]) <;> omega]
  rw [show mv_w (((0 + (sp_says V P 1 u 0 (V 1 (4 * c)))) + (sp_says V P 1 u 1 (V 1 (4 * c + 1)))) + (sp_says V P 1 u 2 (V 1 (4 * c + 2)))) = ((0 + (sp_says V P 1 u 0 (V 1 (4 * c)))) + (sp_says V P 1 u 1 (V 1 (4 * c + 1)))) + (sp_says V P 1 u 2 (V 1 (4 * c + 2))) from mv_w_id (by omega) (by omega)]
  refine mv_go' 3 (pc' := if 3 < 4 then 11 else 39) (ls' := [mv_R 50, mv_I (c : Int), mv_I (u : Int), mv_I (((0 + (sp_says V P 1 u 0 (V 1 (4 * c)))) + (sp_says V P 1 u 1 (V 1 (4 * c + 1)))) + (sp_says V P 1 u 2 (V 1 (4 * c + 2)))), mv_I 3]) (st' := []) (M1 := M3) rfl ?_
  refine mv_tt' (by decide) ?_
  refine mv_go' 12 (pc' := 27) (ls' := [mv_R 50, mv_I (c : Int), mv_I (u : Int), mv_I (((0 + (sp_says V P 1 u 0 (V 1 (4 * c)))) + (sp_says V P 1 u 1 (V 1 (4 * c + 1)))) + (sp_says V P 1 u 2 (V 1 (4 * c + 2)))), mv_I 3]) (st' := [mv_I (mv_w ((mv_w ((c : Int) * 4)) + 3)), mv_R 51, mv_I 3, mv_I (u : Int), mv_I 1, mv_R 50, mv_I (((0 + (sp_says V P 1 u 0 (V 1 (4 * c)))) + (sp_says V P 1 u 1 (V 1 (4 * c + 1)))) + (sp_says V P 1 u 2 (V 1 (4 * c + 2))))]) (M1 := M3) rfl ?_
  rw [show mv_w ((mv_w ((c : Int) * 4)) + 3) = ((4 * c + 3 : Nat) : Int) from by (rw [show mv_w ((c : Int) * 4) = (c : Int) * 4 from mv_w_id (by omega) (by omega), show mv_w (((c : Int) * 4) + 3) = ((c : Int) * 4) + 3 from mv_w_id (by omega) (by omega)]) <;> omega]
  refine mv_go' 1 (pc' := if 0 ≤ ((4 * c + 3 : Nat) : Int) ∧ ((4 * c + 3 : Nat) : Int) < 24 then 28 else mv_bad) (ls' := [mv_R 50, mv_I (c : Int), mv_I (u : Int), mv_I (((0 + (sp_says V P 1 u 0 (V 1 (4 * c)))) + (sp_says V P 1 u 1 (V 1 (4 * c + 1)))) + (sp_says V P 1 u 2 (V 1 (4 * c + 2)))), mv_I 3]) (st' := [mv_I (M3 51 (4 * c + 3)), mv_I 3, mv_I (u : Int), mv_I 1, mv_R 50, mv_I (((0 + (sp_says V P 1 u 0 (V 1 (4 * c)))) + (sp_says V P 1 u 1 (V 1 (4 * c + 1)))) + (sp_says V P 1 u 2 (V 1 (4 * c + 2))))]) (M1 := M3) rfl ?_
  refine mv_tt' (by omega) ?_
  have hr17 := sp_ok_1 ho (4 * c + 3) (by omega)
  rw [show M3 51 (4 * c + 3) = V 1 (4 * c + 3) from by exact sp_c_1 hV3 (4 * c + 3) (by omega)]
  refine mv_call (st2 := [mv_I (sp_says V P 1 u 3 (V 1 (4 * c + 3))), mv_I (((0 + (sp_says V P 1 u 0 (V 1 (4 * c)))) + (sp_says V P 1 u 1 (V 1 (4 * c + 1)))) + (sp_says V P 1 u 2 (V 1 (4 * c + 2))))]) rfl (Or.inl rfl) rfl rfl rfl (sp_csays_50 (p := 1) (k := 3) hV3 ho hl hP3 (by decide) hu (by decide)) (by first | decide | omega) (fun M4 h4 => ?_)
  have h4 := h3.tr h4
  have hV4 := sp_c_ag hV h4 (by decide)
  refine mv_go' 4 (pc' := 5) (ls' := [mv_R 50, mv_I (c : Int), mv_I (u : Int), mv_I (mv_w ((((0 + (sp_says V P 1 u 0 (V 1 (4 * c)))) + (sp_says V P 1 u 1 (V 1 (4 * c + 1)))) + (sp_says V P 1 u 2 (V 1 (4 * c + 2)))) + (sp_says V P 1 u 3 (V 1 (4 * c + 3))))), mv_I (mv_w (3 + 1))]) (st' := []) (M1 := M4) rfl ?_
  rw [show mv_w (3 + 1) = 4 from by (rw [show mv_w (3 + 1) = 3 + 1 from mv_w_id (by omega) (by omega)]) <;> omega]
  rw [show mv_w ((((0 + (sp_says V P 1 u 0 (V 1 (4 * c)))) + (sp_says V P 1 u 1 (V 1 (4 * c + 1)))) + (sp_says V P 1 u 2 (V 1 (4 * c + 2)))) + (sp_says V P 1 u 3 (V 1 (4 * c + 3)))) = (((0 + (sp_says V P 1 u 0 (V 1 (4 * c)))) + (sp_says V P 1 u 1 (V 1 (4 * c + 1)))) + (sp_says V P 1 u 2 (V 1 (4 * c + 2)))) + (sp_says V P 1 u 3 (V 1 (4 * c + 3))) from mv_w_id (by omega) (by omega)]
  rw [show 0 + sp_says V P 1 u 0 (V 1 (4 * c)) = sp_says V P 1 u 0 (V 1 (4 * c)) from by omega]
  -- pc 5 cond None ls [mv_R 50, mv_I (c : Int), mv_I (u : Int), mv_I (((sp_says V P 1 u 0 (V 1 (4 * c)) + (sp_says V P 1 u 1 (V 1 (4 * c + 1)))) + (sp_says V P 1 u 2 (V 1 (4 * c + 2)))) + (sp_says V P 1 u 3 (V 1 (4 * c + 3)))), mv_I 4] st []
  have hb := sp_ns_b ho hc
  have hb4 := sp_l4_b V P c u
  refine mv_go' 3 (pc' := if 4 < 4 then 11 else 39) (ls' := [mv_R 50, mv_I (c : Int), mv_I (u : Int), mv_I (((sp_says V P 1 u 0 (V 1 (4 * c)) + (sp_says V P 1 u 1 (V 1 (4 * c + 1)))) + (sp_says V P 1 u 2 (V 1 (4 * c + 2)))) + (sp_says V P 1 u 3 (V 1 (4 * c + 3)))), mv_I 4]) (st' := []) (M1 := M4) rfl ?_
  refine mv_ff' (by decide) ?_
  refine mv_go' 2 (pc' := 41) (ls' := [mv_R 50, mv_I (c : Int), mv_I (u : Int), mv_I (((sp_says V P 1 u 0 (V 1 (4 * c)) + (sp_says V P 1 u 1 (V 1 (4 * c + 1)))) + (sp_says V P 1 u 2 (V 1 (4 * c + 2)))) + (sp_says V P 1 u 3 (V 1 (4 * c + 3)))), mv_I 4]) (st' := [mv_I (c : Int), mv_R 50]) (M1 := M4) rfl ?_
  refine mv_callP (st2 := [mv_I (sp_ns V c)]) rfl (Or.inl rfl) rfl rfl rfl (sp_cns_50 hV4 ho hc) (by first | decide | omega) ?_
  refine mv_go' 5 (pc' := if 0 ≤ (u : Int) ∧ (u : Int) < 6 then 52 else mv_bad) (ls' := [mv_R 50, mv_I (c : Int), mv_I (u : Int), mv_I (((sp_says V P 1 u 0 (V 1 (4 * c)) + (sp_says V P 1 u 1 (V 1 (4 * c + 1)))) + (sp_says V P 1 u 2 (V 1 (4 * c + 2)))) + (sp_says V P 1 u 3 (V 1 (4 * c + 3)))), mv_I (sp_ns V c)]) (st' := [mv_I (M4 54 u)]) (M1 := M4) rfl ?_
  refine mv_tt' (by omega) ?_
  have hr19 := sp_ok_4 ho u (by omega)
  rw [show M4 54 u = V 4 u from by exact sp_c_4 hV4 u (by omega)]
  refine mv_go' 1 (pc' := mv_swg [(2, 84), (3, 108), (4, 89), (5, 95)] 108 (V 4 u)) (ls' := [mv_R 50, mv_I (c : Int), mv_I (u : Int), mv_I (((sp_says V P 1 u 0 (V 1 (4 * c)) + (sp_says V P 1 u 1 (V 1 (4 * c + 1)))) + (sp_says V P 1 u 2 (V 1 (4 * c + 2)))) + (sp_says V P 1 u 3 (V 1 (4 * c + 3)))), mv_I (sp_ns V c)]) (st' := []) (M1 := M4) rfl ?_
  rcases (by omega : V 4 u = 0 ∨ V 4 u = 1 ∨ V 4 u = 2 ∨ V 4 u = 3 ∨ V 4 u = 4 ∨ V 4 u = 5) with e | e | e | e | e | e
  · refine mv_pcq (pc2 := 108) (by rw [e]; rfl) ?_
    refine mv_go' 1 (pc' := 109) (ls' := [mv_R 50, mv_I (c : Int), mv_I (u : Int), mv_I (((sp_says V P 1 u 0 (V 1 (4 * c)) + (sp_says V P 1 u 1 (V 1 (4 * c + 1)))) + (sp_says V P 1 u 2 (V 1 (4 * c + 2)))) + (sp_says V P 1 u 3 (V 1 (4 * c + 3)))), mv_I (sp_ns V c)]) (st' := [mv_I (((sp_says V P 1 u 0 (V 1 (4 * c)) + (sp_says V P 1 u 1 (V 1 (4 * c + 1)))) + (sp_says V P 1 u 2 (V 1 (4 * c + 2)))) + (sp_says V P 1 u 3 (V 1 (4 * c + 3))))]) (M1 := M4) rfl ?_
    exact mv_Ru.val (mv_ret (fun n => rfl) (h4)) (congrArg mv_I (by simp [sp_likes, sp_l4, e]))
  · refine mv_pcq (pc2 := 108) (by rw [e]; rfl) ?_
    refine mv_go' 1 (pc' := 109) (ls' := [mv_R 50, mv_I (c : Int), mv_I (u : Int), mv_I (((sp_says V P 1 u 0 (V 1 (4 * c)) + (sp_says V P 1 u 1 (V 1 (4 * c + 1)))) + (sp_says V P 1 u 2 (V 1 (4 * c + 2)))) + (sp_says V P 1 u 3 (V 1 (4 * c + 3)))), mv_I (sp_ns V c)]) (st' := [mv_I (((sp_says V P 1 u 0 (V 1 (4 * c)) + (sp_says V P 1 u 1 (V 1 (4 * c + 1)))) + (sp_says V P 1 u 2 (V 1 (4 * c + 2)))) + (sp_says V P 1 u 3 (V 1 (4 * c + 3))))]) (M1 := M4) rfl ?_
    exact mv_Ru.val (mv_ret (fun n => rfl) (h4)) (congrArg mv_I (by simp [sp_likes, sp_l4, e]))
  · refine mv_pcq (pc2 := 84) (by rw [e]; rfl) ?_
    refine mv_go' 3 (pc' := 88) (ls' := [mv_R 50, mv_I (c : Int), mv_I (u : Int), mv_I (((sp_says V P 1 u 0 (V 1 (4 * c)) + (sp_says V P 1 u 1 (V 1 (4 * c + 1)))) + (sp_says V P 1 u 2 (V 1 (4 * c + 2)))) + (sp_says V P 1 u 3 (V 1 (4 * c + 3)))), mv_I (sp_ns V c)]) (st' := [mv_I (mv_w ((((sp_says V P 1 u 0 (V 1 (4 * c)) + (sp_says V P 1 u 1 (V 1 (4 * c + 1)))) + (sp_says V P 1 u 2 (V 1 (4 * c + 2)))) + (sp_says V P 1 u 3 (V 1 (4 * c + 3)))) + (sp_ns V c)))]) (M1 := M4) rfl ?_
    rw [show mv_w ((((sp_says V P 1 u 0 (V 1 (4 * c)) + (sp_says V P 1 u 1 (V 1 (4 * c + 1)))) + (sp_says V P 1 u 2 (V 1 (4 * c + 2)))) + (sp_says V P 1 u 3 (V 1 (4 * c + 3)))) + (sp_ns V c)) = (((sp_says V P 1 u 0 (V 1 (4 * c)) + (sp_says V P 1 u 1 (V 1 (4 * c + 1)))) + (sp_says V P 1 u 2 (V 1 (4 * c + 2)))) + (sp_says V P 1 u 3 (V 1 (4 * c + 3)))) + (sp_ns V c) from mv_w_id (by omega) (by omega)]
    exact mv_Ru.val (mv_ret (fun n => rfl) (h4)) (congrArg mv_I (by simp [sp_likes, sp_l4, e]))
  · refine mv_pcq (pc2 := 108) (by rw [e]; rfl) ?_
    refine mv_go' 1 (pc' := 109) (ls' := [mv_R 50, mv_I (c : Int), mv_I (u : Int), mv_I (((sp_says V P 1 u 0 (V 1 (4 * c)) + (sp_says V P 1 u 1 (V 1 (4 * c + 1)))) + (sp_says V P 1 u 2 (V 1 (4 * c + 2)))) + (sp_says V P 1 u 3 (V 1 (4 * c + 3)))), mv_I (sp_ns V c)]) (st' := [mv_I (((sp_says V P 1 u 0 (V 1 (4 * c)) + (sp_says V P 1 u 1 (V 1 (4 * c + 1)))) + (sp_says V P 1 u 2 (V 1 (4 * c + 2)))) + (sp_says V P 1 u 3 (V 1 (4 * c + 3))))]) (M1 := M4) rfl ?_
    exact mv_Ru.val (mv_ret (fun n => rfl) (h4)) (congrArg mv_I (by simp [sp_likes, sp_l4, e]))
  · refine mv_pcq (pc2 := 89) (by rw [e]; rfl) ?_
    refine mv_go' 4 (pc' := 94) (ls' := [mv_R 50, mv_I (c : Int), mv_I (u : Int), mv_I (((sp_says V P 1 u 0 (V 1 (4 * c)) + (sp_says V P 1 u 1 (V 1 (4 * c + 1)))) + (sp_says V P 1 u 2 (V 1 (4 * c + 2)))) + (sp_says V P 1 u 3 (V 1 (4 * c + 3)))), mv_I (sp_ns V c)]) (st' := [mv_I (mv_w (-(mv_w ((((sp_says V P 1 u 0 (V 1 (4 * c)) + (sp_says V P 1 u 1 (V 1 (4 * c + 1)))) + (sp_says V P 1 u 2 (V 1 (4 * c + 2)))) + (sp_says V P 1 u 3 (V 1 (4 * c + 3)))) + (sp_ns V c)))))]) (M1 := M4) rfl ?_
    rw [show mv_w ((((sp_says V P 1 u 0 (V 1 (4 * c)) + (sp_says V P 1 u 1 (V 1 (4 * c + 1)))) + (sp_says V P 1 u 2 (V 1 (4 * c + 2)))) + (sp_says V P 1 u 3 (V 1 (4 * c + 3)))) + (sp_ns V c)) = (((sp_says V P 1 u 0 (V 1 (4 * c)) + (sp_says V P 1 u 1 (V 1 (4 * c + 1)))) + (sp_says V P 1 u 2 (V 1 (4 * c + 2)))) + (sp_says V P 1 u 3 (V 1 (4 * c + 3)))) + (sp_ns V c) from mv_w_id (by omega) (by omega)]
    rw [show mv_w (-((((sp_says V P 1 u 0 (V 1 (4 * c)) + (sp_says V P 1 u 1 (V 1 (4 * c + 1)))) + (sp_says V P 1 u 2 (V 1 (4 * c + 2)))) + (sp_says V P 1 u 3 (V 1 (4 * c + 3)))) + (sp_ns V c))) = -((((sp_says V P 1 u 0 (V 1 (4 * c)) + (sp_says V P 1 u 1 (V 1 (4 * c + 1)))) + (sp_says V P 1 u 2 (V 1 (4 * c + 2)))) + (sp_says V P 1 u 3 (V 1 (4 * c + 3)))) + (sp_ns V c)) from mv_w_id (by omega) (by omega)]
    exact mv_Ru.val (mv_ret (fun n => rfl) (h4)) (congrArg mv_I (by simp [sp_likes, sp_l4, e]))
  · refine mv_pcq (pc2 := 95) (by rw [e]; rfl) ?_
    refine mv_go' 3 (pc' := if 20 < (sp_ns V c) then 102 else 106) (ls' := [mv_R 50, mv_I (c : Int), mv_I (u : Int), mv_I (((sp_says V P 1 u 0 (V 1 (4 * c)) + (sp_says V P 1 u 1 (V 1 (4 * c + 1)))) + (sp_says V P 1 u 2 (V 1 (4 * c + 2)))) + (sp_says V P 1 u 3 (V 1 (4 * c + 3)))), mv_I (sp_ns V c)]) (st' := []) (M1 := M4) rfl ?_
    refine mv_sp' (fun h20 => ?_) (fun h20 => ?_)
    · refine mv_go' 2 (pc' := 107) (ls' := [mv_R 50, mv_I (c : Int), mv_I (u : Int), mv_I (((sp_says V P 1 u 0 (V 1 (4 * c)) + (sp_says V P 1 u 1 (V 1 (4 * c + 1)))) + (sp_says V P 1 u 2 (V 1 (4 * c + 2)))) + (sp_says V P 1 u 3 (V 1 (4 * c + 3)))), mv_I (sp_ns V c)]) (st' := [mv_I 0]) (M1 := M4) rfl ?_
      exact mv_Ru.val (mv_ret (fun n => rfl) (h4)) (congrArg mv_I (by simp [sp_likes, sp_l4, e, h20]))
    · refine mv_go' 1 (pc' := 107) (ls' := [mv_R 50, mv_I (c : Int), mv_I (u : Int), mv_I (((sp_says V P 1 u 0 (V 1 (4 * c)) + (sp_says V P 1 u 1 (V 1 (4 * c + 1)))) + (sp_says V P 1 u 2 (V 1 (4 * c + 2)))) + (sp_says V P 1 u 3 (V 1 (4 * c + 3)))), mv_I (sp_ns V c)]) (st' := [mv_I (((sp_says V P 1 u 0 (V 1 (4 * c)) + (sp_says V P 1 u 1 (V 1 (4 * c + 1)))) + (sp_says V P 1 u 2 (V 1 (4 * c + 2)))) + (sp_says V P 1 u 3 (V 1 (4 * c + 3))))]) (M1 := M4) rfl ?_
      exact mv_Ru.val (mv_ret (fun n => rfl) (h4)) (congrArg mv_I (by simp [sp_likes, sp_l4, e, h20]))
