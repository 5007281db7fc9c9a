/-! the model: suitsOf, likesOf -/
theorem sp_msuits {V M : mv_M} {P : Nat → Nat → List Int} {n : Int} {c u : Nat} (hV : sp_m M V) (ho : sp_ok V) (hl : V 0 11 < n) (hP : sp_mts M P n) (hc : c < 6) (hu : (u : Int) < V 0 9) :
    mv_Ru 4 146 0 [mv_R 100, mv_I (c : Int), mv_I (u : Int), mv_U, mv_U] [] M (mv_I (sp_suits V P c u)) (fun M1 => mv_ag [130, 131] M M1) := by
  have b0 := sp_sa_b P ho c hu 0
  have b1 := sp_sa_b P ho c hu 1
  have b2 := sp_sa_b P ho c hu 2
  have b3 := sp_sa_b P ho c hu 3
  refine mv_go' 4 (pc' := 5) (ls' := [mv_R 100, mv_I (c : Int), mv_I (u : Int), mv_I 0, mv_I 0]) (st' := []) (M1 := M) rfl ?_
  refine mv_go' 3 (pc' := if 0 < 4 then 11 else 38) (ls' := [mv_R 100, mv_I (c : Int), mv_I (u : Int), mv_I 0, mv_I 0]) (st' := []) (M1 := M) rfl ?_
  refine mv_tt' (by decide) ?_
  refine mv_go' 10 (pc' := 24) (ls' := [mv_R 100, mv_I (c : Int), mv_I (u : Int), mv_I 0, mv_I 0]) (st' := [mv_I (mv_w ((mv_w (4 * (c : Int))) + 0)), mv_R 104, mv_I (u : Int), mv_R 100, mv_I 0]) (M1 := M) rfl ?_
  rw [show mv_w ((mv_w (4 * (c : Int))) + 0) = ((4 * c : Nat) : Int) from by (rw [show mv_w (4 * (c : Int)) = 4 * (c : Int) from mv_w_id (by omega) (by omega), show mv_w ((4 * (c : Int)) + 0) = (4 * (c : Int)) + 0 from mv_w_id (by omega) (by omega)]) <;> omega]
  refine mv_go' 1 (pc' := if 0 ≤ ((4 * c : Nat) : Int) ∧ ((4 * c : Nat) : Int) < 24 then 25 else mv_bad) (ls' := [mv_R 100, mv_I (c : Int), mv_I (u : Int), mv_I 0, mv_I 0]) (st' := [mv_I (M 104 (4 * c)), mv_I (u : Int), mv_R 100, mv_I 0]) (M1 := M) rfl ?_
  refine mv_tt' (by omega) ?_
  have hr1 := sp_ok_1 ho (4 * c) (by omega)
  rw [show M 104 (4 * c) = V 1 (4 * c) from by exact sp_m_1 hV (4 * c) (by omega)]
  refine mv_go' 1 (pc' := 27) (ls' := [mv_R 100, mv_I (c : Int), mv_I (u : Int), mv_I 0, mv_I 0]) (st' := [mv_I 0, mv_I (V 1 (4 * c)), mv_I (u : Int), mv_R 100, mv_I 0]) (M1 := M) rfl ?_
  refine mv_call (st2 := [mv_I (sp_sa V P c u 0), mv_I 0]) rfl (Or.inl rfl) rfl rfl rfl (sp_msa (k := 0) hV ho hl hP hc hu (by decide)) (by first | decide | omega) (fun M1 h1 => ?_)
  have hV1 := sp_m_ag2 hV h1 (by decide)
  have hP1 := sp_mts_ag hP h1 (by decide)
  refine mv_go' 4 (pc' := 5) (ls' := [mv_R 100, mv_I (c : Int), mv_I (u : Int), mv_I (mv_w (0 + (sp_sa V P c u 0))), mv_I (mv_w (0 + 1))]) (st' := []) (M1 := M1) rfl ?_
  rw [show mv_w (0 + 1) = 1 from by (rw [show mv_w (0 + 1) = 0 + 1 from mv_w_id (by omega) (by omega)]) <;> omega]
  rw [show mv_w (0 + (sp_sa V P c u 0)) = 0 + (sp_sa V P c u 0) from mv_w_id (by omega) (by omega)]
  refine mv_go' 3 (pc' := if 1 < 4 then 11 else 38) (ls' := [mv_R 100, mv_I (c : Int), mv_I (u : Int), mv_I (0 + (sp_sa V P c u 0)), mv_I 1]) (st' := []) (M1 := M1) rfl ?_
  refine mv_tt' (by decide) ?_
  refine mv_go' 10 (pc' := 24) (ls' := [mv_R 100, mv_I (c : Int), mv_I (u : Int), mv_I (0 + (sp_sa V P c u 0)), mv_I 1]) (st' := [mv_I (mv_w ((mv_w (4 * (c : Int))) + 1)), mv_R 104, mv_I (u : Int), mv_R 100, mv_I (0 + (sp_sa V P c u 0))]) (M1 := M1) rfl ?_
  rw [show mv_w ((mv_w (4 * (c : Int))) + 1) = ((4 * c + 1 : Nat) : Int) from by (rw [show mv_w (4 * (c : Int)) = 4 * (c : Int) from mv_w_id (by omega) (by omega), show mv_w ((4 * (c : Int)) + 1) = (4 * (c : Int)) + 1 from mv_w_id (by omega) (by omega)]) <;> omega]
  refine mv_go' 1 (pc' := if 0 ≤ ((4 * c + 1 : Nat) : Int) ∧ ((4 * c + 1 : Nat) : Int) < 24 then 25 else mv_bad) (ls' := [mv_R 100, mv_I (c : Int), mv_I (u : Int), mv_I (0 + (sp_sa V P c u 0)), mv_I 1]) (st' := [mv_I (M1 104 (4 * c + 1)), mv_I (u : Int), mv_R 100, mv_I (0 + (sp_sa V P c u 0))]) (M1 := M1) rfl ?_
  refine mv_tt' (by omega) ?_
  have hr3 := sp_ok_1 ho (4 * c + 1) (by omega)
  rw [show M1 104 (4 * c + 1) = V 1 (4 * c + 1) from by exact sp_m_1 hV1 (4 * c + 1) (by omega)]
  refine mv_go' 1 (pc' := 27) (ls' := [mv_R 100, mv_I (c : Int), mv_I (u : Int), mv_I (0 + (sp_sa V P c u 0)), mv_I 1]) (st' := [mv_I 1, mv_I (V 1 (4 * c + 1)), mv_I (u : Int), mv_R 100, mv_I (0 + (sp_sa V P c u 0))]) (M1 := M1) rfl ?_
  refine mv_call (st2 := [mv_I (sp_sa V P c u 1), mv_I (0 + (sp_sa V P c u 0))]) rfl (Or.inl rfl) rfl rfl rfl (sp_msa (k := 1) hV1 ho hl hP1 hc hu (by decide)) (by first | decide | omega) (fun M2 h2 => ?_)
  have h2 := h1.tr h2
  have hV2 := sp_m_ag2 hV h2 (by decide)
  have hP2 := sp_mts_ag hP h2 (by decide)
  refine mv_go' 4 (pc' := 5) (ls' := [mv_R 100, mv_I (c : Int), mv_I (u : Int), mv_I (mv_w ((0 + (sp_sa V P c u 0)) + (sp_sa V P c u 1))), mv_I (mv_w (1 + 1))]) (st' := []) (M1 := M2) rfl ?_
  rw [show mv_w (1 + 1) = 2 from by (rw [show mv_w (1 + 1) = 1 + 1 from mv_w_id (by omega) (by omega)]) <;> omega]
  rw [show mv_w ((0 + (sp_sa V P c u 0)) + (sp_sa V P c u 1)) = (0 + (sp_sa V P c u 0)) + (sp_sa V P c u 1) from mv_w_id (by omega) (by omega)]
  refine mv_go' 3 (pc' := if 2 < 4 then 11 else 38) (ls' := [mv_R 100, mv_I (c : Int), mv_I (u : Int), mv_I ((0 + (sp_sa V P c u 0)) + (sp_sa V P c u 1)), mv_I 2]) (st' := []) (M1 := M2) rfl ?_
  refine mv_tt' (by decide) ?_
  refine mv_go' 10 (pc' := 24) (ls' := [mv_R 100, mv_I (c : Int), mv_I (u : Int), mv_I ((0 + (sp_sa V P c u 0)) + (sp_sa V P c u 1)), mv_I 2]) (st' := [mv_I (mv_w ((mv_w (4 * (c : Int))) + 2)), mv_R 104, mv_I (u : Int), mv_R 100, mv_I ((0 + (sp_sa V P c u 0)) + (sp_sa V P c u 1))]) (M1 := M2) rfl ?_
  rw [show mv_w ((mv_w (4 * (c : Int))) + 2) = ((4 * c + 2 : Nat) : Int) from by (rw [show mv_w (4 * (c : Int)) = 4 * (c : Int) from mv_w_id (by omega) (by omega), show mv_w ((4 * (c : Int)) + 2) = (4 * (c : Int)) + 2 from mv_w_id (by omega) (by omega)]) <;> omega]
  refine mv_go' 1 (pc' := if 0 ≤ ((4 * c + 2 : Nat) : Int) ∧ ((4 * c + 2 : Nat) : Int) < 24 then 25 else mv_bad) (ls' := [mv_R 100, mv_I (c : Int), mv_I (u : Int), mv_I ((0 + (sp_sa V P c u 0)) + (sp_sa V P c u 1)), mv_I 2]) (st' := [mv_I (M2 104 (4 * c + 2)), mv_I (u : Int), mv_R 100, mv_I ((0 + (sp_sa V P c u 0)) + (sp_sa V P c u 1))]) (M1 := M2) rfl ?_
  refine mv_tt' (by omega) ?_
  have hr5 := sp_ok_1 ho (4 * c + 2) (by omega)
  rw [show M2 104 (4 * c + 2) = V 1 (4 * c + 2) from by exact sp_m_1 hV2 (4 * c + 2) (by omega)]
  refine mv_go' 1 (pc' := 27) (ls' := [mv_R 100, mv_I (c : Int), mv_I (u : Int), mv_I ((0 + (sp_sa V P c u 0)) + (sp_sa V P c u 1)), mv_I 2]) (st' := [mv_I 2, mv_I (V 1 (4 * c + 2)), mv_I (u : Int), mv_R 100, mv_I ((0 + (sp_sa V P c u 0)) + (sp_sa V P c u 1))]) (M1 := M2) rfl ?_
  refine mv_call (st2 := [mv_I (sp_sa V P c u 2), mv_I ((0 + (sp_sa V P c u 0)) + (sp_sa V P c u 1))]) rfl (Or.inl rfl) rfl rfl rfl (sp_msa (k := 2) hV2 ho hl hP2 hc hu (by decide)) (by first | decide | omega) (fun M3 h3 => ?_)
  have h3 := h2.tr h3
  have hV3 := sp_m_ag2 hV h3 (by decide)
  have hP3 := sp_mts_ag hP h3 (by decide)
  refine mv_go' 4 (pc' := 5) (ls' := [mv_R 100, mv_I (c : Int), mv_I (u : Int), mv_I (mv_w (((0 + (sp_sa V P c u 0)) + (sp_sa V P c u 1)) + (sp_sa V P c u 2))), mv_I (mv_w (2 + 1))]) (st' := []) (M1 := M3) rfl ?_
  rw [show mv_w (2 + 1) = 3 from by (rw [show mv_w (2 + 1) = 2 + 1 from mv_w_id (by omega) (by omega)]) <;> omega]
  rw [show mv_w (((0 + (sp_sa V P c u 0)) + (sp_sa V P c u 1)) + (sp_sa V P c u 2)) = ((0 + (sp_sa V P c u 0)) + (sp_sa V P c u 1)) + (sp_sa V P c u 2) from mv_w_id (by omega) (by omega)]
  refine mv_go' 3 (pc' := if 3 < 4 then 11 else 38) (ls' := [mv_R 100, mv_I (c : Int), mv_I (u : Int), mv_I (((0 + (sp_sa V P c u 0)) + (sp_sa V P c u 1)) + (sp_sa V P c u 2)), mv_I 3]) (st' := []) (M1 := M3) rfl ?_
  refine mv_tt' (by decide) ?_
  refine mv_go' 10 (pc' := 24) (ls' := [mv_R 100, mv_I (c : Int), mv_I (u : Int), mv_I (((0 + (sp_sa V P c u 0)) + (sp_sa V P c u 1)) + (sp_sa V P c u 2)), mv_I 3]) (st' := [mv_I (mv_w ((mv_w (4 * (c : Int))) + 3)), mv_R 104, mv_I (u : Int), mv_R 100, mv_I (((0 + (sp_sa V P c u 0)) + (sp_sa V P c u 1)) + (sp_sa V P c u 2))]) (M1 := M3) rfl ?_
  rw [show mv_w ((mv_w (4 * (c : Int))) + 3) = ((4 * c + 3 : Nat) : Int) from by (rw [show mv_w (4 * (c : Int)) = 4 * (c : Int) from mv_w_id (by omega) (by omega), show mv_w ((4 * (c : Int)) + 3) = (4 * (c : Int)) + 3 from mv_w_id (by omega) (by omega)]) <;> omega]
  refine mv_go' 1 (pc' := if 0 ≤ ((4 * c + 3 : Nat) : Int) ∧ ((4 * c + 3 : Nat) : Int) < 24 then 25 else mv_bad) (ls' := [mv_R 100, mv_I (c : Int), mv_I (u : Int), mv_I (((0 + (sp_sa V P c u 0)) + (sp_sa V P c u 1)) + (sp_sa V P c u 2)), mv_I 3]) (st' := [mv_I (M3 104 (4 * c + 3)), mv_I (u : Int), mv_R 100, mv_I (((0 + (sp_sa V P c u 0)) + (sp_sa V P c u 1)) + (sp_sa V P c u 2))]) (M1 := M3) rfl ?_
  refine mv_tt' (by omega) ?_
  have hr7 := sp_ok_1 ho (4 * c + 3) (by omega)
  rw [show M3 104 (4 * c + 3) = V 1 (4 * c + 3) from by exact sp_m_1 hV3 (4 * c + 3) (by omega)]
  refine mv_go' 1 (pc' := 27) (ls' := [mv_R 100, mv_I (c : Int), mv_I (u : Int), mv_I (((0 + (sp_sa V P c u 0)) + (sp_sa V P c u 1)) + (sp_sa V P c u 2)), mv_I 3]) (st' := [mv_I 3, mv_I (V 1 (4 * c + 3)), mv_I (u : Int), mv_R 100, mv_I (((0 + (sp_sa V P c u 0)) + (sp_sa V P c u 1)) + (sp_sa V P c u 2))]) (M1 := M3) rfl ?_
  refine mv_call (st2 := [mv_I (sp_sa V P c u 3), mv_I (((0 + (sp_sa V P c u 0)) + (sp_sa V P c u 1)) + (sp_sa V P c u 2))]) rfl (Or.inl rfl) rfl rfl rfl (sp_msa (k := 3) hV3 ho hl hP3 hc hu (by decide)) (by first | decide | omega) (fun M4 h4 => ?_)
  have h4 := h3.tr h4
  have hV4 := sp_m_ag2 hV h4 (by decide)
  have hP4 := sp_mts_ag hP h4 (by decide)
  refine mv_go' 4 (pc' := 5) (ls' := [mv_R 100, mv_I (c : Int), mv_I (u : Int), mv_I (mv_w ((((0 + (sp_sa V P c u 0)) + (sp_sa V P c u 1)) + (sp_sa V P c u 2)) + (sp_sa V P c u 3))), mv_I (mv_w (3 + 1))]) (st' := []) (M1 := M4) rfl ?_
  rw [show mv_w (3 + 1) = 4 from by (rw [show mv_w (3 + 1) = 3 + 1 from mv_w_id (by omega) (by omega)]) <;> omega]
  rw [show mv_w ((((0 + (sp_sa V P c u 0)) + (sp_sa V P c u 1)) + (sp_sa V P c u 2)) + (sp_sa V P c u 3)) = (((0 + (sp_sa V P c u 0)) + (sp_sa V P c u 1)) + (sp_sa V P c u 2)) + (sp_sa V P c u 3) from mv_w_id (by omega) (by omega)]
  refine mv_go' 3 (pc' := if 4 < 4 then 11 else 38) (ls' := [mv_R 100, mv_I (c : Int), mv_I (u : Int), mv_I ((((0 + (sp_sa V P c u 0)) + (sp_sa V P c u 1)) + (sp_sa V P c u 2)) + (sp_sa V P c u 3)), mv_I 4]) (st' := []) (M1 := M4) rfl ?_
  refine mv_ff' (by decide) ?_
  refine mv_go' 1 (pc' := 39) (ls' := [mv_R 100, mv_I (c : Int), mv_I (u : Int), mv_I ((((0 + (sp_sa V P c u 0)) + (sp_sa V P c u 1)) + (sp_sa V P c u 2)) + (sp_sa V P c u 3)), mv_I 4]) (st' := [mv_I ((((0 + (sp_sa V P c u 0)) + (sp_sa V P c u 1)) + (sp_sa V P c u 2)) + (sp_sa V P c u 3))]) (M1 := M4) rfl ?_
  exact mv_Ru.val (mv_ret (fun n => rfl) (h4)) (congrArg mv_I (by unfold sp_suits; omega))
theorem sp_mlikes {V M : mv_M} {P : Nat → Nat → List Int} {n : Int} {c u : Nat} (hV : sp_m M V) (ho : sp_ok V) (hl : V 0 11 < n) (hP : sp_mts M P n) (hc : c < 6) (hu : (u : Int) < V 0 9) :
    mv_Ru 3 147 0 [mv_R 100, mv_I (c : Int), mv_I (u : Int), mv_U, mv_U] [] M (mv_I (sp_likes V P c u)) (fun M1 => mv_ag [130, 131] M M1) := by
  have b0 := sp_says_b V P 1 u 0 (V 1 (4 * c))
  have b1 := sp_says_b V P 1 u 1 (V 1 (4 * c + 1))
  have b2 := sp_says_b V P 1 u 2 (V 1 (4 * c + 2))
  have b3 := sp_says_b V P 1 u 3 (V 1 (4 * c + 3))
  have h9 := sp_ok_s9 ho
  have e4 := sp_ok_4 ho u hu
  have hb := sp_ns_b ho hc
  have hb4 := sp_l4_b V P c u
  by_cases hd : V 4 u = 5 ∧ 20 < sp_ns V c
  · refine mv_go' 4 (pc' := if 0 ≤ (u : Int) ∧ (u : Int) < 6 then 6 else mv_bad) (ls' := [mv_R 100, mv_I (c : Int), mv_I (u : Int), mv_U, mv_U]) (st' := [mv_I (M 102 u)]) (M1 := M) rfl ?_
    refine mv_tt' (by omega) ?_
    have hr9 := sp_ok_4 ho u (by omega)
    rw [show M 102 u = V 4 u from by exact sp_m_4 hV u (by omega)]
    refine mv_go' 2 (pc' := if (V 4 u) = 5 then 10 else 22) (ls' := [mv_R 100, mv_I (c : Int), mv_I (u : Int), mv_U, mv_U]) (st' := []) (M1 := M) rfl ?_
    refine mv_tt' (hd.1) ?_
    refine mv_go' 2 (pc' := 12) (ls' := [mv_R 100, mv_I (c : Int), mv_I (u : Int), mv_U, mv_U]) (st' := [mv_I (c : Int), mv_R 100]) (M1 := M) rfl ?_
    refine mv_callP (st2 := [mv_I (sp_ns V c)]) rfl (Or.inl rfl) rfl rfl rfl (sp_mns hV ho hc) (by first | decide | omega) ?_
    refine mv_go' 2 (pc' := if 20 < (sp_ns V c) then 20 else 22) (ls' := [mv_R 100, mv_I (c : Int), mv_I (u : Int), mv_U, mv_U]) (st' := []) (M1 := M) rfl ?_
    refine mv_tt' (hd.2) ?_
    refine mv_go' 1 (pc' := 21) (ls' := [mv_R 100, mv_I (c : Int), mv_I (u : Int), mv_U, mv_U]) (st' := [mv_I 0]) (M1 := M) rfl ?_
    exact mv_Ru.val (mv_ret (fun n => rfl) (mv_ag.rf)) (congrArg mv_I (by simp [sp_likes, hd.1, hd.2]))
  · have hg : ∀ {d : Nat} {v : mv_V} {Q : mv_M → Prop}, mv_Ru (d + 1) 147 22 [mv_R 100, mv_I (c : Int), mv_I (u : Int), mv_U, mv_U] [] M v Q → mv_Ru (d + 1) 147 0 [mv_R 100, mv_I (c : Int), mv_I (u : Int), mv_U, mv_U] [] M v Q := by
      intro d v Q e
      refine mv_go' 4 (pc' := if 0 ≤ (u : Int) ∧ (u : Int) < 6 then 6 else mv_bad) (ls' := [mv_R 100, mv_I (c : Int), mv_I (u : Int), mv_U, mv_U]) (st' := [mv_I (M 102 u)]) (M1 := M) rfl ?_
      refine mv_tt' (by omega) ?_
      have hr11 := sp_ok_4 ho u (by omega)
      rw [show M 102 u = V 4 u from by exact sp_m_4 hV u (by omega)]
      refine mv_go' 2 (pc' := if (V 4 u) = 5 then 10 else 22) (ls' := [mv_R 100, mv_I (c : Int), mv_I (u : Int), mv_U, mv_U]) (st' := []) (M1 := M) rfl ?_
      refine mv_sp' (fun h5 => ?_) (fun h5 => ?_)
      · refine mv_go' 2 (pc' := 12) (ls' := [mv_R 100, mv_I (c : Int), mv_I (u : Int), mv_U, mv_U]) (st' := [mv_I (c : Int), mv_R 100]) (M1 := M) rfl ?_
        refine mv_callP (st2 := [mv_I (sp_ns V c)]) rfl (Or.inl rfl) rfl rfl rfl (sp_mns hV ho hc) (by first | decide | omega) ?_
        refine mv_go' 2 (pc' := if 20 < (sp_ns V c) then 20 else 22) (ls' := [mv_R 100, mv_I (c : Int), mv_I (u : Int), mv_U, mv_U]) (st' := []) (M1 := M) rfl ?_
        refine mv_ff' (fun h => hd ⟨h5, h⟩) ?_
        exact e
      · exact e
    refine hg ?_
    refine mv_go' 4 (pc' := 27) (ls' := [mv_R 100, mv_I (c : Int), mv_I (u : Int), mv_I 0, mv_I 0]) (st' := []) (M1 := M) rfl ?_
    refine mv_go' 3 (pc' := if 0 < 4 then 33 else 61) (ls' := [mv_R 100, mv_I (c : Int), mv_I (u : Int), mv_I 0, mv_I 0]) (st' := []) (M1 := M) rfl ?_
    refine mv_tt' (by decide) ?_
    refine mv_go' 11 (pc' := 47) (ls' := [mv_R 100, mv_I (c : Int), mv_I (u : Int), mv_I 0, mv_I 0]) (st' := [mv_I (mv_w ((mv_w (4 * (c : Int))) + 0)), mv_R 104, mv_I (u : Int), mv_I 1, mv_R 100, mv_I 0]) (M1 := M) rfl ?_
    rw [show mv_w ((mv_w (4 * (c : Int))) + 0) = ((4 * c : Nat) : Int) from by (rw [show mv_w (4 * (c : Int)) = 4 * (c : Int) from mv_w_id (by omega) (by omega), show mv_w ((4 * (c : Int)) + 0) = (4 * (c : Int)) + 0 from mv_w_id (by omega) (by omega)]) <;> omega]
    refine mv_go' 1 (pc' := if 0 ≤ ((4 * c : Nat) : Int) ∧ ((4 * c : Nat) : Int) < 24 then 48 else mv_bad) (ls' := [mv_R 100, mv_I (c : Int), mv_I (u : Int), mv_I 0, mv_I 0]) (st' := [mv_I (M 104 (4 * c)), mv_I (u : Int), mv_I 1, mv_R 100, mv_I 0]) (M1 := M) rfl ?_
    refine mv_tt' (by omega) ?_
    have hr13 := sp_ok_1 ho (4 * c) (by omega)
    rw [show M 104 (4 * c) = V 1 (4 * c) from by exact sp_m_1 hV (4 * c) (by omega)]
    refine mv_go' 1 (pc' := 50) (ls' := [mv_R 100, mv_I (c : Int), mv_I (u : Int), mv_I 0, mv_I 0]) (st' := [mv_I 0, mv_I (V 1 (4 * c)), mv_I (u : Int), mv_I 1, mv_R 100, mv_I 0]) (M1 := M) rfl ?_
    refine mv_call (st2 := [mv_I (sp_says V P 1 u 0 (V 1 (4 * c))), mv_I 0]) rfl (Or.inl rfl) rfl rfl rfl (sp_masks (p := 1) (k := 0) hV ho hl hP (by decide) hu (by decide)) (by first | decide | omega) (fun M1 h1 => ?_)
    have hV1 := sp_m_ag2 hV h1 (by decide)
    have hP1 := sp_mts_ag hP h1 (by decide)
    refine mv_go' 4 (pc' := 27) (ls' := [mv_R 100, mv_I (c : Int), mv_I (u : Int), mv_I (mv_w (0 + (sp_says V P 1 u 0 (V 1 (4 * c))))), mv_I (mv_w (0 + 1))]) (st' := []) (M1 := M1) rfl ?_
    rw [show mv_w (0 + 1) = 1 from by (rw [show mv_w (0 + 1) = 0 + 1 from mv_w_id (by omega) (by omega)]) <;> omega]
    rw [show mv_w (0 + (sp_says V P 1 u 0 (V 1 (4 * c)))) = 0 + (sp_says V P 1 u 0 (V 1 (4 * c))) from mv_w_id (by omega) (by omega)]
    refine mv_go' 3 (pc' := if 1 < 4 then 33 else 61) (ls' := [mv_R 100, mv_I (c : Int), mv_I (u : Int), mv_I (0 + (sp_says V P 1 u 0 (V 1 (4 * c)))), mv_I 1]) (st' := []) (M1 := M1) rfl ?_
    refine mv_tt' (by decide) ?_
    refine mv_go' 11 (pc' := 47) (ls' := [mv_R 100, mv_I (c : Int), mv_I (u : Int), mv_I (0 + (sp_says V P 1 u 0 (V 1 (4 * c)))), mv_I 1]) (st' := [mv_I (mv_w ((mv_w (4 * (c : Int))) + 1)), mv_R 104, mv_I (u : Int), mv_I 1, mv_R 100, mv_I (0 + (sp_says V P 1 u 0 (V 1 (4 * c))))]) (M1 := M1) rfl ?_
    rw [show mv_w ((mv_w (4 * (c : Int))) + 1) = ((4 * c + 1 : Nat) : Int) from by (rw [show mv_w (4 * (c : Int)) = 4 * (c : Int) from mv_w_id (by omega) (by omega), show mv_w ((4 * (c : Int)) + 1) = (4 * (c : Int)) + 1 from mv_w_id (by omega) (by omega)]) <;> omega]
    refine mv_go' 1 (pc' := if 0 ≤ ((4 * c + 1 : Nat) : Int) ∧ ((4 * c + 1 : Nat) : Int) < 24 then 48 else mv_bad) (ls' := [mv_R 100, mv_I (c : Int), mv_I (u : Int), mv_I (0 + (sp_says V P 1 u 0 (V 1 (4 * c)))), mv_I 1]) (st' := [mv_I (M1 104 (4 * c + 1)), mv_I (u : Int), mv_I 1, mv_R 100, mv_I (0 + (sp_says V P 1 u 0 (V 1 (4 * c))))]) (M1 := M1) rfl ?_
    refine mv_tt' (by omega) ?_
    have hr15 := sp_ok_1 ho (4 * c + 1) (by omega)
    rw [show M1 104 (4 * c + 1) = V 1 (4 * c + 1) from by exact sp_m_1 hV1 (4 * c + 1) (by omega)]
    refine mv_go' 1 (pc' := 50) (ls' := [mv_R 100, mv_I (c : Int), mv_I (u : Int), mv_I (0 + (sp_says V P 1 u 0 (V 1 (4 * c)))), mv_I 1]) (st' := [mv_I 1, mv_I (V 1 (4 * c + 1)), mv_I (u : Int), mv_I 1, mv_R 100, mv_I (0 + (sp_says V P 1 u 0 (V 1 (4 * c))))]) (M1 := M1) rfl ?_
    refine mv_call (st2 := [mv_I (sp_says V P 1 u 1 (V 1 (4 * c + 1))), mv_I (0 + (sp_says V P 1 u 0 (V 1 (4 * c))))]) rfl (Or.inl rfl) rfl rfl rfl (sp_masks (p := 1) (k := 1) hV1 ho hl hP1 (by decide) hu (by decide)) (by first | decide | omega) (fun M2 h2 => ?_)
    have h2 := h1.tr h2
    have hV2 := sp_m_ag2 hV h2 (by decide)
    have hP2 := sp_mts_ag hP h2 (by decide)
    refine mv_go' 4 (pc' := 27) (ls' := [mv_R 100, mv_I (c : Int), mv_I (u : Int), mv_I (mv_w ((0 + (sp_says V P 1 u 0 (V 1 (4 * c)))) + (sp_says V P 1 u 1 (V 1 (4 * c + 1))))), mv_I (mv_w (1 + 1))]) (st' := []) (M1 := M2) rfl ?_
    rw [show mv_w (1 + 1) = 2 from by (rw [show mv_w (1 + 1) = 1 + 1 from mv_w_id (by omega) (by omega)]) <;> omega]
    rw [show mv_w ((0 + (sp_says V P 1 u 0 (V 1 (4 * c)))) + (sp_says V P 1 u 1 (V 1 (4 * c + 1)))) = (0 + (sp_says V P 1 u 0 (V 1 (4 * c)))) + (sp_says V P 1 u 1 (V 1 (4 * c + 1))) from mv_w_id (by omega) (by omega)]
    refine mv_go' 3 (pc' := if 2 < 4 then 33 else 61) (ls' := [mv_R 100, mv_I (c : Int), mv_I (u : Int), mv_I ((0 + (sp_says V P 1 u 0 (V 1 (4 * c)))) + (sp_says V P 1 u 1 (V 1 (4 * c + 1)))), mv_I 2]) (st' := []) (M1 := M2) rfl ?_
    refine mv_tt' (by decide) ?_
    refine mv_go' 11 (pc' := 47) (ls' := [mv_R 100, mv_I (c : Int), mv_I (u : Int), mv_I ((0 + (sp_says V P 1 u 0 (V 1 (4 * c)))) + (sp_says V P 1 u 1 (V 1 (4 * c + 1)))), mv_I 2]) (st' := [mv_I (mv_w ((mv_w (4 * (c : Int))) + 2)), mv_R 104, mv_I (u : Int), mv_I 1, mv_R 100, mv_I ((0 + (sp_says V P 1 u 0 (V 1 (4 * c)))) + (sp_says V P 1 u 1 (V 1 (4 * c + 1))))]) (M1 := M2) rfl ?_
    rw [show mv_w ((mv_w (4 * (c : Int))) + 2) = ((4 * c + 2 : Nat) : Int) from by (rw [show mv_w (4 * (c : Int)) = 4 * (c : Int) from mv_w_id (by omega) (by omega), show mv_w ((4 * (c : Int)) + 2) = (4 * (c : Int)) + 2 from mv_w_id (by omega) (by omega)]) <;> omega]
    refine mv_go' 1 (pc' := if 0 ≤ ((4 * c + 2 : Nat) : Int) ∧ ((4 * c + 2 : Nat) : Int) < 24 then 48 else mv_bad) (ls' := [mv_R 100, mv_I (c : Int), mv_I (u : Int), mv_I ((0 + (sp_says V P 1 u 0 (V 1 (4 * c)))) + (sp_says V P 1 u 1 (V 1 (4 * c + 1)))), mv_I 2]) (st' := [mv_I (M2 104 (4 * c + 2)), mv_I (u : Int), mv_I 1, mv_R 100, mv_I ((0 + (sp_says V P 1 u 0 (V 1 (4 * c)))) + (sp_says V P 1 u 1 (V 1 (4 * c + 1))))]) (M1 := M2) rfl ?_
    refine mv_tt' (by omega) ?_
    have hr17 := sp_ok_1 ho (4 * c + 2) (by omega)
    rw [show M2 104 (4 * c + 2) = V 1 (4 * c + 2) from by exact sp_m_1 hV2 (4 * c + 2) (by omega)]
    refine mv_go' 1 (pc' := 50) (ls' := [mv_R 100, mv_I (c : Int), mv_I (u : Int), mv_I ((0 + (sp_says V P 1 u 0 (V 1 (4 * c)))) + (sp_says V P 1 u 1 (V 1 (4 * c + 1)))), mv_I 2]) (st' := [mv_I 2, mv_I (V 1 (4 * c + 2)), mv_I (u : Int), mv_I 1, mv_R 100, mv_I ((0 + (sp_says V P 1 u 0 (V 1 (4 * c)))) + (sp_says V P 1 u 1 (V 1 (4 * c + 1))))]) (M1 := M2) rfl ?_
    refine mv_call (st2 := [mv_I (sp_says V P 1 u 2 (V 1 (4 * c + 2))), mv_I ((0 + (sp_says V P 1 u 0 (V 1 (4 * c)))) + (sp_says V P 1 u 1 (V 1 (4 * c + 1))))]) rfl (Or.inl rfl) rfl rfl rfl (sp_masks (p := 1) (k := 2) hV2 ho hl hP2 (by decide) hu (by decide)) (by first | decide | omega) (fun M3 h3 => ?_)
    have h3 := h2.tr h3
    have hV3 := sp_m_ag2 hV h3 (by decide)
    have hP3 := sp_mts_ag hP h3 (by decide)
    refine mv_go' 4 (pc' := 27) (ls' := [mv_R 100, mv_I (c : Int), mv_I (u : Int), mv_I (mv_w (((0 + (sp_says V P 1 u 0 (V 1 (4 * c)))) + (sp_says V P 1 u 1 (V 1 (4 * c + 1)))) + (sp_says V P 1 u 2 (V 1 (4 * c + 2))))), mv_I (mv_w (2 + 1))]) (st' := []) (M1 := M3) rfl ?_
    rw [show mv_w (2 + 1) = 3 from by (rw [show mv_w (2 + 1) = 2 + 1 from mv_w_id (by omega) (by omega)]) <;> omega]
    rw [show mv_w (((0 + (sp_says V P 1 u 0 (V 1 (4 * c)))) + (sp_says V P 1 u 1 (V 1 (4 * c + 1)))) + (sp_says V P 1 u 2 (V 1 (4 * c + 2)))) = ((0 + (sp_says V P 1 u 0 (V 1 (4 * c)))) + (sp_says V P 1 u 1 (V 1 (4 * c + 1)))) + (sp_says V P 1 u 2 (V 1 (4 * c + 2))) from mv_w_id (by omega) (by omega)]
    refine mv_go' 3 (pc' := if 3 < 4 then 33 else 61) (ls' := [mv_R 100, mv_I (c : Int), mv_I (u : Int), mv_I (((0 + (sp_says V P 1 u 0 (V 1 (4 * c)))) + (sp_says V P 1 u 1 (V 1 (4 * c + 1)))) + (sp_says V P 1 u 2 (V 1 (4 * c + 2)))), mv_I 3]) (st' := []) (M1 := M3) rfl ?_
    refine mv_tt' (by decide) ?_
    refine mv_go' 11 (pc' := 47) (ls' := [mv_R 100, mv_I (c : Int), mv_I (u : Int), mv_I (((0 + (sp_says V P 1 u 0 (V 1 (4 * c)))) + (sp_says V P 1 u 1 (V 1 (4 * c + 1)))) + (sp_says V P 1 u 2 (V 1 (4 * c + 2)))), mv_I 3]) (st' := [mv_I (mv_w ((mv_w (4 * (c : Int))) + 3)), mv_R 104, mv_I (u : Int), mv_I 1, mv_R 100, mv_I (((0 + (sp_says V P 1 u 0 (V 1 (4 * c)))) + (sp_says V P 1 u 1 (V 1 (4 * c + 1)))) + (sp_says V P 1 u 2 (V 1 (4 * c + 2))))]) (M1 := M3) rfl ?_
    rw [show mv_w ((mv_w (4 * (c : Int))) + 3) = ((4 * c + 3 : Nat) : Int) from by (rw [show mv_w (4 * (c : Int)) = 4 * (c : Int) from mv_w_id (by omega) (by omega), show mv_w ((4 * (c : Int)) + 3) = (4 * (c : Int)) + 3 from mv_w_id (by omega) (by omega)]) <;> omega]
    refine mv_go' 1 (pc' := if 0 ≤ ((4 * c + 3 : Nat) : Int) ∧ ((4 * c + 3 : Nat) : Int) < 24 then 48 else mv_bad) (ls' := [mv_R 100, mv_I (c : Int), mv_I (u : Int), mv_I (((0 + (sp_says V P 1 u 0 (V 1 (4 * c)))) + (sp_says V P 1 u 1 (V 1 (4 * c + 1)))) + (sp_says V P 1 u 2 (V 1 (4 * c + 2)))), mv_I 3]) (st' := [mv_I (M3 104 (4 * c + 3)), mv_I (u : Int), mv_I 1, mv_R 100, mv_I (((0 + (sp_says V P 1 u 0 (V 1 (4 * c)))) + (sp_says V P 1 u 1 (V 1 (4 * c + 1)))) + (sp_says V P 1 u 2 (V 1 (4 * c + 2))))]) (M1 := M3) rfl ?_
    refine mv_tt' (by omega) ?_
    have hr19 := sp_ok_1 ho (4 * c + 3) (by omega)
    rw [show M3 104 (4 * c + 3) = V 1 (4 * c + 3) from by exact sp_m_1 hV3 (4 * c + 3) (by omega)]
    refine mv_go' 1 (pc' := 50) (ls' := [mv_R 100, mv_I (c : Int), mv_I (u : Int), mv_I (((0 + (sp_says V P 1 u 0 (V 1 (4 * c)))) + (sp_says V P 1 u 1 (V 1 (4 * c + 1)))) + (sp_says V P 1 u 2 (V 1 (4 * c + 2)))), mv_I 3]) (st' := [mv_I 3, mv_I (V 1 (4 * c + 3)), mv_I (u : Int), mv_I 1, mv_R 100, mv_I (((0 + (sp_says V P 1 u 0 (V 1 (4 * c)))) + (sp_says V P 1 u 1 (V 1 (4 * c + 1)))) + (sp_says V P 1 u 2 (V 1 (4 * c + 2))))]) (M1 := M3) rfl ?_
    refine mv_call (st2 := [mv_I (sp_says V P 1 u 3 (V 1 (4 * c + 3))), mv_I (((0 + (sp_says V P 1 u 0 (V 1 (4 * c)))) + (sp_says V P 1 u 1 (V 1 (4 * c + 1)))) + (sp_says V P 1 u 2 (V 1 (4 * c + 2))))]) rfl (Or.inl rfl) rfl rfl rfl (sp_masks (p := 1) (k := 3) hV3 ho hl hP3 (by decide) hu (by decide)) (by first | decide | omega) (fun M4 h4 => ?_)
    have h4 := h3.tr h4
    have hV4 := sp_m_ag2 hV h4 (by decide)
    have hP4 := sp_mts_ag hP h4 (by decide)
    refine mv_go' 4 (pc' := 27) (ls' := [mv_R 100, mv_I (c : Int), mv_I (u : Int), mv_I (mv_w ((((0 + (sp_says V P 1 u 0 (V 1 (4 * c)))) + (sp_says V P 1 u 1 (V 1 (4 * c + 1)))) + (sp_says V P 1 u 2 (V 1 (4 * c + 2)))) + (sp_says V P 1 u 3 (V 1 (4 * c + 3))))), mv_I (mv_w (3 + 1))]) (st' := []) (M1 := M4) rfl ?_
    rw [show mv_w (3 + 1) = 4 from by (rw [show mv_w (3 + 1) = 3 + 1 from mv_w_id (by omega) (by omega)]) <;> omega]
    rw [show mv_w ((((0 + (sp_says V P 1 u 0 (V 1 (4 * c)))) + (sp_says V P 1 u 1 (V 1 (4 * c + 1)))) + (sp_says V P 1 u 2 (V 1 (4 * c + 2)))) + (sp_says V P 1 u 3 (V 1 (4 * c + 3)))) = (((0 + (sp_says V P 1 u 0 (V 1 (4 * c)))) + (sp_says V P 1 u 1 (V 1 (4 * c + 1)))) + (sp_says V P 1 u 2 (V 1 (4 * c + 2)))) + (sp_says V P 1 u 3 (V 1 (4 * c + 3))) from mv_w_id (by omega) (by omega)]
    have hq : (((0 + (sp_says V P 1 u 0 (V 1 (4 * c)))) + (sp_says V P 1 u 1 (V 1 (4 * c + 1)))) + (sp_says V P 1 u 2 (V 1 (4 * c + 2)))) + (sp_says V P 1 u 3 (V 1 (4 * c + 3))) = sp_l4 V P c u := by unfold sp_l4; omega
    rw [hq]
    refine mv_go' 3 (pc' := if 4 < 4 then 33 else 61) (ls' := [mv_R 100, mv_I (c : Int), mv_I (u : Int), mv_I (sp_l4 V P c u), mv_I 4]) (st' := []) (M1 := M4) rfl ?_
    refine mv_ff' (by decide) ?_
    refine mv_go' 3 (pc' := 64) (ls' := [mv_R 100, mv_I (c : Int), mv_I (u : Int), mv_I (sp_l4 V P c u), mv_I 4]) (st' := [mv_I (c : Int), mv_R 100, mv_I (sp_l4 V P c u)]) (M1 := M4) rfl ?_
    refine mv_callP (st2 := [mv_I (sp_ns V c), mv_I (sp_l4 V P c u)]) rfl (Or.inl rfl) rfl rfl rfl (sp_mns hV4 ho hc) (by first | decide | omega) ?_
    refine mv_go' 6 (pc' := if 0 ≤ (u : Int) ∧ (u : Int) < 6 then 76 else mv_bad) (ls' := [mv_R 100, mv_I (c : Int), mv_I (u : Int), mv_I (sp_l4 V P c u), mv_I (mv_w ((sp_l4 V P c u) + (sp_ns V c)))]) (st' := [mv_I (M4 102 u)]) (M1 := M4) rfl ?_
    refine mv_tt' (by omega) ?_
    have hr21 := sp_ok_4 ho u (by omega)
    rw [show M4 102 u = V 4 u from by exact sp_m_4 hV4 u (by omega)]
    refine mv_go' 2 (pc' := if (V 4 u) = 2 then 80 else 85) (ls' := [mv_R 100, mv_I (c : Int), mv_I (u : Int), mv_I (sp_l4 V P c u), mv_I (mv_w ((sp_l4 V P c u) + (sp_ns V c)))]) (st' := []) (M1 := M4) rfl ?_
    refine mv_sp' (fun k2 => ?_) (fun k2 => ?_)
    · refine mv_go' 2 (pc' := 102) (ls' := [mv_R 100, mv_I (c : Int), mv_I (u : Int), mv_I (sp_l4 V P c u), mv_I (mv_w ((sp_l4 V P c u) + (sp_ns V c)))]) (st' := [mv_I (mv_w ((sp_l4 V P c u) + (sp_ns V c)))]) (M1 := M4) rfl ?_
      rw [show mv_w ((sp_l4 V P c u) + (sp_ns V c)) = (sp_l4 V P c u) + (sp_ns V c) from mv_w_id (by omega) (by omega)]
      exact mv_Ru.val (mv_ret (fun n => rfl) (h4)) (congrArg mv_I (by simp [sp_likes, k2]))
    · refine mv_go' 4 (pc' := if 0 ≤ (u : Int) ∧ (u : Int) < 6 then 91 else mv_bad) (ls' := [mv_R 100, mv_I (c : Int), mv_I (u : Int), mv_I (sp_l4 V P c u), mv_I (mv_w ((sp_l4 V P c u) + (sp_ns V c)))]) (st' := [mv_I (M4 102 u)]) (M1 := M4) rfl ?_
      refine mv_tt' (by omega) ?_
      have hr23 := sp_ok_4 ho u (by omega)
      rw [show M4 102 u = V 4 u from by exact sp_m_4 hV4 u (by omega)]
      refine mv_go' 2 (pc' := if (V 4 u) = 4 then 95 else 101) (ls' := [mv_R 100, mv_I (c : Int), mv_I (u : Int), mv_I (sp_l4 V P c u), mv_I (mv_w ((sp_l4 V P c u) + (sp_ns V c)))]) (st' := []) (M1 := M4) rfl ?_
      refine mv_sp' (fun k4 => ?_) (fun k4 => ?_)
      · refine mv_go' 3 (pc' := 102) (ls' := [mv_R 100, mv_I (c : Int), mv_I (u : Int), mv_I (sp_l4 V P c u), mv_I (mv_w ((sp_l4 V P c u) + (sp_ns V c)))]) (st' := [mv_I (mv_w (-(mv_w ((sp_l4 V P c u) + (sp_ns V c)))))]) (M1 := M4) rfl ?_
        rw [show mv_w ((sp_l4 V P c u) + (sp_ns V c)) = (sp_l4 V P c u) + (sp_ns V c) from mv_w_id (by omega) (by omega)]
        rw [show mv_w (-((sp_l4 V P c u) + (sp_ns V c))) = -((sp_l4 V P c u) + (sp_ns V c)) from mv_w_id (by omega) (by omega)]
        exact mv_Ru.val (mv_ret (fun n => rfl) (h4)) (congrArg mv_I (by simp [sp_likes, k4]))
      · refine mv_go' 1 (pc' := 102) (ls' := [mv_R 100, mv_I (c : Int), mv_I (u : Int), mv_I (sp_l4 V P c u), mv_I (mv_w ((sp_l4 V P c u) + (sp_ns V c)))]) (st' := [mv_I (sp_l4 V P c u)]) (M1 := M4) rfl ?_
        exact mv_Ru.val (mv_ret (fun n => rfl) (h4)) (congrArg mv_I (by (by_cases k5 : V 4 u = 5) <;> simp [sp_likes, k2, k4, k5, hd] <;> (try (intro h; exact absurd ⟨k5, h⟩ hd))))
