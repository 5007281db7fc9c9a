/-! a year, the model: yearOf, yearAll -/
theorem sp_mgr {V M : mv_M} {c g i d : Nat} {u : Int} {v : mv_V} {Q : mv_M → Prop} (hV : sp_m M V) (ho : sp_ok V) (hc : c < 6) (hg : g ≤ 3) (hi : i ≤ 3)
    (e : mv_Ru d 152 14 [mv_R 100, mv_I (c : Int), mv_I u, mv_I ((if V 1 (4 * c + g) < V 1 (4 * c + i) then i else g : Nat) : Int), mv_I ((i + 1 : Nat) : Int)] [] M v Q) :
    mv_Ru d 152 14 [mv_R 100, mv_I (c : Int), mv_I u, mv_I (g : Int), mv_I (i : Int)] [] M v Q := by
  refine mv_go' 3 (pc' := if (i : Int) < 4 then 20 else 57) (ls' := [mv_R 100, mv_I (c : Int), mv_I u, mv_I (g : Int), mv_I (i : Int)]) (st' := []) (M1 := M) rfl ?_
  refine mv_tt' (by omega) ?_
  refine mv_go' 7 (pc' := 30) (ls' := [mv_R 100, mv_I (c : Int), mv_I u, mv_I (g : Int), mv_I (i : Int)]) (st' := [mv_I (mv_w ((mv_w (4 * (c : Int))) + (i : Int))), mv_R 104]) (M1 := M) rfl ?_
  rw [show mv_w ((mv_w (4 * (c : Int))) + (i : Int)) = ((4 * c + i : Nat) : Int) from by (rw [show mv_w (4 * (c : Int)) = 4 * (c : Int) from mv_w_id (by omega) (by omega), show mv_w ((4 * (c : Int)) + (i : Int)) = (4 * (c : Int)) + (i : Int) from mv_w_id (by omega) (by omega)]) <;> omega]
  refine mv_go' 1 (pc' := if 0 ≤ ((4 * c + i : Nat) : Int) ∧ ((4 * c + i : Nat) : Int) < 24 then 31 else mv_bad) (ls' := [mv_R 100, mv_I (c : Int), mv_I u, mv_I (g : Int), mv_I (i : Int)]) (st' := [mv_I (M 104 (4 * c + i))]) (M1 := M) rfl ?_
  refine mv_tt' (by omega) ?_
  have hr1 := sp_ok_1 ho (4 * c + i) (by omega)
  rw [show M 104 (4 * c + i) = V 1 (4 * c + i) from by exact sp_m_1 hV (4 * c + i) (by omega)]
  refine mv_go' 7 (pc' := 40) (ls' := [mv_R 100, mv_I (c : Int), mv_I u, mv_I (g : Int), mv_I (i : Int)]) (st' := [mv_I (mv_w ((mv_w (4 * (c : Int))) + (g : Int))), mv_R 104, mv_I (V 1 (4 * c + i))]) (M1 := M) rfl ?_
  rw [show mv_w ((mv_w (4 * (c : Int))) + (g : Int)) = ((4 * c + g : Nat) : Int) from by (rw [show mv_w (4 * (c : Int)) = 4 * (c : Int) from mv_w_id (by omega) (by omega), show mv_w ((4 * (c : Int)) + (g : Int)) = (4 * (c : Int)) + (g : Int) from mv_w_id (by omega) (by omega)]) <;> omega]
  refine mv_go' 1 (pc' := if 0 ≤ ((4 * c + g : Nat) : Int) ∧ ((4 * c + g : Nat) : Int) < 24 then 41 else mv_bad) (ls' := [mv_R 100, mv_I (c : Int), mv_I u, mv_I (g : Int), mv_I (i : Int)]) (st' := [mv_I (M 104 (4 * c + g)), mv_I (V 1 (4 * c + i))]) (M1 := M) rfl ?_
  refine mv_tt' (by omega) ?_
  have hr3 := sp_ok_1 ho (4 * c + g) (by omega)
  rw [show M 104 (4 * c + g) = V 1 (4 * c + g) from by exact sp_m_1 hV (4 * c + g) (by omega)]
  refine mv_go' 1 (pc' := if (V 1 (4 * c + g)) < (V 1 (4 * c + i)) then 44 else 49) (ls' := [mv_R 100, mv_I (c : Int), mv_I u, mv_I (g : Int), mv_I (i : Int)]) (st' := []) (M1 := M) rfl ?_
  refine mv_sp' (fun h => ?_) (fun h => ?_)
  · refine mv_go' 5 (pc' := 14) (ls' := [mv_R 100, mv_I (c : Int), mv_I u, mv_I (i : Int), mv_I (mv_w ((i : Int) + 1))]) (st' := []) (M1 := M) rfl ?_
    rw [show mv_w ((i : Int) + 1) = ((i + 1 : Nat) : Int) from by (rw [show mv_w ((i : Int) + 1) = (i : Int) + 1 from mv_w_id (by omega) (by omega)]) <;> omega]
    rw [if_pos h] at e
    exact e
  · refine mv_go' 4 (pc' := 14) (ls' := [mv_R 100, mv_I (c : Int), mv_I u, mv_I (g : Int), mv_I (mv_w ((i : Int) + 1))]) (st' := []) (M1 := M) rfl ?_
    rw [show mv_w ((i : Int) + 1) = ((i + 1 : Nat) : Int) from by (rw [show mv_w ((i : Int) + 1) = (i : Int) + 1 from mv_w_id (by omega) (by omega)]) <;> omega]
    rw [if_neg h] at e
    exact e
theorem sp_mease {V M : mv_M} {c d : Nat} {u : Int} {v : mv_V} {Q : mv_M → Prop} (hV : sp_m M V) (ho : sp_ok V) (hc : c < 6)
    (e : ∀ M1 l3 l4, mv_ag [104] M M1 → sp_m M1 (sp_ease V c) → mv_Ru d 152 92 [mv_R 100, mv_I (c : Int), mv_I u, l3, l4] [] M1 v Q) :
    mv_Ru d 152 9 [mv_R 100, mv_I (c : Int), mv_I u, mv_U, mv_U] [] M v Q := by
  have hg := sp_g3_b (V 1) c
  have hg1 : sp_g1 (V 1) c ≤ 3 := by unfold sp_g1; split <;> omega
  have hg2 : sp_g2 (V 1) c ≤ 3 := by unfold sp_g2; split <;> omega
  refine mv_go' 4 (pc' := 14) (ls' := [mv_R 100, mv_I (c : Int), mv_I u, mv_I 0, mv_I 1]) (st' := []) (M1 := M) rfl ?_
  refine sp_mgr (g := 0) (i := 1) hV ho hc (by decide) (by decide) ?_
  refine sp_mgr (g := sp_g1 (V 1) c) (i := 2) hV ho hc hg1 (by decide) ?_
  refine sp_mgr (g := sp_g2 (V 1) c) (i := 3) hV ho hc hg2 (by decide) ?_
  obtain ⟨g, hgg⟩ : ∃ g, g = sp_g3 (V 1) c := ⟨_, rfl⟩
  refine mv_eqs (ls2 := [mv_R 100, mv_I (c : Int), mv_I u, mv_I (g : Int), mv_I 4]) (by rw [hgg]; rfl) rfl rfl ?_
  rw [← hgg] at hg
  refine mv_go' 3 (pc' := if 4 < 4 then 20 else 57) (ls' := [mv_R 100, mv_I (c : Int), mv_I u, mv_I (g : Int), mv_I 4]) (st' := []) (M1 := M) rfl ?_
  refine mv_ff' (by omega) ?_
  refine mv_go' 7 (pc' := 66) (ls' := [mv_R 100, mv_I (c : Int), mv_I u, mv_I (g : Int), mv_I 4]) (st' := [mv_I (mv_w ((mv_w (4 * (c : Int))) + (g : Int))), mv_R 104]) (M1 := M) rfl ?_
  rw [show mv_w ((mv_w (4 * (c : Int))) + (g : Int)) = ((4 * c + g : Nat) : Int) from by (rw [show mv_w (4 * (c : Int)) = 4 * (c : Int) from mv_w_id (by omega) (by omega), show mv_w ((4 * (c : Int)) + (g : Int)) = (4 * (c : Int)) + (g : Int) from mv_w_id (by omega) (by omega)]) <;> omega]
  refine mv_go' 1 (pc' := if 0 ≤ ((4 * c + g : Nat) : Int) ∧ ((4 * c + g : Nat) : Int) < 24 then 67 else mv_bad) (ls' := [mv_R 100, mv_I (c : Int), mv_I u, mv_I (g : Int), mv_I 4]) (st' := [mv_I (M 104 (4 * c + g))]) (M1 := M) rfl ?_
  refine mv_tt' (by omega) ?_
  have hr5 := sp_ok_1 ho (4 * c + g) (by omega)
  rw [show M 104 (4 * c + g) = V 1 (4 * c + g) from by exact sp_m_1 hV (4 * c + g) (by omega)]
  refine mv_go' 10 (pc' := if 0 < (V 1 (4 * c + g)) then 83 else 90) (ls' := [mv_R 100, mv_I (c : Int), mv_I u, mv_I (g : Int), mv_I (V 1 (4 * c + g))]) (st' := [mv_I (mv_w ((mv_w (4 * (c : Int))) + (g : Int))), mv_R 104]) (M1 := M) rfl ?_
  refine mv_sp' (fun h => ?_) (fun h => ?_)
  · refine mv_go' 4 (pc' := 91) (ls' := [mv_R 100, mv_I (c : Int), mv_I u, mv_I (g : Int), mv_I (V 1 (4 * c + g))]) (st' := [mv_I (mv_w ((V 1 (4 * c + g)) - 1)), mv_I (mv_w ((mv_w (4 * (c : Int))) + (g : Int))), mv_R 104]) (M1 := M) rfl ?_
    rw [show mv_w ((mv_w (4 * (c : Int))) + (g : Int)) = ((4 * c + g : Nat) : Int) from by (rw [show mv_w (4 * (c : Int)) = 4 * (c : Int) from mv_w_id (by omega) (by omega), show mv_w ((4 * (c : Int)) + (g : Int)) = (4 * (c : Int)) + (g : Int) from mv_w_id (by omega) (by omega)]) <;> omega]
    refine mv_go' 1 (pc' := if 0 ≤ ((4 * c + g : Nat) : Int) ∧ ((4 * c + g : Nat) : Int) < 24 then 92 else mv_bad) (ls' := [mv_R 100, mv_I (c : Int), mv_I u, mv_I (g : Int), mv_I (V 1 (4 * c + g))]) (st' := []) (M1 := (mv_st M 104 (mv_up (M 104) (4 * c + g) (mv_w ((V 1 (4 * c + g)) - 1))))) rfl ?_
    refine mv_tt' (by omega) ?_
    rw [show mv_w ((V 1 (4 * c + g)) - 1) = (V 1 (4 * c + g)) - 1 from mv_w_id (by omega) (by omega)]
    exact e _ _ _ (mv_ag.st (i := 104) mv_ag.rf (by decide)) (by unfold sp_ease; rw [← hgg, show sp_mx (V 1 (4 * c + g) - 1) = V 1 (4 * c + g) - 1 from by unfold sp_mx; split <;> omega]; exact sp_m_st1 hV)
  · refine mv_go' 1 (pc' := 91) (ls' := [mv_R 100, mv_I (c : Int), mv_I u, mv_I (g : Int), mv_I (V 1 (4 * c + g))]) (st' := [mv_I 0, mv_I (mv_w ((mv_w (4 * (c : Int))) + (g : Int))), mv_R 104]) (M1 := M) rfl ?_
    rw [show mv_w ((mv_w (4 * (c : Int))) + (g : Int)) = ((4 * c + g : Nat) : Int) from by (rw [show mv_w (4 * (c : Int)) = 4 * (c : Int) from mv_w_id (by omega) (by omega), show mv_w ((4 * (c : Int)) + (g : Int)) = (4 * (c : Int)) + (g : Int) from mv_w_id (by omega) (by omega)]) <;> omega]
    refine mv_go' 1 (pc' := if 0 ≤ ((4 * c + g : Nat) : Int) ∧ ((4 * c + g : Nat) : Int) < 24 then 92 else mv_bad) (ls' := [mv_R 100, mv_I (c : Int), mv_I u, mv_I (g : Int), mv_I (V 1 (4 * c + g))]) (st' := []) (M1 := (mv_st M 104 (mv_up (M 104) (4 * c + g) 0))) rfl ?_
    refine mv_tt' (by omega) ?_
    exact e _ _ _ (mv_ag.st (i := 104) mv_ag.rf (by decide)) (by unfold sp_ease; rw [← hgg, show sp_mx (V 1 (4 * c + g) - 1) = 0 from by unfold sp_mx; split <;> omega]; exact sp_m_st1 hV)
theorem sp_mtk {V M : mv_M} {P : Nat → Nat → List Int} {n : Int} {u k d : Nat} {cc l4 v : mv_V} {Q : mv_M → Prop} (hV : sp_m M V) (ho : sp_ok V) (hl : V 0 11 < n) (hP : sp_mts M P n) (hu : (u : Int) < V 0 9) (hk : k < 4)
    (e : ∀ M1 l4, mv_ag [105, 130, 131] M M1 → sp_m M1 (sp_tk V P u k) → mv_Ru (d + 3) 152 94 [mv_R 100, cc, mv_I (u : Int), mv_I ((k + 1 : Nat) : Int), l4] [] M1 v Q) :
    mv_Ru (d + 3) 152 94 [mv_R 100, cc, mv_I (u : Int), mv_I (k : Int), l4] [] M v Q := by
  have h9 := sp_ok_s9 ho
  have gb := sp_says_b2 V P u k 0
  refine mv_go' 3 (pc' := if (k : Int) < 4 then 99 else 147) (ls' := [mv_R 100, cc, mv_I (u : Int), mv_I (k : Int), l4]) (st' := []) (M1 := M) rfl ?_
  refine mv_tt' (by omega) ?_
  refine mv_go' 7 (pc' := 108) (ls' := [mv_R 100, cc, mv_I (u : Int), mv_I (k : Int), l4]) (st' := [mv_I (mv_w ((mv_w (4 * (u : Int))) + (k : Int))), mv_R 105]) (M1 := M) rfl ?_
  rw [show mv_w ((mv_w (4 * (u : Int))) + (k : Int)) = ((4 * u + k : Nat) : Int) from by (rw [show mv_w (4 * (u : Int)) = 4 * (u : Int) from mv_w_id (by omega) (by omega), show mv_w ((4 * (u : Int)) + (k : Int)) = (4 * (u : Int)) + (k : Int) from mv_w_id (by omega) (by omega)]) <;> omega]
  refine mv_go' 1 (pc' := if 0 ≤ ((4 * u + k : Nat) : Int) ∧ ((4 * u + k : Nat) : Int) < 24 then 109 else mv_bad) (ls' := [mv_R 100, cc, mv_I (u : Int), mv_I (k : Int), l4]) (st' := [mv_I (M 105 (4 * u + k))]) (M1 := M) rfl ?_
  refine mv_tt' (by omega) ?_
  have hr7 := sp_ok_3 ho (4 * u + k) (by omega)
  rw [show M 105 (4 * u + k) = V 3 (4 * u + k) from by exact sp_m_3 hV (4 * u + k) (by omega)]
  refine mv_go' 5 (pc' := 114) (ls' := [mv_R 100, cc, mv_I (u : Int), mv_I (k : Int), l4]) (st' := [mv_I (k : Int), mv_I 0, mv_I (u : Int), mv_I 2, mv_R 100, mv_I (V 3 (4 * u + k))]) (M1 := M) rfl ?_
  refine mv_call (st2 := [mv_I (sp_says V P 2 u k 0), mv_I (V 3 (4 * u + k))]) rfl (Or.inl rfl) rfl rfl rfl (sp_masks (p := 2) hV ho hl hP (by decide) hu hk) (by first | decide | omega) (fun M1 h1 => ?_)
  have hV1 := sp_m_ag2 hV h1 (by decide)
  refine mv_go' 11 (pc' := if (mv_w ((V 3 (4 * u + k)) - (sp_says V P 2 u k 0))) < 0 then 134 else 138) (ls' := [mv_R 100, cc, mv_I (u : Int), mv_I (k : Int), mv_I (mv_w ((V 3 (4 * u + k)) - (sp_says V P 2 u k 0)))]) (st' := [mv_I (mv_w ((mv_w (4 * (u : Int))) + (k : Int))), mv_R 105]) (M1 := M1) rfl ?_
  rw [show mv_w ((V 3 (4 * u + k)) - (sp_says V P 2 u k 0)) = (V 3 (4 * u + k)) - (sp_says V P 2 u k 0) from mv_w_id (by omega) (by omega)]
  rw [show mv_w (4 * (u : Int)) = 4 * (u : Int) from mv_w_id (by omega) (by omega)]
  rw [show mv_w ((4 * (u : Int)) + (k : Int)) = (4 * (u : Int)) + (k : Int) from mv_w_id (by omega) (by omega)]
  refine mv_sp' (fun h => ?_) (fun h => ?_)
  · refine mv_go' 2 (pc' := 140) (ls' := [mv_R 100, cc, mv_I (u : Int), mv_I (k : Int), mv_I ((V 3 (4 * u + k)) - (sp_says V P 2 u k 0))]) (st' := [mv_I 0, mv_I ((4 * (u : Int)) + (k : Int)), mv_R 105]) (M1 := M1) rfl ?_
    rw [show (4 * (u : Int)) + (k : Int) = ((4 * u + k : Nat) : Int) from by omega]
    refine mv_go' 1 (pc' := if 0 ≤ ((4 * u + k : Nat) : Int) ∧ ((4 * u + k : Nat) : Int) < 24 then 141 else mv_bad) (ls' := [mv_R 100, cc, mv_I (u : Int), mv_I (k : Int), mv_I ((V 3 (4 * u + k)) - (sp_says V P 2 u k 0))]) (st' := []) (M1 := (mv_st M1 105 (mv_up (M1 105) (4 * u + k) 0))) rfl ?_
    refine mv_tt' (by omega) ?_
    refine mv_go' 2 (pc' := 94) (ls' := [mv_R 100, cc, mv_I (u : Int), mv_I (mv_w ((k : Int) + 1)), mv_I ((V 3 (4 * u + k)) - (sp_says V P 2 u k 0))]) (st' := []) (M1 := (mv_st M1 105 (mv_up (M1 105) (4 * u + k) 0))) rfl ?_
    rw [show mv_w ((k : Int) + 1) = (k : Int) + 1 from mv_w_id (by omega) (by omega)]
    rw [show (k : Int) + 1 = ((k + 1 : Nat) : Int) from by omega]
    exact e _ _ ((h1.wd (by decide)).st (by decide)) (by unfold sp_tk; rw [show sp_mx (V 3 (4 * u + k) - sp_says V P 2 u k 0) = 0 from by unfold sp_mx; split <;> omega]; exact sp_m_st3 hV1)
  · refine mv_go' 1 (pc' := 140) (ls' := [mv_R 100, cc, mv_I (u : Int), mv_I (k : Int), mv_I ((V 3 (4 * u + k)) - (sp_says V P 2 u k 0))]) (st' := [mv_I ((V 3 (4 * u + k)) - (sp_says V P 2 u k 0)), mv_I ((4 * (u : Int)) + (k : Int)), mv_R 105]) (M1 := M1) rfl ?_
    rw [show (4 * (u : Int)) + (k : Int) = ((4 * u + k : Nat) : Int) from by omega]
    refine mv_go' 1 (pc' := if 0 ≤ ((4 * u + k : Nat) : Int) ∧ ((4 * u + k : Nat) : Int) < 24 then 141 else mv_bad) (ls' := [mv_R 100, cc, mv_I (u : Int), mv_I (k : Int), mv_I ((V 3 (4 * u + k)) - (sp_says V P 2 u k 0))]) (st' := []) (M1 := (mv_st M1 105 (mv_up (M1 105) (4 * u + k) ((V 3 (4 * u + k)) - (sp_says V P 2 u k 0))))) rfl ?_
    refine mv_tt' (by omega) ?_
    refine mv_go' 2 (pc' := 94) (ls' := [mv_R 100, cc, mv_I (u : Int), mv_I (mv_w ((k : Int) + 1)), mv_I ((V 3 (4 * u + k)) - (sp_says V P 2 u k 0))]) (st' := []) (M1 := (mv_st M1 105 (mv_up (M1 105) (4 * u + k) ((V 3 (4 * u + k)) - (sp_says V P 2 u k 0))))) rfl ?_
    rw [show mv_w ((k : Int) + 1) = (k : Int) + 1 from mv_w_id (by omega) (by omega)]
    rw [show (k : Int) + 1 = ((k + 1 : Nat) : Int) from by omega]
    exact e _ _ ((h1.wd (by decide)).st (by decide)) (by unfold sp_tk; rw [show sp_mx (V 3 (4 * u + k) - sp_says V P 2 u k 0) = V 3 (4 * u + k) - sp_says V P 2 u k 0 from by unfold sp_mx; split <;> omega]; exact sp_m_st3 hV1)
theorem sp_mtire {V M : mv_M} {P : Nat → Nat → List Int} {n : Int} {u d : Nat} {cc l3 l4 : mv_V} (hV : sp_m M V) (ho : sp_ok V) (hl : V 0 11 < n) (hP : sp_mts M P n) (hu : (u : Int) < V 0 9) :
    mv_Ru (d + 3) 152 92 [mv_R 100, cc, mv_I (u : Int), l3, l4] [] M mv_U (fun M1 => mv_ag [105, 130, 131] M M1 ∧ sp_m M1 (sp_tire V P u)) := by
  have h9 := sp_ok_s9 ho
  refine mv_go' 2 (pc' := 94) (ls' := [mv_R 100, cc, mv_I (u : Int), mv_I 0, l4]) (st' := []) (M1 := M) rfl ?_
  refine sp_mtk (k := 0) hV ho hl hP hu (by decide) (fun M1 m1 a1 V1 => ?_)
  have o1 := sp_ok_tk (k := 0) P ho (u := u) (by omega)
  refine sp_mtk (k := 1) V1 o1 hl (sp_mts_ag hP a1 (by decide)) hu (by decide) (fun M2 m2 a2 V2 => ?_)
  have o2 := sp_ok_tk (k := 1) P o1 (u := u) (by omega)
  have a2 := a1.tr a2
  refine sp_mtk (k := 2) V2 o2 hl (sp_mts_ag hP a2 (by decide)) hu (by decide) (fun M3 m3 a3 V3 => ?_)
  have o3 := sp_ok_tk (k := 2) P o2 (u := u) (by omega)
  have a3 := a2.tr a3
  refine sp_mtk (k := 3) V3 o3 hl (sp_mts_ag hP a3 (by decide)) hu (by decide) (fun M4 m4 a4 V4 => ?_)
  have a4 := a3.tr a4
  refine mv_eqs (ls2 := [mv_R 100, cc, mv_I (u : Int), mv_I 4, m4]) rfl rfl rfl ?_
  refine mv_go' 3 (pc' := if 4 < 4 then 99 else 147) (ls' := [mv_R 100, cc, mv_I (u : Int), mv_I 4, m4]) (st' := []) (M1 := M4) rfl ?_
  refine mv_ff' (by decide) ?_
  exact mv_ret (fun n => rfl) (⟨a4, V4⟩)
theorem sp_myo {V M : mv_M} {P : Nat → Nat → List Int} {n : Int} {c u : Nat} (hV : sp_m M V) (ho : sp_ok V) (hl : V 0 11 < n) (hP : sp_mts M P n) (hc : c < 6) (hu : (u : Int) < V 0 9) :
    mv_Ru 5 152 0 [mv_R 100, mv_I (c : Int), mv_I (u : Int), mv_U, mv_U] [] M mv_U (fun M1 => mv_ag [104, 105, 130, 131] M M1 ∧ sp_m M1 (sp_tire (if 0 < sp_suits V P c u then sp_ease V c else V) P u)) := by
  refine mv_go' 3 (pc' := 3) (ls' := [mv_R 100, mv_I (c : Int), mv_I (u : Int), mv_U, mv_U]) (st' := [mv_I (u : Int), mv_I (c : Int), mv_R 100]) (M1 := M) rfl ?_
  refine mv_call (st2 := [mv_I (sp_suits V P c u)]) rfl (Or.inl rfl) rfl rfl rfl (sp_msuits hV ho hl hP hc hu) (by first | decide | omega) (fun M1 h1 => ?_)
  have hV1 := sp_m_ag2 hV h1 (by decide)
  have hP1 := sp_mts_ag hP h1 (by decide)
  refine mv_go' 1 (pc' := if 0 < (sp_suits V P c u) then 9 else 92) (ls' := [mv_R 100, mv_I (c : Int), mv_I (u : Int), mv_U, mv_U]) (st' := []) (M1 := M1) rfl ?_
  refine mv_sp' (fun h => ?_) (fun h => ?_)
  · rw [if_pos h]
    refine sp_mease hV1 ho hc (fun M2 l3 l4 a2 V2 => ?_)
    exact (sp_mtire (d := 2) V2 (sp_ok_ease ho hc) hl (sp_mts_ag hP1 a2 (by decide)) hu).imp (fun M3 h3 => ⟨((h1.wd (by decide)).tr (a2.wd (by decide))).tr (h3.1.wd (by decide)), h3.2⟩)
  · rw [if_neg h]
    exact (sp_mtire (d := 2) hV1 ho hl hP1 hu).imp (fun M3 h3 => ⟨(h1.wd (by decide)).tr (h3.1.wd (by decide)), h3.2⟩)
theorem sp_m_sty {M V : mv_M} {z : Int} (h : sp_m M V) : sp_m (mv_st M 100 (mv_up (M 100) 7 z)) (mv_st V 0 (mv_up (V 0) 10 z)) := ⟨⟨h.1.1, h.1.2.1, rfl, h.1.2.2.2⟩, h.2⟩
theorem sp_mpass_lp {V : mv_M} {P : Nat → Nat → List Int} {n : Int} (ho : sp_ok V) (hl : V 0 11 < n) (M0 : mv_M) : ∀ (k c : Nat) (M : mv_M), sp_m M (sp_yn V P c) → sp_mts M P n → mv_ag [104, 105, 130, 131] M0 M → (c : Int) + k = V 0 8 →
    mv_Ru 6 153 2 [mv_R 100, mv_I (c : Int)] [] M mv_U (fun M1 => (mv_ag [100, 104, 105, 130, 131] M0 M1 ∧ M1 100 = mv_up (M0 100) 7 (V 0 10 + 1)) ∧ sp_m M1 (sp_year V P)) := by
  have hr8 := sp_ok_s8 ho
  have hr9 := sp_ok_s9 ho
  have hr10 := sp_ok_s10 ho
  intro k
  induction k with
  | zero =>
    intro c M hV hP h0 hc
    obtain ⟨Vc, hVc⟩ : ∃ Vc, Vc = sp_yn V P c := ⟨_, rfl⟩
    have hok := sp_ok_yn P ho c (by omega)
    have hr := sp_yn_r V P c
    rw [← hVc] at hV hok hr
    have h8 : Vc 0 8 = V 0 8 := by rw [hr.1]
    refine mv_go' 3 (pc' := 7) (ls' := [mv_R 100, mv_I (c : Int)]) (st' := [mv_I (M 100 0), mv_I (c : Int)]) (M1 := M) rfl ?_
    have hr9 := sp_ok_s8 hok
    rw [show M 100 0 = Vc 0 8 from by exact sp_m_s8 hV]
    refine mv_go' 1 (pc' := if (c : Int) < (Vc 0 8) then 10 else 42) (ls' := [mv_R 100, mv_I (c : Int)]) (st' := []) (M1 := M) rfl ?_
    refine mv_ff' (by omega) ?_
    refine mv_go' 3 (pc' := 47) (ls' := [mv_R 100, mv_I (c : Int)]) (st' := [mv_I (M 100 7), mv_R 100]) (M1 := M) rfl ?_
    have hr11 := sp_ok_s10 hok
    rw [show M 100 7 = Vc 0 10 from by exact sp_m_s10 hV]
    refine mv_go' 3 (pc' := 52) (ls' := [mv_R 100, mv_I (c : Int)]) (st' := []) (M1 := (mv_st M 100 (mv_up (M 100) 7 (mv_w ((Vc 0 10) + 1))))) rfl ?_
    rw [show mv_w ((Vc 0 10) + 1) = (Vc 0 10) + 1 from mv_w_id (by omega) (by omega)]
    exact mv_ret (fun n => rfl) (⟨⟨(h0.wd (by decide)).st (by decide), by rw [mv_st_s, h0 100 (by decide), hr.1]⟩, by unfold sp_year; rw [show (V 0 8).toNat = c from by omega, ← hVc, ← hr.1]; exact sp_m_sty hV⟩)
  | succ k ih =>
    intro c M hV hP h0 hc
    have hok := sp_ok_yn P ho c (by omega)
    have hr := sp_yn_r V P c
    have hsu : sp_yn V P (c + 1) = sp_y1 (sp_yn V P c) P c := rfl
    generalize sp_yn V P c = Vc at hV hok hr hsu
    have h8 : Vc 0 8 = V 0 8 := by rw [hr.1]
    have h9 : Vc 0 9 = V 0 9 := by rw [hr.1]
    have hlc : Vc 0 11 < n := by rw [hr.1]; exact hl
    have h2 := sp_ok_2 hok c (by omega)
    refine mv_go' 3 (pc' := 7) (ls' := [mv_R 100, mv_I (c : Int)]) (st' := [mv_I (M 100 0), mv_I (c : Int)]) (M1 := M) rfl ?_
    have hr13 := sp_ok_s8 hok
    rw [show M 100 0 = Vc 0 8 from by exact sp_m_s8 hV]
    refine mv_go' 1 (pc' := if (c : Int) < (Vc 0 8) then 10 else 42) (ls' := [mv_R 100, mv_I (c : Int)]) (st' := []) (M1 := M) rfl ?_
    refine mv_tt' (by omega) ?_
    by_cases h : Vc 2 c = -1
    · refine mv_go' 4 (pc' := if 0 ≤ (c : Int) ∧ (c : Int) < 6 then 16 else mv_bad) (ls' := [mv_R 100, mv_I (c : Int)]) (st' := [mv_I (M 106 c)]) (M1 := M) rfl ?_
      refine mv_tt' (by omega) ?_
      have hr15 := sp_ok_2 hok c (by omega)
      rw [show M 106 c = Vc 2 c from by exact sp_m_2 hV c (by omega)]
      refine mv_go' 2 (pc' := if (Vc 2 c) = (-1) then 36 else 20) (ls' := [mv_R 100, mv_I (c : Int)]) (st' := []) (M1 := M) rfl ?_
      refine mv_tt' (h) ?_
      refine mv_go' 2 (pc' := 2) (ls' := [mv_R 100, mv_I (mv_w ((c : Int) + 1))]) (st' := []) (M1 := M) rfl ?_
      rw [show mv_w ((c : Int) + 1) = ((c + 1 : Nat) : Int) from by (rw [show mv_w ((c : Int) + 1) = (c : Int) + 1 from mv_w_id (by omega) (by omega)]) <;> omega]
      exact (ih (c + 1) M (by rw [hsu]; unfold sp_y1; rw [if_pos h]; exact hV) hP h0 (by omega))
    · obtain ⟨u, hu⟩ : ∃ u : Nat, Vc 2 c = (u : Int) := ⟨(Vc 2 c).toNat, by omega⟩
      have hu9 : (u : Int) < Vc 0 9 := by omega
      have hy : sp_y1 Vc P c = sp_tire (if 0 < sp_suits Vc P c u then sp_ease Vc c else Vc) P u := by unfold sp_y1; rw [if_neg h, hu]; rfl
      refine mv_go' 4 (pc' := if 0 ≤ (c : Int) ∧ (c : Int) < 6 then 16 else mv_bad) (ls' := [mv_R 100, mv_I (c : Int)]) (st' := [mv_I (M 106 c)]) (M1 := M) rfl ?_
      refine mv_tt' (by omega) ?_
      have hr17 := sp_ok_2 hok c (by omega)
      rw [show M 106 c = Vc 2 c from by exact sp_m_2 hV c (by omega)]
      rw [show Vc 2 c = (u : Int) from by exact hu]
      refine mv_go' 2 (pc' := if (u : Int) = (-1) then 36 else 20) (ls' := [mv_R 100, mv_I (c : Int)]) (st' := []) (M1 := M) rfl ?_
      refine mv_ff' (by omega) ?_
      refine mv_go' 6 (pc' := if 0 ≤ (c : Int) ∧ (c : Int) < 6 then 28 else mv_bad) (ls' := [mv_R 100, mv_I (c : Int)]) (st' := [mv_I (M 106 c), mv_I (c : Int), mv_R 100]) (M1 := M) rfl ?_
      refine mv_tt' (by omega) ?_
      have hr19 := sp_ok_2 hok c (by omega)
      rw [show M 106 c = Vc 2 c from by exact sp_m_2 hV c (by omega)]
      rw [show Vc 2 c = (u : Int) from by exact hu]
      refine mv_go' 2 (pc' := 30) (ls' := [mv_R 100, mv_I (c : Int)]) (st' := [mv_I 5, mv_I 0, mv_I (u : Int), mv_I (c : Int), mv_R 100]) (M1 := M) rfl ?_
      refine mv_callP (st2 := [mv_I (u : Int), mv_I (c : Int), mv_R 100]) rfl (Or.inr rfl) rfl rfl rfl ((sp_mwithin).val (congrArg mv_I (sp_cl_id (by omega) (by omega)))) (by first | decide | omega) ?_
      refine mv_call (st2 := []) rfl (Or.inl rfl) rfl rfl rfl (sp_myo hV hok hlc hP (by omega) hu9) (by first | decide | omega) (fun M1 h1 => ?_)
      refine mv_go' 2 (pc' := 2) (ls' := [mv_R 100, mv_I (mv_w ((c : Int) + 1))]) (st' := []) (M1 := M1) rfl ?_
      rw [show mv_w ((c : Int) + 1) = ((c + 1 : Nat) : Int) from by (rw [show mv_w ((c : Int) + 1) = (c : Int) + 1 from mv_w_id (by omega) (by omega)]) <;> omega]
      exact (ih (c + 1) M1 (by rw [hsu, hy]; exact h1.2) (sp_mts_ag hP h1.1 (by decide)) (h0.tr h1.1) (by omega))
theorem sp_mpass {V M : mv_M} {P : Nat → Nat → List Int} {n : Int} (hV : sp_m M V) (ho : sp_ok V) (hl : V 0 11 < n) (hP : sp_mts M P n) : mv_Ru 6 153 0 [mv_R 100, mv_U] [] M mv_U (fun M1 => (mv_ag [100, 104, 105, 130, 131] M M1 ∧ M1 100 = mv_up (M 100) 7 (V 0 10 + 1)) ∧ sp_m M1 (sp_year V P)) := by
  have hr := sp_ok_s8 ho
  refine mv_go' 2 (pc' := 2) (ls' := [mv_R 100, mv_I 0]) (st' := []) (M1 := M) rfl ?_
  exact sp_mpass_lp ho hl M (V 0 8).toNat 0 M hV hP mv_ag.rf (by omega)
