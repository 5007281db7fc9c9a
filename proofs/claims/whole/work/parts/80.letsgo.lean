/-! settled: the model lets go -/
def sp_L (V : mv_M) (P : Nat → Nat → List Int) (u d : Nat) : Int := sp_likes V P d u
theorem sp_cn_s (row : Nat → Int) (u : Int) (k : Nat) : sp_cn row u (k + 1) = sp_cn row u k + (if row k = u then 1 else 0) := rfl
theorem sp_mlg_lp {V M0 : mv_M} {P : Nat → Nat → List Int} {n : Int} {row : Nat → Int} {u d : Nat} {Q : mv_M → Prop} (hm : sp_m M0 V) (ho : sp_ok V) (hl : V 0 11 < n) (hP : sp_mts M0 P n) (hu : (u : Int) < V 0 9) (hrow : ∀ c : Nat, (c : Int) < V 0 8 → M0 140 c = row c) :
    ∀ (r k : Nat) (M : mv_M) (lst : Int) (l6 : mv_V), (k : Int) + r = V 0 8 → mv_ag [130, 131] M0 M → mv_isL l6 = false → (∀ w : Nat, sp_wr (sp_L V P u) row (u : Int) k = (w : Int) → lst = sp_L V P u w) →
      (∀ (M2 : mv_M) (lst : Int) (l6 : mv_V), mv_ag [130, 131] M0 M2 → mv_Ru (d + 4) 162 67 [mv_R 100, mv_I (u : Int), mv_I (sp_cn row (u : Int) (V 0 8).toNat), mv_I (sp_wr (sp_L V P u) row (u : Int) (V 0 8).toNat), mv_I lst, mv_I (V 0 8), l6] [] M2 mv_U Q) →
      mv_Ru (d + 4) 162 10 [mv_R 100, mv_I (u : Int), mv_I (sp_cn row (u : Int) k), mv_I (sp_wr (sp_L V P u) row (u : Int) k), mv_I lst, mv_I (k : Int), l6] [] M mv_U Q := by
  have h8 := sp_ok_s8 ho
  have h9 := sp_ok_s9 ho
  intro r
  induction r with
  | zero =>
    intro k M lst l6 hk hag h6 hls e
    have e8 : M 100 0 = (k : Int) := by rw [hag 100 (by decide), sp_m_s8 hm]; omega
    have hq := e M lst l6 hag
    rw [show V 0 8 = (k : Int) from by omega, Int.toNat_natCast] at hq
    refine mv_go' 3 (pc' := 16) (ls' := [mv_R 100, mv_I (u : Int), mv_I (sp_cn row (u : Int) k), mv_I (sp_wr (sp_L V P u) row (u : Int) k), mv_I lst, mv_I (k : Int), l6]) (st' := [mv_I (M 100 0), mv_I (k : Int)]) (M1 := M) rfl ?_
    rw [show M 100 0 = (k : Int) from by exact e8]
    refine mv_go' 1 (pc' := if (k : Int) < (k : Int) then 19 else 67) (ls' := [mv_R 100, mv_I (u : Int), mv_I (sp_cn row (u : Int) k), mv_I (sp_wr (sp_L V P u) row (u : Int) k), mv_I lst, mv_I (k : Int), l6]) (st' := []) (M1 := M) rfl ?_
    refine mv_ff' (by omega) ?_
    exact hq
  | succ r ih =>
    intro k M lst l6 hk hag h6 hls e
    have e8 : M 100 0 = V 0 8 := by rw [hag 100 (by decide), sp_m_s8 hm]
    have er : M 140 k = row k := by rw [hag 140 (by decide)]; exact hrow k (by omega)
    have hcb := sp_cn_b row (u : Int) k
    have ecn := sp_cn_s row (u : Int) k
    have ewr : sp_wr (sp_L V P u) row (u : Int) (k + 1) = if row k = (u : Int) then (if sp_wr (sp_L V P u) row (u : Int) k = -1 ∨ sp_L V P u k ≤ sp_L V P u (sp_wr (sp_L V P u) row (u : Int) k).toNat then (k : Int) else sp_wr (sp_L V P u) row (u : Int) k) else sp_wr (sp_L V P u) row (u : Int) k := rfl
    by_cases hrk : row k = (u : Int)
    · rw [if_pos hrk] at ecn ewr
      by_cases q : sp_wr (sp_L V P u) row (u : Int) k = -1
      · rw [if_pos (Or.inl q)] at ewr
        refine mv_go' 3 (pc' := 16) (ls' := [mv_R 100, mv_I (u : Int), mv_I (sp_cn row (u : Int) k), mv_I (sp_wr (sp_L V P u) row (u : Int) k), mv_I lst, mv_I (k : Int), l6]) (st' := [mv_I (M 100 0), mv_I (k : Int)]) (M1 := M) rfl ?_
        rw [show M 100 0 = V 0 8 from by exact e8]
        refine mv_go' 1 (pc' := if (k : Int) < (V 0 8) then 19 else 67) (ls' := [mv_R 100, mv_I (u : Int), mv_I (sp_cn row (u : Int) k), mv_I (sp_wr (sp_L V P u) row (u : Int) k), mv_I lst, mv_I (k : Int), l6]) (st' := []) (M1 := M) rfl ?_
        refine mv_tt' (by omega) ?_
        refine mv_go' 4 (pc' := if 0 ≤ (k : Int) ∧ (k : Int) < 6 then 26 else mv_bad) (ls' := [mv_R 100, mv_I (u : Int), mv_I (sp_cn row (u : Int) k), mv_I (sp_wr (sp_L V P u) row (u : Int) k), mv_I lst, mv_I (k : Int), l6]) (st' := [mv_I (M 140 k)]) (M1 := M) rfl ?_
        refine mv_tt' (by omega) ?_
        rw [show M 140 k = row k from by exact er]
        refine mv_go' 2 (pc' := if (row k) = (u : Int) then 30 else 61) (ls' := [mv_R 100, mv_I (u : Int), mv_I (sp_cn row (u : Int) k), mv_I (sp_wr (sp_L V P u) row (u : Int) k), mv_I lst, mv_I (k : Int), l6]) (st' := []) (M1 := M) rfl ?_
        refine mv_tt' (by omega) ?_
        refine mv_go' 3 (pc' := 34) (ls' := [mv_R 100, mv_I (u : Int), mv_I (sp_cn row (u : Int) k), mv_I (sp_wr (sp_L V P u) row (u : Int) k), mv_I lst, mv_I (k : Int), l6]) (st' := [mv_I (u : Int), mv_I (k : Int), mv_R 100]) (M1 := M) rfl ?_
        refine mv_call (st2 := [mv_I (sp_L V P u k)]) rfl (Or.inl rfl) rfl rfl rfl (sp_mlikes (c := k) (u := u) (sp_m_ag2 hm hag (by decide)) ho hl (sp_mts_ag hP hag (by decide)) (by omega) hu) (by first | decide | omega) (fun Ma1 hm2 => ?_)
        have hx := hm2
        refine mv_go' 3 (pc' := 43) (ls' := [mv_R 100, mv_I (u : Int), mv_I (mv_w ((sp_cn row (u : Int) k) + 1)), mv_I (sp_wr (sp_L V P u) row (u : Int) k), mv_I lst, mv_I (k : Int), mv_I (sp_L V P u k)]) (st' := [mv_I (sp_wr (sp_L V P u) row (u : Int) k)]) (M1 := Ma1) rfl ?_
        rw [show sp_wr (sp_L V P u) row (u : Int) k = -1 from by exact q]
        refine mv_go' 2 (pc' := if (-1) = (-1) then 54 else 47) (ls' := [mv_R 100, mv_I (u : Int), mv_I (mv_w ((sp_cn row (u : Int) k) + 1)), mv_I (-1), mv_I lst, mv_I (k : Int), mv_I (sp_L V P u k)]) (st' := []) (M1 := Ma1) rfl ?_
        rw [show mv_w ((sp_cn row (u : Int) k) + 1) = (sp_cn row (u : Int) k) + 1 from mv_w_id (by omega) (by omega)]
        refine mv_tt' (by first | decide | omega) ?_
        refine mv_go' 6 (pc' := 10) (ls' := [mv_R 100, mv_I (u : Int), mv_I ((sp_cn row (u : Int) k) + 1), mv_I (k : Int), mv_I (sp_L V P u k), mv_I (mv_w ((k : Int) + 1)), mv_I (sp_L V P u k)]) (st' := []) (M1 := Ma1) rfl ?_
        rw [show mv_w ((k : Int) + 1) = (k : Int) + 1 from mv_w_id (by omega) (by omega)]
        rw [show (k : Int) + 1 = ((k + 1 : Nat) : Int) from by omega]
        rw [← ecn]
        exact (mv_eqs (by rw [ewr]) rfl rfl (ih (k + 1) _ (sp_L V P u k) _ (by omega) (hag.tr hx) rfl (fun w hw => by rw [show w = k from by omega]) e))
      · obtain ⟨w, hw⟩ : ∃ w : Nat, sp_wr (sp_L V P u) row (u : Int) k = (w : Int) := by
          rcases sp_wr_b (sp_L V P u) row (u : Int) k with ⟨z, _⟩ | ⟨w, z, _⟩
          · exact absurd z q
          · exact ⟨w, z⟩
        have hlw := hls w hw
        subst hlw
        rw [hw, Int.toNat_natCast] at ewr
        by_cases q3 : sp_L V P u k ≤ sp_L V P u w
        · rw [if_pos (Or.inr q3)] at ewr
          refine mv_go' 3 (pc' := 16) (ls' := [mv_R 100, mv_I (u : Int), mv_I (sp_cn row (u : Int) k), mv_I (sp_wr (sp_L V P u) row (u : Int) k), mv_I (sp_L V P u w), mv_I (k : Int), l6]) (st' := [mv_I (M 100 0), mv_I (k : Int)]) (M1 := M) rfl ?_
          rw [show M 100 0 = V 0 8 from by exact e8]
          refine mv_go' 1 (pc' := if (k : Int) < (V 0 8) then 19 else 67) (ls' := [mv_R 100, mv_I (u : Int), mv_I (sp_cn row (u : Int) k), mv_I (sp_wr (sp_L V P u) row (u : Int) k), mv_I (sp_L V P u w), mv_I (k : Int), l6]) (st' := []) (M1 := M) rfl ?_
          refine mv_tt' (by omega) ?_
          refine mv_go' 4 (pc' := if 0 ≤ (k : Int) ∧ (k : Int) < 6 then 26 else mv_bad) (ls' := [mv_R 100, mv_I (u : Int), mv_I (sp_cn row (u : Int) k), mv_I (sp_wr (sp_L V P u) row (u : Int) k), mv_I (sp_L V P u w), mv_I (k : Int), l6]) (st' := [mv_I (M 140 k)]) (M1 := M) rfl ?_
          refine mv_tt' (by omega) ?_
          rw [show M 140 k = row k from by exact er]
          refine mv_go' 2 (pc' := if (row k) = (u : Int) then 30 else 61) (ls' := [mv_R 100, mv_I (u : Int), mv_I (sp_cn row (u : Int) k), mv_I (sp_wr (sp_L V P u) row (u : Int) k), mv_I (sp_L V P u w), mv_I (k : Int), l6]) (st' := []) (M1 := M) rfl ?_
          refine mv_tt' (by omega) ?_
          refine mv_go' 3 (pc' := 34) (ls' := [mv_R 100, mv_I (u : Int), mv_I (sp_cn row (u : Int) k), mv_I (sp_wr (sp_L V P u) row (u : Int) k), mv_I (sp_L V P u w), mv_I (k : Int), l6]) (st' := [mv_I (u : Int), mv_I (k : Int), mv_R 100]) (M1 := M) rfl ?_
          refine mv_call (st2 := [mv_I (sp_L V P u k)]) rfl (Or.inl rfl) rfl rfl rfl (sp_mlikes (c := k) (u := u) (sp_m_ag2 hm hag (by decide)) ho hl (sp_mts_ag hP hag (by decide)) (by omega) hu) (by first | decide | omega) (fun Ma3 hm4 => ?_)
          have hx := hm4
          refine mv_go' 3 (pc' := 43) (ls' := [mv_R 100, mv_I (u : Int), mv_I (mv_w ((sp_cn row (u : Int) k) + 1)), mv_I (sp_wr (sp_L V P u) row (u : Int) k), mv_I (sp_L V P u w), mv_I (k : Int), mv_I (sp_L V P u k)]) (st' := [mv_I (sp_wr (sp_L V P u) row (u : Int) k)]) (M1 := Ma3) rfl ?_
          rw [show sp_wr (sp_L V P u) row (u : Int) k = (w : Int) from by exact hw]
          refine mv_go' 2 (pc' := if (w : Int) = (-1) then 54 else 47) (ls' := [mv_R 100, mv_I (u : Int), mv_I (mv_w ((sp_cn row (u : Int) k) + 1)), mv_I (w : Int), mv_I (sp_L V P u w), mv_I (k : Int), mv_I (sp_L V P u k)]) (st' := []) (M1 := Ma3) rfl ?_
          rw [show mv_w ((sp_cn row (u : Int) k) + 1) = (sp_cn row (u : Int) k) + 1 from mv_w_id (by omega) (by omega)]
          refine mv_ff' (by omega) ?_
          refine mv_go' 3 (pc' := if (sp_L V P u w) < (sp_L V P u k) then 61 else 54) (ls' := [mv_R 100, mv_I (u : Int), mv_I ((sp_cn row (u : Int) k) + 1), mv_I (w : Int), mv_I (sp_L V P u w), mv_I (k : Int), mv_I (sp_L V P u k)]) (st' := []) (M1 := Ma3) rfl ?_
          refine mv_ff' (by omega) ?_
          refine mv_go' 6 (pc' := 10) (ls' := [mv_R 100, mv_I (u : Int), mv_I ((sp_cn row (u : Int) k) + 1), mv_I (k : Int), mv_I (sp_L V P u k), mv_I (mv_w ((k : Int) + 1)), mv_I (sp_L V P u k)]) (st' := []) (M1 := Ma3) rfl ?_
          rw [show mv_w ((k : Int) + 1) = (k : Int) + 1 from mv_w_id (by omega) (by omega)]
          rw [show (k : Int) + 1 = ((k + 1 : Nat) : Int) from by omega]
          rw [← ecn]
          exact (mv_eqs (by rw [ewr]) rfl rfl (ih (k + 1) _ (sp_L V P u k) _ (by omega) (hag.tr hx) rfl (fun w hw => by rw [show w = k from by omega]) e))
        · rw [if_neg (by omega), ← hw] at ewr
          refine mv_go' 3 (pc' := 16) (ls' := [mv_R 100, mv_I (u : Int), mv_I (sp_cn row (u : Int) k), mv_I (sp_wr (sp_L V P u) row (u : Int) k), mv_I (sp_L V P u w), mv_I (k : Int), l6]) (st' := [mv_I (M 100 0), mv_I (k : Int)]) (M1 := M) rfl ?_
          rw [show M 100 0 = V 0 8 from by exact e8]
          refine mv_go' 1 (pc' := if (k : Int) < (V 0 8) then 19 else 67) (ls' := [mv_R 100, mv_I (u : Int), mv_I (sp_cn row (u : Int) k), mv_I (sp_wr (sp_L V P u) row (u : Int) k), mv_I (sp_L V P u w), mv_I (k : Int), l6]) (st' := []) (M1 := M) rfl ?_
          refine mv_tt' (by omega) ?_
          refine mv_go' 4 (pc' := if 0 ≤ (k : Int) ∧ (k : Int) < 6 then 26 else mv_bad) (ls' := [mv_R 100, mv_I (u : Int), mv_I (sp_cn row (u : Int) k), mv_I (sp_wr (sp_L V P u) row (u : Int) k), mv_I (sp_L V P u w), mv_I (k : Int), l6]) (st' := [mv_I (M 140 k)]) (M1 := M) rfl ?_
          refine mv_tt' (by omega) ?_
          rw [show M 140 k = row k from by exact er]
          refine mv_go' 2 (pc' := if (row k) = (u : Int) then 30 else 61) (ls' := [mv_R 100, mv_I (u : Int), mv_I (sp_cn row (u : Int) k), mv_I (sp_wr (sp_L V P u) row (u : Int) k), mv_I (sp_L V P u w), mv_I (k : Int), l6]) (st' := []) (M1 := M) rfl ?_
          refine mv_tt' (by omega) ?_
          refine mv_go' 3 (pc' := 34) (ls' := [mv_R 100, mv_I (u : Int), mv_I (sp_cn row (u : Int) k), mv_I (sp_wr (sp_L V P u) row (u : Int) k), mv_I (sp_L V P u w), mv_I (k : Int), l6]) (st' := [mv_I (u : Int), mv_I (k : Int), mv_R 100]) (M1 := M) rfl ?_
          refine mv_call (st2 := [mv_I (sp_L V P u k)]) rfl (Or.inl rfl) rfl rfl rfl (sp_mlikes (c := k) (u := u) (sp_m_ag2 hm hag (by decide)) ho hl (sp_mts_ag hP hag (by decide)) (by omega) hu) (by first | decide | omega) (fun Ma5 hm6 => ?_)
          have hx := hm6
          refine mv_go' 3 (pc' := 43) (ls' := [mv_R 100, mv_I (u : Int), mv_I (mv_w ((sp_cn row (u : Int) k) + 1)), mv_I (sp_wr (sp_L V P u) row (u : Int) k), mv_I (sp_L V P u w), mv_I (k : Int), mv_I (sp_L V P u k)]) (st' := [mv_I (sp_wr (sp_L V P u) row (u : Int) k)]) (M1 := Ma5) rfl ?_
          rw [show sp_wr (sp_L V P u) row (u : Int) k = (w : Int) from by exact hw]
          refine mv_go' 2 (pc' := if (w : Int) = (-1) then 54 else 47) (ls' := [mv_R 100, mv_I (u : Int), mv_I (mv_w ((sp_cn row (u : Int) k) + 1)), mv_I (w : Int), mv_I (sp_L V P u w), mv_I (k : Int), mv_I (sp_L V P u k)]) (st' := []) (M1 := Ma5) rfl ?_
          rw [show mv_w ((sp_cn row (u : Int) k) + 1) = (sp_cn row (u : Int) k) + 1 from mv_w_id (by omega) (by omega)]
          refine mv_ff' (by omega) ?_
          refine mv_go' 3 (pc' := if (sp_L V P u w) < (sp_L V P u k) then 61 else 54) (ls' := [mv_R 100, mv_I (u : Int), mv_I ((sp_cn row (u : Int) k) + 1), mv_I (w : Int), mv_I (sp_L V P u w), mv_I (k : Int), mv_I (sp_L V P u k)]) (st' := []) (M1 := Ma5) rfl ?_
          refine mv_tt' (by omega) ?_
          refine mv_go' 2 (pc' := 10) (ls' := [mv_R 100, mv_I (u : Int), mv_I ((sp_cn row (u : Int) k) + 1), mv_I (w : Int), mv_I (sp_L V P u w), mv_I (mv_w ((k : Int) + 1)), mv_I (sp_L V P u k)]) (st' := []) (M1 := Ma5) rfl ?_
          rw [show mv_w ((k : Int) + 1) = (k : Int) + 1 from mv_w_id (by omega) (by omega)]
          rw [show (k : Int) + 1 = ((k + 1 : Nat) : Int) from by omega]
          rw [← ecn]
          exact (mv_eqs (by rw [ewr, hw]) rfl rfl (ih (k + 1) _ (sp_L V P u w) _ (by omega) (hag.tr hx) rfl (fun w2 hw2 => by rw [show w2 = w from by omega]) e))
    · rw [if_neg hrk, Int.add_zero] at ecn
      rw [if_neg hrk] at ewr
      refine mv_go' 3 (pc' := 16) (ls' := [mv_R 100, mv_I (u : Int), mv_I (sp_cn row (u : Int) k), mv_I (sp_wr (sp_L V P u) row (u : Int) k), mv_I lst, mv_I (k : Int), l6]) (st' := [mv_I (M 100 0), mv_I (k : Int)]) (M1 := M) rfl ?_
      rw [show M 100 0 = V 0 8 from by exact e8]
      refine mv_go' 1 (pc' := if (k : Int) < (V 0 8) then 19 else 67) (ls' := [mv_R 100, mv_I (u : Int), mv_I (sp_cn row (u : Int) k), mv_I (sp_wr (sp_L V P u) row (u : Int) k), mv_I lst, mv_I (k : Int), l6]) (st' := []) (M1 := M) rfl ?_
      refine mv_tt' (by omega) ?_
      refine mv_go' 4 (pc' := if 0 ≤ (k : Int) ∧ (k : Int) < 6 then 26 else mv_bad) (ls' := [mv_R 100, mv_I (u : Int), mv_I (sp_cn row (u : Int) k), mv_I (sp_wr (sp_L V P u) row (u : Int) k), mv_I lst, mv_I (k : Int), l6]) (st' := [mv_I (M 140 k)]) (M1 := M) rfl ?_
      refine mv_tt' (by omega) ?_
      rw [show M 140 k = row k from by exact er]
      refine mv_go' 2 (pc' := if (row k) = (u : Int) then 30 else 61) (ls' := [mv_R 100, mv_I (u : Int), mv_I (sp_cn row (u : Int) k), mv_I (sp_wr (sp_L V P u) row (u : Int) k), mv_I lst, mv_I (k : Int), l6]) (st' := []) (M1 := M) rfl ?_
      refine mv_ff' (by omega) ?_
      refine mv_go' 2 (pc' := 10) (ls' := [mv_R 100, mv_I (u : Int), mv_I (sp_cn row (u : Int) k), mv_I (sp_wr (sp_L V P u) row (u : Int) k), mv_I lst, mv_I (mv_w ((k : Int) + 1)), l6]) (st' := []) (M1 := M) rfl ?_
      rw [show mv_w ((k : Int) + 1) = (k : Int) + 1 from mv_w_id (by omega) (by omega)]
      rw [show (k : Int) + 1 = ((k + 1 : Nat) : Int) from by omega]
      rw [← ecn, ← ewr]
      exact ih (k + 1) _ lst _ (by omega) hag h6 (fun w hw => hls w (by rw [← hw, ewr])) e
theorem sp_mlg {V M0 : mv_M} {P : Nat → Nat → List Int} {n : Int} {row : Nat → Int} {u one d : Nat} (hm : sp_m M0 V) (ho : sp_ok V) (hl : V 0 11 < n) (hP : sp_mts M0 P n) (ht : sp_tmm V P M0) (hu : (u : Int) < V 0 9) (hrow : ∀ c : Nat, (c : Int) < V 0 8 → M0 140 c = row c) (h1 : (one : Int) < V 0 8) (hr1 : row one = (u : Int)) :
    mv_Ru (d + 4) 162 0 [mv_R 100, mv_I (u : Int), mv_U, mv_U, mv_U, mv_U, mv_U] [] M0 mv_U (fun M1 => mv_ag [130, 131, 140] M0 M1 ∧ ∀ c : Nat, (c : Int) < V 0 8 → M1 140 c = (if sp_room V u < sp_cn row (u : Int) (V 0 8).toNat then mv_up row (sp_ll (fun d => sp_likes V P d u) row (u : Int) one (V 0 8).toNat) (-1) else row) c) := by
  have h8 := sp_ok_s8 ho
  have h9 := sp_ok_s9 ho
  obtain ⟨g, hg⟩ : ∃ g, g = sp_ll (fun d => sp_likes V P d u) row (u : Int) one (V 0 8).toNat := ⟨_, rfl⟩
  have hgw : sp_wr (sp_L V P u) row (u : Int) (V 0 8).toNat = (g : Int) := by rw [hg]; exact sp_ll_wr (sp_L V P u) row (u : Int) (by omega) hr1
  obtain ⟨⟨ga, gb⟩, _⟩ := sp_ll_b (fun d => sp_likes V P d u) row (u : Int) (one := one) (n := (V 0 8).toNat) (by omega) hr1 (V 0 8).toNat (Nat.le_refl _)
  rw [← hg] at ga gb ⊢
  have e134 := ht.1 u hu
  refine mv_go' 8 (pc' := 10) (ls' := [mv_R 100, mv_I (u : Int), mv_I 0, mv_I (-1), mv_I 0, mv_I 0, mv_U]) (st' := []) (M1 := M0) rfl ?_
  refine sp_mlg_lp (d := d) (row := row) hm ho hl hP hu hrow (V 0 8).toNat 0 M0 0 mv_U (by omega) mv_ag.rf rfl (fun w hw => absurd hw (by simp only [sp_wr]; omega)) (fun M2 lst l6 hag => ?_)
  have e134b : M2 134 u = sp_room V u := by rw [hag 134 (by decide)]; exact e134
  have hr2 : ∀ c : Nat, (c : Int) < V 0 8 → M2 140 c = row c := fun c hc => by rw [hag 140 (by decide)]; exact hrow c hc
  rw [hgw]
  by_cases q : sp_room V u < sp_cn row (u : Int) (V 0 8).toNat
  · rw [if_pos q]
    refine mv_go' 5 (pc' := if 0 ≤ (u : Int) ∧ (u : Int) < 6 then 74 else mv_bad) (ls' := [mv_R 100, mv_I (u : Int), mv_I (sp_cn row (u : Int) (V 0 8).toNat), mv_I (g : Int), mv_I lst, mv_I (V 0 8), l6]) (st' := [mv_I (M2 134 u), mv_I (sp_cn row (u : Int) (V 0 8).toNat)]) (M1 := M2) rfl ?_
    refine mv_tt' (by omega) ?_
    rw [show M2 134 u = sp_room V u from by exact e134b]
    refine mv_go' 1 (pc' := if (sp_room V u) < (sp_cn row (u : Int) (V 0 8).toNat) then 77 else 84) (ls' := [mv_R 100, mv_I (u : Int), mv_I (sp_cn row (u : Int) (V 0 8).toNat), mv_I (g : Int), mv_I lst, mv_I (V 0 8), l6]) (st' := []) (M1 := M2) rfl ?_
    refine mv_tt' (by omega) ?_
    refine mv_go' 5 (pc' := if 0 ≤ (g : Int) ∧ (g : Int) < 6 then 84 else mv_bad) (ls' := [mv_R 100, mv_I (u : Int), mv_I (sp_cn row (u : Int) (V 0 8).toNat), mv_I (g : Int), mv_I lst, mv_I (V 0 8), l6]) (st' := []) (M1 := (mv_st M2 140 (mv_up (M2 140) g (-1)))) rfl ?_
    refine mv_tt' (by omega) ?_
    exact mv_ret (fun n => rfl) ⟨(hag.wd (by decide)).st (by decide), fun c hc => sp_up_c (hr2 c hc)⟩
  · rw [if_neg q]
    refine mv_go' 5 (pc' := if 0 ≤ (u : Int) ∧ (u : Int) < 6 then 74 else mv_bad) (ls' := [mv_R 100, mv_I (u : Int), mv_I (sp_cn row (u : Int) (V 0 8).toNat), mv_I (g : Int), mv_I lst, mv_I (V 0 8), l6]) (st' := [mv_I (M2 134 u), mv_I (sp_cn row (u : Int) (V 0 8).toNat)]) (M1 := M2) rfl ?_
    refine mv_tt' (by omega) ?_
    rw [show M2 134 u = sp_room V u from by exact e134b]
    refine mv_go' 1 (pc' := if (sp_room V u) < (sp_cn row (u : Int) (V 0 8).toNat) then 77 else 84) (ls' := [mv_R 100, mv_I (u : Int), mv_I (sp_cn row (u : Int) (V 0 8).toNat), mv_I (g : Int), mv_I lst, mv_I (V 0 8), l6]) (st' := []) (M1 := M2) rfl ?_
    refine mv_ff' (by omega) ?_
    exact mv_ret (fun n => rfl) ⟨hag.wd (by decide), hr2⟩
