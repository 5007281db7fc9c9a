/-! child -/
def sp_child (V : mv_M) (c : Nat) (v : Int) : mv_M := mv_st (mv_st (mv_st V 1 (sp_pd (V 1) c v)) 2 (mv_up (V 2) c (-1))) 0 (mv_up (V 0) 8 ((c : Int) + 1))
theorem sp_c_child {w : Nat} {M M2 V : mv_M} {c : Nat} {v : Int} (h : sp_c w M V) (hc : V 0 8 = (c : Int)) (r0 : M2 w = mv_up (M w) 8 ((c : Int) + 1)) (r1 : M2 (w + 1) = sp_pd (M (w + 1)) c v) (r2 : M2 (w + 2) = mv_up (M (w + 2)) c (-1))
    (r3 : M2 (w + 3) = M (w + 3)) (r4 : M2 (w + 4) = M (w + 4)) (r5 : M2 (w + 5) = M (w + 5)) : sp_c w M2 (sp_child V c v) := by
  unfold sp_c
  rw [r0, r1, r2, r3, r4, r5]
  refine ⟨⟨rfl, h.1.2.1, h.1.2.2.1, h.1.2.2.2⟩, fun j hj => sp_pd_c (h.2.1 j hj), fun j hj => ?_, h.2.2.2⟩
  show mv_up (M (w + 2)) c (-1) j = mv_up (V 2) c (-1) j
  by_cases q : j = c
  · rw [q, mv_up_s, mv_up_s]
  · rw [mv_up_n _ _ q, mv_up_n _ _ q]
    have hj2 : (j : Int) < (c : Int) + 1 := hj
    exact h.2.2.1 j (by omega)
theorem sp_m_child {M M2 V : mv_M} {c : Nat} {v : Int} (h : sp_m M V) (hc : V 0 8 = (c : Int)) (r0 : M2 100 = mv_up (M 100) 0 ((c : Int) + 1)) (r1 : M2 104 = sp_pd (M 104) c v) (r2 : M2 106 = mv_up (M 106) c (-1))
    (r3 : M2 105 = M 105) (r4 : M2 102 = M 102) (r5 : M2 103 = M 103) : sp_m M2 (sp_child V c v) := by
  unfold sp_m
  rw [r0, r1, r2, r3, r4, r5]
  refine ⟨⟨rfl, h.1.2.1, h.1.2.2.1, h.1.2.2.2⟩, fun j hj => sp_pd_c (h.2.1 j hj), fun j hj => ?_, h.2.2.2⟩
  show mv_up (M 106) c (-1) j = mv_up (V 2) c (-1) j
  by_cases q : j = c
  · rw [q, mv_up_s, mv_up_s]
  · rw [mv_up_n _ _ q, mv_up_n _ _ q]
    have hj2 : (j : Int) < (c : Int) + 1 := hj
    exact h.2.2.1 j (by omega)
theorem sp_ok_child {V : mv_M} {c : Nat} {v : Int} (h : sp_ok V) (hc : V 0 8 = (c : Int)) (h6 : c < 6) (hv : 0 ≤ v) : sp_ok (sp_child V c v) := by
  refine ⟨⟨by show 0 ≤ (c : Int) + 1; omega, by show (c : Int) + 1 ≤ 6; omega⟩, h.2.1, h.2.2.1, h.2.2.2.1, fun j hj => sp_pd_b hv (h.2.2.2.2.1 j hj), fun j hj => ?_, h.2.2.2.2.2.2⟩
  show -1 ≤ mv_up (V 2) c (-1) j ∧ mv_up (V 2) c (-1) j < V 0 9
  have h9 := sp_ok_s9 h
  by_cases q : j = c
  · rw [q, mv_up_s]; omega
  · rw [mv_up_n _ _ q]
    have hj2 : (j : Int) < (c : Int) + 1 := hj
    exact sp_ok_2 h j (by omega)
theorem sp_k1 (a : Int) : sp_call 62 123 [mv_I a] [mv_I a] := by
  refine sp_mk (lc := [mv_R 0, mv_I a]) (lm := [mv_R 100, mv_I a]) rfl rfl (fun M hI => ?_)
  obtain ⟨V, P, n, B, K, t, h⟩ := hI
  have h' := h
  obtain ⟨⟨hc, hm, ho⟩, ⟨hy, hl, hn1, hn⟩, ⟨hct, hmt, hn7, hn12⟩, _⟩ := h'
  have h8 := sp_ok_s8 ho
  obtain ⟨c, hc8⟩ : ∃ c : Nat, V 0 8 = (c : Int) := ⟨(V 0 8).toNat, by omega⟩
  by_cases q : 0 ≤ a ∧ a ≤ 9999
  · by_cases q6 : c < 6
    · have hx : ∀ {Q : mv_M → Prop}, (∀ M1, mv_ag [30, 31, 32] M M1 → sp_c 30 M1 (sp_child V c a) → Q M1) → mv_Ru 19 44 0 [mv_R 30, mv_I a] [] M (mv_I (c : Int)) Q := by
        intro Q hQ
        refine mv_go' 2 (pc' := if a < 0 then 11 else 4) (ls' := [mv_R 30, mv_I a]) (st' := []) (M1 := M) rfl ?_
        refine mv_ff' (by omega) ?_
        refine mv_go' 3 (pc' := if a < 10000 then 14 else 11) (ls' := [mv_R 30, mv_I a]) (st' := []) (M1 := M) rfl ?_
        refine mv_tt' (by omega) ?_
        refine mv_go' 2 (pc' := 18) (ls' := [mv_R 30, mv_I a]) (st' := [mv_I (M 30 8)]) (M1 := M) rfl ?_
        have hr1 := sp_ok_s8 ho
        rw [show M 30 8 = V 0 8 from by exact sp_c_s8 hc]
        rw [show V 0 8 = (c : Int) from by exact hc8]
        refine mv_go' 2 (pc' := if (c : Int) < 6 then 26 else 23) (ls' := [mv_R 30, mv_I a]) (st' := []) (M1 := M) rfl ?_
        refine mv_tt' (by omega) ?_
        refine mv_go' 4 (pc' := 34) (ls' := [mv_R 30, mv_I a]) (st' := [mv_I (M 30 8), mv_R 31]) (M1 := M) rfl ?_
        have hr3 := sp_ok_s8 ho
        rw [show M 30 8 = V 0 8 from by exact sp_c_s8 hc]
        rw [show V 0 8 = (c : Int) from by exact hc8]
        refine mv_go' 1 (pc' := 35) (ls' := [mv_R 30, mv_I a]) (st' := [mv_I a, mv_I (c : Int), mv_R 31]) (M1 := M) rfl ?_
        refine mv_call (st2 := []) rfl (Or.inr rfl) rfl rfl rfl (sp_cpd31 q.1 q.2 q6) (by first | decide | omega) (fun M1 h1 => ?_)
        have hc1 : M1 30 8 = (c : Int) := by rw [h1.1 30 (by decide), sp_c_s8 hc, hc8]
        refine mv_go' 4 (pc' := 46) (ls' := [mv_R 30, mv_I a]) (st' := [mv_I (M1 30 8), mv_R 32]) (M1 := M1) rfl ?_
        rw [show M1 30 8 = (c : Int) from by exact hc1]
        refine mv_go' 2 (pc' := if 0 ≤ (c : Int) ∧ (c : Int) < 6 then 48 else mv_bad) (ls' := [mv_R 30, mv_I a]) (st' := []) (M1 := (mv_st M1 32 (mv_up (M1 32) c (-1)))) rfl ?_
        refine mv_tt' (by omega) ?_
        refine mv_go' 3 (pc' := 53) (ls' := [mv_R 30, mv_I a]) (st' := [mv_I (M1 30 8), mv_R 30]) (M1 := (mv_st M1 32 (mv_up (M1 32) c (-1)))) rfl ?_
        rw [show M1 30 8 = (c : Int) from by exact hc1]
        refine mv_go' 3 (pc' := 58) (ls' := [mv_R 30, mv_I a]) (st' := []) (M1 := (mv_st (mv_st M1 32 (mv_up (M1 32) c (-1))) 30 (mv_up (M1 30) 8 (mv_w ((c : Int) + 1))))) rfl ?_
        rw [show mv_w ((c : Int) + 1) = (c : Int) + 1 from mv_w_id (by omega) (by omega)]
        refine mv_go' 4 (pc' := 64) (ls' := [mv_R 30, mv_I a]) (st' := [mv_I (mv_w (((c : Int) + 1) - 1))]) (M1 := (mv_st (mv_st M1 32 (mv_up (M1 32) c (-1))) 30 (mv_up (M1 30) 8 ((c : Int) + 1)))) rfl ?_
        rw [show mv_w (((c : Int) + 1) - 1) = ((c : Int) + 1) - 1 from mv_w_id (by omega) (by omega)]
        rw [show (c : Int) + 1 - 1 = (c : Int) from by omega]
        refine mv_ret (fun n => rfl) (hQ _ ?_ ?_)
        · exact ((h1.1.wd (by decide)).st (by decide)).st (by decide)
        · exact sp_c_child hc hc8 (by rw [h1.1 30 (by decide)]; rfl) h1.2 (by rw [h1.1 32 (by decide)]; rfl) (h1.1 33 (by decide)) (h1.1 34 (by decide)) (h1.1 35 (by decide))
      refine ⟨(c : Int), ?_⟩
      refine mv_go' 3 (pc' := 5) (ls' := [mv_R 0, mv_I a]) (st' := [mv_I a, mv_R 30]) (M1 := M) rfl ?_
      refine mv_call (st2 := [mv_I (c : Int)]) rfl (Or.inl rfl) rfl rfl rfl ((hx (Q := fun M1 => mv_ag [30, 31, 32] M M1 ∧ sp_c 30 M1 (sp_child V c a)) (fun M1 a b => ⟨a, b⟩))) (by first | decide | omega) (fun M1 h1 => ?_)
      refine mv_ret (fun n => rfl) ?_
      have hm1 := sp_m_ag2 hm h1.1 (by decide)
      refine mv_go' 3 (pc' := 5) (ls' := [mv_R 100, mv_I a]) (st' := [mv_I 9999, mv_I 0, mv_I a]) (M1 := M1) rfl ?_
      refine mv_callP (st2 := [mv_I 1]) rfl (Or.inr rfl) rfl rfl rfl (sp_min_t q) (by first | decide | omega) ?_
      refine mv_go' 1 (pc' := if 1 = 0 then 11 else 14) (ls' := [mv_R 100, mv_I a]) (st' := []) (M1 := M1) rfl ?_
      refine mv_ff' (by decide) ?_
      refine mv_go' 2 (pc' := 18) (ls' := [mv_R 100, mv_I a]) (st' := [mv_I (M1 100 0)]) (M1 := M1) rfl ?_
      have hr5 := sp_ok_s8 ho
      rw [show M1 100 0 = V 0 8 from by exact sp_m_s8 hm1]
      rw [show V 0 8 = (c : Int) from by exact hc8]
      refine mv_go' 2 (pc' := if (c : Int) = 6 then 23 else 26) (ls' := [mv_R 100, mv_I a]) (st' := []) (M1 := M1) rfl ?_
      refine mv_ff' (by omega) ?_
      refine mv_go' 3 (pc' := 31) (ls' := [mv_R 100, mv_I a]) (st' := [mv_I (M1 100 0), mv_R 100]) (M1 := M1) rfl ?_
      have hr7 := sp_ok_s8 ho
      rw [show M1 100 0 = V 0 8 from by exact sp_m_s8 hm1]
      rw [show V 0 8 = (c : Int) from by exact hc8]
      refine mv_go' 1 (pc' := 32) (ls' := [mv_R 100, mv_I a]) (st' := [mv_I a, mv_I (c : Int), mv_R 100]) (M1 := M1) rfl ?_
      refine mv_call (st2 := []) rfl (Or.inl rfl) rfl rfl rfl (sp_mpd104 q.1 q.2 q6) (by first | decide | omega) (fun M2 h2 => ?_)
      have hc2 : M2 100 0 = (c : Int) := by rw [h2.1 100 (by decide), sp_m_s8 hm1, hc8]
      refine mv_go' 4 (pc' := 43) (ls' := [mv_R 100, mv_I a]) (st' := [mv_I (M2 100 0), mv_R 106]) (M1 := M2) rfl ?_
      rw [show M2 100 0 = (c : Int) from by exact hc2]
      refine mv_go' 2 (pc' := if 0 ≤ (c : Int) ∧ (c : Int) < 6 then 45 else mv_bad) (ls' := [mv_R 100, mv_I a]) (st' := []) (M1 := (mv_st M2 106 (mv_up (M2 106) c (-1)))) rfl ?_
      refine mv_tt' (by omega) ?_
      refine mv_go' 3 (pc' := 50) (ls' := [mv_R 100, mv_I a]) (st' := [mv_I (M2 100 0), mv_R 100]) (M1 := (mv_st M2 106 (mv_up (M2 106) c (-1)))) rfl ?_
      rw [show M2 100 0 = (c : Int) from by exact hc2]
      refine mv_go' 3 (pc' := 55) (ls' := [mv_R 100, mv_I a]) (st' := []) (M1 := (mv_st (mv_st M2 106 (mv_up (M2 106) c (-1))) 100 (mv_up (M2 100) 0 (mv_w ((c : Int) + 1))))) rfl ?_
      rw [show mv_w ((c : Int) + 1) = (c : Int) + 1 from mv_w_id (by omega) (by omega)]
      refine mv_go' 4 (pc' := 61) (ls' := [mv_R 100, mv_I a]) (st' := [mv_I (mv_w (((c : Int) + 1) - 1))]) (M1 := (mv_st (mv_st M2 106 (mv_up (M2 106) c (-1))) 100 (mv_up (M2 100) 0 ((c : Int) + 1)))) rfl ?_
      rw [show mv_w (((c : Int) + 1) - 1) = ((c : Int) + 1) - 1 from mv_w_id (by omega) (by omega)]
      rw [show (c : Int) + 1 - 1 = (c : Int) from by omega]
      refine mv_ret (fun n => rfl) ⟨sp_child V c a, P, n, B, K, t, sp_R_up h ?_ ?_ (sp_ok_child ho hc8 q6 q.1) hy hl (Int.le_refl _) (fun u _ => ⟨rfl, rfl⟩) ?_ ?_⟩
      · exact sp_c_ag h1.2 (S := [100, 104, 106]) (((h2.1.wd (by decide)).st (by decide)).st (by decide)) (by decide)
      · exact sp_m_child hm1 hc8 (by rw [h2.1 100 (by decide)]; rfl) h2.2 (by rw [h2.1 106 (by decide)]; rfl) (h2.1 105 (by decide)) (h2.1 102 (by decide)) (h2.1 103 (by decide))
      · exact sp_keep_n (S := [30, 31, 32, 100, 104, 106]) ((h1.1.wd (by decide)).tr (((h2.1.wd (by decide)).st (by decide)).st (by decide))) (by decide)
      · have e : ∀ j, j ≠ 0 → mv_up (M2 100) 0 ((c : Int) + 1) j = M 100 j := fun j hj => by rw [mv_up_n _ _ hj, h2.1 100 (by decide), h1.1 100 (by decide)]
        exact ⟨e 9 (by decide), e 12 (by decide), e 14 (by decide)⟩
    · refine ⟨-4, ?_⟩
      refine mv_go' 3 (pc' := 5) (ls' := [mv_R 0, mv_I a]) (st' := [mv_I a, mv_R 30]) (M1 := M) rfl ?_
      have hx : mv_Ru 19 44 0 [mv_R 30, mv_I a] [] M (mv_I (-4)) (fun M1 => M1 = M) := by
        refine mv_go' 2 (pc' := if a < 0 then 11 else 4) (ls' := [mv_R 30, mv_I a]) (st' := []) (M1 := M) rfl ?_
        refine mv_ff' (by omega) ?_
        refine mv_go' 3 (pc' := if a < 10000 then 14 else 11) (ls' := [mv_R 30, mv_I a]) (st' := []) (M1 := M) rfl ?_
        refine mv_tt' (by omega) ?_
        refine mv_go' 2 (pc' := 18) (ls' := [mv_R 30, mv_I a]) (st' := [mv_I (M 30 8)]) (M1 := M) rfl ?_
        have hr9 := sp_ok_s8 ho
        rw [show M 30 8 = V 0 8 from by exact sp_c_s8 hc]
        refine mv_go' 2 (pc' := if (V 0 8) < 6 then 26 else 23) (ls' := [mv_R 30, mv_I a]) (st' := []) (M1 := M) rfl ?_
        refine mv_ff' (by omega) ?_
        refine mv_go' 1 (pc' := 25) (ls' := [mv_R 30, mv_I a]) (st' := [mv_I (-4)]) (M1 := M) rfl ?_
        exact mv_ret (fun n => rfl) (rfl)
      refine mv_callP (st2 := [mv_I (-4)]) rfl (Or.inl rfl) rfl rfl rfl (hx) (by first | decide | omega) ?_
      refine mv_ret (fun n => rfl) ?_
      refine mv_go' 3 (pc' := 5) (ls' := [mv_R 100, mv_I a]) (st' := [mv_I 9999, mv_I 0, mv_I a]) (M1 := M) rfl ?_
      refine mv_callP (st2 := [mv_I 1]) rfl (Or.inr rfl) rfl rfl rfl (sp_min_t q) (by first | decide | omega) ?_
      refine mv_go' 1 (pc' := if 1 = 0 then 11 else 14) (ls' := [mv_R 100, mv_I a]) (st' := []) (M1 := M) rfl ?_
      refine mv_ff' (by decide) ?_
      refine mv_go' 2 (pc' := 18) (ls' := [mv_R 100, mv_I a]) (st' := [mv_I (M 100 0)]) (M1 := M) rfl ?_
      have hr11 := sp_ok_s8 ho
      rw [show M 100 0 = V 0 8 from by exact sp_m_s8 hm]
      refine mv_go' 2 (pc' := if (V 0 8) = 6 then 23 else 26) (ls' := [mv_R 100, mv_I a]) (st' := []) (M1 := M) rfl ?_
      refine mv_tt' (by omega) ?_
      refine mv_go' 1 (pc' := 25) (ls' := [mv_R 100, mv_I a]) (st' := [mv_I (-4)]) (M1 := M) rfl ?_
      exact mv_ret (fun n => rfl) (⟨V, P, n, B, K, t, h⟩)
  · refine ⟨-2, ?_⟩
    have hx : mv_Ru 19 44 0 [mv_R 30, mv_I a] [] M (mv_I (-2)) (fun M1 => M1 = M) := by
      by_cases q0 : a < 0
      · refine mv_go' 2 (pc' := if a < 0 then 11 else 4) (ls' := [mv_R 30, mv_I a]) (st' := []) (M1 := M) rfl ?_
        refine mv_tt' (q0) ?_
        refine mv_go' 1 (pc' := 13) (ls' := [mv_R 30, mv_I a]) (st' := [mv_I (-2)]) (M1 := M) rfl ?_
        exact mv_ret (fun n => rfl) (rfl)
      · refine mv_go' 2 (pc' := if a < 0 then 11 else 4) (ls' := [mv_R 30, mv_I a]) (st' := []) (M1 := M) rfl ?_
        refine mv_ff' (q0) ?_
        refine mv_go' 3 (pc' := if a < 10000 then 14 else 11) (ls' := [mv_R 30, mv_I a]) (st' := []) (M1 := M) rfl ?_
        refine mv_ff' (by omega) ?_
        refine mv_go' 1 (pc' := 13) (ls' := [mv_R 30, mv_I a]) (st' := [mv_I (-2)]) (M1 := M) rfl ?_
        exact mv_ret (fun n => rfl) (rfl)
    refine mv_go' 3 (pc' := 5) (ls' := [mv_R 0, mv_I a]) (st' := [mv_I a, mv_R 30]) (M1 := M) rfl ?_
    refine mv_callP (st2 := [mv_I (-2)]) rfl (Or.inl rfl) rfl rfl rfl (hx) (by first | decide | omega) ?_
    refine mv_ret (fun n => rfl) ?_
    refine mv_go' 3 (pc' := 5) (ls' := [mv_R 100, mv_I a]) (st' := [mv_I 9999, mv_I 0, mv_I a]) (M1 := M) rfl ?_
    refine mv_callP (st2 := [mv_I 0]) rfl (Or.inr rfl) rfl rfl rfl (sp_min_f q) (by first | decide | omega) ?_
    refine mv_go' 1 (pc' := if 0 = 0 then 11 else 14) (ls' := [mv_R 100, mv_I a]) (st' := []) (M1 := M) rfl ?_
    refine mv_tt' (rfl) ?_
    refine mv_go' 1 (pc' := 13) (ls' := [mv_R 100, mv_I a]) (st' := [mv_I (-2)]) (M1 := M) rfl ?_
    exact mv_ret (fun n => rfl) (⟨V, P, n, B, K, t, h⟩)
