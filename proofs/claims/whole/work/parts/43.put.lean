/-! put, appoint -/
/-- a row of the view is another one -/
theorem sp_c_r {w k : Nat} {M M1 V : mv_M} {g : Nat → Int} (h : sp_c w M V) (hk : k = 1 ∨ k = 2 ∨ k = 3) (e : ∀ i, (i = 0 ∨ i = 1 ∨ i = 2 ∨ i = 3 ∨ i = 4 ∨ i = 5) → i ≠ k → M1 (w + i) = M (w + i)) (hg : ∀ j : Nat, M (w + k) j = V k j → M1 (w + k) j = g j)
    (hg2 : k = 2 → ∀ j : Nat, (j : Int) < V 0 8 → M1 (w + k) j = g j) : sp_c w M1 (mv_st V k g) := by
  rcases hk with q | q | q <;> subst q
  · have e0 := e 0 (by decide) (by decide); have e2 := e 2 (by decide) (by decide); have e3 := e 3 (by decide) (by decide); have e4 := e 4 (by decide) (by decide); have e5 := e 5 (by decide) (by decide)
    rw [Nat.add_zero] at e0
    unfold sp_c
    rw [e0, e2, e3, e4, e5]
    exact ⟨h.1, fun j hj => hg j (h.2.1 j hj), h.2.2⟩
  · have e0 := e 0 (by decide) (by decide); have e1 := e 1 (by decide) (by decide); have e3 := e 3 (by decide) (by decide); have e4 := e 4 (by decide) (by decide); have e5 := e 5 (by decide) (by decide)
    rw [Nat.add_zero] at e0
    unfold sp_c
    rw [e0, e1, e3, e4, e5]
    exact ⟨h.1, h.2.1, fun j hj => hg2 rfl j hj, h.2.2.2⟩
  · have e0 := e 0 (by decide) (by decide); have e1 := e 1 (by decide) (by decide); have e2 := e 2 (by decide) (by decide); have e4 := e 4 (by decide) (by decide); have e5 := e 5 (by decide) (by decide)
    rw [Nat.add_zero] at e0
    unfold sp_c
    rw [e0, e1, e2, e4, e5]
    exact ⟨h.1, h.2.1, h.2.2.1, fun j hj => hg j (h.2.2.2.1 j hj), h.2.2.2.2⟩
theorem sp_put_y {V : mv_M} {P : Nat → Nat → List Int} {n : Int} {B : mv_M} {K : Int} {t : Nat} {M : mv_M} {v : Int} (h : sp_R V P n B K t M) (h0 : 0 ≤ v) (h1 : v ≤ 99) : sp_Inv (mv_st (mv_st M 30 (mv_up (M 30) 10 v)) 100 (mv_up (M 100) 7 v)) := by
  have h' := h
  obtain ⟨⟨hc, hm, ho⟩, ⟨hy, hl, hn1, hn⟩, _⟩ := h'
  refine ⟨mv_st V 0 (mv_up (V 0) 10 v), P, n, B, K, t, sp_R_up h ?_ ?_ ⟨ho.1, ho.2.1, ⟨h0, by show v ≤ 200; omega⟩, ho.2.2.2⟩ h1 hl (Int.le_refl _) (fun u _ => ⟨rfl, rfl⟩) ?_ ⟨rfl, rfl, rfl⟩⟩
  · exact sp_c_sc (Or.inl rfl) hc
  · exact ⟨⟨hm.1.1, hm.1.2.1, rfl, hm.1.2.2.2⟩, hm.2⟩
  · exact sp_keep_n (S := [30, 100]) (by repeat (first | exact mv_ag.rf | refine mv_ag.st ?_ (by decide))) (by decide)
theorem sp_put_n {V : mv_M} {P : Nat → Nat → List Int} {n : Int} {B : mv_M} {K : Int} {t : Nat} {M M1 M2 : mv_M} {v : Int} {c : Nat} (h : sp_R V P n B K t M) (h0 : 0 ≤ v) (h1 : mv_ag [31] M M1 ∧ M1 31 = sp_pd (M 31) c v) (h2 : mv_ag [104] M1 M2 ∧ M2 104 = sp_pd (M1 104) c v) : sp_Inv M2 := by
  have h' := h
  obtain ⟨⟨hc, hm, ho⟩, ⟨hy, hl, hn1, hn⟩, _⟩ := h'
  have e : ∀ i, i ≠ 31 → i ≠ 104 → M2 i = M i := fun i a b => (h2.1 i (by simpa using b)).trans (h1.1 i (by simpa using a))
  refine ⟨mv_st V 1 (sp_pd (V 1) c v), P, n, B, K, t, sp_R_up h ?_ ?_ ?_ hy hl (Int.le_refl _) (fun u _ => ⟨rfl, rfl⟩) ?_ ?_⟩
  · refine sp_c_r hc (by decide) (fun i hi hk => e _ (by omega) (by omega)) (fun j hj => ?_) (fun q => absurd q (by decide))
    show M2 31 j = _
    rw [h2.1 31 (by decide), h1.2]
    exact sp_pd_c hj
  · unfold sp_m
    rw [e 100 (by decide) (by decide), e 102 (by decide) (by decide), e 103 (by decide) (by decide), e 106 (by decide) (by decide), e 105 (by decide) (by decide), h2.2, h1.1 104 (by decide)]
    exact ⟨hm.1, fun j hj => sp_pd_c (hm.2.1 j hj), hm.2.2⟩
  · exact ⟨ho.1, ho.2.1, ho.2.2.1, ho.2.2.2.1, fun j hj => sp_pd_b h0 (ho.2.2.2.2.1 j hj), ho.2.2.2.2.2⟩
  · exact sp_keep_n (S := [31, 104]) ((h1.1.wd (by decide)).tr (h2.1.wd (by decide))) (by decide)
  · rw [e 100 (by decide) (by decide)]; exact ⟨rfl, rfl, rfl⟩
theorem sp_put_k {V : mv_M} {P : Nat → Nat → List Int} {n : Int} {B : mv_M} {K : Int} {t : Nat} {M M1 M2 : mv_M} {v : Int} {c : Nat} (h : sp_R V P n B K t M) (h0 : 0 ≤ v) (h1 : mv_ag [33] M M1 ∧ M1 33 = sp_pd (M 33) c v) (h2 : mv_ag [105] M1 M2 ∧ M2 105 = sp_pd (M1 105) c v) : sp_Inv M2 := by
  have h' := h
  obtain ⟨⟨hc, hm, ho⟩, ⟨hy, hl, hn1, hn⟩, _⟩ := h'
  have e : ∀ i, i ≠ 33 → i ≠ 105 → M2 i = M i := fun i a b => (h2.1 i (by simpa using b)).trans (h1.1 i (by simpa using a))
  refine ⟨mv_st V 3 (sp_pd (V 3) c v), P, n, B, K, t, sp_R_up h ?_ ?_ ?_ hy hl (Int.le_refl _) (fun u _ => ⟨rfl, rfl⟩) ?_ ?_⟩
  · refine sp_c_r hc (by decide) (fun i hi hk => e _ (by omega) (by omega)) (fun j hj => ?_) (fun q => absurd q (by decide))
    show M2 33 j = _
    rw [h2.1 33 (by decide), h1.2]
    exact sp_pd_c hj
  · unfold sp_m
    rw [e 100 (by decide) (by decide), e 102 (by decide) (by decide), e 103 (by decide) (by decide), e 106 (by decide) (by decide), e 104 (by decide) (by decide), h2.2, h1.1 105 (by decide)]
    exact ⟨hm.1, hm.2.1, hm.2.2.1, fun j hj => sp_pd_c (hm.2.2.2.1 j hj), hm.2.2.2.2⟩
  · exact ⟨ho.1, ho.2.1, ho.2.2.1, ho.2.2.2.1, ho.2.2.2.2.1, ho.2.2.2.2.2.1, fun j hj => sp_pd_b h0 (ho.2.2.2.2.2.2.1 j hj), ho.2.2.2.2.2.2.2⟩
  · exact sp_keep_n (S := [33, 105]) ((h1.1.wd (by decide)).tr (h2.1.wd (by decide))) (by decide)
  · rw [e 100 (by decide) (by decide)]; exact ⟨rfl, rfl, rfl⟩
theorem sp_k7 (a b v : Int) : sp_call 68 143 [mv_I a, mv_I b, mv_I v] [mv_I a, mv_I b, mv_I v] := by
  refine sp_mkW (lc := [mv_R 0, mv_I a, mv_I b, mv_I v, mv_U, mv_U]) (lm := [mv_R 100, mv_I a, mv_I b, mv_I v, mv_U]) rfl rfl (fun M hI => ?_)
  have hI2 := hI
  obtain ⟨V, P, n, B, K, t, h⟩ := hI2
  have h' := h
  obtain ⟨⟨hc, hm, ho⟩, _⟩ := h'
  have h8 := sp_ok_s8 ho
  have h9 := sp_ok_s9 ho
  by_cases h0 : 0 ≤ a
  · obtain ⟨c, rfl⟩ : ∃ c : Nat, a = (c : Int) := ⟨a.toNat, by omega⟩
    refine mv_goW 2 (pc' := if b = 0 then 4 else 15) (ls' := [mv_R 0, mv_I (c : Int), mv_I b, mv_I v, mv_U, mv_U]) (st' := []) (M1 := M) rfl ?_
    refine mv_spW (fun ha1 => ?_) (fun ha1 => ?_)
    · refine mv_goW 3 (pc' := 9) (ls' := [mv_R 0, mv_I (c : Int), mv_I b, mv_I v, mv_U, mv_U]) (st' := [mv_I (c : Int), mv_R 30]) (M1 := M) rfl ?_
      by_cases ha2 : 0 ≤ (c : Int) ∧ (c : Int) < V 0 8
      · refine mv_callPW (st2 := [mv_I 1]) rfl (Or.inl rfl) rfl rfl rfl (sp_cisChild_t_30 hc ho ha2) (by first | decide | omega) ?_
        refine mv_goW 1 (pc' := if 1 = 0 then 31 else 15) (ls' := [mv_R 0, mv_I (c : Int), mv_I b, mv_I v, mv_U, mv_U]) (st' := []) (M1 := M) rfl ?_
        refine mv_ffW (by decide) ?_
        refine mv_goW 3 (pc' := if b = 1 then 20 else 34) (ls' := [mv_R 0, mv_I (c : Int), mv_I b, mv_I v, mv_U, mv_U]) (st' := []) (M1 := M) rfl ?_
        refine mv_ffW (by omega) ?_
        refine mv_goW 2 (pc' := if b < 0 then 64 else 38) (ls' := [mv_R 0, mv_I (c : Int), mv_I b, mv_I v, mv_U, mv_U]) (st' := []) (M1 := M) rfl ?_
        refine mv_ffW (by omega) ?_
        refine mv_goW 3 (pc' := if 2 < b then 64 else 43) (ls' := [mv_R 0, mv_I (c : Int), mv_I b, mv_I v, mv_U, mv_U]) (st' := []) (M1 := M) rfl ?_
        refine mv_ffW (by omega) ?_
        refine mv_goW 2 (pc' := if v < 0 then 64 else 47) (ls' := [mv_R 0, mv_I (c : Int), mv_I b, mv_I v, mv_U, mv_U]) (st' := []) (M1 := M) rfl ?_
        refine mv_spW (fun ha3 => ?_) (fun ha3 => ?_)
        · refine mv_goW 1 (pc' := 66) (ls' := [mv_R 0, mv_I (c : Int), mv_I b, mv_I v, mv_U, mv_U]) (st' := [mv_I (-7)]) (M1 := M) rfl ?_
          refine mv_retW (fun n => rfl) ⟨_, rfl, ?_⟩
          refine mv_goW 3 (pc' := 3) (ls' := [mv_R 100, mv_I (c : Int), mv_I b, mv_I v, mv_U]) (st' := [mv_I 2, mv_I 0, mv_I b]) (M1 := M) rfl ?_
          have ha4 : 0 ≤ b ∧ b ≤ 2 := by omega
          refine mv_callPW (st2 := [mv_I 1]) rfl (Or.inr rfl) rfl rfl rfl (sp_min_t ha4) (by first | decide | omega) ?_
          refine mv_goW 1 (pc' := if 1 = 0 then 9 else 12) (ls' := [mv_R 100, mv_I (c : Int), mv_I b, mv_I v, mv_U]) (st' := []) (M1 := M) rfl ?_
          refine mv_ffW (by decide) ?_
          refine mv_goW 2 (pc' := if b = 0 then 16 else 24) (ls' := [mv_R 100, mv_I (c : Int), mv_I b, mv_I v, mv_U]) (st' := []) (M1 := M) rfl ?_
          refine mv_ttW (by omega) ?_
          refine mv_goW 2 (pc' := 18) (ls' := [mv_R 100, mv_I (c : Int), mv_I b, mv_I v, mv_U]) (st' := [mv_I (c : Int), mv_R 100]) (M1 := M) rfl ?_
          have ha5 : 0 ≤ (c : Int) ∧ (c : Int) < V 0 8 := by omega
          refine mv_callPW (st2 := [mv_I 1]) rfl (Or.inl rfl) rfl rfl rfl (sp_misChild_t hm ho ha5) (by first | decide | omega) ?_
          refine mv_goW 1 (pc' := if 1 = 0 then 37 else 24) (ls' := [mv_R 100, mv_I (c : Int), mv_I b, mv_I v, mv_U]) (st' := []) (M1 := M) rfl ?_
          refine mv_ffW (by decide) ?_
          refine mv_goW 3 (pc' := if b = 1 then 29 else 40) (ls' := [mv_R 100, mv_I (c : Int), mv_I b, mv_I v, mv_U]) (st' := []) (M1 := M) rfl ?_
          refine mv_ffW (by omega) ?_
          refine mv_goW 5 (pc' := if b = 2 then 47 else 52) (ls' := [mv_R 100, mv_I (c : Int), mv_I b, mv_I v, mv_U]) (st' := [mv_I 0, mv_I v]) (M1 := M) rfl ?_
          refine mv_ffW (by omega) ?_
          refine mv_goW 1 (pc' := 55) (ls' := [mv_R 100, mv_I (c : Int), mv_I b, mv_I v, mv_U]) (st' := [mv_I 9999, mv_I 0, mv_I v]) (M1 := M) rfl ?_
          have ha6 : ¬ (0 ≤ v ∧ v ≤ 9999) := by omega
          refine mv_callPW (st2 := [mv_I 0]) rfl (Or.inr rfl) rfl rfl rfl (sp_min_f ha6) (by first | decide | omega) ?_
          refine mv_goW 1 (pc' := if 0 = 0 then 61 else 64) (ls' := [mv_R 100, mv_I (c : Int), mv_I b, mv_I v, mv_U]) (st' := []) (M1 := M) rfl ?_
          refine mv_ttW (by decide) ?_
          refine mv_goW 1 (pc' := 63) (ls' := [mv_R 100, mv_I (c : Int), mv_I b, mv_I v, mv_U]) (st' := [mv_I (-7)]) (M1 := M) rfl ?_
          exact mv_retW (fun n => rfl) ⟨congrArg mv_I (by first | rfl | omega), hI⟩
        · refine mv_goW 4 (pc' := if b = 2 then 53 else 58) (ls' := [mv_R 0, mv_I (c : Int), mv_I b, mv_I v, mv_U, mv_U]) (st' := [mv_I v]) (M1 := M) rfl ?_
          refine mv_ffW (by omega) ?_
          refine mv_goW 2 (pc' := if v < 10000 then 67 else 64) (ls' := [mv_R 0, mv_I (c : Int), mv_I b, mv_I v, mv_U, mv_U]) (st' := []) (M1 := M) rfl ?_
          refine mv_spW (fun ha7 => ?_) (fun ha7 => ?_)
          · refine mv_goW 2 (pc' := 69) (ls' := [mv_R 0, mv_I (c : Int), mv_I b, mv_I v, mv_U, mv_U]) (st' := [mv_I 2, mv_I b]) (M1 := M) rfl ?_
            refine mv_goW 1 (pc' := if b = 2 then 72 else 92) (ls' := [mv_R 0, mv_I (c : Int), mv_I b, mv_I v, mv_U, mv_U]) (st' := []) (M1 := M) rfl ?_
            refine mv_ffW (by omega) ?_
            refine mv_goW 2 (pc' := if b = 0 then 96 else 106) (ls' := [mv_R 0, mv_I (c : Int), mv_I b, mv_I v, mv_U, mv_U]) (st' := []) (M1 := M) rfl ?_
            refine mv_ttW (by omega) ?_
            refine mv_goW 7 (pc' := 118) (ls' := [mv_R 0, mv_I (c : Int), mv_I b, mv_I v, mv_R 31, mv_U]) (st' := [mv_I (c : Int), mv_R 31]) (M1 := M) rfl ?_
            refine mv_callPW (st2 := [mv_I (sp_dg (V 1) c)]) rfl (Or.inr rfl) rfl rfl rfl (sp_cdg31 (sp_f31 hc ho) (by omega)) (by first | decide | omega) ?_
            refine mv_goW 4 (pc' := 127) (ls' := [mv_R 0, mv_I (c : Int), mv_I b, mv_I v, mv_R 31, mv_I (sp_dg (V 1) c)]) (st' := [mv_I v, mv_I (c : Int), mv_R 31]) (M1 := M) rfl ?_
            refine mv_callW (st2 := []) rfl (Or.inr rfl) rfl rfl rfl (sp_cpd31 (v := v) (c := c) (by omega) (by omega) (by omega)) (by first | decide | omega) (fun Ma8 hm9 => ?_)
            have hx := hm9
            have hm := sp_m_ag2 hm hx.1 (by decide)
            refine mv_goW 1 (pc' := 132) (ls' := [mv_R 0, mv_I (c : Int), mv_I b, mv_I v, mv_R 31, mv_I (sp_dg (V 1) c)]) (st' := [mv_I (sp_dg (V 1) c)]) (M1 := Ma8) rfl ?_
            refine mv_retW (fun n => rfl) ⟨_, rfl, ?_⟩
            refine mv_goW 3 (pc' := 3) (ls' := [mv_R 100, mv_I (c : Int), mv_I b, mv_I v, mv_U]) (st' := [mv_I 2, mv_I 0, mv_I b]) (M1 := Ma8) rfl ?_
            have ha10 : 0 ≤ b ∧ b ≤ 2 := by omega
            refine mv_callPW (st2 := [mv_I 1]) rfl (Or.inr rfl) rfl rfl rfl (sp_min_t ha10) (by first | decide | omega) ?_
            refine mv_goW 1 (pc' := if 1 = 0 then 9 else 12) (ls' := [mv_R 100, mv_I (c : Int), mv_I b, mv_I v, mv_U]) (st' := []) (M1 := Ma8) rfl ?_
            refine mv_ffW (by decide) ?_
            refine mv_goW 2 (pc' := if b = 0 then 16 else 24) (ls' := [mv_R 100, mv_I (c : Int), mv_I b, mv_I v, mv_U]) (st' := []) (M1 := Ma8) rfl ?_
            refine mv_ttW (by omega) ?_
            refine mv_goW 2 (pc' := 18) (ls' := [mv_R 100, mv_I (c : Int), mv_I b, mv_I v, mv_U]) (st' := [mv_I (c : Int), mv_R 100]) (M1 := Ma8) rfl ?_
            have ha11 : 0 ≤ (c : Int) ∧ (c : Int) < V 0 8 := by omega
            refine mv_callPW (st2 := [mv_I 1]) rfl (Or.inl rfl) rfl rfl rfl (sp_misChild_t hm ho ha11) (by first | decide | omega) ?_
            refine mv_goW 1 (pc' := if 1 = 0 then 37 else 24) (ls' := [mv_R 100, mv_I (c : Int), mv_I b, mv_I v, mv_U]) (st' := []) (M1 := Ma8) rfl ?_
            refine mv_ffW (by decide) ?_
            refine mv_goW 3 (pc' := if b = 1 then 29 else 40) (ls' := [mv_R 100, mv_I (c : Int), mv_I b, mv_I v, mv_U]) (st' := []) (M1 := Ma8) rfl ?_
            refine mv_ffW (by omega) ?_
            refine mv_goW 5 (pc' := if b = 2 then 47 else 52) (ls' := [mv_R 100, mv_I (c : Int), mv_I b, mv_I v, mv_U]) (st' := [mv_I 0, mv_I v]) (M1 := Ma8) rfl ?_
            refine mv_ffW (by omega) ?_
            refine mv_goW 1 (pc' := 55) (ls' := [mv_R 100, mv_I (c : Int), mv_I b, mv_I v, mv_U]) (st' := [mv_I 9999, mv_I 0, mv_I v]) (M1 := Ma8) rfl ?_
            have ha12 : 0 ≤ v ∧ v ≤ 9999 := by omega
            refine mv_callPW (st2 := [mv_I 1]) rfl (Or.inr rfl) rfl rfl rfl (sp_min_t ha12) (by first | decide | omega) ?_
            refine mv_goW 1 (pc' := if 1 = 0 then 61 else 64) (ls' := [mv_R 100, mv_I (c : Int), mv_I b, mv_I v, mv_U]) (st' := []) (M1 := Ma8) rfl ?_
            refine mv_ffW (by decide) ?_
            refine mv_goW 2 (pc' := if b = 0 then 68 else 76) (ls' := [mv_R 100, mv_I (c : Int), mv_I b, mv_I v, mv_U]) (st' := []) (M1 := Ma8) rfl ?_
            refine mv_ttW (by omega) ?_
            refine mv_goW 2 (pc' := 70) (ls' := [mv_R 100, mv_I (c : Int), mv_I b, mv_I v, mv_U]) (st' := [mv_I (c : Int), mv_R 100]) (M1 := Ma8) rfl ?_
            refine mv_callPW (st2 := [mv_I (sp_dg (V 1) c)]) rfl (Or.inl rfl) rfl rfl rfl (sp_mdg104 (sp_f104 hm ho) (by omega)) (by first | decide | omega) ?_
            refine mv_goW 4 (pc' := mv_swg [(0, 124), (1, 133)] 142 b) (ls' := [mv_R 100, mv_I (c : Int), mv_I b, mv_I v, mv_I (sp_dg (V 1) c)]) (st' := []) (M1 := Ma8) rfl ?_
            refine mv_pcqW (pc2 := 124) (by rw [show b = 0 from by omega]; rfl) ?_
            refine mv_goW 3 (pc' := 127) (ls' := [mv_R 100, mv_I (c : Int), mv_I b, mv_I v, mv_I (sp_dg (V 1) c)]) (st' := [mv_I v, mv_I (c : Int), mv_R 100]) (M1 := Ma8) rfl ?_
            refine mv_callW (st2 := []) rfl (Or.inl rfl) rfl rfl rfl (sp_mpd104 (v := v) (c := c) (by omega) (by omega) (by omega)) (by first | decide | omega) (fun Ma13 hm14 => ?_)
            refine mv_goW 2 (pc' := 149) (ls' := [mv_R 100, mv_I (c : Int), mv_I b, mv_I v, mv_I (sp_dg (V 1) c)]) (st' := [mv_I (sp_dg (V 1) c)]) (M1 := Ma13) rfl ?_
            exact mv_retW (fun n => rfl) ⟨congrArg mv_I (by first | rfl | omega), sp_put_n h (by omega) hx hm14⟩
          · refine mv_goW 1 (pc' := 66) (ls' := [mv_R 0, mv_I (c : Int), mv_I b, mv_I v, mv_U, mv_U]) (st' := [mv_I (-7)]) (M1 := M) rfl ?_
            refine mv_retW (fun n => rfl) ⟨_, rfl, ?_⟩
            refine mv_goW 3 (pc' := 3) (ls' := [mv_R 100, mv_I (c : Int), mv_I b, mv_I v, mv_U]) (st' := [mv_I 2, mv_I 0, mv_I b]) (M1 := M) rfl ?_
            have ha15 : 0 ≤ b ∧ b ≤ 2 := by omega
            refine mv_callPW (st2 := [mv_I 1]) rfl (Or.inr rfl) rfl rfl rfl (sp_min_t ha15) (by first | decide | omega) ?_
            refine mv_goW 1 (pc' := if 1 = 0 then 9 else 12) (ls' := [mv_R 100, mv_I (c : Int), mv_I b, mv_I v, mv_U]) (st' := []) (M1 := M) rfl ?_
            refine mv_ffW (by decide) ?_
            refine mv_goW 2 (pc' := if b = 0 then 16 else 24) (ls' := [mv_R 100, mv_I (c : Int), mv_I b, mv_I v, mv_U]) (st' := []) (M1 := M) rfl ?_
            refine mv_ttW (by omega) ?_
            refine mv_goW 2 (pc' := 18) (ls' := [mv_R 100, mv_I (c : Int), mv_I b, mv_I v, mv_U]) (st' := [mv_I (c : Int), mv_R 100]) (M1 := M) rfl ?_
            have ha16 : 0 ≤ (c : Int) ∧ (c : Int) < V 0 8 := by omega
            refine mv_callPW (st2 := [mv_I 1]) rfl (Or.inl rfl) rfl rfl rfl (sp_misChild_t hm ho ha16) (by first | decide | omega) ?_
            refine mv_goW 1 (pc' := if 1 = 0 then 37 else 24) (ls' := [mv_R 100, mv_I (c : Int), mv_I b, mv_I v, mv_U]) (st' := []) (M1 := M) rfl ?_
            refine mv_ffW (by decide) ?_
            refine mv_goW 3 (pc' := if b = 1 then 29 else 40) (ls' := [mv_R 100, mv_I (c : Int), mv_I b, mv_I v, mv_U]) (st' := []) (M1 := M) rfl ?_
            refine mv_ffW (by omega) ?_
            refine mv_goW 5 (pc' := if b = 2 then 47 else 52) (ls' := [mv_R 100, mv_I (c : Int), mv_I b, mv_I v, mv_U]) (st' := [mv_I 0, mv_I v]) (M1 := M) rfl ?_
            refine mv_ffW (by omega) ?_
            refine mv_goW 1 (pc' := 55) (ls' := [mv_R 100, mv_I (c : Int), mv_I b, mv_I v, mv_U]) (st' := [mv_I 9999, mv_I 0, mv_I v]) (M1 := M) rfl ?_
            have ha17 : ¬ (0 ≤ v ∧ v ≤ 9999) := by omega
            refine mv_callPW (st2 := [mv_I 0]) rfl (Or.inr rfl) rfl rfl rfl (sp_min_f ha17) (by first | decide | omega) ?_
            refine mv_goW 1 (pc' := if 0 = 0 then 61 else 64) (ls' := [mv_R 100, mv_I (c : Int), mv_I b, mv_I v, mv_U]) (st' := []) (M1 := M) rfl ?_
            refine mv_ttW (by decide) ?_
            refine mv_goW 1 (pc' := 63) (ls' := [mv_R 100, mv_I (c : Int), mv_I b, mv_I v, mv_U]) (st' := [mv_I (-7)]) (M1 := M) rfl ?_
            exact mv_retW (fun n => rfl) ⟨congrArg mv_I (by first | rfl | omega), hI⟩
      · refine mv_callPW (st2 := [mv_I 0]) rfl (Or.inl rfl) rfl rfl rfl (sp_cisChild_f_30 hc ho ha2) (by first | decide | omega) ?_
        refine mv_goW 1 (pc' := if 0 = 0 then 31 else 15) (ls' := [mv_R 0, mv_I (c : Int), mv_I b, mv_I v, mv_U, mv_U]) (st' := []) (M1 := M) rfl ?_
        refine mv_ttW (by decide) ?_
        refine mv_goW 1 (pc' := 33) (ls' := [mv_R 0, mv_I (c : Int), mv_I b, mv_I v, mv_U, mv_U]) (st' := [mv_I (-5)]) (M1 := M) rfl ?_
        refine mv_retW (fun n => rfl) ⟨_, rfl, ?_⟩
        refine mv_goW 3 (pc' := 3) (ls' := [mv_R 100, mv_I (c : Int), mv_I b, mv_I v, mv_U]) (st' := [mv_I 2, mv_I 0, mv_I b]) (M1 := M) rfl ?_
        have ha18 : 0 ≤ b ∧ b ≤ 2 := by omega
        refine mv_callPW (st2 := [mv_I 1]) rfl (Or.inr rfl) rfl rfl rfl (sp_min_t ha18) (by first | decide | omega) ?_
        refine mv_goW 1 (pc' := if 1 = 0 then 9 else 12) (ls' := [mv_R 100, mv_I (c : Int), mv_I b, mv_I v, mv_U]) (st' := []) (M1 := M) rfl ?_
        refine mv_ffW (by decide) ?_
        refine mv_goW 2 (pc' := if b = 0 then 16 else 24) (ls' := [mv_R 100, mv_I (c : Int), mv_I b, mv_I v, mv_U]) (st' := []) (M1 := M) rfl ?_
        refine mv_ttW (by omega) ?_
        refine mv_goW 2 (pc' := 18) (ls' := [mv_R 100, mv_I (c : Int), mv_I b, mv_I v, mv_U]) (st' := [mv_I (c : Int), mv_R 100]) (M1 := M) rfl ?_
        have ha19 : ¬ (0 ≤ (c : Int) ∧ (c : Int) < V 0 8) := by omega
        refine mv_callPW (st2 := [mv_I 0]) rfl (Or.inl rfl) rfl rfl rfl (sp_misChild_f hm ho ha19) (by first | decide | omega) ?_
        refine mv_goW 1 (pc' := if 0 = 0 then 37 else 24) (ls' := [mv_R 100, mv_I (c : Int), mv_I b, mv_I v, mv_U]) (st' := []) (M1 := M) rfl ?_
        refine mv_ttW (by decide) ?_
        refine mv_goW 1 (pc' := 39) (ls' := [mv_R 100, mv_I (c : Int), mv_I b, mv_I v, mv_U]) (st' := [mv_I (-5)]) (M1 := M) rfl ?_
        exact mv_retW (fun n => rfl) ⟨congrArg mv_I (by first | rfl | omega), hI⟩
    · refine mv_goW 3 (pc' := if b = 1 then 20 else 34) (ls' := [mv_R 0, mv_I (c : Int), mv_I b, mv_I v, mv_U, mv_U]) (st' := []) (M1 := M) rfl ?_
      refine mv_spW (fun ha20 => ?_) (fun ha20 => ?_)
      · refine mv_goW 3 (pc' := 25) (ls' := [mv_R 0, mv_I (c : Int), mv_I b, mv_I v, mv_U, mv_U]) (st' := [mv_I (c : Int), mv_R 30]) (M1 := M) rfl ?_
        by_cases ha21 : 0 ≤ (c : Int) ∧ (c : Int) < V 0 9
        · refine mv_callPW (st2 := [mv_I 1]) rfl (Or.inl rfl) rfl rfl rfl (sp_cisUncle_t_30 hc ho ha21) (by first | decide | omega) ?_
          refine mv_goW 1 (pc' := if 1 = 0 then 31 else 34) (ls' := [mv_R 0, mv_I (c : Int), mv_I b, mv_I v, mv_U, mv_U]) (st' := []) (M1 := M) rfl ?_
          refine mv_ffW (by decide) ?_
          refine mv_goW 2 (pc' := if b < 0 then 64 else 38) (ls' := [mv_R 0, mv_I (c : Int), mv_I b, mv_I v, mv_U, mv_U]) (st' := []) (M1 := M) rfl ?_
          refine mv_ffW (by omega) ?_
          refine mv_goW 3 (pc' := if 2 < b then 64 else 43) (ls' := [mv_R 0, mv_I (c : Int), mv_I b, mv_I v, mv_U, mv_U]) (st' := []) (M1 := M) rfl ?_
          refine mv_ffW (by omega) ?_
          refine mv_goW 2 (pc' := if v < 0 then 64 else 47) (ls' := [mv_R 0, mv_I (c : Int), mv_I b, mv_I v, mv_U, mv_U]) (st' := []) (M1 := M) rfl ?_
          refine mv_spW (fun ha22 => ?_) (fun ha22 => ?_)
          · refine mv_goW 1 (pc' := 66) (ls' := [mv_R 0, mv_I (c : Int), mv_I b, mv_I v, mv_U, mv_U]) (st' := [mv_I (-7)]) (M1 := M) rfl ?_
            refine mv_retW (fun n => rfl) ⟨_, rfl, ?_⟩
            refine mv_goW 3 (pc' := 3) (ls' := [mv_R 100, mv_I (c : Int), mv_I b, mv_I v, mv_U]) (st' := [mv_I 2, mv_I 0, mv_I b]) (M1 := M) rfl ?_
            have ha23 : 0 ≤ b ∧ b ≤ 2 := by omega
            refine mv_callPW (st2 := [mv_I 1]) rfl (Or.inr rfl) rfl rfl rfl (sp_min_t ha23) (by first | decide | omega) ?_
            refine mv_goW 1 (pc' := if 1 = 0 then 9 else 12) (ls' := [mv_R 100, mv_I (c : Int), mv_I b, mv_I v, mv_U]) (st' := []) (M1 := M) rfl ?_
            refine mv_ffW (by decide) ?_
            refine mv_goW 2 (pc' := if b = 0 then 16 else 24) (ls' := [mv_R 100, mv_I (c : Int), mv_I b, mv_I v, mv_U]) (st' := []) (M1 := M) rfl ?_
            refine mv_ffW (by omega) ?_
            refine mv_goW 3 (pc' := if b = 1 then 29 else 40) (ls' := [mv_R 100, mv_I (c : Int), mv_I b, mv_I v, mv_U]) (st' := []) (M1 := M) rfl ?_
            refine mv_ttW (by omega) ?_
            refine mv_goW 2 (pc' := 31) (ls' := [mv_R 100, mv_I (c : Int), mv_I b, mv_I v, mv_U]) (st' := [mv_I (c : Int), mv_R 100]) (M1 := M) rfl ?_
            have ha24 : 0 ≤ (c : Int) ∧ (c : Int) < V 0 9 := by omega
            refine mv_callPW (st2 := [mv_I 1]) rfl (Or.inl rfl) rfl rfl rfl (sp_misUncle_t hm ho ha24) (by first | decide | omega) ?_
            refine mv_goW 1 (pc' := if 1 = 0 then 37 else 40) (ls' := [mv_R 100, mv_I (c : Int), mv_I b, mv_I v, mv_U]) (st' := []) (M1 := M) rfl ?_
            refine mv_ffW (by decide) ?_
            refine mv_goW 5 (pc' := if b = 2 then 47 else 52) (ls' := [mv_R 100, mv_I (c : Int), mv_I b, mv_I v, mv_U]) (st' := [mv_I 0, mv_I v]) (M1 := M) rfl ?_
            refine mv_ffW (by omega) ?_
            refine mv_goW 1 (pc' := 55) (ls' := [mv_R 100, mv_I (c : Int), mv_I b, mv_I v, mv_U]) (st' := [mv_I 9999, mv_I 0, mv_I v]) (M1 := M) rfl ?_
            have ha25 : ¬ (0 ≤ v ∧ v ≤ 9999) := by omega
            refine mv_callPW (st2 := [mv_I 0]) rfl (Or.inr rfl) rfl rfl rfl (sp_min_f ha25) (by first | decide | omega) ?_
            refine mv_goW 1 (pc' := if 0 = 0 then 61 else 64) (ls' := [mv_R 100, mv_I (c : Int), mv_I b, mv_I v, mv_U]) (st' := []) (M1 := M) rfl ?_
            refine mv_ttW (by decide) ?_
            refine mv_goW 1 (pc' := 63) (ls' := [mv_R 100, mv_I (c : Int), mv_I b, mv_I v, mv_U]) (st' := [mv_I (-7)]) (M1 := M) rfl ?_
            exact mv_retW (fun n => rfl) ⟨congrArg mv_I (by first | rfl | omega), hI⟩
          · refine mv_goW 4 (pc' := if b = 2 then 53 else 58) (ls' := [mv_R 0, mv_I (c : Int), mv_I b, mv_I v, mv_U, mv_U]) (st' := [mv_I v]) (M1 := M) rfl ?_
            refine mv_ffW (by omega) ?_
            refine mv_goW 2 (pc' := if v < 10000 then 67 else 64) (ls' := [mv_R 0, mv_I (c : Int), mv_I b, mv_I v, mv_U, mv_U]) (st' := []) (M1 := M) rfl ?_
            refine mv_spW (fun ha26 => ?_) (fun ha26 => ?_)
            · refine mv_goW 2 (pc' := 69) (ls' := [mv_R 0, mv_I (c : Int), mv_I b, mv_I v, mv_U, mv_U]) (st' := [mv_I 2, mv_I b]) (M1 := M) rfl ?_
              refine mv_goW 1 (pc' := if b = 2 then 72 else 92) (ls' := [mv_R 0, mv_I (c : Int), mv_I b, mv_I v, mv_U, mv_U]) (st' := []) (M1 := M) rfl ?_
              refine mv_ffW (by omega) ?_
              refine mv_goW 2 (pc' := if b = 0 then 96 else 106) (ls' := [mv_R 0, mv_I (c : Int), mv_I b, mv_I v, mv_U, mv_U]) (st' := []) (M1 := M) rfl ?_
              refine mv_ffW (by omega) ?_
              refine mv_goW 6 (pc' := 118) (ls' := [mv_R 0, mv_I (c : Int), mv_I b, mv_I v, mv_R 33, mv_U]) (st' := [mv_I (c : Int), mv_R 33]) (M1 := M) rfl ?_
              refine mv_callPW (st2 := [mv_I (sp_dg (V 3) c)]) rfl (Or.inr rfl) rfl rfl rfl (sp_cdg33 (sp_f33 hc ho) (by omega)) (by first | decide | omega) ?_
              refine mv_goW 4 (pc' := 127) (ls' := [mv_R 0, mv_I (c : Int), mv_I b, mv_I v, mv_R 33, mv_I (sp_dg (V 3) c)]) (st' := [mv_I v, mv_I (c : Int), mv_R 33]) (M1 := M) rfl ?_
              refine mv_callW (st2 := []) rfl (Or.inr rfl) rfl rfl rfl (sp_cpd33 (v := v) (c := c) (by omega) (by omega) (by omega)) (by first | decide | omega) (fun Ma27 hm28 => ?_)
              have hx := hm28
              have hm := sp_m_ag2 hm hx.1 (by decide)
              refine mv_goW 1 (pc' := 132) (ls' := [mv_R 0, mv_I (c : Int), mv_I b, mv_I v, mv_R 33, mv_I (sp_dg (V 3) c)]) (st' := [mv_I (sp_dg (V 3) c)]) (M1 := Ma27) rfl ?_
              refine mv_retW (fun n => rfl) ⟨_, rfl, ?_⟩
              refine mv_goW 3 (pc' := 3) (ls' := [mv_R 100, mv_I (c : Int), mv_I b, mv_I v, mv_U]) (st' := [mv_I 2, mv_I 0, mv_I b]) (M1 := Ma27) rfl ?_
              have ha29 : 0 ≤ b ∧ b ≤ 2 := by omega
              refine mv_callPW (st2 := [mv_I 1]) rfl (Or.inr rfl) rfl rfl rfl (sp_min_t ha29) (by first | decide | omega) ?_
              refine mv_goW 1 (pc' := if 1 = 0 then 9 else 12) (ls' := [mv_R 100, mv_I (c : Int), mv_I b, mv_I v, mv_U]) (st' := []) (M1 := Ma27) rfl ?_
              refine mv_ffW (by decide) ?_
              refine mv_goW 2 (pc' := if b = 0 then 16 else 24) (ls' := [mv_R 100, mv_I (c : Int), mv_I b, mv_I v, mv_U]) (st' := []) (M1 := Ma27) rfl ?_
              refine mv_ffW (by omega) ?_
              refine mv_goW 3 (pc' := if b = 1 then 29 else 40) (ls' := [mv_R 100, mv_I (c : Int), mv_I b, mv_I v, mv_U]) (st' := []) (M1 := Ma27) rfl ?_
              refine mv_ttW (by omega) ?_
              refine mv_goW 2 (pc' := 31) (ls' := [mv_R 100, mv_I (c : Int), mv_I b, mv_I v, mv_U]) (st' := [mv_I (c : Int), mv_R 100]) (M1 := Ma27) rfl ?_
              have ha30 : 0 ≤ (c : Int) ∧ (c : Int) < V 0 9 := by omega
              refine mv_callPW (st2 := [mv_I 1]) rfl (Or.inl rfl) rfl rfl rfl (sp_misUncle_t hm ho ha30) (by first | decide | omega) ?_
              refine mv_goW 1 (pc' := if 1 = 0 then 37 else 40) (ls' := [mv_R 100, mv_I (c : Int), mv_I b, mv_I v, mv_U]) (st' := []) (M1 := Ma27) rfl ?_
              refine mv_ffW (by decide) ?_
              refine mv_goW 5 (pc' := if b = 2 then 47 else 52) (ls' := [mv_R 100, mv_I (c : Int), mv_I b, mv_I v, mv_U]) (st' := [mv_I 0, mv_I v]) (M1 := Ma27) rfl ?_
              refine mv_ffW (by omega) ?_
              refine mv_goW 1 (pc' := 55) (ls' := [mv_R 100, mv_I (c : Int), mv_I b, mv_I v, mv_U]) (st' := [mv_I 9999, mv_I 0, mv_I v]) (M1 := Ma27) rfl ?_
              have ha31 : 0 ≤ v ∧ v ≤ 9999 := by omega
              refine mv_callPW (st2 := [mv_I 1]) rfl (Or.inr rfl) rfl rfl rfl (sp_min_t ha31) (by first | decide | omega) ?_
              refine mv_goW 1 (pc' := if 1 = 0 then 61 else 64) (ls' := [mv_R 100, mv_I (c : Int), mv_I b, mv_I v, mv_U]) (st' := []) (M1 := Ma27) rfl ?_
              refine mv_ffW (by decide) ?_
              refine mv_goW 2 (pc' := if b = 0 then 68 else 76) (ls' := [mv_R 100, mv_I (c : Int), mv_I b, mv_I v, mv_U]) (st' := []) (M1 := Ma27) rfl ?_
              refine mv_ffW (by omega) ?_
              refine mv_goW 3 (pc' := if b = 1 then 81 else 89) (ls' := [mv_R 100, mv_I (c : Int), mv_I b, mv_I v, mv_U]) (st' := []) (M1 := Ma27) rfl ?_
              refine mv_ttW (by omega) ?_
              refine mv_goW 2 (pc' := 83) (ls' := [mv_R 100, mv_I (c : Int), mv_I b, mv_I v, mv_U]) (st' := [mv_I (c : Int), mv_R 100]) (M1 := Ma27) rfl ?_
              refine mv_callPW (st2 := [mv_I (sp_dg (V 3) c)]) rfl (Or.inl rfl) rfl rfl rfl (sp_mdg105 (sp_f105 hm ho) (by omega)) (by first | decide | omega) ?_
              refine mv_goW 4 (pc' := mv_swg [(0, 124), (1, 133)] 142 b) (ls' := [mv_R 100, mv_I (c : Int), mv_I b, mv_I v, mv_I (sp_dg (V 3) c)]) (st' := []) (M1 := Ma27) rfl ?_
              refine mv_pcqW (pc2 := 133) (by rw [show b = 1 from by omega]; rfl) ?_
              refine mv_goW 3 (pc' := 136) (ls' := [mv_R 100, mv_I (c : Int), mv_I b, mv_I v, mv_I (sp_dg (V 3) c)]) (st' := [mv_I v, mv_I (c : Int), mv_R 100]) (M1 := Ma27) rfl ?_
              refine mv_callW (st2 := []) rfl (Or.inl rfl) rfl rfl rfl (sp_mpd105 (v := v) (c := c) (by omega) (by omega) (by omega)) (by first | decide | omega) (fun Ma32 hm33 => ?_)
              refine mv_goW 2 (pc' := 149) (ls' := [mv_R 100, mv_I (c : Int), mv_I b, mv_I v, mv_I (sp_dg (V 3) c)]) (st' := [mv_I (sp_dg (V 3) c)]) (M1 := Ma32) rfl ?_
              exact mv_retW (fun n => rfl) ⟨congrArg mv_I (by first | rfl | omega), sp_put_k h (by omega) hx hm33⟩
            · refine mv_goW 1 (pc' := 66) (ls' := [mv_R 0, mv_I (c : Int), mv_I b, mv_I v, mv_U, mv_U]) (st' := [mv_I (-7)]) (M1 := M) rfl ?_
              refine mv_retW (fun n => rfl) ⟨_, rfl, ?_⟩
              refine mv_goW 3 (pc' := 3) (ls' := [mv_R 100, mv_I (c : Int), mv_I b, mv_I v, mv_U]) (st' := [mv_I 2, mv_I 0, mv_I b]) (M1 := M) rfl ?_
              have ha34 : 0 ≤ b ∧ b ≤ 2 := by omega
              refine mv_callPW (st2 := [mv_I 1]) rfl (Or.inr rfl) rfl rfl rfl (sp_min_t ha34) (by first | decide | omega) ?_
              refine mv_goW 1 (pc' := if 1 = 0 then 9 else 12) (ls' := [mv_R 100, mv_I (c : Int), mv_I b, mv_I v, mv_U]) (st' := []) (M1 := M) rfl ?_
              refine mv_ffW (by decide) ?_
              refine mv_goW 2 (pc' := if b = 0 then 16 else 24) (ls' := [mv_R 100, mv_I (c : Int), mv_I b, mv_I v, mv_U]) (st' := []) (M1 := M) rfl ?_
              refine mv_ffW (by omega) ?_
              refine mv_goW 3 (pc' := if b = 1 then 29 else 40) (ls' := [mv_R 100, mv_I (c : Int), mv_I b, mv_I v, mv_U]) (st' := []) (M1 := M) rfl ?_
              refine mv_ttW (by omega) ?_
              refine mv_goW 2 (pc' := 31) (ls' := [mv_R 100, mv_I (c : Int), mv_I b, mv_I v, mv_U]) (st' := [mv_I (c : Int), mv_R 100]) (M1 := M) rfl ?_
              have ha35 : 0 ≤ (c : Int) ∧ (c : Int) < V 0 9 := by omega
              refine mv_callPW (st2 := [mv_I 1]) rfl (Or.inl rfl) rfl rfl rfl (sp_misUncle_t hm ho ha35) (by first | decide | omega) ?_
              refine mv_goW 1 (pc' := if 1 = 0 then 37 else 40) (ls' := [mv_R 100, mv_I (c : Int), mv_I b, mv_I v, mv_U]) (st' := []) (M1 := M) rfl ?_
              refine mv_ffW (by decide) ?_
              refine mv_goW 5 (pc' := if b = 2 then 47 else 52) (ls' := [mv_R 100, mv_I (c : Int), mv_I b, mv_I v, mv_U]) (st' := [mv_I 0, mv_I v]) (M1 := M) rfl ?_
              refine mv_ffW (by omega) ?_
              refine mv_goW 1 (pc' := 55) (ls' := [mv_R 100, mv_I (c : Int), mv_I b, mv_I v, mv_U]) (st' := [mv_I 9999, mv_I 0, mv_I v]) (M1 := M) rfl ?_
              have ha36 : ¬ (0 ≤ v ∧ v ≤ 9999) := by omega
              refine mv_callPW (st2 := [mv_I 0]) rfl (Or.inr rfl) rfl rfl rfl (sp_min_f ha36) (by first | decide | omega) ?_
              refine mv_goW 1 (pc' := if 0 = 0 then 61 else 64) (ls' := [mv_R 100, mv_I (c : Int), mv_I b, mv_I v, mv_U]) (st' := []) (M1 := M) rfl ?_
              refine mv_ttW (by decide) ?_
              refine mv_goW 1 (pc' := 63) (ls' := [mv_R 100, mv_I (c : Int), mv_I b, mv_I v, mv_U]) (st' := [mv_I (-7)]) (M1 := M) rfl ?_
              exact mv_retW (fun n => rfl) ⟨congrArg mv_I (by first | rfl | omega), hI⟩
        · refine mv_callPW (st2 := [mv_I 0]) rfl (Or.inl rfl) rfl rfl rfl (sp_cisUncle_f_30 hc ho ha21) (by first | decide | omega) ?_
          refine mv_goW 1 (pc' := if 0 = 0 then 31 else 34) (ls' := [mv_R 0, mv_I (c : Int), mv_I b, mv_I v, mv_U, mv_U]) (st' := []) (M1 := M) rfl ?_
          refine mv_ttW (by decide) ?_
          refine mv_goW 1 (pc' := 33) (ls' := [mv_R 0, mv_I (c : Int), mv_I b, mv_I v, mv_U, mv_U]) (st' := [mv_I (-5)]) (M1 := M) rfl ?_
          refine mv_retW (fun n => rfl) ⟨_, rfl, ?_⟩
          refine mv_goW 3 (pc' := 3) (ls' := [mv_R 100, mv_I (c : Int), mv_I b, mv_I v, mv_U]) (st' := [mv_I 2, mv_I 0, mv_I b]) (M1 := M) rfl ?_
          have ha37 : 0 ≤ b ∧ b ≤ 2 := by omega
          refine mv_callPW (st2 := [mv_I 1]) rfl (Or.inr rfl) rfl rfl rfl (sp_min_t ha37) (by first | decide | omega) ?_
          refine mv_goW 1 (pc' := if 1 = 0 then 9 else 12) (ls' := [mv_R 100, mv_I (c : Int), mv_I b, mv_I v, mv_U]) (st' := []) (M1 := M) rfl ?_
          refine mv_ffW (by decide) ?_
          refine mv_goW 2 (pc' := if b = 0 then 16 else 24) (ls' := [mv_R 100, mv_I (c : Int), mv_I b, mv_I v, mv_U]) (st' := []) (M1 := M) rfl ?_
          refine mv_ffW (by omega) ?_
          refine mv_goW 3 (pc' := if b = 1 then 29 else 40) (ls' := [mv_R 100, mv_I (c : Int), mv_I b, mv_I v, mv_U]) (st' := []) (M1 := M) rfl ?_
          refine mv_ttW (by omega) ?_
          refine mv_goW 2 (pc' := 31) (ls' := [mv_R 100, mv_I (c : Int), mv_I b, mv_I v, mv_U]) (st' := [mv_I (c : Int), mv_R 100]) (M1 := M) rfl ?_
          have ha38 : ¬ (0 ≤ (c : Int) ∧ (c : Int) < V 0 9) := by omega
          refine mv_callPW (st2 := [mv_I 0]) rfl (Or.inl rfl) rfl rfl rfl (sp_misUncle_f hm ho ha38) (by first | decide | omega) ?_
          refine mv_goW 1 (pc' := if 0 = 0 then 37 else 40) (ls' := [mv_R 100, mv_I (c : Int), mv_I b, mv_I v, mv_U]) (st' := []) (M1 := M) rfl ?_
          refine mv_ttW (by decide) ?_
          refine mv_goW 1 (pc' := 39) (ls' := [mv_R 100, mv_I (c : Int), mv_I b, mv_I v, mv_U]) (st' := [mv_I (-5)]) (M1 := M) rfl ?_
          exact mv_retW (fun n => rfl) ⟨congrArg mv_I (by first | rfl | omega), hI⟩
      · refine mv_goW 2 (pc' := if b < 0 then 64 else 38) (ls' := [mv_R 0, mv_I (c : Int), mv_I b, mv_I v, mv_U, mv_U]) (st' := []) (M1 := M) rfl ?_
        refine mv_spW (fun ha39 => ?_) (fun ha39 => ?_)
        · refine mv_goW 1 (pc' := 66) (ls' := [mv_R 0, mv_I (c : Int), mv_I b, mv_I v, mv_U, mv_U]) (st' := [mv_I (-7)]) (M1 := M) rfl ?_
          refine mv_retW (fun n => rfl) ⟨_, rfl, ?_⟩
          refine mv_goW 3 (pc' := 3) (ls' := [mv_R 100, mv_I (c : Int), mv_I b, mv_I v, mv_U]) (st' := [mv_I 2, mv_I 0, mv_I b]) (M1 := M) rfl ?_
          have ha40 : ¬ (0 ≤ b ∧ b ≤ 2) := by omega
          refine mv_callPW (st2 := [mv_I 0]) rfl (Or.inr rfl) rfl rfl rfl (sp_min_f ha40) (by first | decide | omega) ?_
          refine mv_goW 1 (pc' := if 0 = 0 then 9 else 12) (ls' := [mv_R 100, mv_I (c : Int), mv_I b, mv_I v, mv_U]) (st' := []) (M1 := M) rfl ?_
          refine mv_ttW (by decide) ?_
          refine mv_goW 1 (pc' := 11) (ls' := [mv_R 100, mv_I (c : Int), mv_I b, mv_I v, mv_U]) (st' := [mv_I (-7)]) (M1 := M) rfl ?_
          exact mv_retW (fun n => rfl) ⟨congrArg mv_I (by first | rfl | omega), hI⟩
        · refine mv_goW 3 (pc' := if 2 < b then 64 else 43) (ls' := [mv_R 0, mv_I (c : Int), mv_I b, mv_I v, mv_U, mv_U]) (st' := []) (M1 := M) rfl ?_
          refine mv_spW (fun ha41 => ?_) (fun ha41 => ?_)
          · refine mv_goW 1 (pc' := 66) (ls' := [mv_R 0, mv_I (c : Int), mv_I b, mv_I v, mv_U, mv_U]) (st' := [mv_I (-7)]) (M1 := M) rfl ?_
            refine mv_retW (fun n => rfl) ⟨_, rfl, ?_⟩
            refine mv_goW 3 (pc' := 3) (ls' := [mv_R 100, mv_I (c : Int), mv_I b, mv_I v, mv_U]) (st' := [mv_I 2, mv_I 0, mv_I b]) (M1 := M) rfl ?_
            have ha42 : ¬ (0 ≤ b ∧ b ≤ 2) := by omega
            refine mv_callPW (st2 := [mv_I 0]) rfl (Or.inr rfl) rfl rfl rfl (sp_min_f ha42) (by first | decide | omega) ?_
            refine mv_goW 1 (pc' := if 0 = 0 then 9 else 12) (ls' := [mv_R 100, mv_I (c : Int), mv_I b, mv_I v, mv_U]) (st' := []) (M1 := M) rfl ?_
            refine mv_ttW (by decide) ?_
            refine mv_goW 1 (pc' := 11) (ls' := [mv_R 100, mv_I (c : Int), mv_I b, mv_I v, mv_U]) (st' := [mv_I (-7)]) (M1 := M) rfl ?_
            exact mv_retW (fun n => rfl) ⟨congrArg mv_I (by first | rfl | omega), hI⟩
          · refine mv_goW 2 (pc' := if v < 0 then 64 else 47) (ls' := [mv_R 0, mv_I (c : Int), mv_I b, mv_I v, mv_U, mv_U]) (st' := []) (M1 := M) rfl ?_
            refine mv_spW (fun ha43 => ?_) (fun ha43 => ?_)
            · refine mv_goW 1 (pc' := 66) (ls' := [mv_R 0, mv_I (c : Int), mv_I b, mv_I v, mv_U, mv_U]) (st' := [mv_I (-7)]) (M1 := M) rfl ?_
              refine mv_retW (fun n => rfl) ⟨_, rfl, ?_⟩
              refine mv_goW 3 (pc' := 3) (ls' := [mv_R 100, mv_I (c : Int), mv_I b, mv_I v, mv_U]) (st' := [mv_I 2, mv_I 0, mv_I b]) (M1 := M) rfl ?_
              have ha44 : 0 ≤ b ∧ b ≤ 2 := by omega
              refine mv_callPW (st2 := [mv_I 1]) rfl (Or.inr rfl) rfl rfl rfl (sp_min_t ha44) (by first | decide | omega) ?_
              refine mv_goW 1 (pc' := if 1 = 0 then 9 else 12) (ls' := [mv_R 100, mv_I (c : Int), mv_I b, mv_I v, mv_U]) (st' := []) (M1 := M) rfl ?_
              refine mv_ffW (by decide) ?_
              refine mv_goW 2 (pc' := if b = 0 then 16 else 24) (ls' := [mv_R 100, mv_I (c : Int), mv_I b, mv_I v, mv_U]) (st' := []) (M1 := M) rfl ?_
              refine mv_ffW (by omega) ?_
              refine mv_goW 3 (pc' := if b = 1 then 29 else 40) (ls' := [mv_R 100, mv_I (c : Int), mv_I b, mv_I v, mv_U]) (st' := []) (M1 := M) rfl ?_
              refine mv_ffW (by omega) ?_
              refine mv_goW 5 (pc' := if b = 2 then 47 else 52) (ls' := [mv_R 100, mv_I (c : Int), mv_I b, mv_I v, mv_U]) (st' := [mv_I 0, mv_I v]) (M1 := M) rfl ?_
              refine mv_ttW (by omega) ?_
              refine mv_goW 2 (pc' := 55) (ls' := [mv_R 100, mv_I (c : Int), mv_I b, mv_I v, mv_U]) (st' := [mv_I 99, mv_I 0, mv_I v]) (M1 := M) rfl ?_
              have ha45 : ¬ (0 ≤ v ∧ v ≤ 99) := by omega
              refine mv_callPW (st2 := [mv_I 0]) rfl (Or.inr rfl) rfl rfl rfl (sp_min_f ha45) (by first | decide | omega) ?_
              refine mv_goW 1 (pc' := if 0 = 0 then 61 else 64) (ls' := [mv_R 100, mv_I (c : Int), mv_I b, mv_I v, mv_U]) (st' := []) (M1 := M) rfl ?_
              refine mv_ttW (by decide) ?_
              refine mv_goW 1 (pc' := 63) (ls' := [mv_R 100, mv_I (c : Int), mv_I b, mv_I v, mv_U]) (st' := [mv_I (-7)]) (M1 := M) rfl ?_
              exact mv_retW (fun n => rfl) ⟨congrArg mv_I (by first | rfl | omega), hI⟩
            · refine mv_goW 4 (pc' := if b = 2 then 53 else 58) (ls' := [mv_R 0, mv_I (c : Int), mv_I b, mv_I v, mv_U, mv_U]) (st' := [mv_I v]) (M1 := M) rfl ?_
              refine mv_ttW (by omega) ?_
              refine mv_goW 3 (pc' := if v < 100 then 67 else 64) (ls' := [mv_R 0, mv_I (c : Int), mv_I b, mv_I v, mv_U, mv_U]) (st' := []) (M1 := M) rfl ?_
              refine mv_spW (fun ha46 => ?_) (fun ha46 => ?_)
              · refine mv_goW 2 (pc' := 69) (ls' := [mv_R 0, mv_I (c : Int), mv_I b, mv_I v, mv_U, mv_U]) (st' := [mv_I 2, mv_I b]) (M1 := M) rfl ?_
                refine mv_goW 1 (pc' := if b = 2 then 72 else 92) (ls' := [mv_R 0, mv_I (c : Int), mv_I b, mv_I v, mv_U, mv_U]) (st' := []) (M1 := M) rfl ?_
                refine mv_ttW (by omega) ?_
                refine mv_goW 3 (pc' := 79) (ls' := [mv_R 0, mv_I (c : Int), mv_I b, mv_I v, mv_U, mv_U]) (st' := [mv_I (M 30 10)]) (M1 := M) rfl ?_
                have hr1 := sp_ok_s10 ho
                rw [show M 30 10 = V 0 10 from by exact sp_c_s10 hc]
                refine mv_goW 6 (pc' := 91) (ls' := [mv_R 0, mv_I (c : Int), mv_I b, mv_I v, mv_I (V 0 10), mv_U]) (st' := [mv_I (V 0 10)]) (M1 := (mv_st M 30 (mv_up (M 30) 10 v))) rfl ?_
                refine mv_retW (fun n => rfl) ⟨_, rfl, ?_⟩
                refine mv_goW 3 (pc' := 3) (ls' := [mv_R 100, mv_I (c : Int), mv_I b, mv_I v, mv_U]) (st' := [mv_I 2, mv_I 0, mv_I b]) (M1 := (mv_st M 30 (mv_up (M 30) 10 v))) rfl ?_
                have ha47 : 0 ≤ b ∧ b ≤ 2 := by omega
                refine mv_callPW (st2 := [mv_I 1]) rfl (Or.inr rfl) rfl rfl rfl (sp_min_t ha47) (by first | decide | omega) ?_
                refine mv_goW 1 (pc' := if 1 = 0 then 9 else 12) (ls' := [mv_R 100, mv_I (c : Int), mv_I b, mv_I v, mv_U]) (st' := []) (M1 := (mv_st M 30 (mv_up (M 30) 10 v))) rfl ?_
                refine mv_ffW (by decide) ?_
                refine mv_goW 2 (pc' := if b = 0 then 16 else 24) (ls' := [mv_R 100, mv_I (c : Int), mv_I b, mv_I v, mv_U]) (st' := []) (M1 := (mv_st M 30 (mv_up (M 30) 10 v))) rfl ?_
                refine mv_ffW (by omega) ?_
                refine mv_goW 3 (pc' := if b = 1 then 29 else 40) (ls' := [mv_R 100, mv_I (c : Int), mv_I b, mv_I v, mv_U]) (st' := []) (M1 := (mv_st M 30 (mv_up (M 30) 10 v))) rfl ?_
                refine mv_ffW (by omega) ?_
                refine mv_goW 5 (pc' := if b = 2 then 47 else 52) (ls' := [mv_R 100, mv_I (c : Int), mv_I b, mv_I v, mv_U]) (st' := [mv_I 0, mv_I v]) (M1 := (mv_st M 30 (mv_up (M 30) 10 v))) rfl ?_
                refine mv_ttW (by omega) ?_
                refine mv_goW 2 (pc' := 55) (ls' := [mv_R 100, mv_I (c : Int), mv_I b, mv_I v, mv_U]) (st' := [mv_I 99, mv_I 0, mv_I v]) (M1 := (mv_st M 30 (mv_up (M 30) 10 v))) rfl ?_
                have ha48 : 0 ≤ v ∧ v ≤ 99 := by omega
                refine mv_callPW (st2 := [mv_I 1]) rfl (Or.inr rfl) rfl rfl rfl (sp_min_t ha48) (by first | decide | omega) ?_
                refine mv_goW 1 (pc' := if 1 = 0 then 61 else 64) (ls' := [mv_R 100, mv_I (c : Int), mv_I b, mv_I v, mv_U]) (st' := []) (M1 := (mv_st M 30 (mv_up (M 30) 10 v))) rfl ?_
                refine mv_ffW (by decide) ?_
                refine mv_goW 2 (pc' := if b = 0 then 68 else 76) (ls' := [mv_R 100, mv_I (c : Int), mv_I b, mv_I v, mv_U]) (st' := []) (M1 := (mv_st M 30 (mv_up (M 30) 10 v))) rfl ?_
                refine mv_ffW (by omega) ?_
                refine mv_goW 3 (pc' := if b = 1 then 81 else 89) (ls' := [mv_R 100, mv_I (c : Int), mv_I b, mv_I v, mv_U]) (st' := []) (M1 := (mv_st M 30 (mv_up (M 30) 10 v))) rfl ?_
                refine mv_ffW (by omega) ?_
                refine mv_goW 2 (pc' := 93) (ls' := [mv_R 100, mv_I (c : Int), mv_I b, mv_I v, mv_U]) (st' := [mv_I (M 100 7)]) (M1 := (mv_st M 30 (mv_up (M 30) 10 v))) rfl ?_
                have hr3 := sp_ok_s10 ho
                rw [show M 100 7 = V 0 10 from by exact sp_m_s10 hm]
                refine mv_goW 3 (pc' := mv_swg [(0, 124), (1, 133)] 142 b) (ls' := [mv_R 100, mv_I (c : Int), mv_I b, mv_I v, mv_I (V 0 10)]) (st' := []) (M1 := (mv_st M 30 (mv_up (M 30) 10 v))) rfl ?_
                have ha49 : ¬ (b = 0) := by omega
                have ha50 : ¬ (b = 1) := by omega
                refine mv_pcqW (pc2 := 142) (by simp only [mv_swg, if_neg, ha49, ha50, not_false_eq_true]) ?_
                refine mv_goW 4 (pc' := 149) (ls' := [mv_R 100, mv_I (c : Int), mv_I b, mv_I v, mv_I (V 0 10)]) (st' := [mv_I (V 0 10)]) (M1 := (mv_st (mv_st M 30 (mv_up (M 30) 10 v)) 100 (mv_up (M 100) 7 v))) rfl ?_
                exact mv_retW (fun n => rfl) ⟨congrArg mv_I (by first | rfl | omega), sp_put_y h (by omega) (by omega)⟩
              · refine mv_goW 1 (pc' := 66) (ls' := [mv_R 0, mv_I (c : Int), mv_I b, mv_I v, mv_U, mv_U]) (st' := [mv_I (-7)]) (M1 := M) rfl ?_
                refine mv_retW (fun n => rfl) ⟨_, rfl, ?_⟩
                refine mv_goW 3 (pc' := 3) (ls' := [mv_R 100, mv_I (c : Int), mv_I b, mv_I v, mv_U]) (st' := [mv_I 2, mv_I 0, mv_I b]) (M1 := M) rfl ?_
                have ha51 : 0 ≤ b ∧ b ≤ 2 := by omega
                refine mv_callPW (st2 := [mv_I 1]) rfl (Or.inr rfl) rfl rfl rfl (sp_min_t ha51) (by first | decide | omega) ?_
                refine mv_goW 1 (pc' := if 1 = 0 then 9 else 12) (ls' := [mv_R 100, mv_I (c : Int), mv_I b, mv_I v, mv_U]) (st' := []) (M1 := M) rfl ?_
                refine mv_ffW (by decide) ?_
                refine mv_goW 2 (pc' := if b = 0 then 16 else 24) (ls' := [mv_R 100, mv_I (c : Int), mv_I b, mv_I v, mv_U]) (st' := []) (M1 := M) rfl ?_
                refine mv_ffW (by omega) ?_
                refine mv_goW 3 (pc' := if b = 1 then 29 else 40) (ls' := [mv_R 100, mv_I (c : Int), mv_I b, mv_I v, mv_U]) (st' := []) (M1 := M) rfl ?_
                refine mv_ffW (by omega) ?_
                refine mv_goW 5 (pc' := if b = 2 then 47 else 52) (ls' := [mv_R 100, mv_I (c : Int), mv_I b, mv_I v, mv_U]) (st' := [mv_I 0, mv_I v]) (M1 := M) rfl ?_
                refine mv_ttW (by omega) ?_
                refine mv_goW 2 (pc' := 55) (ls' := [mv_R 100, mv_I (c : Int), mv_I b, mv_I v, mv_U]) (st' := [mv_I 99, mv_I 0, mv_I v]) (M1 := M) rfl ?_
                have ha52 : ¬ (0 ≤ v ∧ v ≤ 99) := by omega
                refine mv_callPW (st2 := [mv_I 0]) rfl (Or.inr rfl) rfl rfl rfl (sp_min_f ha52) (by first | decide | omega) ?_
                refine mv_goW 1 (pc' := if 0 = 0 then 61 else 64) (ls' := [mv_R 100, mv_I (c : Int), mv_I b, mv_I v, mv_U]) (st' := []) (M1 := M) rfl ?_
                refine mv_ttW (by decide) ?_
                refine mv_goW 1 (pc' := 63) (ls' := [mv_R 100, mv_I (c : Int), mv_I b, mv_I v, mv_U]) (st' := [mv_I (-7)]) (M1 := M) rfl ?_
                exact mv_retW (fun n => rfl) ⟨congrArg mv_I (by first | rfl | omega), hI⟩
  · refine mv_goW 2 (pc' := if b = 0 then 4 else 15) (ls' := [mv_R 0, mv_I a, mv_I b, mv_I v, mv_U, mv_U]) (st' := []) (M1 := M) rfl ?_
    refine mv_spW (fun ha53 => ?_) (fun ha53 => ?_)
    · refine mv_goW 3 (pc' := 9) (ls' := [mv_R 0, mv_I a, mv_I b, mv_I v, mv_U, mv_U]) (st' := [mv_I a, mv_R 30]) (M1 := M) rfl ?_
      have ha54 : ¬ (0 ≤ a ∧ a < V 0 8) := by omega
      refine mv_callPW (st2 := [mv_I 0]) rfl (Or.inl rfl) rfl rfl rfl (sp_cisChild_f_30 hc ho ha54) (by first | decide | omega) ?_
      refine mv_goW 1 (pc' := if 0 = 0 then 31 else 15) (ls' := [mv_R 0, mv_I a, mv_I b, mv_I v, mv_U, mv_U]) (st' := []) (M1 := M) rfl ?_
      refine mv_ttW (by decide) ?_
      refine mv_goW 1 (pc' := 33) (ls' := [mv_R 0, mv_I a, mv_I b, mv_I v, mv_U, mv_U]) (st' := [mv_I (-5)]) (M1 := M) rfl ?_
      refine mv_retW (fun n => rfl) ⟨_, rfl, ?_⟩
      refine mv_goW 3 (pc' := 3) (ls' := [mv_R 100, mv_I a, mv_I b, mv_I v, mv_U]) (st' := [mv_I 2, mv_I 0, mv_I b]) (M1 := M) rfl ?_
      have ha55 : 0 ≤ b ∧ b ≤ 2 := by omega
      refine mv_callPW (st2 := [mv_I 1]) rfl (Or.inr rfl) rfl rfl rfl (sp_min_t ha55) (by first | decide | omega) ?_
      refine mv_goW 1 (pc' := if 1 = 0 then 9 else 12) (ls' := [mv_R 100, mv_I a, mv_I b, mv_I v, mv_U]) (st' := []) (M1 := M) rfl ?_
      refine mv_ffW (by decide) ?_
      refine mv_goW 2 (pc' := if b = 0 then 16 else 24) (ls' := [mv_R 100, mv_I a, mv_I b, mv_I v, mv_U]) (st' := []) (M1 := M) rfl ?_
      refine mv_ttW (by omega) ?_
      refine mv_goW 2 (pc' := 18) (ls' := [mv_R 100, mv_I a, mv_I b, mv_I v, mv_U]) (st' := [mv_I a, mv_R 100]) (M1 := M) rfl ?_
      have ha56 : ¬ (0 ≤ a ∧ a < V 0 8) := by omega
      refine mv_callPW (st2 := [mv_I 0]) rfl (Or.inl rfl) rfl rfl rfl (sp_misChild_f hm ho ha56) (by first | decide | omega) ?_
      refine mv_goW 1 (pc' := if 0 = 0 then 37 else 24) (ls' := [mv_R 100, mv_I a, mv_I b, mv_I v, mv_U]) (st' := []) (M1 := M) rfl ?_
      refine mv_ttW (by decide) ?_
      refine mv_goW 1 (pc' := 39) (ls' := [mv_R 100, mv_I a, mv_I b, mv_I v, mv_U]) (st' := [mv_I (-5)]) (M1 := M) rfl ?_
      exact mv_retW (fun n => rfl) ⟨congrArg mv_I (by first | rfl | omega), hI⟩
    · refine mv_goW 3 (pc' := if b = 1 then 20 else 34) (ls' := [mv_R 0, mv_I a, mv_I b, mv_I v, mv_U, mv_U]) (st' := []) (M1 := M) rfl ?_
      refine mv_spW (fun ha57 => ?_) (fun ha57 => ?_)
      · refine mv_goW 3 (pc' := 25) (ls' := [mv_R 0, mv_I a, mv_I b, mv_I v, mv_U, mv_U]) (st' := [mv_I a, mv_R 30]) (M1 := M) rfl ?_
        have ha58 : ¬ (0 ≤ a ∧ a < V 0 9) := by omega
        refine mv_callPW (st2 := [mv_I 0]) rfl (Or.inl rfl) rfl rfl rfl (sp_cisUncle_f_30 hc ho ha58) (by first | decide | omega) ?_
        refine mv_goW 1 (pc' := if 0 = 0 then 31 else 34) (ls' := [mv_R 0, mv_I a, mv_I b, mv_I v, mv_U, mv_U]) (st' := []) (M1 := M) rfl ?_
        refine mv_ttW (by decide) ?_
        refine mv_goW 1 (pc' := 33) (ls' := [mv_R 0, mv_I a, mv_I b, mv_I v, mv_U, mv_U]) (st' := [mv_I (-5)]) (M1 := M) rfl ?_
        refine mv_retW (fun n => rfl) ⟨_, rfl, ?_⟩
        refine mv_goW 3 (pc' := 3) (ls' := [mv_R 100, mv_I a, mv_I b, mv_I v, mv_U]) (st' := [mv_I 2, mv_I 0, mv_I b]) (M1 := M) rfl ?_
        have ha59 : 0 ≤ b ∧ b ≤ 2 := by omega
        refine mv_callPW (st2 := [mv_I 1]) rfl (Or.inr rfl) rfl rfl rfl (sp_min_t ha59) (by first | decide | omega) ?_
        refine mv_goW 1 (pc' := if 1 = 0 then 9 else 12) (ls' := [mv_R 100, mv_I a, mv_I b, mv_I v, mv_U]) (st' := []) (M1 := M) rfl ?_
        refine mv_ffW (by decide) ?_
        refine mv_goW 2 (pc' := if b = 0 then 16 else 24) (ls' := [mv_R 100, mv_I a, mv_I b, mv_I v, mv_U]) (st' := []) (M1 := M) rfl ?_
        refine mv_ffW (by omega) ?_
        refine mv_goW 3 (pc' := if b = 1 then 29 else 40) (ls' := [mv_R 100, mv_I a, mv_I b, mv_I v, mv_U]) (st' := []) (M1 := M) rfl ?_
        refine mv_ttW (by omega) ?_
        refine mv_goW 2 (pc' := 31) (ls' := [mv_R 100, mv_I a, mv_I b, mv_I v, mv_U]) (st' := [mv_I a, mv_R 100]) (M1 := M) rfl ?_
        have ha60 : ¬ (0 ≤ a ∧ a < V 0 9) := by omega
        refine mv_callPW (st2 := [mv_I 0]) rfl (Or.inl rfl) rfl rfl rfl (sp_misUncle_f hm ho ha60) (by first | decide | omega) ?_
        refine mv_goW 1 (pc' := if 0 = 0 then 37 else 40) (ls' := [mv_R 100, mv_I a, mv_I b, mv_I v, mv_U]) (st' := []) (M1 := M) rfl ?_
        refine mv_ttW (by decide) ?_
        refine mv_goW 1 (pc' := 39) (ls' := [mv_R 100, mv_I a, mv_I b, mv_I v, mv_U]) (st' := [mv_I (-5)]) (M1 := M) rfl ?_
        exact mv_retW (fun n => rfl) ⟨congrArg mv_I (by first | rfl | omega), hI⟩
      · refine mv_goW 2 (pc' := if b < 0 then 64 else 38) (ls' := [mv_R 0, mv_I a, mv_I b, mv_I v, mv_U, mv_U]) (st' := []) (M1 := M) rfl ?_
        refine mv_spW (fun ha61 => ?_) (fun ha61 => ?_)
        · refine mv_goW 1 (pc' := 66) (ls' := [mv_R 0, mv_I a, mv_I b, mv_I v, mv_U, mv_U]) (st' := [mv_I (-7)]) (M1 := M) rfl ?_
          refine mv_retW (fun n => rfl) ⟨_, rfl, ?_⟩
          refine mv_goW 3 (pc' := 3) (ls' := [mv_R 100, mv_I a, mv_I b, mv_I v, mv_U]) (st' := [mv_I 2, mv_I 0, mv_I b]) (M1 := M) rfl ?_
          have ha62 : ¬ (0 ≤ b ∧ b ≤ 2) := by omega
          refine mv_callPW (st2 := [mv_I 0]) rfl (Or.inr rfl) rfl rfl rfl (sp_min_f ha62) (by first | decide | omega) ?_
          refine mv_goW 1 (pc' := if 0 = 0 then 9 else 12) (ls' := [mv_R 100, mv_I a, mv_I b, mv_I v, mv_U]) (st' := []) (M1 := M) rfl ?_
          refine mv_ttW (by decide) ?_
          refine mv_goW 1 (pc' := 11) (ls' := [mv_R 100, mv_I a, mv_I b, mv_I v, mv_U]) (st' := [mv_I (-7)]) (M1 := M) rfl ?_
          exact mv_retW (fun n => rfl) ⟨congrArg mv_I (by first | rfl | omega), hI⟩
        · refine mv_goW 3 (pc' := if 2 < b then 64 else 43) (ls' := [mv_R 0, mv_I a, mv_I b, mv_I v, mv_U, mv_U]) (st' := []) (M1 := M) rfl ?_
          refine mv_spW (fun ha63 => ?_) (fun ha63 => ?_)
          · refine mv_goW 1 (pc' := 66) (ls' := [mv_R 0, mv_I a, mv_I b, mv_I v, mv_U, mv_U]) (st' := [mv_I (-7)]) (M1 := M) rfl ?_
            refine mv_retW (fun n => rfl) ⟨_, rfl, ?_⟩
            refine mv_goW 3 (pc' := 3) (ls' := [mv_R 100, mv_I a, mv_I b, mv_I v, mv_U]) (st' := [mv_I 2, mv_I 0, mv_I b]) (M1 := M) rfl ?_
            have ha64 : ¬ (0 ≤ b ∧ b ≤ 2) := by omega
            refine mv_callPW (st2 := [mv_I 0]) rfl (Or.inr rfl) rfl rfl rfl (sp_min_f ha64) (by first | decide | omega) ?_
            refine mv_goW 1 (pc' := if 0 = 0 then 9 else 12) (ls' := [mv_R 100, mv_I a, mv_I b, mv_I v, mv_U]) (st' := []) (M1 := M) rfl ?_
            refine mv_ttW (by decide) ?_
            refine mv_goW 1 (pc' := 11) (ls' := [mv_R 100, mv_I a, mv_I b, mv_I v, mv_U]) (st' := [mv_I (-7)]) (M1 := M) rfl ?_
            exact mv_retW (fun n => rfl) ⟨congrArg mv_I (by first | rfl | omega), hI⟩
          · refine mv_goW 2 (pc' := if v < 0 then 64 else 47) (ls' := [mv_R 0, mv_I a, mv_I b, mv_I v, mv_U, mv_U]) (st' := []) (M1 := M) rfl ?_
            refine mv_spW (fun ha65 => ?_) (fun ha65 => ?_)
            · refine mv_goW 1 (pc' := 66) (ls' := [mv_R 0, mv_I a, mv_I b, mv_I v, mv_U, mv_U]) (st' := [mv_I (-7)]) (M1 := M) rfl ?_
              refine mv_retW (fun n => rfl) ⟨_, rfl, ?_⟩
              refine mv_goW 3 (pc' := 3) (ls' := [mv_R 100, mv_I a, mv_I b, mv_I v, mv_U]) (st' := [mv_I 2, mv_I 0, mv_I b]) (M1 := M) rfl ?_
              have ha66 : 0 ≤ b ∧ b ≤ 2 := by omega
              refine mv_callPW (st2 := [mv_I 1]) rfl (Or.inr rfl) rfl rfl rfl (sp_min_t ha66) (by first | decide | omega) ?_
              refine mv_goW 1 (pc' := if 1 = 0 then 9 else 12) (ls' := [mv_R 100, mv_I a, mv_I b, mv_I v, mv_U]) (st' := []) (M1 := M) rfl ?_
              refine mv_ffW (by decide) ?_
              refine mv_goW 2 (pc' := if b = 0 then 16 else 24) (ls' := [mv_R 100, mv_I a, mv_I b, mv_I v, mv_U]) (st' := []) (M1 := M) rfl ?_
              refine mv_ffW (by omega) ?_
              refine mv_goW 3 (pc' := if b = 1 then 29 else 40) (ls' := [mv_R 100, mv_I a, mv_I b, mv_I v, mv_U]) (st' := []) (M1 := M) rfl ?_
              refine mv_ffW (by omega) ?_
              refine mv_goW 5 (pc' := if b = 2 then 47 else 52) (ls' := [mv_R 100, mv_I a, mv_I b, mv_I v, mv_U]) (st' := [mv_I 0, mv_I v]) (M1 := M) rfl ?_
              refine mv_ttW (by omega) ?_
              refine mv_goW 2 (pc' := 55) (ls' := [mv_R 100, mv_I a, mv_I b, mv_I v, mv_U]) (st' := [mv_I 99, mv_I 0, mv_I v]) (M1 := M) rfl ?_
              have ha67 : ¬ (0 ≤ v ∧ v ≤ 99) := by omega
              refine mv_callPW (st2 := [mv_I 0]) rfl (Or.inr rfl) rfl rfl rfl (sp_min_f ha67) (by first | decide | omega) ?_
              refine mv_goW 1 (pc' := if 0 = 0 then 61 else 64) (ls' := [mv_R 100, mv_I a, mv_I b, mv_I v, mv_U]) (st' := []) (M1 := M) rfl ?_
              refine mv_ttW (by decide) ?_
              refine mv_goW 1 (pc' := 63) (ls' := [mv_R 100, mv_I a, mv_I b, mv_I v, mv_U]) (st' := [mv_I (-7)]) (M1 := M) rfl ?_
              exact mv_retW (fun n => rfl) ⟨congrArg mv_I (by first | rfl | omega), hI⟩
            · refine mv_goW 4 (pc' := if b = 2 then 53 else 58) (ls' := [mv_R 0, mv_I a, mv_I b, mv_I v, mv_U, mv_U]) (st' := [mv_I v]) (M1 := M) rfl ?_
              refine mv_ttW (by omega) ?_
              refine mv_goW 3 (pc' := if v < 100 then 67 else 64) (ls' := [mv_R 0, mv_I a, mv_I b, mv_I v, mv_U, mv_U]) (st' := []) (M1 := M) rfl ?_
              refine mv_spW (fun ha68 => ?_) (fun ha68 => ?_)
              · refine mv_goW 2 (pc' := 69) (ls' := [mv_R 0, mv_I a, mv_I b, mv_I v, mv_U, mv_U]) (st' := [mv_I 2, mv_I b]) (M1 := M) rfl ?_
                refine mv_goW 1 (pc' := if b = 2 then 72 else 92) (ls' := [mv_R 0, mv_I a, mv_I b, mv_I v, mv_U, mv_U]) (st' := []) (M1 := M) rfl ?_
                refine mv_ttW (by omega) ?_
                refine mv_goW 3 (pc' := 79) (ls' := [mv_R 0, mv_I a, mv_I b, mv_I v, mv_U, mv_U]) (st' := [mv_I (M 30 10)]) (M1 := M) rfl ?_
                have hr5 := sp_ok_s10 ho
                rw [show M 30 10 = V 0 10 from by exact sp_c_s10 hc]
                refine mv_goW 6 (pc' := 91) (ls' := [mv_R 0, mv_I a, mv_I b, mv_I v, mv_I (V 0 10), mv_U]) (st' := [mv_I (V 0 10)]) (M1 := (mv_st M 30 (mv_up (M 30) 10 v))) rfl ?_
                refine mv_retW (fun n => rfl) ⟨_, rfl, ?_⟩
                refine mv_goW 3 (pc' := 3) (ls' := [mv_R 100, mv_I a, mv_I b, mv_I v, mv_U]) (st' := [mv_I 2, mv_I 0, mv_I b]) (M1 := (mv_st M 30 (mv_up (M 30) 10 v))) rfl ?_
                have ha69 : 0 ≤ b ∧ b ≤ 2 := by omega
                refine mv_callPW (st2 := [mv_I 1]) rfl (Or.inr rfl) rfl rfl rfl (sp_min_t ha69) (by first | decide | omega) ?_
                refine mv_goW 1 (pc' := if 1 = 0 then 9 else 12) (ls' := [mv_R 100, mv_I a, mv_I b, mv_I v, mv_U]) (st' := []) (M1 := (mv_st M 30 (mv_up (M 30) 10 v))) rfl ?_
                refine mv_ffW (by decide) ?_
                refine mv_goW 2 (pc' := if b = 0 then 16 else 24) (ls' := [mv_R 100, mv_I a, mv_I b, mv_I v, mv_U]) (st' := []) (M1 := (mv_st M 30 (mv_up (M 30) 10 v))) rfl ?_
                refine mv_ffW (by omega) ?_
                refine mv_goW 3 (pc' := if b = 1 then 29 else 40) (ls' := [mv_R 100, mv_I a, mv_I b, mv_I v, mv_U]) (st' := []) (M1 := (mv_st M 30 (mv_up (M 30) 10 v))) rfl ?_
                refine mv_ffW (by omega) ?_
                refine mv_goW 5 (pc' := if b = 2 then 47 else 52) (ls' := [mv_R 100, mv_I a, mv_I b, mv_I v, mv_U]) (st' := [mv_I 0, mv_I v]) (M1 := (mv_st M 30 (mv_up (M 30) 10 v))) rfl ?_
                refine mv_ttW (by omega) ?_
                refine mv_goW 2 (pc' := 55) (ls' := [mv_R 100, mv_I a, mv_I b, mv_I v, mv_U]) (st' := [mv_I 99, mv_I 0, mv_I v]) (M1 := (mv_st M 30 (mv_up (M 30) 10 v))) rfl ?_
                have ha70 : 0 ≤ v ∧ v ≤ 99 := by omega
                refine mv_callPW (st2 := [mv_I 1]) rfl (Or.inr rfl) rfl rfl rfl (sp_min_t ha70) (by first | decide | omega) ?_
                refine mv_goW 1 (pc' := if 1 = 0 then 61 else 64) (ls' := [mv_R 100, mv_I a, mv_I b, mv_I v, mv_U]) (st' := []) (M1 := (mv_st M 30 (mv_up (M 30) 10 v))) rfl ?_
                refine mv_ffW (by decide) ?_
                refine mv_goW 2 (pc' := if b = 0 then 68 else 76) (ls' := [mv_R 100, mv_I a, mv_I b, mv_I v, mv_U]) (st' := []) (M1 := (mv_st M 30 (mv_up (M 30) 10 v))) rfl ?_
                refine mv_ffW (by omega) ?_
                refine mv_goW 3 (pc' := if b = 1 then 81 else 89) (ls' := [mv_R 100, mv_I a, mv_I b, mv_I v, mv_U]) (st' := []) (M1 := (mv_st M 30 (mv_up (M 30) 10 v))) rfl ?_
                refine mv_ffW (by omega) ?_
                refine mv_goW 2 (pc' := 93) (ls' := [mv_R 100, mv_I a, mv_I b, mv_I v, mv_U]) (st' := [mv_I (M 100 7)]) (M1 := (mv_st M 30 (mv_up (M 30) 10 v))) rfl ?_
                have hr7 := sp_ok_s10 ho
                rw [show M 100 7 = V 0 10 from by exact sp_m_s10 hm]
                refine mv_goW 3 (pc' := mv_swg [(0, 124), (1, 133)] 142 b) (ls' := [mv_R 100, mv_I a, mv_I b, mv_I v, mv_I (V 0 10)]) (st' := []) (M1 := (mv_st M 30 (mv_up (M 30) 10 v))) rfl ?_
                have ha71 : ¬ (b = 0) := by omega
                have ha72 : ¬ (b = 1) := by omega
                refine mv_pcqW (pc2 := 142) (by simp only [mv_swg, if_neg, ha71, ha72, not_false_eq_true]) ?_
                refine mv_goW 4 (pc' := 149) (ls' := [mv_R 100, mv_I a, mv_I b, mv_I v, mv_I (V 0 10)]) (st' := [mv_I (V 0 10)]) (M1 := (mv_st (mv_st M 30 (mv_up (M 30) 10 v)) 100 (mv_up (M 100) 7 v))) rfl ?_
                exact mv_retW (fun n => rfl) ⟨congrArg mv_I (by first | rfl | omega), sp_put_y h (by omega) (by omega)⟩
              · refine mv_goW 1 (pc' := 66) (ls' := [mv_R 0, mv_I a, mv_I b, mv_I v, mv_U, mv_U]) (st' := [mv_I (-7)]) (M1 := M) rfl ?_
                refine mv_retW (fun n => rfl) ⟨_, rfl, ?_⟩
                refine mv_goW 3 (pc' := 3) (ls' := [mv_R 100, mv_I a, mv_I b, mv_I v, mv_U]) (st' := [mv_I 2, mv_I 0, mv_I b]) (M1 := M) rfl ?_
                have ha73 : 0 ≤ b ∧ b ≤ 2 := by omega
                refine mv_callPW (st2 := [mv_I 1]) rfl (Or.inr rfl) rfl rfl rfl (sp_min_t ha73) (by first | decide | omega) ?_
                refine mv_goW 1 (pc' := if 1 = 0 then 9 else 12) (ls' := [mv_R 100, mv_I a, mv_I b, mv_I v, mv_U]) (st' := []) (M1 := M) rfl ?_
                refine mv_ffW (by decide) ?_
                refine mv_goW 2 (pc' := if b = 0 then 16 else 24) (ls' := [mv_R 100, mv_I a, mv_I b, mv_I v, mv_U]) (st' := []) (M1 := M) rfl ?_
                refine mv_ffW (by omega) ?_
                refine mv_goW 3 (pc' := if b = 1 then 29 else 40) (ls' := [mv_R 100, mv_I a, mv_I b, mv_I v, mv_U]) (st' := []) (M1 := M) rfl ?_
                refine mv_ffW (by omega) ?_
                refine mv_goW 5 (pc' := if b = 2 then 47 else 52) (ls' := [mv_R 100, mv_I a, mv_I b, mv_I v, mv_U]) (st' := [mv_I 0, mv_I v]) (M1 := M) rfl ?_
                refine mv_ttW (by omega) ?_
                refine mv_goW 2 (pc' := 55) (ls' := [mv_R 100, mv_I a, mv_I b, mv_I v, mv_U]) (st' := [mv_I 99, mv_I 0, mv_I v]) (M1 := M) rfl ?_
                have ha74 : ¬ (0 ≤ v ∧ v ≤ 99) := by omega
                refine mv_callPW (st2 := [mv_I 0]) rfl (Or.inr rfl) rfl rfl rfl (sp_min_f ha74) (by first | decide | omega) ?_
                refine mv_goW 1 (pc' := if 0 = 0 then 61 else 64) (ls' := [mv_R 100, mv_I a, mv_I b, mv_I v, mv_U]) (st' := []) (M1 := M) rfl ?_
                refine mv_ttW (by decide) ?_
                refine mv_goW 1 (pc' := 63) (ls' := [mv_R 100, mv_I a, mv_I b, mv_I v, mv_U]) (st' := [mv_I (-7)]) (M1 := M) rfl ?_
                exact mv_retW (fun n => rfl) ⟨congrArg mv_I (by first | rfl | omega), hI⟩
/-! appoint -/
theorem sp_appo {V : mv_M} {P : Nat → Nat → List Int} {n : Int} {B : mv_M} {K : Int} {t : Nat} {M : mv_M} {u : Int} {c : Nat} (h : sp_R V P n B K t M) (h0 : -1 ≤ u) (h1 : u < V 0 9) : sp_Inv (mv_st (mv_st M 32 (mv_up (M 32) c u)) 106 (mv_up (M 106) c u)) := by
  have h' := h
  obtain ⟨⟨hc, hm, ho⟩, ⟨hy, hl, hn1, hn⟩, _⟩ := h'
  have e : ∀ {f : Nat → Int} {j : Nat}, f j = V 2 j → mv_up f c u j = mv_up (V 2) c u j := fun hh => sp_up_c hh
  refine ⟨mv_st V 2 (mv_up (V 2) c u), P, n, B, K, t, sp_R_up h ?_ ?_ ?_ hy hl (Int.le_refl _) (fun u _ => ⟨rfl, rfl⟩) ?_ ⟨rfl, rfl, rfl⟩⟩
  · refine sp_c_r hc (by decide) (fun i hi hk => ?_) (fun j hj => e hj) (fun _ j hj => e (sp_c_2 hc j hj))
    rcases hi with q | q | q | q | q | q <;> subst q <;> first | rfl | exact absurd rfl hk
  · exact ⟨hm.1, hm.2.1, fun j hj => e (sp_m_2 hm j hj), hm.2.2.2⟩
  · refine ⟨ho.1, ho.2.1, ho.2.2.1, ho.2.2.2.1, ho.2.2.2.2.1, fun j hj => ?_, ho.2.2.2.2.2.2⟩
    show -1 ≤ mv_up (V 2) c u j ∧ mv_up (V 2) c u j < V 0 9
    have := sp_ok_2 ho j hj
    unfold mv_up
    split <;> omega
  · exact sp_keep_n (S := [32, 106]) (by repeat (first | exact mv_ag.rf | refine mv_ag.st ?_ (by decide))) (by decide)
theorem sp_k11 (a b : Int) : sp_call 72 151 [mv_I a, mv_I b] [mv_I a, mv_I b] := by
  refine sp_mkW (lc := [mv_R 0, mv_I a, mv_I b, mv_U]) (lm := [mv_R 100, mv_I a, mv_I b, mv_U]) rfl rfl (fun M hI => ?_)
  have hI2 := hI
  obtain ⟨V, P, n, B, K, t, h⟩ := hI2
  have h' := h
  obtain ⟨⟨hc, hm, ho⟩, _⟩ := h'
  have h8 := sp_ok_s8 ho
  have h9 := sp_ok_s9 ho
  by_cases h0 : 0 ≤ a
  · obtain ⟨c, rfl⟩ : ∃ c : Nat, a = (c : Int) := ⟨a.toNat, by omega⟩
    by_cases h1 : 0 ≤ b
    · obtain ⟨u, rfl⟩ : ∃ c : Nat, b = (c : Int) := ⟨b.toNat, by omega⟩
      refine mv_goW 3 (pc' := 5) (ls' := [mv_R 0, mv_I (c : Int), mv_I (u : Int), mv_U]) (st' := [mv_I (c : Int), mv_R 30]) (M1 := M) rfl ?_
      by_cases ha75 : 0 ≤ (c : Int) ∧ (c : Int) < V 0 8
      · refine mv_callPW (st2 := [mv_I 1]) rfl (Or.inl rfl) rfl rfl rfl (sp_cisChild_t_30 hc ho ha75) (by first | decide | omega) ?_
        refine mv_goW 1 (pc' := if 1 = 0 then 27 else 11) (ls' := [mv_R 0, mv_I (c : Int), mv_I (u : Int), mv_U]) (st' := []) (M1 := M) rfl ?_
        refine mv_ffW (by decide) ?_
        refine mv_goW 3 (pc' := if (u : Int) = (-1) then 30 else 16) (ls' := [mv_R 0, mv_I (c : Int), mv_I (u : Int), mv_U]) (st' := []) (M1 := M) rfl ?_
        refine mv_ffW (by omega) ?_
        refine mv_goW 3 (pc' := 21) (ls' := [mv_R 0, mv_I (c : Int), mv_I (u : Int), mv_U]) (st' := [mv_I (u : Int), mv_R 30]) (M1 := M) rfl ?_
        by_cases ha76 : 0 ≤ (u : Int) ∧ (u : Int) < V 0 9
        · refine mv_callPW (st2 := [mv_I 1]) rfl (Or.inl rfl) rfl rfl rfl (sp_cisUncle_t_30 hc ho ha76) (by first | decide | omega) ?_
          refine mv_goW 1 (pc' := if 1 = 0 then 27 else 30) (ls' := [mv_R 0, mv_I (c : Int), mv_I (u : Int), mv_U]) (st' := []) (M1 := M) rfl ?_
          refine mv_ffW (by decide) ?_
          refine mv_goW 5 (pc' := if 0 ≤ (c : Int) ∧ (c : Int) < 6 then 39 else mv_bad) (ls' := [mv_R 0, mv_I (c : Int), mv_I (u : Int), mv_U]) (st' := [mv_I (M 32 c)]) (M1 := M) rfl ?_
          refine mv_ttW (by omega) ?_
          have hr9 := sp_ok_2 ho c (by omega)
          rw [show M 32 c = V 2 c from by exact sp_c_2 hc c (by omega)]
          refine mv_goW 4 (pc' := if (u : Int) = (-1) then 72 else 45) (ls' := [mv_R 0, mv_I (c : Int), mv_I (u : Int), mv_I (V 2 c)]) (st' := []) (M1 := M) rfl ?_
          refine mv_ffW (by omega) ?_
          refine mv_goW 3 (pc' := if (u : Int) = (V 2 c) then 72 else 50) (ls' := [mv_R 0, mv_I (c : Int), mv_I (u : Int), mv_I (V 2 c)]) (st' := []) (M1 := M) rfl ?_
          refine mv_spW (fun ha77 => ?_) (fun ha77 => ?_)
          · refine mv_goW 6 (pc' := if 0 ≤ (c : Int) ∧ (c : Int) < 6 then 82 else mv_bad) (ls' := [mv_R 0, mv_I (c : Int), mv_I (u : Int), mv_I (V 2 c)]) (st' := []) (M1 := (mv_st M 32 (mv_up (M 32) c (u : Int)))) rfl ?_
            refine mv_ttW (by omega) ?_
            refine mv_goW 1 (pc' := 83) (ls' := [mv_R 0, mv_I (c : Int), mv_I (u : Int), mv_I (V 2 c)]) (st' := [mv_I (V 2 c)]) (M1 := (mv_st M 32 (mv_up (M 32) c (u : Int)))) rfl ?_
            refine mv_retW (fun n => rfl) ⟨_, rfl, ?_⟩
            refine mv_goW 2 (pc' := 2) (ls' := [mv_R 100, mv_I (c : Int), mv_I (u : Int), mv_U]) (st' := [mv_I (c : Int), mv_R 100]) (M1 := (mv_st M 32 (mv_up (M 32) c (u : Int)))) rfl ?_
            have ha78 : 0 ≤ (c : Int) ∧ (c : Int) < V 0 8 := by omega
            refine mv_callPW (st2 := [mv_I 1]) rfl (Or.inl rfl) rfl rfl rfl (sp_misChild_t hm ho ha78) (by first | decide | omega) ?_
            refine mv_goW 1 (pc' := if 1 = 0 then 21 else 8) (ls' := [mv_R 100, mv_I (c : Int), mv_I (u : Int), mv_U]) (st' := []) (M1 := (mv_st M 32 (mv_up (M 32) c (u : Int)))) rfl ?_
            refine mv_ffW (by decide) ?_
            refine mv_goW 3 (pc' := if (u : Int) = (-1) then 24 else 13) (ls' := [mv_R 100, mv_I (c : Int), mv_I (u : Int), mv_U]) (st' := []) (M1 := (mv_st M 32 (mv_up (M 32) c (u : Int)))) rfl ?_
            refine mv_ffW (by omega) ?_
            refine mv_goW 2 (pc' := 15) (ls' := [mv_R 100, mv_I (c : Int), mv_I (u : Int), mv_U]) (st' := [mv_I (u : Int), mv_R 100]) (M1 := (mv_st M 32 (mv_up (M 32) c (u : Int)))) rfl ?_
            have ha79 : 0 ≤ (u : Int) ∧ (u : Int) < V 0 9 := by omega
            refine mv_callPW (st2 := [mv_I 1]) rfl (Or.inl rfl) rfl rfl rfl (sp_misUncle_t hm ho ha79) (by first | decide | omega) ?_
            refine mv_goW 1 (pc' := if 1 = 0 then 21 else 24) (ls' := [mv_R 100, mv_I (c : Int), mv_I (u : Int), mv_U]) (st' := []) (M1 := (mv_st M 32 (mv_up (M 32) c (u : Int)))) rfl ?_
            refine mv_ffW (by decide) ?_
            refine mv_goW 3 (pc' := if (u : Int) = (-1) then 55 else 29) (ls' := [mv_R 100, mv_I (c : Int), mv_I (u : Int), mv_U]) (st' := []) (M1 := (mv_st M 32 (mv_up (M 32) c (u : Int)))) rfl ?_
            refine mv_ffW (by omega) ?_
            refine mv_goW 4 (pc' := if 0 ≤ (c : Int) ∧ (c : Int) < 6 then 35 else mv_bad) (ls' := [mv_R 100, mv_I (c : Int), mv_I (u : Int), mv_U]) (st' := [mv_I (M 106 c)]) (M1 := (mv_st M 32 (mv_up (M 32) c (u : Int)))) rfl ?_
            refine mv_ttW (by omega) ?_
            have hr11 := sp_ok_2 ho c (by omega)
            rw [show M 106 c = V 2 c from by exact sp_m_2 hm c (by omega)]
            refine mv_goW 2 (pc' := if (V 2 c) = (u : Int) then 55 else 39) (ls' := [mv_R 100, mv_I (c : Int), mv_I (u : Int), mv_U]) (st' := []) (M1 := (mv_st M 32 (mv_up (M 32) c (u : Int)))) rfl ?_
            refine mv_ttW (by omega) ?_
            refine mv_goW 4 (pc' := if 0 ≤ (c : Int) ∧ (c : Int) < 6 then 61 else mv_bad) (ls' := [mv_R 100, mv_I (c : Int), mv_I (u : Int), mv_U]) (st' := [mv_I (M 106 c)]) (M1 := (mv_st M 32 (mv_up (M 32) c (u : Int)))) rfl ?_
            refine mv_ttW (by omega) ?_
            have hr13 := sp_ok_2 ho c (by omega)
            rw [show M 106 c = V 2 c from by exact sp_m_2 hm c (by omega)]
            refine mv_goW 6 (pc' := if 0 ≤ (c : Int) ∧ (c : Int) < 6 then 69 else mv_bad) (ls' := [mv_R 100, mv_I (c : Int), mv_I (u : Int), mv_I (V 2 c)]) (st' := []) (M1 := (mv_st (mv_st M 32 (mv_up (M 32) c (u : Int))) 106 (mv_up (M 106) c (u : Int)))) rfl ?_
            refine mv_ttW (by omega) ?_
            refine mv_goW 1 (pc' := 70) (ls' := [mv_R 100, mv_I (c : Int), mv_I (u : Int), mv_I (V 2 c)]) (st' := [mv_I (V 2 c)]) (M1 := (mv_st (mv_st M 32 (mv_up (M 32) c (u : Int))) 106 (mv_up (M 106) c (u : Int)))) rfl ?_
            exact mv_retW (fun n => rfl) ⟨congrArg mv_I (by first | rfl | omega), sp_appo h (by omega) (by omega)⟩
          · refine mv_goW 3 (pc' := 55) (ls' := [mv_R 0, mv_I (c : Int), mv_I (u : Int), mv_I (V 2 c)]) (st' := [mv_I (u : Int), mv_R 30]) (M1 := M) rfl ?_
            refine mv_callPW (st2 := [mv_I (sp_hired V (u : Int))]) rfl (Or.inl rfl) rfl rfl rfl (sp_hired_30 hc ho) (by first | decide | omega) ?_
            refine mv_goW 3 (pc' := 63) (ls' := [mv_R 0, mv_I (c : Int), mv_I (u : Int), mv_I (V 2 c)]) (st' := [mv_I (u : Int), mv_R 30, mv_I (sp_hired V (u : Int))]) (M1 := M) rfl ?_
            refine mv_callPW (st2 := [mv_I (sp_room V u), mv_I (sp_hired V (u : Int))]) rfl (Or.inl rfl) rfl rfl rfl (sp_croom hc ho (by omega)) (by first | decide | omega) ?_
            refine mv_goW 1 (pc' := if (sp_hired V (u : Int)) < (sp_room V u) then 72 else 69) (ls' := [mv_R 0, mv_I (c : Int), mv_I (u : Int), mv_I (V 2 c)]) (st' := []) (M1 := M) rfl ?_
            refine mv_spW (fun ha80 => ?_) (fun ha80 => ?_)
            · refine mv_goW 6 (pc' := if 0 ≤ (c : Int) ∧ (c : Int) < 6 then 82 else mv_bad) (ls' := [mv_R 0, mv_I (c : Int), mv_I (u : Int), mv_I (V 2 c)]) (st' := []) (M1 := (mv_st M 32 (mv_up (M 32) c (u : Int)))) rfl ?_
              refine mv_ttW (by omega) ?_
              refine mv_goW 1 (pc' := 83) (ls' := [mv_R 0, mv_I (c : Int), mv_I (u : Int), mv_I (V 2 c)]) (st' := [mv_I (V 2 c)]) (M1 := (mv_st M 32 (mv_up (M 32) c (u : Int)))) rfl ?_
              refine mv_retW (fun n => rfl) ⟨_, rfl, ?_⟩
              refine mv_goW 2 (pc' := 2) (ls' := [mv_R 100, mv_I (c : Int), mv_I (u : Int), mv_U]) (st' := [mv_I (c : Int), mv_R 100]) (M1 := (mv_st M 32 (mv_up (M 32) c (u : Int)))) rfl ?_
              have ha81 : 0 ≤ (c : Int) ∧ (c : Int) < V 0 8 := by omega
              refine mv_callPW (st2 := [mv_I 1]) rfl (Or.inl rfl) rfl rfl rfl (sp_misChild_t hm ho ha81) (by first | decide | omega) ?_
              refine mv_goW 1 (pc' := if 1 = 0 then 21 else 8) (ls' := [mv_R 100, mv_I (c : Int), mv_I (u : Int), mv_U]) (st' := []) (M1 := (mv_st M 32 (mv_up (M 32) c (u : Int)))) rfl ?_
              refine mv_ffW (by decide) ?_
              refine mv_goW 3 (pc' := if (u : Int) = (-1) then 24 else 13) (ls' := [mv_R 100, mv_I (c : Int), mv_I (u : Int), mv_U]) (st' := []) (M1 := (mv_st M 32 (mv_up (M 32) c (u : Int)))) rfl ?_
              refine mv_ffW (by omega) ?_
              refine mv_goW 2 (pc' := 15) (ls' := [mv_R 100, mv_I (c : Int), mv_I (u : Int), mv_U]) (st' := [mv_I (u : Int), mv_R 100]) (M1 := (mv_st M 32 (mv_up (M 32) c (u : Int)))) rfl ?_
              have ha82 : 0 ≤ (u : Int) ∧ (u : Int) < V 0 9 := by omega
              refine mv_callPW (st2 := [mv_I 1]) rfl (Or.inl rfl) rfl rfl rfl (sp_misUncle_t hm ho ha82) (by first | decide | omega) ?_
              refine mv_goW 1 (pc' := if 1 = 0 then 21 else 24) (ls' := [mv_R 100, mv_I (c : Int), mv_I (u : Int), mv_U]) (st' := []) (M1 := (mv_st M 32 (mv_up (M 32) c (u : Int)))) rfl ?_
              refine mv_ffW (by decide) ?_
              refine mv_goW 3 (pc' := if (u : Int) = (-1) then 55 else 29) (ls' := [mv_R 100, mv_I (c : Int), mv_I (u : Int), mv_U]) (st' := []) (M1 := (mv_st M 32 (mv_up (M 32) c (u : Int)))) rfl ?_
              refine mv_ffW (by omega) ?_
              refine mv_goW 4 (pc' := if 0 ≤ (c : Int) ∧ (c : Int) < 6 then 35 else mv_bad) (ls' := [mv_R 100, mv_I (c : Int), mv_I (u : Int), mv_U]) (st' := [mv_I (M 106 c)]) (M1 := (mv_st M 32 (mv_up (M 32) c (u : Int)))) rfl ?_
              refine mv_ttW (by omega) ?_
              have hr15 := sp_ok_2 ho c (by omega)
              rw [show M 106 c = V 2 c from by exact sp_m_2 hm c (by omega)]
              refine mv_goW 2 (pc' := if (V 2 c) = (u : Int) then 55 else 39) (ls' := [mv_R 100, mv_I (c : Int), mv_I (u : Int), mv_U]) (st' := []) (M1 := (mv_st M 32 (mv_up (M 32) c (u : Int)))) rfl ?_
              refine mv_ffW (by omega) ?_
              refine mv_goW 2 (pc' := 41) (ls' := [mv_R 100, mv_I (c : Int), mv_I (u : Int), mv_U]) (st' := [mv_I (u : Int), mv_R 100]) (M1 := (mv_st M 32 (mv_up (M 32) c (u : Int)))) rfl ?_
              refine mv_callPW (st2 := [mv_I (sp_hired V (u : Int))]) rfl (Or.inl rfl) rfl rfl rfl (sp_mhired hm ho) (by first | decide | omega) ?_
              refine mv_goW 2 (pc' := 46) (ls' := [mv_R 100, mv_I (c : Int), mv_I (u : Int), mv_U]) (st' := [mv_I (u : Int), mv_R 100, mv_I (sp_hired V (u : Int))]) (M1 := (mv_st M 32 (mv_up (M 32) c (u : Int)))) rfl ?_
              refine mv_callPW (st2 := [mv_I (sp_room V u), mv_I (sp_hired V (u : Int))]) rfl (Or.inl rfl) rfl rfl rfl (sp_mroom hm ho (by omega)) (by first | decide | omega) ?_
              refine mv_goW 1 (pc' := if (sp_hired V (u : Int)) < (sp_room V u) then 55 else 52) (ls' := [mv_R 100, mv_I (c : Int), mv_I (u : Int), mv_U]) (st' := []) (M1 := (mv_st M 32 (mv_up (M 32) c (u : Int)))) rfl ?_
              refine mv_ttW (by omega) ?_
              refine mv_goW 4 (pc' := if 0 ≤ (c : Int) ∧ (c : Int) < 6 then 61 else mv_bad) (ls' := [mv_R 100, mv_I (c : Int), mv_I (u : Int), mv_U]) (st' := [mv_I (M 106 c)]) (M1 := (mv_st M 32 (mv_up (M 32) c (u : Int)))) rfl ?_
              refine mv_ttW (by omega) ?_
              have hr17 := sp_ok_2 ho c (by omega)
              rw [show M 106 c = V 2 c from by exact sp_m_2 hm c (by omega)]
              refine mv_goW 6 (pc' := if 0 ≤ (c : Int) ∧ (c : Int) < 6 then 69 else mv_bad) (ls' := [mv_R 100, mv_I (c : Int), mv_I (u : Int), mv_I (V 2 c)]) (st' := []) (M1 := (mv_st (mv_st M 32 (mv_up (M 32) c (u : Int))) 106 (mv_up (M 106) c (u : Int)))) rfl ?_
              refine mv_ttW (by omega) ?_
              refine mv_goW 1 (pc' := 70) (ls' := [mv_R 100, mv_I (c : Int), mv_I (u : Int), mv_I (V 2 c)]) (st' := [mv_I (V 2 c)]) (M1 := (mv_st (mv_st M 32 (mv_up (M 32) c (u : Int))) 106 (mv_up (M 106) c (u : Int)))) rfl ?_
              exact mv_retW (fun n => rfl) ⟨congrArg mv_I (by first | rfl | omega), sp_appo h (by omega) (by omega)⟩
            · refine mv_goW 1 (pc' := 71) (ls' := [mv_R 0, mv_I (c : Int), mv_I (u : Int), mv_I (V 2 c)]) (st' := [mv_I (-3)]) (M1 := M) rfl ?_
              refine mv_retW (fun n => rfl) ⟨_, rfl, ?_⟩
              refine mv_goW 2 (pc' := 2) (ls' := [mv_R 100, mv_I (c : Int), mv_I (u : Int), mv_U]) (st' := [mv_I (c : Int), mv_R 100]) (M1 := M) rfl ?_
              have ha83 : 0 ≤ (c : Int) ∧ (c : Int) < V 0 8 := by omega
              refine mv_callPW (st2 := [mv_I 1]) rfl (Or.inl rfl) rfl rfl rfl (sp_misChild_t hm ho ha83) (by first | decide | omega) ?_
              refine mv_goW 1 (pc' := if 1 = 0 then 21 else 8) (ls' := [mv_R 100, mv_I (c : Int), mv_I (u : Int), mv_U]) (st' := []) (M1 := M) rfl ?_
              refine mv_ffW (by decide) ?_
              refine mv_goW 3 (pc' := if (u : Int) = (-1) then 24 else 13) (ls' := [mv_R 100, mv_I (c : Int), mv_I (u : Int), mv_U]) (st' := []) (M1 := M) rfl ?_
              refine mv_ffW (by omega) ?_
              refine mv_goW 2 (pc' := 15) (ls' := [mv_R 100, mv_I (c : Int), mv_I (u : Int), mv_U]) (st' := [mv_I (u : Int), mv_R 100]) (M1 := M) rfl ?_
              have ha84 : 0 ≤ (u : Int) ∧ (u : Int) < V 0 9 := by omega
              refine mv_callPW (st2 := [mv_I 1]) rfl (Or.inl rfl) rfl rfl rfl (sp_misUncle_t hm ho ha84) (by first | decide | omega) ?_
              refine mv_goW 1 (pc' := if 1 = 0 then 21 else 24) (ls' := [mv_R 100, mv_I (c : Int), mv_I (u : Int), mv_U]) (st' := []) (M1 := M) rfl ?_
              refine mv_ffW (by decide) ?_
              refine mv_goW 3 (pc' := if (u : Int) = (-1) then 55 else 29) (ls' := [mv_R 100, mv_I (c : Int), mv_I (u : Int), mv_U]) (st' := []) (M1 := M) rfl ?_
              refine mv_ffW (by omega) ?_
              refine mv_goW 4 (pc' := if 0 ≤ (c : Int) ∧ (c : Int) < 6 then 35 else mv_bad) (ls' := [mv_R 100, mv_I (c : Int), mv_I (u : Int), mv_U]) (st' := [mv_I (M 106 c)]) (M1 := M) rfl ?_
              refine mv_ttW (by omega) ?_
              have hr19 := sp_ok_2 ho c (by omega)
              rw [show M 106 c = V 2 c from by exact sp_m_2 hm c (by omega)]
              refine mv_goW 2 (pc' := if (V 2 c) = (u : Int) then 55 else 39) (ls' := [mv_R 100, mv_I (c : Int), mv_I (u : Int), mv_U]) (st' := []) (M1 := M) rfl ?_
              refine mv_ffW (by omega) ?_
              refine mv_goW 2 (pc' := 41) (ls' := [mv_R 100, mv_I (c : Int), mv_I (u : Int), mv_U]) (st' := [mv_I (u : Int), mv_R 100]) (M1 := M) rfl ?_
              refine mv_callPW (st2 := [mv_I (sp_hired V (u : Int))]) rfl (Or.inl rfl) rfl rfl rfl (sp_mhired hm ho) (by first | decide | omega) ?_
              refine mv_goW 2 (pc' := 46) (ls' := [mv_R 100, mv_I (c : Int), mv_I (u : Int), mv_U]) (st' := [mv_I (u : Int), mv_R 100, mv_I (sp_hired V (u : Int))]) (M1 := M) rfl ?_
              refine mv_callPW (st2 := [mv_I (sp_room V u), mv_I (sp_hired V (u : Int))]) rfl (Or.inl rfl) rfl rfl rfl (sp_mroom hm ho (by omega)) (by first | decide | omega) ?_
              refine mv_goW 1 (pc' := if (sp_hired V (u : Int)) < (sp_room V u) then 55 else 52) (ls' := [mv_R 100, mv_I (c : Int), mv_I (u : Int), mv_U]) (st' := []) (M1 := M) rfl ?_
              refine mv_ffW (by omega) ?_
              refine mv_goW 1 (pc' := 54) (ls' := [mv_R 100, mv_I (c : Int), mv_I (u : Int), mv_U]) (st' := [mv_I (-3)]) (M1 := M) rfl ?_
              exact mv_retW (fun n => rfl) ⟨congrArg mv_I (by first | rfl | omega), hI⟩
        · refine mv_callPW (st2 := [mv_I 0]) rfl (Or.inl rfl) rfl rfl rfl (sp_cisUncle_f_30 hc ho ha76) (by first | decide | omega) ?_
          refine mv_goW 1 (pc' := if 0 = 0 then 27 else 30) (ls' := [mv_R 0, mv_I (c : Int), mv_I (u : Int), mv_U]) (st' := []) (M1 := M) rfl ?_
          refine mv_ttW (by decide) ?_
          refine mv_goW 1 (pc' := 29) (ls' := [mv_R 0, mv_I (c : Int), mv_I (u : Int), mv_U]) (st' := [mv_I (-5)]) (M1 := M) rfl ?_
          refine mv_retW (fun n => rfl) ⟨_, rfl, ?_⟩
          refine mv_goW 2 (pc' := 2) (ls' := [mv_R 100, mv_I (c : Int), mv_I (u : Int), mv_U]) (st' := [mv_I (c : Int), mv_R 100]) (M1 := M) rfl ?_
          have ha85 : 0 ≤ (c : Int) ∧ (c : Int) < V 0 8 := by omega
          refine mv_callPW (st2 := [mv_I 1]) rfl (Or.inl rfl) rfl rfl rfl (sp_misChild_t hm ho ha85) (by first | decide | omega) ?_
          refine mv_goW 1 (pc' := if 1 = 0 then 21 else 8) (ls' := [mv_R 100, mv_I (c : Int), mv_I (u : Int), mv_U]) (st' := []) (M1 := M) rfl ?_
          refine mv_ffW (by decide) ?_
          refine mv_goW 3 (pc' := if (u : Int) = (-1) then 24 else 13) (ls' := [mv_R 100, mv_I (c : Int), mv_I (u : Int), mv_U]) (st' := []) (M1 := M) rfl ?_
          refine mv_ffW (by omega) ?_
          refine mv_goW 2 (pc' := 15) (ls' := [mv_R 100, mv_I (c : Int), mv_I (u : Int), mv_U]) (st' := [mv_I (u : Int), mv_R 100]) (M1 := M) rfl ?_
          have ha86 : ¬ (0 ≤ (u : Int) ∧ (u : Int) < V 0 9) := by omega
          refine mv_callPW (st2 := [mv_I 0]) rfl (Or.inl rfl) rfl rfl rfl (sp_misUncle_f hm ho ha86) (by first | decide | omega) ?_
          refine mv_goW 1 (pc' := if 0 = 0 then 21 else 24) (ls' := [mv_R 100, mv_I (c : Int), mv_I (u : Int), mv_U]) (st' := []) (M1 := M) rfl ?_
          refine mv_ttW (by decide) ?_
          refine mv_goW 1 (pc' := 23) (ls' := [mv_R 100, mv_I (c : Int), mv_I (u : Int), mv_U]) (st' := [mv_I (-5)]) (M1 := M) rfl ?_
          exact mv_retW (fun n => rfl) ⟨congrArg mv_I (by first | rfl | omega), hI⟩
      · refine mv_callPW (st2 := [mv_I 0]) rfl (Or.inl rfl) rfl rfl rfl (sp_cisChild_f_30 hc ho ha75) (by first | decide | omega) ?_
        refine mv_goW 1 (pc' := if 0 = 0 then 27 else 11) (ls' := [mv_R 0, mv_I (c : Int), mv_I (u : Int), mv_U]) (st' := []) (M1 := M) rfl ?_
        refine mv_ttW (by decide) ?_
        refine mv_goW 1 (pc' := 29) (ls' := [mv_R 0, mv_I (c : Int), mv_I (u : Int), mv_U]) (st' := [mv_I (-5)]) (M1 := M) rfl ?_
        refine mv_retW (fun n => rfl) ⟨_, rfl, ?_⟩
        refine mv_goW 2 (pc' := 2) (ls' := [mv_R 100, mv_I (c : Int), mv_I (u : Int), mv_U]) (st' := [mv_I (c : Int), mv_R 100]) (M1 := M) rfl ?_
        have ha87 : ¬ (0 ≤ (c : Int) ∧ (c : Int) < V 0 8) := by omega
        refine mv_callPW (st2 := [mv_I 0]) rfl (Or.inl rfl) rfl rfl rfl (sp_misChild_f hm ho ha87) (by first | decide | omega) ?_
        refine mv_goW 1 (pc' := if 0 = 0 then 21 else 8) (ls' := [mv_R 100, mv_I (c : Int), mv_I (u : Int), mv_U]) (st' := []) (M1 := M) rfl ?_
        refine mv_ttW (by decide) ?_
        refine mv_goW 1 (pc' := 23) (ls' := [mv_R 100, mv_I (c : Int), mv_I (u : Int), mv_U]) (st' := [mv_I (-5)]) (M1 := M) rfl ?_
        exact mv_retW (fun n => rfl) ⟨congrArg mv_I (by first | rfl | omega), hI⟩
    · refine mv_goW 3 (pc' := 5) (ls' := [mv_R 0, mv_I (c : Int), mv_I b, mv_U]) (st' := [mv_I (c : Int), mv_R 30]) (M1 := M) rfl ?_
      by_cases ha88 : 0 ≤ (c : Int) ∧ (c : Int) < V 0 8
      · refine mv_callPW (st2 := [mv_I 1]) rfl (Or.inl rfl) rfl rfl rfl (sp_cisChild_t_30 hc ho ha88) (by first | decide | omega) ?_
        refine mv_goW 1 (pc' := if 1 = 0 then 27 else 11) (ls' := [mv_R 0, mv_I (c : Int), mv_I b, mv_U]) (st' := []) (M1 := M) rfl ?_
        refine mv_ffW (by decide) ?_
        refine mv_goW 3 (pc' := if b = (-1) then 30 else 16) (ls' := [mv_R 0, mv_I (c : Int), mv_I b, mv_U]) (st' := []) (M1 := M) rfl ?_
        refine mv_spW (fun ha89 => ?_) (fun ha89 => ?_)
        · refine mv_goW 5 (pc' := if 0 ≤ (c : Int) ∧ (c : Int) < 6 then 39 else mv_bad) (ls' := [mv_R 0, mv_I (c : Int), mv_I b, mv_U]) (st' := [mv_I (M 32 c)]) (M1 := M) rfl ?_
          refine mv_ttW (by omega) ?_
          have hr21 := sp_ok_2 ho c (by omega)
          rw [show M 32 c = V 2 c from by exact sp_c_2 hc c (by omega)]
          refine mv_goW 4 (pc' := if b = (-1) then 72 else 45) (ls' := [mv_R 0, mv_I (c : Int), mv_I b, mv_I (V 2 c)]) (st' := []) (M1 := M) rfl ?_
          refine mv_ttW (by omega) ?_
          refine mv_goW 6 (pc' := if 0 ≤ (c : Int) ∧ (c : Int) < 6 then 82 else mv_bad) (ls' := [mv_R 0, mv_I (c : Int), mv_I b, mv_I (V 2 c)]) (st' := []) (M1 := (mv_st M 32 (mv_up (M 32) c b))) rfl ?_
          refine mv_ttW (by omega) ?_
          refine mv_goW 1 (pc' := 83) (ls' := [mv_R 0, mv_I (c : Int), mv_I b, mv_I (V 2 c)]) (st' := [mv_I (V 2 c)]) (M1 := (mv_st M 32 (mv_up (M 32) c b))) rfl ?_
          refine mv_retW (fun n => rfl) ⟨_, rfl, ?_⟩
          refine mv_goW 2 (pc' := 2) (ls' := [mv_R 100, mv_I (c : Int), mv_I b, mv_U]) (st' := [mv_I (c : Int), mv_R 100]) (M1 := (mv_st M 32 (mv_up (M 32) c b))) rfl ?_
          have ha90 : 0 ≤ (c : Int) ∧ (c : Int) < V 0 8 := by omega
          refine mv_callPW (st2 := [mv_I 1]) rfl (Or.inl rfl) rfl rfl rfl (sp_misChild_t hm ho ha90) (by first | decide | omega) ?_
          refine mv_goW 1 (pc' := if 1 = 0 then 21 else 8) (ls' := [mv_R 100, mv_I (c : Int), mv_I b, mv_U]) (st' := []) (M1 := (mv_st M 32 (mv_up (M 32) c b))) rfl ?_
          refine mv_ffW (by decide) ?_
          refine mv_goW 3 (pc' := if b = (-1) then 24 else 13) (ls' := [mv_R 100, mv_I (c : Int), mv_I b, mv_U]) (st' := []) (M1 := (mv_st M 32 (mv_up (M 32) c b))) rfl ?_
          refine mv_ttW (by omega) ?_
          refine mv_goW 3 (pc' := if b = (-1) then 55 else 29) (ls' := [mv_R 100, mv_I (c : Int), mv_I b, mv_U]) (st' := []) (M1 := (mv_st M 32 (mv_up (M 32) c b))) rfl ?_
          refine mv_ttW (by omega) ?_
          refine mv_goW 4 (pc' := if 0 ≤ (c : Int) ∧ (c : Int) < 6 then 61 else mv_bad) (ls' := [mv_R 100, mv_I (c : Int), mv_I b, mv_U]) (st' := [mv_I (M 106 c)]) (M1 := (mv_st M 32 (mv_up (M 32) c b))) rfl ?_
          refine mv_ttW (by omega) ?_
          have hr23 := sp_ok_2 ho c (by omega)
          rw [show M 106 c = V 2 c from by exact sp_m_2 hm c (by omega)]
          refine mv_goW 6 (pc' := if 0 ≤ (c : Int) ∧ (c : Int) < 6 then 69 else mv_bad) (ls' := [mv_R 100, mv_I (c : Int), mv_I b, mv_I (V 2 c)]) (st' := []) (M1 := (mv_st (mv_st M 32 (mv_up (M 32) c b)) 106 (mv_up (M 106) c b))) rfl ?_
          refine mv_ttW (by omega) ?_
          refine mv_goW 1 (pc' := 70) (ls' := [mv_R 100, mv_I (c : Int), mv_I b, mv_I (V 2 c)]) (st' := [mv_I (V 2 c)]) (M1 := (mv_st (mv_st M 32 (mv_up (M 32) c b)) 106 (mv_up (M 106) c b))) rfl ?_
          exact mv_retW (fun n => rfl) ⟨congrArg mv_I (by first | rfl | omega), sp_appo h (by omega) (by omega)⟩
        · refine mv_goW 3 (pc' := 21) (ls' := [mv_R 0, mv_I (c : Int), mv_I b, mv_U]) (st' := [mv_I b, mv_R 30]) (M1 := M) rfl ?_
          have ha91 : ¬ (0 ≤ b ∧ b < V 0 9) := by omega
          refine mv_callPW (st2 := [mv_I 0]) rfl (Or.inl rfl) rfl rfl rfl (sp_cisUncle_f_30 hc ho ha91) (by first | decide | omega) ?_
          refine mv_goW 1 (pc' := if 0 = 0 then 27 else 30) (ls' := [mv_R 0, mv_I (c : Int), mv_I b, mv_U]) (st' := []) (M1 := M) rfl ?_
          refine mv_ttW (by decide) ?_
          refine mv_goW 1 (pc' := 29) (ls' := [mv_R 0, mv_I (c : Int), mv_I b, mv_U]) (st' := [mv_I (-5)]) (M1 := M) rfl ?_
          refine mv_retW (fun n => rfl) ⟨_, rfl, ?_⟩
          refine mv_goW 2 (pc' := 2) (ls' := [mv_R 100, mv_I (c : Int), mv_I b, mv_U]) (st' := [mv_I (c : Int), mv_R 100]) (M1 := M) rfl ?_
          have ha92 : 0 ≤ (c : Int) ∧ (c : Int) < V 0 8 := by omega
          refine mv_callPW (st2 := [mv_I 1]) rfl (Or.inl rfl) rfl rfl rfl (sp_misChild_t hm ho ha92) (by first | decide | omega) ?_
          refine mv_goW 1 (pc' := if 1 = 0 then 21 else 8) (ls' := [mv_R 100, mv_I (c : Int), mv_I b, mv_U]) (st' := []) (M1 := M) rfl ?_
          refine mv_ffW (by decide) ?_
          refine mv_goW 3 (pc' := if b = (-1) then 24 else 13) (ls' := [mv_R 100, mv_I (c : Int), mv_I b, mv_U]) (st' := []) (M1 := M) rfl ?_
          refine mv_ffW (by omega) ?_
          refine mv_goW 2 (pc' := 15) (ls' := [mv_R 100, mv_I (c : Int), mv_I b, mv_U]) (st' := [mv_I b, mv_R 100]) (M1 := M) rfl ?_
          have ha93 : ¬ (0 ≤ b ∧ b < V 0 9) := by omega
          refine mv_callPW (st2 := [mv_I 0]) rfl (Or.inl rfl) rfl rfl rfl (sp_misUncle_f hm ho ha93) (by first | decide | omega) ?_
          refine mv_goW 1 (pc' := if 0 = 0 then 21 else 24) (ls' := [mv_R 100, mv_I (c : Int), mv_I b, mv_U]) (st' := []) (M1 := M) rfl ?_
          refine mv_ttW (by decide) ?_
          refine mv_goW 1 (pc' := 23) (ls' := [mv_R 100, mv_I (c : Int), mv_I b, mv_U]) (st' := [mv_I (-5)]) (M1 := M) rfl ?_
          exact mv_retW (fun n => rfl) ⟨congrArg mv_I (by first | rfl | omega), hI⟩
      · refine mv_callPW (st2 := [mv_I 0]) rfl (Or.inl rfl) rfl rfl rfl (sp_cisChild_f_30 hc ho ha88) (by first | decide | omega) ?_
        refine mv_goW 1 (pc' := if 0 = 0 then 27 else 11) (ls' := [mv_R 0, mv_I (c : Int), mv_I b, mv_U]) (st' := []) (M1 := M) rfl ?_
        refine mv_ttW (by decide) ?_
        refine mv_goW 1 (pc' := 29) (ls' := [mv_R 0, mv_I (c : Int), mv_I b, mv_U]) (st' := [mv_I (-5)]) (M1 := M) rfl ?_
        refine mv_retW (fun n => rfl) ⟨_, rfl, ?_⟩
        refine mv_goW 2 (pc' := 2) (ls' := [mv_R 100, mv_I (c : Int), mv_I b, mv_U]) (st' := [mv_I (c : Int), mv_R 100]) (M1 := M) rfl ?_
        have ha94 : ¬ (0 ≤ (c : Int) ∧ (c : Int) < V 0 8) := by omega
        refine mv_callPW (st2 := [mv_I 0]) rfl (Or.inl rfl) rfl rfl rfl (sp_misChild_f hm ho ha94) (by first | decide | omega) ?_
        refine mv_goW 1 (pc' := if 0 = 0 then 21 else 8) (ls' := [mv_R 100, mv_I (c : Int), mv_I b, mv_U]) (st' := []) (M1 := M) rfl ?_
        refine mv_ttW (by decide) ?_
        refine mv_goW 1 (pc' := 23) (ls' := [mv_R 100, mv_I (c : Int), mv_I b, mv_U]) (st' := [mv_I (-5)]) (M1 := M) rfl ?_
        exact mv_retW (fun n => rfl) ⟨congrArg mv_I (by first | rfl | omega), hI⟩
  · refine mv_goW 3 (pc' := 5) (ls' := [mv_R 0, mv_I a, mv_I b, mv_U]) (st' := [mv_I a, mv_R 30]) (M1 := M) rfl ?_
    have ha95 : ¬ (0 ≤ a ∧ a < V 0 8) := by omega
    refine mv_callPW (st2 := [mv_I 0]) rfl (Or.inl rfl) rfl rfl rfl (sp_cisChild_f_30 hc ho ha95) (by first | decide | omega) ?_
    refine mv_goW 1 (pc' := if 0 = 0 then 27 else 11) (ls' := [mv_R 0, mv_I a, mv_I b, mv_U]) (st' := []) (M1 := M) rfl ?_
    refine mv_ttW (by decide) ?_
    refine mv_goW 1 (pc' := 29) (ls' := [mv_R 0, mv_I a, mv_I b, mv_U]) (st' := [mv_I (-5)]) (M1 := M) rfl ?_
    refine mv_retW (fun n => rfl) ⟨_, rfl, ?_⟩
    refine mv_goW 2 (pc' := 2) (ls' := [mv_R 100, mv_I a, mv_I b, mv_U]) (st' := [mv_I a, mv_R 100]) (M1 := M) rfl ?_
    have ha96 : ¬ (0 ≤ a ∧ a < V 0 8) := by omega
    refine mv_callPW (st2 := [mv_I 0]) rfl (Or.inl rfl) rfl rfl rfl (sp_misChild_f hm ho ha96) (by first | decide | omega) ?_
    refine mv_goW 1 (pc' := if 0 = 0 then 21 else 8) (ls' := [mv_R 100, mv_I a, mv_I b, mv_U]) (st' := []) (M1 := M) rfl ?_
    refine mv_ttW (by decide) ?_
    refine mv_goW 1 (pc' := 23) (ls' := [mv_R 100, mv_I a, mv_I b, mv_U]) (st' := [mv_I (-5)]) (M1 := M) rfl ?_
    exact mv_retW (fun n => rfl) ⟨congrArg mv_I (by first | rfl | omega), hI⟩
