/-! spare: the call -/
theorem sp_k19 (w : Int) : sp_call 80 170 [mv_I w] [mv_I w] := by
  refine sp_mkW (lc := [mv_R 0, mv_I w, mv_U, mv_U, mv_U, mv_U]) (lm := [mv_R 100, mv_I w, mv_U, mv_U, mv_U, mv_U, mv_U]) rfl rfl (fun M hI => ?_)
  have hI2 := hI
  obtain ⟨V, P, n, B, K, t, h⟩ := hI2
  have h' := h
  obtain ⟨⟨hc, hm, ho⟩, ⟨hyy, hl, hn1, hn⟩, ⟨hct, hmt, _⟩, _⟩ := h'
  have h8 := sp_ok_s8 ho
  have h9 := sp_ok_s9 ho
  obtain ⟨b, hb⟩ : ∃ b : Nat, (b : Int) = V 0 9 + 1 := ⟨(V 0 9).toNat + 1, by omega⟩
  obtain ⟨hg1, hg2, hg3⟩ := sp_great (P := P) (w := -1) (rm := sp_room V) ho hb sp_rm1
  have hgs : ∀ u : Nat, (u : Int) < V 0 9 → sp_mo V P (u : Int) (V 0 9).toNat (2 ^ (V 0 8).toNat - 1) = sp_swo V P b u * 1048576 - (fun u => (sp_gt V P (sp_rmw V u) b (b ^ (V 0 8).toNat)).2.1) u ∧ (0 ≤ (fun u => (sp_gt V P (sp_rmw V u) b (b ^ (V 0 8).toNat)).2.1) u ∧ (fun u => (sp_gt V P (sp_rmw V u) b (b ^ (V 0 8).toNat)).2.1) u ≤ 666666) ∧ -7200 ≤ sp_swo V P b u ∧ sp_swo V P b u ≤ 7200 := fun u hu => sp_great (P := P) (w := (u : Int)) (rm := sp_rmw V u) ho hb (fun v _ => rfl)
  obtain ⟨s0, hs0⟩ : ∃ s, s = (sp_gt V P (sp_room V) b (b ^ (V 0 8).toNat)).2.2 := ⟨_, rfl⟩
  rw [← hs0] at hg1
  have h00 : V 0 9 = 0 → s0 = (sp_spl (sp_swo V P b) 0).2 := fun q => by
    rw [q] at hg1
    have hg4 : (0 : Int) = s0 * 1048576 - (sp_gt V P (sp_room V) b (b ^ (V 0 8).toNat)).2.1 := hg1
    show s0 = 0
    omega
  obtain ⟨p1, hp1⟩ : ∃ p, p = (sp_spl (sp_swo V P b) (V 0 9).toNat).1 := ⟨_, rfl⟩
  obtain ⟨p2, hp2⟩ : ∃ p, p = (sp_spl (sp_swo V P b) (V 0 9).toNat).2 := ⟨_, rfl⟩
  refine mv_goW 1 (pc' := 1) (ls' := [mv_R 0, mv_I w, mv_U, mv_U, mv_U, mv_U]) (st' := [mv_I w]) (M1 := M) rfl ?_
  by_cases ha1 : w = 0 ∨ w = 1
  · refine mv_callPW (st2 := [mv_I 1]) rfl (Or.inr rfl) rfl rfl rfl (sp_eith_t ha1) (by first | decide | omega) ?_
    refine mv_goW 1 (pc' := if 1 = 0 then 7 else 10) (ls' := [mv_R 0, mv_I w, mv_U, mv_U, mv_U, mv_U]) (st' := []) (M1 := M) rfl ?_
    refine mv_ffW (by first | decide | omega) ?_
    refine mv_goW 4 (pc' := 18) (ls' := [mv_R 0, mv_I w, mv_U, mv_U, mv_U, mv_U]) (st' := [mv_R 30, mv_R 60]) (M1 := M) rfl ?_
    refine mv_callW (st2 := []) rfl (Or.inl rfl) rfl rfl rfl (sp_crs hc ho hl hn hct) (by first | decide | omega) (fun Ma2 hm3 => ?_)
    have hx := hm3
    have hm := sp_m_ag2 hm hx.1 (by decide)
    have hmt := sp_mts_ag hmt hx.1 (by decide)
    have hcc := sp_c_ag hc hx.1 (by decide)
    refine mv_goW 6 (pc' := 28) (ls' := [mv_R 0, mv_I w, mv_I (-1), mv_I 0, mv_I 0, mv_U]) (st' := []) (M1 := Ma2) rfl ?_
    refine sp_cspl (d := 16) (M0 := Ma2) hcc ho hx.2 hgs (V 0 9).toNat 0 Ma2 mv_U (by omega) mv_ag.rf rfl (fun M2 l5 hw => ?_)
    have hm := sp_m_ag2 hm hw (by decide)
    have hmt := sp_mts_ag hmt hw (by decide)
    rw [← hp1, ← hp2]
    refine mv_goW 2 (pc' := if w = 0 then 81 else 85) (ls' := [mv_R 0, mv_I w, mv_I p1, mv_I p2, mv_I (V 0 9), l5]) (st' := []) (M1 := M2) rfl ?_
    refine mv_spW (fun ha4 => ?_) (fun ha4 => ?_)
    · refine mv_goW 2 (pc' := 86) (ls' := [mv_R 0, mv_I w, mv_I p1, mv_I p2, mv_I (V 0 9), l5]) (st' := [mv_I p1]) (M1 := M2) rfl ?_
      refine mv_retW (fun n => rfl) ⟨_, rfl, ?_⟩
      refine mv_goW 3 (pc' := 3) (ls' := [mv_R 100, mv_I w, mv_U, mv_U, mv_U, mv_U, mv_U]) (st' := [mv_I 1, mv_I 0, mv_I w]) (M1 := M2) rfl ?_
      have ha5 : (0 : Int) ≤ w ∧ w ≤ (1 : Int) := by omega
      refine mv_callPW (st2 := [mv_I 1]) rfl (Or.inr rfl) rfl rfl rfl (sp_min_t ha5) (by first | decide | omega) ?_
      refine mv_goW 1 (pc' := if 1 = 0 then 9 else 12) (ls' := [mv_R 100, mv_I w, mv_U, mv_U, mv_U, mv_U, mv_U]) (st' := []) (M1 := M2) rfl ?_
      refine mv_ffW (by first | decide | omega) ?_
      refine mv_goW 1 (pc' := 13) (ls' := [mv_R 100, mv_I w, mv_U, mv_U, mv_U, mv_U, mv_U]) (st' := [mv_R 100]) (M1 := M2) rfl ?_
      refine mv_callW (st2 := []) rfl (Or.inl rfl) rfl rfl rfl (sp_mrs hm ho hl hmt) (by first | decide | omega) (fun Ma6 hm7 => ?_)
      have hy := hm7
      have hm := sp_m_ag2 hm hy.1 (by decide)
      have hmt := sp_mts_ag hmt hy.1 (by decide)
      refine mv_goW 1 (pc' := 17) (ls' := [mv_R 100, mv_I w, mv_U, mv_U, mv_U, mv_U, mv_U]) (st' := [mv_R 100]) (M1 := Ma6) rfl ?_
      refine mv_callW (st2 := []) rfl (Or.inl rfl) rfl rfl rfl ((sp_mgo2 (d := 0) (rm := sp_room V) (b := b) ho hb ⟨sp_m_s8 hm, sp_m_s9 hm⟩ hy.2.1 hy.2.2)) (by first | decide | omega) (fun Ma8 hm9 => ?_)
      have hz := hm9
      have e37 : Ma8 100 37 = s0 := hz.2.2.trans hs0.symm
      refine mv_goW 4 (pc' := 26) (ls' := [mv_R 100, mv_I w, mv_I (-1), mv_U, mv_U, mv_U, mv_U]) (st' := [mv_I (Ma8 100 37)]) (M1 := Ma8) rfl ?_
      rw [show Ma8 100 37 = s0 from by exact e37]
      refine mv_goW 3 (pc' := 30) (ls' := [mv_R 100, mv_I w, mv_I (-1), mv_I s0, mv_I 0, mv_U, mv_U]) (st' := []) (M1 := Ma8) rfl ?_
      refine sp_mspl (d := 18) (M0 := Ma8) (b := b) ho hb ⟨(hz.1.2 0 (by decide)).trans (sp_m_s8 hm), (hz.1.2 1 (by decide)).trans (sp_m_s9 hm)⟩ (fun u hu => by rw [hz.1.1 134 (by decide)]; exact hy.2.1 u hu) (fun c u hc hu => by rw [hz.1.1 133 (by decide)]; exact hy.2.2 c u hc hu) (fun u hu => (hgs u hu).2.2) (V 0 9).toNat 0 Ma8 s0 mv_U mv_U (by omega) mv_ag.rf (fun _ _ => rfl) (by
        rcases (by omega : V 0 9 = 0 ∨ 0 < V 0 9) with q | q
        · exact Or.inr (h00 q)
        · exact Or.inl ⟨rfl, q⟩) rfl rfl (fun M3 l5 l6 q1 q2 => ?_)
      rw [← hp1, ← hp2]
      refine mv_goW 2 (pc' := if w = 0 then 125 else 129) (ls' := [mv_R 100, mv_I w, mv_I p1, mv_I p2, mv_I (V 0 9), l5, l6]) (st' := []) (M1 := M3) rfl ?_
      refine mv_ttW (by omega) ?_
      refine mv_goW 2 (pc' := 130) (ls' := [mv_R 100, mv_I w, mv_I p1, mv_I p2, mv_I (V 0 9), l5, l6]) (st' := [mv_I p1]) (M1 := M3) rfl ?_
      exact mv_retW (fun n => rfl) ⟨congrArg mv_I (by first | with_reducible rfl | omega), sp_tend h ((hx.1.wd (by decide)).tr ((hw.wd (by decide)).tr ((hy.1.wd (by decide)).tr ((hz.1.1.wd (by decide)).tr (q1.wd (by decide)))))) (fun j hj => by rw [q2 j hj, hz.1.2 j hj, hy.1 100 (by decide), hw 100 (by decide), hx.1 100 (by decide)])⟩
    · refine mv_goW 1 (pc' := 86) (ls' := [mv_R 0, mv_I w, mv_I p1, mv_I p2, mv_I (V 0 9), l5]) (st' := [mv_I p2]) (M1 := M2) rfl ?_
      refine mv_retW (fun n => rfl) ⟨_, rfl, ?_⟩
      refine mv_goW 3 (pc' := 3) (ls' := [mv_R 100, mv_I w, mv_U, mv_U, mv_U, mv_U, mv_U]) (st' := [mv_I 1, mv_I 0, mv_I w]) (M1 := M2) rfl ?_
      have ha10 : (0 : Int) ≤ w ∧ w ≤ (1 : Int) := by omega
      refine mv_callPW (st2 := [mv_I 1]) rfl (Or.inr rfl) rfl rfl rfl (sp_min_t ha10) (by first | decide | omega) ?_
      refine mv_goW 1 (pc' := if 1 = 0 then 9 else 12) (ls' := [mv_R 100, mv_I w, mv_U, mv_U, mv_U, mv_U, mv_U]) (st' := []) (M1 := M2) rfl ?_
      refine mv_ffW (by first | decide | omega) ?_
      refine mv_goW 1 (pc' := 13) (ls' := [mv_R 100, mv_I w, mv_U, mv_U, mv_U, mv_U, mv_U]) (st' := [mv_R 100]) (M1 := M2) rfl ?_
      refine mv_callW (st2 := []) rfl (Or.inl rfl) rfl rfl rfl (sp_mrs hm ho hl hmt) (by first | decide | omega) (fun Ma11 hm12 => ?_)
      have hy := hm12
      have hm := sp_m_ag2 hm hy.1 (by decide)
      have hmt := sp_mts_ag hmt hy.1 (by decide)
      refine mv_goW 1 (pc' := 17) (ls' := [mv_R 100, mv_I w, mv_U, mv_U, mv_U, mv_U, mv_U]) (st' := [mv_R 100]) (M1 := Ma11) rfl ?_
      refine mv_callW (st2 := []) rfl (Or.inl rfl) rfl rfl rfl ((sp_mgo2 (d := 0) (rm := sp_room V) (b := b) ho hb ⟨sp_m_s8 hm, sp_m_s9 hm⟩ hy.2.1 hy.2.2)) (by first | decide | omega) (fun Ma13 hm14 => ?_)
      have hz := hm14
      have e37 : Ma13 100 37 = s0 := hz.2.2.trans hs0.symm
      refine mv_goW 4 (pc' := 26) (ls' := [mv_R 100, mv_I w, mv_I (-1), mv_U, mv_U, mv_U, mv_U]) (st' := [mv_I (Ma13 100 37)]) (M1 := Ma13) rfl ?_
      rw [show Ma13 100 37 = s0 from by exact e37]
      refine mv_goW 3 (pc' := 30) (ls' := [mv_R 100, mv_I w, mv_I (-1), mv_I s0, mv_I 0, mv_U, mv_U]) (st' := []) (M1 := Ma13) rfl ?_
      refine sp_mspl (d := 18) (M0 := Ma13) (b := b) ho hb ⟨(hz.1.2 0 (by decide)).trans (sp_m_s8 hm), (hz.1.2 1 (by decide)).trans (sp_m_s9 hm)⟩ (fun u hu => by rw [hz.1.1 134 (by decide)]; exact hy.2.1 u hu) (fun c u hc hu => by rw [hz.1.1 133 (by decide)]; exact hy.2.2 c u hc hu) (fun u hu => (hgs u hu).2.2) (V 0 9).toNat 0 Ma13 s0 mv_U mv_U (by omega) mv_ag.rf (fun _ _ => rfl) (by
        rcases (by omega : V 0 9 = 0 ∨ 0 < V 0 9) with q | q
        · exact Or.inr (h00 q)
        · exact Or.inl ⟨rfl, q⟩) rfl rfl (fun M3 l5 l6 q1 q2 => ?_)
      rw [← hp1, ← hp2]
      refine mv_goW 2 (pc' := if w = 0 then 125 else 129) (ls' := [mv_R 100, mv_I w, mv_I p1, mv_I p2, mv_I (V 0 9), l5, l6]) (st' := []) (M1 := M3) rfl ?_
      refine mv_ffW (by omega) ?_
      refine mv_goW 1 (pc' := 130) (ls' := [mv_R 100, mv_I w, mv_I p1, mv_I p2, mv_I (V 0 9), l5, l6]) (st' := [mv_I p2]) (M1 := M3) rfl ?_
      exact mv_retW (fun n => rfl) ⟨congrArg mv_I (by first | with_reducible rfl | omega), sp_tend h ((hx.1.wd (by decide)).tr ((hw.wd (by decide)).tr ((hy.1.wd (by decide)).tr ((hz.1.1.wd (by decide)).tr (q1.wd (by decide)))))) (fun j hj => by rw [q2 j hj, hz.1.2 j hj, hy.1 100 (by decide), hw 100 (by decide), hx.1 100 (by decide)])⟩
  · refine mv_callPW (st2 := [mv_I 0]) rfl (Or.inr rfl) rfl rfl rfl (sp_eith_f ha1) (by first | decide | omega) ?_
    refine mv_goW 1 (pc' := if 0 = 0 then 7 else 10) (ls' := [mv_R 0, mv_I w, mv_U, mv_U, mv_U, mv_U]) (st' := []) (M1 := M) rfl ?_
    refine mv_ttW (by first | decide | omega) ?_
    refine mv_goW 1 (pc' := 9) (ls' := [mv_R 0, mv_I w, mv_U, mv_U, mv_U, mv_U]) (st' := [mv_I (-2)]) (M1 := M) rfl ?_
    refine mv_retW (fun n => rfl) ⟨_, rfl, ?_⟩
    refine mv_goW 3 (pc' := 3) (ls' := [mv_R 100, mv_I w, mv_U, mv_U, mv_U, mv_U, mv_U]) (st' := [mv_I 1, mv_I 0, mv_I w]) (M1 := M) rfl ?_
    have ha15 : ¬ ((0 : Int) ≤ w ∧ w ≤ (1 : Int)) := by omega
    refine mv_callPW (st2 := [mv_I 0]) rfl (Or.inr rfl) rfl rfl rfl (sp_min_f ha15) (by first | decide | omega) ?_
    refine mv_goW 1 (pc' := if 0 = 0 then 9 else 12) (ls' := [mv_R 100, mv_I w, mv_U, mv_U, mv_U, mv_U, mv_U]) (st' := []) (M1 := M) rfl ?_
    refine mv_ttW (by first | decide | omega) ?_
    refine mv_goW 1 (pc' := 11) (ls' := [mv_R 100, mv_I w, mv_U, mv_U, mv_U, mv_U, mv_U]) (st' := [mv_I (-2)]) (M1 := M) rfl ?_
    exact mv_retW (fun n => rfl) ⟨congrArg mv_I (by first | with_reducible rfl | omega), hI⟩
