/-! best: the call -/
theorem sp_rm1 {V : mv_M} {b : Nat} : ∀ u : Nat, u + 1 < b → sp_room V u = if (u : Int) = -1 then 0 else sp_room V u := fun u _ => by rw [if_neg (by omega)]
theorem sp_k14 (w : Int) : sp_call 75 160 [mv_I w] [mv_I w] := by
  refine sp_mkW (lc := [mv_R 0, mv_I w, mv_U, mv_U]) (lm := [mv_R 100, mv_I w]) rfl rfl (fun M hI => ?_)
  have hI2 := hI
  obtain ⟨V, P, n, B, K, t, h⟩ := hI2
  have h' := h
  obtain ⟨⟨hc, hm, ho⟩, ⟨hyy, hl, hn1, hn⟩, ⟨hct, hmt, _⟩, _⟩ := h'
  have h8 := sp_ok_s8 ho
  have h9 := sp_ok_s9 ho
  obtain ⟨b, hb⟩ : ∃ b : Nat, (b : Int) = V 0 9 + 1 := ⟨(V 0 9).toNat + 1, by omega⟩
  obtain ⟨hg1, hg2, hg3⟩ := sp_great (P := P) (w := -1) (rm := sp_room V) ho hb sp_rm1
  obtain ⟨e, he⟩ : ∃ e, e = (sp_gt V P (sp_room V) b (b ^ (V 0 8).toNat)).2.1 := ⟨_, rfl⟩
  obtain ⟨s, hs⟩ : ∃ s, s = (sp_gt V P (sp_room V) b (b ^ (V 0 8).toNat)).2.2 := ⟨_, rfl⟩
  rw [← he, ← hs] at hg1
  rw [← he] at hg2
  rw [← hs] at hg3
  refine mv_goW 1 (pc' := 1) (ls' := [mv_R 0, mv_I w, mv_U, mv_U]) (st' := [mv_I w]) (M1 := M) rfl ?_
  by_cases ha1 : w = 0 ∨ w = 1
  · refine mv_callPW (st2 := [mv_I 1]) rfl (Or.inr rfl) rfl rfl rfl (sp_eith_t ha1) (by first | decide | omega) ?_
    refine mv_goW 1 (pc' := if 1 = 0 then 7 else 10) (ls' := [mv_R 0, mv_I w, mv_U, mv_U]) (st' := []) (M1 := M) rfl ?_
    refine mv_ffW (by first | decide | omega) ?_
    refine mv_goW 4 (pc' := 18) (ls' := [mv_R 0, mv_I w, mv_U, mv_U]) (st' := [mv_R 30, mv_R 60]) (M1 := M) rfl ?_
    refine mv_callW (st2 := []) rfl (Or.inl rfl) rfl rfl rfl (sp_crs hc ho hl hn hct) (by first | decide | omega) (fun Ma2 hm3 => ?_)
    have hx := hm3
    have hm := sp_m_ag2 hm hx.1 (by decide)
    have hmt := sp_mts_ag hmt hx.1 (by decide)
    have hcc := sp_c_ag hc hx.1 (by decide)
    refine mv_goW 3 (pc' := 26) (ls' := [mv_R 0, mv_I w, mv_U, mv_U]) (st' := [mv_I (-1), mv_R 60]) (M1 := Ma2) rfl ?_
    refine mv_callW (st2 := [mv_L (s * 1048576 - e)]) rfl (Or.inl rfl) rfl rfl rfl ((mv_Ru.val (sp_cmo (w := -1) ho hx.2) (congrArg mv_L hg1))) (by first | decide | omega) (fun Ma4 hm5 => ?_)
    have hw := hm5
    have hm := sp_m_ag2 hm hw (by decide)
    have hmt := sp_mts_ag hmt hw (by decide)
    refine mv_goW 3 (pc' := if w = 0 then 34 else 41) (ls' := [mv_R 0, mv_I w, mv_L (s * 1048576 - e), mv_U]) (st' := []) (M1 := Ma4) rfl ?_
    refine mv_spW (fun ha6 => ?_) (fun ha6 => ?_)
    · refine mv_goW 1 (pc' := 35) (ls' := [mv_R 0, mv_I w, mv_L (s * 1048576 - e), mv_U]) (st' := [mv_L (s * 1048576 - e)]) (M1 := Ma4) rfl ?_
      refine mv_callPW (st2 := [mv_I e]) rfl (Or.inr rfl) rfl rfl rfl ((mv_Ru.val (sp_crow (by omega) (by omega)) (congrArg mv_I (by rw [sp_so_e hg2.1 hg2.2]; omega)))) (by first | decide | omega) ?_
      refine mv_goW 1 (pc' := 45) (ls' := [mv_R 0, mv_I w, mv_L (s * 1048576 - e), mv_U]) (st' := [mv_I e]) (M1 := Ma4) rfl ?_
      refine mv_retW (fun n => rfl) ⟨_, rfl, ?_⟩
      refine mv_goW 3 (pc' := 3) (ls' := [mv_R 100, mv_I w]) (st' := [mv_I 1, mv_I 0, mv_I w]) (M1 := Ma4) rfl ?_
      have ha7 : (0 : Int) ≤ w ∧ w ≤ (1 : Int) := by omega
      refine mv_callPW (st2 := [mv_I 1]) rfl (Or.inr rfl) rfl rfl rfl (sp_min_t ha7) (by first | decide | omega) ?_
      refine mv_goW 1 (pc' := if 1 = 0 then 9 else 12) (ls' := [mv_R 100, mv_I w]) (st' := []) (M1 := Ma4) rfl ?_
      refine mv_ffW (by first | decide | omega) ?_
      refine mv_goW 1 (pc' := 13) (ls' := [mv_R 100, mv_I w]) (st' := [mv_R 100]) (M1 := Ma4) rfl ?_
      refine mv_callW (st2 := []) rfl (Or.inl rfl) rfl rfl rfl (sp_mrs hm ho hl hmt) (by first | decide | omega) (fun Ma8 hm9 => ?_)
      have hy := hm9
      have hm := sp_m_ag2 hm hy.1 (by decide)
      have hmt := sp_mts_ag hmt hy.1 (by decide)
      refine mv_goW 1 (pc' := 17) (ls' := [mv_R 100, mv_I w]) (st' := [mv_R 100]) (M1 := Ma8) rfl ?_
      refine mv_callW (st2 := []) rfl (Or.inl rfl) rfl rfl rfl ((sp_mgo2 (d := 0) (rm := sp_room V) (b := b) ho hb ⟨sp_m_s8 hm, sp_m_s9 hm⟩ hy.2.1 hy.2.2)) (by first | decide | omega) (fun Ma10 hm11 => ?_)
      have hz := hm11
      have e36 : Ma10 100 36 = e := hz.2.1.trans he.symm
      have e37 : Ma10 100 37 = s := hz.2.2.trans hs.symm
      refine mv_goW 2 (pc' := if w = 0 then 24 else 31) (ls' := [mv_R 100, mv_I w]) (st' := []) (M1 := Ma10) rfl ?_
      refine mv_ttW (by omega) ?_
      refine mv_goW 2 (pc' := 28) (ls' := [mv_R 100, mv_I w]) (st' := [mv_I (Ma10 100 36)]) (M1 := Ma10) rfl ?_
      rw [show Ma10 100 36 = e from by exact e36]
      refine mv_goW 1 (pc' := 35) (ls' := [mv_R 100, mv_I w]) (st' := [mv_I e]) (M1 := Ma10) rfl ?_
      exact mv_retW (fun n => rfl) ⟨congrArg mv_I (by first | with_reducible rfl | omega), sp_tend h ((hx.1.wd (by decide)).tr ((hw.wd (by decide)).tr ((hy.1.wd (by decide)).tr (hz.1.1.wd (by decide))))) (fun j hj => by rw [hz.1.2 j hj, hy.1 100 (by decide), hw 100 (by decide), hx.1 100 (by decide)])⟩
    · refine mv_goW 1 (pc' := 42) (ls' := [mv_R 0, mv_I w, mv_L (s * 1048576 - e), mv_U]) (st' := [mv_L (s * 1048576 - e)]) (M1 := Ma4) rfl ?_
      refine mv_callPW (st2 := [mv_I s]) rfl (Or.inr rfl) rfl rfl rfl ((mv_Ru.val (sp_csum (by omega) (by omega)) (congrArg mv_I (sp_so_e hg2.1 hg2.2)))) (by first | decide | omega) ?_
      refine mv_retW (fun n => rfl) ⟨_, rfl, ?_⟩
      refine mv_goW 3 (pc' := 3) (ls' := [mv_R 100, mv_I w]) (st' := [mv_I 1, mv_I 0, mv_I w]) (M1 := Ma4) rfl ?_
      have ha12 : (0 : Int) ≤ w ∧ w ≤ (1 : Int) := by omega
      refine mv_callPW (st2 := [mv_I 1]) rfl (Or.inr rfl) rfl rfl rfl (sp_min_t ha12) (by first | decide | omega) ?_
      refine mv_goW 1 (pc' := if 1 = 0 then 9 else 12) (ls' := [mv_R 100, mv_I w]) (st' := []) (M1 := Ma4) rfl ?_
      refine mv_ffW (by first | decide | omega) ?_
      refine mv_goW 1 (pc' := 13) (ls' := [mv_R 100, mv_I w]) (st' := [mv_R 100]) (M1 := Ma4) rfl ?_
      refine mv_callW (st2 := []) rfl (Or.inl rfl) rfl rfl rfl (sp_mrs hm ho hl hmt) (by first | decide | omega) (fun Ma13 hm14 => ?_)
      have hy := hm14
      have hm := sp_m_ag2 hm hy.1 (by decide)
      have hmt := sp_mts_ag hmt hy.1 (by decide)
      refine mv_goW 1 (pc' := 17) (ls' := [mv_R 100, mv_I w]) (st' := [mv_R 100]) (M1 := Ma13) rfl ?_
      refine mv_callW (st2 := []) rfl (Or.inl rfl) rfl rfl rfl ((sp_mgo2 (d := 0) (rm := sp_room V) (b := b) ho hb ⟨sp_m_s8 hm, sp_m_s9 hm⟩ hy.2.1 hy.2.2)) (by first | decide | omega) (fun Ma15 hm16 => ?_)
      have hz := hm16
      have e36 : Ma15 100 36 = e := hz.2.1.trans he.symm
      have e37 : Ma15 100 37 = s := hz.2.2.trans hs.symm
      refine mv_goW 2 (pc' := if w = 0 then 24 else 31) (ls' := [mv_R 100, mv_I w]) (st' := []) (M1 := Ma15) rfl ?_
      refine mv_ffW (by omega) ?_
      refine mv_goW 2 (pc' := 35) (ls' := [mv_R 100, mv_I w]) (st' := [mv_I (Ma15 100 37)]) (M1 := Ma15) rfl ?_
      rw [show Ma15 100 37 = s from by exact e37]
      exact mv_retW (fun n => rfl) ⟨congrArg mv_I (by first | with_reducible rfl | omega), sp_tend h ((hx.1.wd (by decide)).tr ((hw.wd (by decide)).tr ((hy.1.wd (by decide)).tr (hz.1.1.wd (by decide))))) (fun j hj => by rw [hz.1.2 j hj, hy.1 100 (by decide), hw 100 (by decide), hx.1 100 (by decide)])⟩
  · refine mv_callPW (st2 := [mv_I 0]) rfl (Or.inr rfl) rfl rfl rfl (sp_eith_f ha1) (by first | decide | omega) ?_
    refine mv_goW 1 (pc' := if 0 = 0 then 7 else 10) (ls' := [mv_R 0, mv_I w, mv_U, mv_U]) (st' := []) (M1 := M) rfl ?_
    refine mv_ttW (by first | decide | omega) ?_
    refine mv_goW 1 (pc' := 9) (ls' := [mv_R 0, mv_I w, mv_U, mv_U]) (st' := [mv_I (-2)]) (M1 := M) rfl ?_
    refine mv_retW (fun n => rfl) ⟨_, rfl, ?_⟩
    refine mv_goW 3 (pc' := 3) (ls' := [mv_R 100, mv_I w]) (st' := [mv_I 1, mv_I 0, mv_I w]) (M1 := M) rfl ?_
    have ha17 : ¬ ((0 : Int) ≤ w ∧ w ≤ (1 : Int)) := by omega
    refine mv_callPW (st2 := [mv_I 0]) rfl (Or.inr rfl) rfl rfl rfl (sp_min_f ha17) (by first | decide | omega) ?_
    refine mv_goW 1 (pc' := if 0 = 0 then 9 else 12) (ls' := [mv_R 100, mv_I w]) (st' := []) (M1 := M) rfl ?_
    refine mv_ttW (by first | decide | omega) ?_
    refine mv_goW 1 (pc' := 11) (ls' := [mv_R 100, mv_I w]) (st' := [mv_I (-2)]) (M1 := M) rfl ?_
    exact mv_retW (fun n => rfl) ⟨congrArg mv_I (by first | with_reducible rfl | omega), hI⟩
