/-! the year's call -/
def sp_yearv (V : mv_M) (P : Nat → Nat → List Int) : Int := if 99 ≤ V 0 10 then -3 else sp_an (sp_year V P)
theorem sp_k12 : sp_call 73 155 [] [] := by
  refine sp_mk (lc := [mv_R 0]) (lm := [mv_R 100]) rfl rfl (fun M hI => ?_)
  obtain ⟨V, P, n, B, K, t, h⟩ := hI
  have h' := h
  obtain ⟨⟨hc, hm, ho⟩, ⟨hy, hl, hn1, hn⟩, ⟨hct, hmt, hn7, hn12⟩, hi, ht, hs, hw⟩ := h'
  refine ⟨sp_yearv V P, ?_⟩
  by_cases q : 99 ≤ V 0 10
  · have e : sp_yearv V P = -3 := if_pos q
    rw [e]
    refine mv_go' 3 (pc' := 7) (ls' := [mv_R 0]) (st' := [mv_I (M 30 10)]) (M1 := M) rfl ?_
    have hr1 := sp_ok_s10 ho
    rw [show M 30 10 = V 0 10 from by exact sp_c_s10 hc]
    refine mv_go' 2 (pc' := if (V 0 10) < 99 then 15 else 12) (ls' := [mv_R 0]) (st' := []) (M1 := M) rfl ?_
    refine mv_ff' (by omega) ?_
    refine mv_go' 1 (pc' := 14) (ls' := [mv_R 0]) (st' := [mv_I (-3)]) (M1 := M) rfl ?_
    refine mv_ret (fun n => rfl) ?_
    refine mv_go' 2 (pc' := 4) (ls' := [mv_R 100]) (st' := [mv_I (M 100 7)]) (M1 := M) rfl ?_
    have hr3 := sp_ok_s10 ho
    rw [show M 100 7 = V 0 10 from by exact sp_m_s10 hm]
    refine mv_go' 2 (pc' := if (V 0 10) = 99 then 9 else 12) (ls' := [mv_R 100]) (st' := []) (M1 := M) rfl ?_
    refine mv_tt' (by omega) ?_
    refine mv_go' 1 (pc' := 11) (ls' := [mv_R 100]) (st' := [mv_I (-3)]) (M1 := M) rfl ?_
    exact mv_ret (fun n => rfl) (⟨V, P, n, B, K, t, h⟩)
  · have e : sp_yearv V P = sp_an (sp_year V P) := if_neg q
    rw [e]
    have ho2 := sp_ok_year P ho (by omega)
    have hr := sp_yn_r V P (V 0 8).toNat
    have z8 : sp_year V P 0 8 = V 0 8 := rfl
    have z10 : sp_year V P 0 10 = V 0 10 + 1 := rfl
    have z11 : sp_year V P 0 11 = V 0 11 := rfl
    have z9 : sp_year V P 0 9 = V 0 9 := rfl
    have z4 : sp_year V P 4 = V 4 := hr.2.2.1
    have z5 : sp_year V P 5 = V 5 := hr.2.2.2
    refine mv_go' 3 (pc' := 7) (ls' := [mv_R 0]) (st' := [mv_I (M 30 10)]) (M1 := M) rfl ?_
    have hr5 := sp_ok_s10 ho
    rw [show M 30 10 = V 0 10 from by exact sp_c_s10 hc]
    refine mv_go' 2 (pc' := if (V 0 10) < 99 then 15 else 12) (ls' := [mv_R 0]) (st' := []) (M1 := M) rfl ?_
    refine mv_tt' (by omega) ?_
    refine mv_go' 2 (pc' := 19) (ls' := [mv_R 0]) (st' := [mv_R 30]) (M1 := M) rfl ?_
    refine mv_call (st2 := []) rfl (Or.inl rfl) rfl rfl rfl (sp_cpass_30 hc ho hl hn hct) (by first | decide | omega) (fun M1 h1 => ?_)
    refine mv_go' 2 (pc' := 26) (ls' := [mv_R 0]) (st' := [mv_R 30]) (M1 := M1) rfl ?_
    refine mv_callP (st2 := [mv_I (sp_an (sp_year V P))]) rfl (Or.inl rfl) rfl rfl rfl (sp_can30 h1.2 ho2) (by first | decide | omega) ?_
    refine mv_ret (fun n => rfl) ?_
    have hm1 := sp_m_ag2 hm h1.1 (by decide)
    have hmt1 := sp_mts_ag hmt h1.1 (by decide)
    refine mv_go' 2 (pc' := 4) (ls' := [mv_R 100]) (st' := [mv_I (M1 100 7)]) (M1 := M1) rfl ?_
    have hr7 := sp_ok_s10 ho
    rw [show M1 100 7 = V 0 10 from by exact sp_m_s10 hm1]
    refine mv_go' 2 (pc' := if (V 0 10) = 99 then 9 else 12) (ls' := [mv_R 100]) (st' := []) (M1 := M1) rfl ?_
    refine mv_ff' (by omega) ?_
    refine mv_go' 1 (pc' := 13) (ls' := [mv_R 100]) (st' := [mv_R 100]) (M1 := M1) rfl ?_
    refine mv_call (st2 := []) rfl (Or.inl rfl) rfl rfl rfl (sp_mpass hm1 ho hl hmt1) (by first | decide | omega) (fun M2 h2 => ?_)
    refine mv_go' 1 (pc' := 17) (ls' := [mv_R 100]) (st' := [mv_R 100]) (M1 := M2) rfl ?_
    refine mv_callP (st2 := [mv_I (sp_an (sp_year V P))]) rfl (Or.inl rfl) rfl rfl rfl (sp_man h2.2 ho2) (by first | decide | omega) ?_
    have hS : ∀ i, 10 ≤ i → i < 28 → i ∉ [30, 31, 33, 36, 37] := fun i h1 h2 => by simp; omega
    have hS2 : ∀ i, 10 ≤ i → i < 28 → i ∉ [100, 104, 105, 130, 131] := fun i h1 h2 => by simp; omega
    have eu : ∀ j, j ≠ 7 → M2 100 j = M 100 j := fun j hj => by rw [h2.1.2, mv_up_n _ _ hj, h1.1 100 (by decide)]
    have ei : ∀ i, i ∉ [30, 31, 33, 36, 37] → i ∉ [100, 104, 105, 130, 131] → M2 i = M i := fun i a b => by rw [h2.1.1 i b, h1.1 i a]
    refine mv_ret (fun n => rfl) ⟨sp_year V P, P, n, B, K, t, ⟨sp_c_ag h1.2 h2.1.1 (by decide), h2.2, ho2⟩, ⟨by rw [z10]; omega, by rw [z11]; exact hl, hn1, hn⟩, ⟨sp_cts_ag (sp_cts_ag hct h1.1 hn hS) h2.1.1 hn hS2, sp_mts_ag hmt1 h2.1.1 (by decide), by rw [ei 0 (by decide) (by decide)]; exact hn7, by rw [eu 12 (by decide)]; exact hn12⟩, ?_, ?_, ?_, ?_⟩
    · unfold sp_im sp_c sp_mi at hi ⊢
      rw [ei 0 (by decide) (by decide), eu 14 (by decide), ei 40 (by decide) (by decide), ei (40 + 1) (by decide) (by decide), ei (40 + 2) (by decide) (by decide), ei (40 + 3) (by decide) (by decide), ei (40 + 4) (by decide) (by decide), ei (40 + 5) (by decide) (by decide), ei 115 (by decide) (by decide), ei 116 (by decide) (by decide), z4, z5, z9]
      exact hi
    · unfold sp_tp at ht ⊢
      rw [ei 28 (by decide) (by decide), eu 9 (by decide), ei 29 (by decide) (by decide), ei 108 (by decide) (by decide)]
      exact ht
    · intro s hs4
      have h3 := hs s hs4
      have g : ∀ i, 70 ≤ i → i < 80 → M2 i = M i := fun i a b => ei i (by simp; omega) (by simp; omega)
      rw [g (71 + 2 * s) (by omega) (by omega), g (72 + 2 * s) (by omega) (by omega), ei 117 (by decide) (by decide), ei 118 (by decide) (by decide), ei 119 (by decide) (by decide)]
      exact h3
    · rw [ei 125 (by decide) (by decide)]; exact hw
