/-! a year passes, the class -/
theorem sp_c_sty {w : Nat} {M V : mv_M} {z : Int} (h : sp_c w M V) : sp_c w (mv_st M w (mv_up (M w) 10 z)) (mv_st V 0 (mv_up (V 0) 10 z)) := by
  unfold sp_c
  rw [mv_st_n _ _ (show w + 1 ≠ w by omega), mv_st_n _ _ (show w + 2 ≠ w by omega), mv_st_n _ _ (show w + 3 ≠ w by omega), mv_st_n _ _ (show w + 4 ≠ w by omega), mv_st_n _ _ (show w + 5 ≠ w by omega), mv_st_s]
  exact ⟨⟨h.1.1, h.1.2.1, rfl, h.1.2.2.2⟩, h.2⟩
theorem sp_cpass_lp_30 {V : mv_M} {P : Nat → Nat → List Int} {n : Int} (ho : sp_ok V) (hl : V 0 11 < n) (hn : n ≤ 6) : ∀ (k c : Nat) (M : mv_M) (l2 : mv_V), sp_c 30 M (sp_yn V P c) → sp_cts M P n → (c : Int) + k = V 0 8 →
    mv_Ru 5 58 2 [mv_R 30, mv_I (c : Int), l2] [] M mv_U (fun M1 => mv_ag [30, 31, 33, 36, 37] M M1 ∧ sp_c 30 M1 (sp_year V P)) := by
  have hS : ∀ i, 10 ≤ i → i < 28 → i ∉ [30, 31, 33, 36, 37] := fun i h1 h2 => by simp; omega
  have hr8 := sp_ok_s8 ho
  have hr9 := sp_ok_s9 ho
  have hr10 := sp_ok_s10 ho
  intro k
  induction k with
  | zero =>
    intro c M l2 hV hP hc
    obtain ⟨Vc, hVc⟩ : ∃ Vc, Vc = sp_yn V P c := ⟨_, rfl⟩
    have hok := sp_ok_yn P ho c (by omega)
    have hr := sp_yn_r V P c
    rw [← hVc] at hV hok hr
    have h0 : Vc 0 8 = V 0 8 := by rw [hr.1]
    refine mv_go' 3 (pc' := 7) (ls' := [mv_R 30, mv_I (c : Int), l2]) (st' := [mv_I (M 30 8), mv_I (c : Int)]) (M1 := M) rfl ?_
    have hr1 := sp_ok_s8 hok
    rw [show M 30 8 = Vc 0 8 from by exact sp_c_s8 hV]
    refine mv_go' 1 (pc' := if (c : Int) < (Vc 0 8) then 10 else 50) (ls' := [mv_R 30, mv_I (c : Int), l2]) (st' := []) (M1 := M) rfl ?_
    refine mv_ff' (by omega) ?_
    refine mv_go' 3 (pc' := 55) (ls' := [mv_R 30, mv_I (c : Int), l2]) (st' := [mv_I (M 30 10), mv_R 30]) (M1 := M) rfl ?_
    have hr3 := sp_ok_s10 hok
    rw [show M 30 10 = Vc 0 10 from by exact sp_c_s10 hV]
    refine mv_go' 3 (pc' := 60) (ls' := [mv_R 30, mv_I (c : Int), l2]) (st' := []) (M1 := (mv_st M 30 (mv_up (M 30) 10 (mv_w ((Vc 0 10) + 1))))) rfl ?_
    rw [show mv_w ((Vc 0 10) + 1) = (Vc 0 10) + 1 from mv_w_id (by omega) (by omega)]
    exact mv_ret (fun n => rfl) (⟨mv_ag.st mv_ag.rf (by decide), by unfold sp_year; rw [show (V 0 8).toNat = c from by omega, ← hVc, ← hr.1]; exact sp_c_sty hV⟩)
  | succ k ih =>
    intro c M l2 hV hP hc
    have hok := sp_ok_yn P ho c (by omega)
    have hr := sp_yn_r V P c
    have hsu : sp_yn V P (c + 1) = sp_y1 (sp_yn V P c) P c := rfl
    generalize sp_yn V P c = Vc at hV hok hr hsu
    have h0 : Vc 0 8 = V 0 8 := by rw [hr.1]
    have h9 : Vc 0 9 = V 0 9 := by rw [hr.1]
    have hlc : Vc 0 11 < n := by rw [hr.1]; exact hl
    have h2 := sp_ok_2 hok c (by omega)
    refine mv_go' 3 (pc' := 7) (ls' := [mv_R 30, mv_I (c : Int), l2]) (st' := [mv_I (M 30 8), mv_I (c : Int)]) (M1 := M) rfl ?_
    have hr5 := sp_ok_s8 hok
    rw [show M 30 8 = Vc 0 8 from by exact sp_c_s8 hV]
    refine mv_go' 1 (pc' := if (c : Int) < (Vc 0 8) then 10 else 50) (ls' := [mv_R 30, mv_I (c : Int), l2]) (st' := []) (M1 := M) rfl ?_
    refine mv_tt' (by omega) ?_
    by_cases h : Vc 2 c = -1
    · refine mv_go' 4 (pc' := if 0 ≤ (c : Int) ∧ (c : Int) < 6 then 16 else mv_bad) (ls' := [mv_R 30, mv_I (c : Int), l2]) (st' := [mv_I (M 32 c)]) (M1 := M) rfl ?_
      refine mv_tt' (by omega) ?_
      have hr7 := sp_ok_2 hok c (by omega)
      rw [show M 32 c = Vc 2 c from by exact sp_c_2 hV c (by omega)]
      refine mv_go' 3 (pc' := 19) (ls' := [mv_R 30, mv_I (c : Int), mv_I (Vc 2 c)]) (st' := [mv_I (Vc 2 c), mv_R 30]) (M1 := M) rfl ?_
      refine mv_callP (st2 := [mv_I 0]) rfl (Or.inl rfl) rfl rfl rfl (sp_cisUncle_f_30 hV hok (by omega)) (by first | decide | omega) ?_
      refine mv_go' 1 (pc' := if 0 = 0 then 44 else 25) (ls' := [mv_R 30, mv_I (c : Int), mv_I (Vc 2 c)]) (st' := []) (M1 := M) rfl ?_
      refine mv_tt' (rfl) ?_
      refine mv_go' 2 (pc' := 2) (ls' := [mv_R 30, mv_I (mv_w ((c : Int) + 1)), mv_I (Vc 2 c)]) (st' := []) (M1 := M) rfl ?_
      rw [show mv_w ((c : Int) + 1) = ((c + 1 : Nat) : Int) from by (rw [show mv_w ((c : Int) + 1) = (c : Int) + 1 from mv_w_id (by omega) (by omega)]) <;> omega]
      exact (ih (c + 1) M (mv_I (Vc 2 c)) (by rw [hsu]; unfold sp_y1; rw [if_pos h]; exact hV) hP (by omega))
    · obtain ⟨u, hu⟩ : ∃ u : Nat, Vc 2 c = (u : Int) := ⟨(Vc 2 c).toNat, by omega⟩
      have hu9 : (u : Int) < Vc 0 9 := by omega
      have hy : sp_y1 Vc P c = sp_tire (if 0 < sp_suits Vc P c u then sp_ease Vc c else Vc) P u := by unfold sp_y1; rw [if_neg h, hu]; rfl
      refine mv_go' 4 (pc' := if 0 ≤ (c : Int) ∧ (c : Int) < 6 then 16 else mv_bad) (ls' := [mv_R 30, mv_I (c : Int), l2]) (st' := [mv_I (M 32 c)]) (M1 := M) rfl ?_
      refine mv_tt' (by omega) ?_
      have hr9 := sp_ok_2 hok c (by omega)
      rw [show M 32 c = Vc 2 c from by exact sp_c_2 hV c (by omega)]
      rw [show Vc 2 c = (u : Int) from by exact hu]
      refine mv_go' 3 (pc' := 19) (ls' := [mv_R 30, mv_I (c : Int), mv_I (u : Int)]) (st' := [mv_I (u : Int), mv_R 30]) (M1 := M) rfl ?_
      refine mv_callP (st2 := [mv_I 1]) rfl (Or.inl rfl) rfl rfl rfl (sp_cisUncle_t_30 hV hok (by omega)) (by first | decide | omega) ?_
      refine mv_go' 1 (pc' := if 1 = 0 then 44 else 25) (ls' := [mv_R 30, mv_I (c : Int), mv_I (u : Int)]) (st' := []) (M1 := M) rfl ?_
      refine mv_ff' (by decide) ?_
      refine mv_go' 3 (pc' := 28) (ls' := [mv_R 30, mv_I (c : Int), mv_I (u : Int)]) (st' := [mv_I (u : Int), mv_I (c : Int), mv_R 30]) (M1 := M) rfl ?_
      refine mv_call (st2 := [mv_I (sp_suits Vc P c u)]) rfl (Or.inl rfl) rfl rfl rfl (sp_csuits_30 hV hok hlc hn hP (by omega) hu9) (by first | decide | omega) (fun M1 h1 => ?_)
      have hV1 := sp_c_ag hV h1 (by decide)
      have h1 : mv_ag [30, 31, 33, 36, 37] M M1 := h1.wd (by decide)
      have hP1 := sp_cts_ag hP h1 hn hS
      refine mv_go' 1 (pc' := if 0 < (sp_suits Vc P c u) then 34 else 39) (ls' := [mv_R 30, mv_I (c : Int), mv_I (u : Int)]) (st' := []) (M1 := M1) rfl ?_
      refine mv_sp' (fun hp => ?_) (fun hp => ?_)
      · rw [if_pos hp] at hy
        refine mv_go' 2 (pc' := 36) (ls' := [mv_R 30, mv_I (c : Int), mv_I (u : Int)]) (st' := [mv_I (c : Int), mv_R 30]) (M1 := M1) rfl ?_
        refine mv_call (st2 := []) rfl (Or.inl rfl) rfl rfl rfl (sp_cease_30 hV1 hok (by omega)) (by first | decide | omega) (fun M2 h2 => ?_)
        have h3 := h1.tr (h2.1.wd (by decide))
        have hP2 := sp_cts_ag hP h3 hn hS
        refine mv_go' 2 (pc' := 41) (ls' := [mv_R 30, mv_I (c : Int), mv_I (u : Int)]) (st' := [mv_I (u : Int), mv_R 30]) (M1 := M2) rfl ?_
        refine mv_call (st2 := []) rfl (Or.inl rfl) rfl rfl rfl (sp_ctire_30 h2.2 (sp_ok_ease hok (by omega)) hlc hn hP2 hu9) (by first | decide | omega) (fun M3 h4 => ?_)
        have h5 := h3.tr (h4.1.wd (by decide))
        refine mv_go' 2 (pc' := 2) (ls' := [mv_R 30, mv_I (mv_w ((c : Int) + 1)), mv_I (u : Int)]) (st' := []) (M1 := M3) rfl ?_
        rw [show mv_w ((c : Int) + 1) = ((c + 1 : Nat) : Int) from by (rw [show mv_w ((c : Int) + 1) = (c : Int) + 1 from mv_w_id (by omega) (by omega)]) <;> omega]
        exact (ih (c + 1) M3 (mv_I (u : Int)) (by rw [hsu, hy]; exact h4.2) (sp_cts_ag hP h5 hn hS) (by omega)).imp (fun M4 h6 => ⟨h5.tr h6.1, h6.2⟩)
      · rw [if_neg hp] at hy
        refine mv_go' 2 (pc' := 41) (ls' := [mv_R 30, mv_I (c : Int), mv_I (u : Int)]) (st' := [mv_I (u : Int), mv_R 30]) (M1 := M1) rfl ?_
        refine mv_call (st2 := []) rfl (Or.inl rfl) rfl rfl rfl (sp_ctire_30 hV1 hok hlc hn hP1 hu9) (by first | decide | omega) (fun M3 h4 => ?_)
        have h5 := h1.tr (h4.1.wd (by decide))
        refine mv_go' 2 (pc' := 2) (ls' := [mv_R 30, mv_I (mv_w ((c : Int) + 1)), mv_I (u : Int)]) (st' := []) (M1 := M3) rfl ?_
        rw [show mv_w ((c : Int) + 1) = ((c + 1 : Nat) : Int) from by (rw [show mv_w ((c : Int) + 1) = (c : Int) + 1 from mv_w_id (by omega) (by omega)]) <;> omega]
        exact (ih (c + 1) M3 (mv_I (u : Int)) (by rw [hsu, hy]; exact h4.2) (sp_cts_ag hP h5 hn hS) (by omega)).imp (fun M4 h6 => ⟨h5.tr h6.1, h6.2⟩)
theorem sp_cpass_30 {V M : mv_M} {P : Nat → Nat → List Int} {n : Int} (hV : sp_c 30 M V) (ho : sp_ok V) (hl : V 0 11 < n) (hn : n ≤ 6) (hP : sp_cts M P n) : mv_Ru 5 58 0 [mv_R 30, mv_U, mv_U] [] M mv_U (fun M1 => mv_ag [30, 31, 33, 36, 37] M M1 ∧ sp_c 30 M1 (sp_year V P)) := by
  have hr := sp_ok_s8 ho
  refine mv_go' 2 (pc' := 2) (ls' := [mv_R 30, mv_I 0, mv_U]) (st' := []) (M1 := M) rfl ?_
  exact sp_cpass_lp_30 ho hl hn (V 0 8).toNat 0 M mv_U hV hP (by omega)
theorem sp_cpass_lp_50 {V : mv_M} {P : Nat → Nat → List Int} {n : Int} (ho : sp_ok V) (hl : V 0 11 < n) (hn : n ≤ 6) : ∀ (k c : Nat) (M : mv_M) (l2 : mv_V), sp_c 50 M (sp_yn V P c) → sp_cts M P n → (c : Int) + k = V 0 8 →
    mv_Ru 5 58 2 [mv_R 50, mv_I (c : Int), l2] [] M mv_U (fun M1 => mv_ag [50, 51, 53, 56, 57] M M1 ∧ sp_c 50 M1 (sp_year V P)) := by
  have hS : ∀ i, 10 ≤ i → i < 28 → i ∉ [50, 51, 53, 56, 57] := fun i h1 h2 => by simp; omega
  have hr8 := sp_ok_s8 ho
  have hr9 := sp_ok_s9 ho
  have hr10 := sp_ok_s10 ho
  intro k
  induction k with
  | zero =>
    intro c M l2 hV hP hc
    obtain ⟨Vc, hVc⟩ : ∃ Vc, Vc = sp_yn V P c := ⟨_, rfl⟩
    have hok := sp_ok_yn P ho c (by omega)
    have hr := sp_yn_r V P c
    rw [← hVc] at hV hok hr
    have h0 : Vc 0 8 = V 0 8 := by rw [hr.1]
    refine mv_go' 3 (pc' := 7) (ls' := [mv_R 50, mv_I (c : Int), l2]) (st' := [mv_I (M 50 8), mv_I (c : Int)]) (M1 := M) rfl ?_
    have hr11 := sp_ok_s8 hok
    rw [show M 50 8 = Vc 0 8 from by exact sp_c_s8 hV]
    refine mv_go' 1 (pc' := if (c : Int) < (Vc 0 8) then 10 else 50) (ls' := [mv_R 50, mv_I (c : Int), l2]) (st' := []) (M1 := M) rfl ?_
    refine mv_ff' (by omega) ?_
    refine mv_go' 3 (pc' := 55) (ls' := [mv_R 50, mv_I (c : Int), l2]) (st' := [mv_I (M 50 10), mv_R 50]) (M1 := M) rfl ?_
    have hr13 := sp_ok_s10 hok
    rw [show M 50 10 = Vc 0 10 from by exact sp_c_s10 hV]
    refine mv_go' 3 (pc' := 60) (ls' := [mv_R 50, mv_I (c : Int), l2]) (st' := []) (M1 := (mv_st M 50 (mv_up (M 50) 10 (mv_w ((Vc 0 10) + 1))))) rfl ?_
    rw [show mv_w ((Vc 0 10) + 1) = (Vc 0 10) + 1 from mv_w_id (by omega) (by omega)]
    exact mv_ret (fun n => rfl) (⟨mv_ag.st mv_ag.rf (by decide), by unfold sp_year; rw [show (V 0 8).toNat = c from by omega, ← hVc, ← hr.1]; exact sp_c_sty hV⟩)
  | succ k ih =>
    intro c M l2 hV hP hc
    have hok := sp_ok_yn P ho c (by omega)
    have hr := sp_yn_r V P c
    have hsu : sp_yn V P (c + 1) = sp_y1 (sp_yn V P c) P c := rfl
    generalize sp_yn V P c = Vc at hV hok hr hsu
    have h0 : Vc 0 8 = V 0 8 := by rw [hr.1]
    have h9 : Vc 0 9 = V 0 9 := by rw [hr.1]
    have hlc : Vc 0 11 < n := by rw [hr.1]; exact hl
    have h2 := sp_ok_2 hok c (by omega)
    refine mv_go' 3 (pc' := 7) (ls' := [mv_R 50, mv_I (c : Int), l2]) (st' := [mv_I (M 50 8), mv_I (c : Int)]) (M1 := M) rfl ?_
    have hr15 := sp_ok_s8 hok
    rw [show M 50 8 = Vc 0 8 from by exact sp_c_s8 hV]
    refine mv_go' 1 (pc' := if (c : Int) < (Vc 0 8) then 10 else 50) (ls' := [mv_R 50, mv_I (c : Int), l2]) (st' := []) (M1 := M) rfl ?_
    refine mv_tt' (by omega) ?_
    by_cases h : Vc 2 c = -1
    · refine mv_go' 4 (pc' := if 0 ≤ (c : Int) ∧ (c : Int) < 6 then 16 else mv_bad) (ls' := [mv_R 50, mv_I (c : Int), l2]) (st' := [mv_I (M 52 c)]) (M1 := M) rfl ?_
      refine mv_tt' (by omega) ?_
      have hr17 := sp_ok_2 hok c (by omega)
      rw [show M 52 c = Vc 2 c from by exact sp_c_2 hV c (by omega)]
      refine mv_go' 3 (pc' := 19) (ls' := [mv_R 50, mv_I (c : Int), mv_I (Vc 2 c)]) (st' := [mv_I (Vc 2 c), mv_R 50]) (M1 := M) rfl ?_
      refine mv_callP (st2 := [mv_I 0]) rfl (Or.inl rfl) rfl rfl rfl (sp_cisUncle_f_50 hV hok (by omega)) (by first | decide | omega) ?_
      refine mv_go' 1 (pc' := if 0 = 0 then 44 else 25) (ls' := [mv_R 50, mv_I (c : Int), mv_I (Vc 2 c)]) (st' := []) (M1 := M) rfl ?_
      refine mv_tt' (rfl) ?_
      refine mv_go' 2 (pc' := 2) (ls' := [mv_R 50, mv_I (mv_w ((c : Int) + 1)), mv_I (Vc 2 c)]) (st' := []) (M1 := M) rfl ?_
      rw [show mv_w ((c : Int) + 1) = ((c + 1 : Nat) : Int) from by (rw [show mv_w ((c : Int) + 1) = (c : Int) + 1 from mv_w_id (by omega) (by omega)]) <;> omega]
      exact (ih (c + 1) M (mv_I (Vc 2 c)) (by rw [hsu]; unfold sp_y1; rw [if_pos h]; exact hV) hP (by omega))
    · obtain ⟨u, hu⟩ : ∃ u : Nat, Vc 2 c = (u : Int) := ⟨(Vc 2 c).toNat, by omega⟩
      have hu9 : (u : Int) < Vc 0 9 := by omega
      have hy : sp_y1 Vc P c = sp_tire (if 0 < sp_suits Vc P c u then sp_ease Vc c else Vc) P u := by unfold sp_y1; rw [if_neg h, hu]; rfl
      refine mv_go' 4 (pc' := if 0 ≤ (c : Int) ∧ (c : Int) < 6 then 16 else mv_bad) (ls' := [mv_R 50, mv_I (c : Int), l2]) (st' := [mv_I (M 52 c)]) (M1 := M) rfl ?_
      refine mv_tt' (by omega) ?_
      have hr19 := sp_ok_2 hok c (by omega)
      rw [show M 52 c = Vc 2 c from by exact sp_c_2 hV c (by omega)]
      rw [show Vc 2 c = (u : Int) from by exact hu]
      refine mv_go' 3 (pc' := 19) (ls' := [mv_R 50, mv_I (c : Int), mv_I (u : Int)]) (st' := [mv_I (u : Int), mv_R 50]) (M1 := M) rfl ?_
      refine mv_callP (st2 := [mv_I 1]) rfl (Or.inl rfl) rfl rfl rfl (sp_cisUncle_t_50 hV hok (by omega)) (by first | decide | omega) ?_
      refine mv_go' 1 (pc' := if 1 = 0 then 44 else 25) (ls' := [mv_R 50, mv_I (c : Int), mv_I (u : Int)]) (st' := []) (M1 := M) rfl ?_
      refine mv_ff' (by decide) ?_
      refine mv_go' 3 (pc' := 28) (ls' := [mv_R 50, mv_I (c : Int), mv_I (u : Int)]) (st' := [mv_I (u : Int), mv_I (c : Int), mv_R 50]) (M1 := M) rfl ?_
      refine mv_call (st2 := [mv_I (sp_suits Vc P c u)]) rfl (Or.inl rfl) rfl rfl rfl (sp_csuits_50 hV hok hlc hn hP (by omega) hu9) (by first | decide | omega) (fun M1 h1 => ?_)
      have hV1 := sp_c_ag hV h1 (by decide)
      have h1 : mv_ag [50, 51, 53, 56, 57] M M1 := h1.wd (by decide)
      have hP1 := sp_cts_ag hP h1 hn hS
      refine mv_go' 1 (pc' := if 0 < (sp_suits Vc P c u) then 34 else 39) (ls' := [mv_R 50, mv_I (c : Int), mv_I (u : Int)]) (st' := []) (M1 := M1) rfl ?_
      refine mv_sp' (fun hp => ?_) (fun hp => ?_)
      · rw [if_pos hp] at hy
        refine mv_go' 2 (pc' := 36) (ls' := [mv_R 50, mv_I (c : Int), mv_I (u : Int)]) (st' := [mv_I (c : Int), mv_R 50]) (M1 := M1) rfl ?_
        refine mv_call (st2 := []) rfl (Or.inl rfl) rfl rfl rfl (sp_cease_50 hV1 hok (by omega)) (by first | decide | omega) (fun M2 h2 => ?_)
        have h3 := h1.tr (h2.1.wd (by decide))
        have hP2 := sp_cts_ag hP h3 hn hS
        refine mv_go' 2 (pc' := 41) (ls' := [mv_R 50, mv_I (c : Int), mv_I (u : Int)]) (st' := [mv_I (u : Int), mv_R 50]) (M1 := M2) rfl ?_
        refine mv_call (st2 := []) rfl (Or.inl rfl) rfl rfl rfl (sp_ctire_50 h2.2 (sp_ok_ease hok (by omega)) hlc hn hP2 hu9) (by first | decide | omega) (fun M3 h4 => ?_)
        have h5 := h3.tr (h4.1.wd (by decide))
        refine mv_go' 2 (pc' := 2) (ls' := [mv_R 50, mv_I (mv_w ((c : Int) + 1)), mv_I (u : Int)]) (st' := []) (M1 := M3) rfl ?_
        rw [show mv_w ((c : Int) + 1) = ((c + 1 : Nat) : Int) from by (rw [show mv_w ((c : Int) + 1) = (c : Int) + 1 from mv_w_id (by omega) (by omega)]) <;> omega]
        exact (ih (c + 1) M3 (mv_I (u : Int)) (by rw [hsu, hy]; exact h4.2) (sp_cts_ag hP h5 hn hS) (by omega)).imp (fun M4 h6 => ⟨h5.tr h6.1, h6.2⟩)
      · rw [if_neg hp] at hy
        refine mv_go' 2 (pc' := 41) (ls' := [mv_R 50, mv_I (c : Int), mv_I (u : Int)]) (st' := [mv_I (u : Int), mv_R 50]) (M1 := M1) rfl ?_
        refine mv_call (st2 := []) rfl (Or.inl rfl) rfl rfl rfl (sp_ctire_50 hV1 hok hlc hn hP1 hu9) (by first | decide | omega) (fun M3 h4 => ?_)
        have h5 := h1.tr (h4.1.wd (by decide))
        refine mv_go' 2 (pc' := 2) (ls' := [mv_R 50, mv_I (mv_w ((c : Int) + 1)), mv_I (u : Int)]) (st' := []) (M1 := M3) rfl ?_
        rw [show mv_w ((c : Int) + 1) = ((c + 1 : Nat) : Int) from by (rw [show mv_w ((c : Int) + 1) = (c : Int) + 1 from mv_w_id (by omega) (by omega)]) <;> omega]
        exact (ih (c + 1) M3 (mv_I (u : Int)) (by rw [hsu, hy]; exact h4.2) (sp_cts_ag hP h5 hn hS) (by omega)).imp (fun M4 h6 => ⟨h5.tr h6.1, h6.2⟩)
theorem sp_cpass_50 {V M : mv_M} {P : Nat → Nat → List Int} {n : Int} (hV : sp_c 50 M V) (ho : sp_ok V) (hl : V 0 11 < n) (hn : n ≤ 6) (hP : sp_cts M P n) : mv_Ru 5 58 0 [mv_R 50, mv_U, mv_U] [] M mv_U (fun M1 => mv_ag [50, 51, 53, 56, 57] M M1 ∧ sp_c 50 M1 (sp_year V P)) := by
  have hr := sp_ok_s8 ho
  refine mv_go' 2 (pc' := 2) (ls' := [mv_R 50, mv_I 0, mv_U]) (st' := []) (M1 := M) rfl ?_
  exact sp_cpass_lp_50 ho hl hn (V 0 8).toNat 0 M mv_U hV hP (by omega)
