/-! swap: the call -/
theorem sp_csw1 {V M0 : mv_M} {P : Nat → Nat → List Int} {w : Int} {d : Nat} {Q : mv_V → mv_M → Prop} (hc : sp_c 30 M0 V) (ho : sp_ok V) (ht : sp_tb V P M0) :
    ∀ (r a : Nat) (M : mv_M) (pr : Int × Int) (l5 : mv_V), (a : Int) + r = V 0 8 → mv_ag [64] M0 M → mv_isL l5 = false →
      (∀ (M2 : mv_M) (l5 : mv_V), mv_ag [64] M0 M2 → mv_W (d + 2) 78 172 [mv_R 0, mv_I w, mv_I (sp_sw1 V P r a pr).2, mv_I (sp_sw1 V P r a pr).1, mv_I (V 0 8), l5] [] M2 Q) →
      mv_W (d + 2) 78 41 [mv_R 0, mv_I w, mv_I pr.2, mv_I pr.1, mv_I (a : Int), l5] [] M Q := by
  have h8 := sp_ok_s8 ho
  intro r
  induction r with
  | zero =>
    intro a M pr l5 hk hag h5 hQ
    have e8 : M 30 8 = (a : Int) := by rw [hag 30 (by decide), sp_c_s8 hc]; omega
    have hq := hQ M l5 hag
    rw [show V 0 8 = (a : Int) from by omega] at hq
    refine mv_goW 4 (pc' := 50) (ls' := [mv_R 0, mv_I w, mv_I pr.2, mv_I pr.1, mv_I (a : Int), l5]) (st' := [mv_I (M 30 8), mv_I (a : Int)]) (M1 := M) rfl ?_
    rw [show M 30 8 = (a : Int) from by exact e8]
    refine mv_goW 1 (pc' := if (a : Int) < (a : Int) then 53 else 172) (ls' := [mv_R 0, mv_I w, mv_I pr.2, mv_I pr.1, mv_I (a : Int), l5]) (st' := []) (M1 := M) rfl ?_
    refine mv_ffW (by omega) ?_
    exact hq
  | succ r ih =>
    intro a M pr l5 hk hag h5 hQ
    have e8 : M 30 8 = V 0 8 := by rw [hag 30 (by decide), sp_c_s8 hc]
    rw [sp_sw1] at hQ
    refine mv_goW 4 (pc' := 50) (ls' := [mv_R 0, mv_I w, mv_I pr.2, mv_I pr.1, mv_I (a : Int), l5]) (st' := [mv_I (M 30 8), mv_I (a : Int)]) (M1 := M) rfl ?_
    rw [show M 30 8 = V 0 8 from by exact e8]
    refine mv_goW 1 (pc' := if (a : Int) < (V 0 8) then 53 else 172) (ls' := [mv_R 0, mv_I w, mv_I pr.2, mv_I pr.1, mv_I (a : Int), l5]) (st' := []) (M1 := M) rfl ?_
    refine mv_ttW (by omega) ?_
    refine mv_goW 4 (pc' := 59) (ls' := [mv_R 0, mv_I w, mv_I pr.2, mv_I pr.1, mv_I (a : Int), mv_I (mv_w ((a : Int) + 1))]) (st' := []) (M1 := M) rfl ?_
    rw [show mv_w ((a : Int) + 1) = (a : Int) + 1 from mv_w_id (by omega) (by omega)]
    rw [show (a : Int) + 1 = ((a + 1 : Nat) : Int) from by omega]
    refine sp_csw2 hc ho ht r (a + 1) M pr (by omega) (by omega) hag (fun M2 l5 hag2 h5 => ?_)
    refine mv_goW 2 (pc' := 41) (ls' := [mv_R 0, mv_I w, mv_I ((sp_sw2 V P a r (a + 1) pr).2), mv_I ((sp_sw2 V P a r (a + 1) pr).1), mv_I (mv_w ((a : Int) + 1)), l5]) (st' := []) (M1 := M2) rfl ?_
    rw [show mv_w ((a : Int) + 1) = (a : Int) + 1 from mv_w_id (by omega) (by omega)]
    rw [show (a : Int) + 1 = ((a + 1 : Nat) : Int) from by omega]
    exact ih (a + 1) M2 (sp_sw2 V P a r (a + 1) pr) l5 (by omega) hag2 h5 hQ
theorem sp_msw2 {V M : mv_M} {P : Nat → Nat → List Int} {w : Int} {a d : Nat} {Q : mv_V → mv_M → Prop} (hm : sp_m M V) (ho : sp_ok V) (ht : sp_tmm V P M) :
    ∀ (r b : Nat) (pr : Int × Int) (l7 l8 : mv_V), (b : Int) + r = V 0 8 → a < b → mv_isL l7 = false → mv_isL l8 = false →
      (∀ (l6 l7 l8 : mv_V), mv_isL l6 = false → mv_isL l7 = false → mv_isL l8 = false → mv_W (d + 2) 168 158 [mv_R 100, mv_I w, mv_I (sp_as V P), mv_I (sp_sw2 V P a r b pr).1, mv_I (sp_sw2 V P a r b pr).2, mv_I (a : Int), l6, l7, l8] [] M Q) →
      mv_W (d + 2) 168 44 [mv_R 100, mv_I w, mv_I (sp_as V P), mv_I pr.1, mv_I pr.2, mv_I (a : Int), mv_I (b : Int), l7, l8] [] M Q := by
  have h8 := sp_ok_s8 ho
  have h9 := sp_ok_s9 ho
  intro r
  induction r with
  | zero =>
    intro b pr l7 l8 hk hab h7 h8' hQ
    have e8 : M 100 0 = (b : Int) := by rw [sp_m_s8 hm]; omega
    refine mv_goW 3 (pc' := 50) (ls' := [mv_R 100, mv_I w, mv_I (sp_as V P), mv_I pr.1, mv_I pr.2, mv_I (a : Int), mv_I (b : Int), l7, l8]) (st' := [mv_I (M 100 0), mv_I (b : Int)]) (M1 := M) rfl ?_
    rw [show M 100 0 = (b : Int) from by exact e8]
    refine mv_goW 1 (pc' := if (b : Int) < (b : Int) then 53 else 158) (ls' := [mv_R 100, mv_I w, mv_I (sp_as V P), mv_I pr.1, mv_I pr.2, mv_I (a : Int), mv_I (b : Int), l7, l8]) (st' := []) (M1 := M) rfl ?_
    refine mv_ffW (by omega) ?_
    exact hQ _ _ _ rfl h7 h8'
  | succ r ih =>
    intro b pr l7 l8 hk hab h7 h8' hQ
    have ea : M 106 a = V 2 a := sp_m_2 hm a (by omega)
    have eb : M 106 b = V 2 b := sp_m_2 hm b (by omega)
    have o2 := sp_ok_2 ho a (by omega)
    have o3 := sp_ok_2 ho b (by omega)
    have g1 := sp_g_b P ho a o2
    have g2 := sp_g_b P ho a o3
    have g3 := sp_g_b P ho b o2
    have g4 := sp_g_b P ho b o3
    have hb := sp_s1_sb P ho (V 0 8).toNat (by omega)
    have hb2 : sp_as V P = sp_sum (sp_s1 V P) (V 0 8).toNat := rfl
    rw [← hb2] at hb
    refine mv_goW 3 (pc' := 50) (ls' := [mv_R 100, mv_I w, mv_I (sp_as V P), mv_I pr.1, mv_I pr.2, mv_I (a : Int), mv_I (b : Int), l7, l8]) (st' := [mv_I (M 100 0), mv_I (b : Int)]) (M1 := M) rfl ?_
    rw [show M 100 0 = V 0 8 from by exact sp_m_s8 hm]
    refine mv_goW 1 (pc' := if (b : Int) < (V 0 8) then 53 else 158) (ls' := [mv_R 100, mv_I w, mv_I (sp_as V P), mv_I pr.1, mv_I pr.2, mv_I (a : Int), mv_I (b : Int), l7, l8]) (st' := []) (M1 := M) rfl ?_
    refine mv_ttW (by omega) ?_
    refine mv_goW 6 (pc' := if 0 ≤ (a : Int) ∧ (a : Int) < 6 then 63 else mv_bad) (ls' := [mv_R 100, mv_I w, mv_I (sp_as V P), mv_I pr.1, mv_I pr.2, mv_I (a : Int), mv_I (b : Int), l7, l8]) (st' := [mv_I (M 106 a), mv_I (a : Int), mv_R 100]) (M1 := M) rfl ?_
    refine mv_ttW (by omega) ?_
    rw [show M 106 a = V 2 a from by exact ea]
    refine mv_callPW (st2 := [mv_I (sp_g V P a (V 2 a))]) rfl (Or.inl rfl) rfl rfl rfl (sp_msi ho ht (by omega) (by omega)) (by first | decide | omega) ?_
    refine mv_goW 6 (pc' := if 0 ≤ (b : Int) ∧ (b : Int) < 6 then 76 else mv_bad) (ls' := [mv_R 100, mv_I w, mv_I (sp_as V P), mv_I pr.1, mv_I pr.2, mv_I (a : Int), mv_I (b : Int), l7, l8]) (st' := [mv_I (M 106 b), mv_I (b : Int), mv_R 100, mv_I (sp_g V P a (V 2 a))]) (M1 := M) rfl ?_
    refine mv_ttW (by omega) ?_
    rw [show M 106 b = V 2 b from by exact eb]
    refine mv_callPW (st2 := [mv_I (sp_g V P b (V 2 b)), mv_I (sp_g V P a (V 2 a))]) rfl (Or.inl rfl) rfl rfl rfl (sp_msi ho ht (by omega) (by omega)) (by first | decide | omega) ?_
    refine mv_goW 11 (pc' := if 0 ≤ (b : Int) ∧ (b : Int) < 6 then 96 else mv_bad) (ls' := [mv_R 100, mv_I w, mv_I (sp_as V P), mv_I pr.1, mv_I pr.2, mv_I (a : Int), mv_I (b : Int), mv_I (mv_w ((sp_g V P a (V 2 a)) + (sp_g V P b (V 2 b)))), l8]) (st' := [mv_I (M 106 b), mv_I (a : Int), mv_R 100, mv_I (mv_w ((sp_as V P) - (mv_w ((sp_g V P a (V 2 a)) + (sp_g V P b (V 2 b))))))]) (M1 := M) rfl ?_
    refine mv_ttW (by omega) ?_
    rw [show M 106 b = V 2 b from by exact eb]
    rw [show mv_w ((sp_g V P a (V 2 a)) + (sp_g V P b (V 2 b))) = (sp_g V P a (V 2 a)) + (sp_g V P b (V 2 b)) from mv_w_id (by omega) (by omega)]
    rw [show mv_w ((sp_as V P) - ((sp_g V P a (V 2 a)) + (sp_g V P b (V 2 b)))) = (sp_as V P) - ((sp_g V P a (V 2 a)) + (sp_g V P b (V 2 b))) from mv_w_id (by omega) (by omega)]
    refine mv_callPW (st2 := [mv_I (sp_g V P a (V 2 b)), mv_I ((sp_as V P) - ((sp_g V P a (V 2 a)) + (sp_g V P b (V 2 b))))]) rfl (Or.inl rfl) rfl rfl rfl (sp_msi ho ht (by omega) (by omega)) (by first | decide | omega) ?_
    refine mv_goW 7 (pc' := if 0 ≤ (a : Int) ∧ (a : Int) < 6 then 110 else mv_bad) (ls' := [mv_R 100, mv_I w, mv_I (sp_as V P), mv_I pr.1, mv_I pr.2, mv_I (a : Int), mv_I (b : Int), mv_I ((sp_g V P a (V 2 a)) + (sp_g V P b (V 2 b))), l8]) (st' := [mv_I (M 106 a), mv_I (b : Int), mv_R 100, mv_I (mv_w (((sp_as V P) - ((sp_g V P a (V 2 a)) + (sp_g V P b (V 2 b)))) + (sp_g V P a (V 2 b))))]) (M1 := M) rfl ?_
    refine mv_ttW (by omega) ?_
    rw [show M 106 a = V 2 a from by exact ea]
    rw [show mv_w (((sp_as V P) - ((sp_g V P a (V 2 a)) + (sp_g V P b (V 2 b)))) + (sp_g V P a (V 2 b))) = ((sp_as V P) - ((sp_g V P a (V 2 a)) + (sp_g V P b (V 2 b)))) + (sp_g V P a (V 2 b)) from mv_w_id (by omega) (by omega)]
    refine mv_callPW (st2 := [mv_I (sp_g V P b (V 2 a)), mv_I (((sp_as V P) - ((sp_g V P a (V 2 a)) + (sp_g V P b (V 2 b)))) + (sp_g V P a (V 2 b)))]) rfl (Or.inl rfl) rfl rfl rfl (sp_msi ho ht (by omega) (by omega)) (by first | decide | omega) ?_
    refine mv_goW 1 (pc' := 114) (ls' := [mv_R 100, mv_I w, mv_I (sp_as V P), mv_I pr.1, mv_I pr.2, mv_I (a : Int), mv_I (b : Int), mv_I ((sp_g V P a (V 2 a)) + (sp_g V P b (V 2 b))), l8]) (st' := [mv_I (mv_w ((((sp_as V P) - ((sp_g V P a (V 2 a)) + (sp_g V P b (V 2 b)))) + (sp_g V P a (V 2 b))) + (sp_g V P b (V 2 a))))]) (M1 := M) rfl ?_
    rw [show mv_w ((((sp_as V P) - ((sp_g V P a (V 2 a)) + (sp_g V P b (V 2 b)))) + (sp_g V P a (V 2 b))) + (sp_g V P b (V 2 a))) = (((sp_as V P) - ((sp_g V P a (V 2 a)) + (sp_g V P b (V 2 b)))) + (sp_g V P a (V 2 b))) + (sp_g V P b (V 2 a)) from mv_w_id (by omega) (by omega)]
    rw [show (((sp_as V P) - ((sp_g V P a (V 2 a)) + (sp_g V P b (V 2 b)))) + (sp_g V P a (V 2 b))) + (sp_g V P b (V 2 a)) = sp_sv V P a b from by unfold sp_sv; omega]
    refine mv_goW 4 (pc' := if pr.2 < (sp_sv V P a b) then 123 else 134) (ls' := [mv_R 100, mv_I w, mv_I (sp_as V P), mv_I pr.1, mv_I pr.2, mv_I (a : Int), mv_I (b : Int), mv_I ((sp_g V P a (V 2 a)) + (sp_g V P b (V 2 b))), mv_I (sp_sv V P a b)]) (st' := []) (M1 := M) rfl ?_
    refine mv_spW (fun ha1 => ?_) (fun ha1 => ?_)
    · refine mv_goW 10 (pc' := if pr.2 < (sp_sv V P a b) then 143 else 148) (ls' := [mv_R 100, mv_I w, mv_I (sp_as V P), mv_I (mv_w ((mv_w (10 * (a : Int))) + (b : Int))), mv_I pr.2, mv_I (a : Int), mv_I (b : Int), mv_I ((sp_g V P a (V 2 a)) + (sp_g V P b (V 2 b))), mv_I (sp_sv V P a b)]) (st' := []) (M1 := M) rfl ?_
      rw [show mv_w (10 * (a : Int)) = 10 * (a : Int) from mv_w_id (by omega) (by omega)]
      rw [show mv_w ((10 * (a : Int)) + (b : Int)) = (10 * (a : Int)) + (b : Int) from mv_w_id (by omega) (by omega)]
      rw [show (10 * (a : Int)) + (b : Int) = ((10 * a + b : Nat) : Int) from by omega]
      refine mv_ttW (by omega) ?_
      refine mv_goW 5 (pc' := 44) (ls' := [mv_R 100, mv_I w, mv_I (sp_as V P), mv_I ((10 * a + b : Nat) : Int), mv_I (sp_sv V P a b), mv_I (a : Int), mv_I (mv_w ((b : Int) + 1)), mv_I ((sp_g V P a (V 2 a)) + (sp_g V P b (V 2 b))), mv_I (sp_sv V P a b)]) (st' := []) (M1 := M) rfl ?_
      rw [show mv_w ((b : Int) + 1) = (b : Int) + 1 from mv_w_id (by omega) (by omega)]
      rw [show (b : Int) + 1 = ((b + 1 : Nat) : Int) from by omega]
      rw [sp_sw2] at hQ
      first | rw [if_pos (show pr.2 < sp_sv V P a b by omega)] at hQ | rw [if_neg (show ¬ (pr.2 < sp_sv V P a b) by omega)] at hQ
      first | exact ih (b + 1) (10 * (a : Int) + b, sp_sv V P a b) _ _ (by omega) (by omega) rfl rfl hQ | exact ih (b + 1) pr _ _ (by omega) (by omega) rfl rfl hQ
    · refine mv_goW 5 (pc' := if pr.2 < (sp_sv V P a b) then 143 else 148) (ls' := [mv_R 100, mv_I w, mv_I (sp_as V P), mv_I pr.1, mv_I pr.2, mv_I (a : Int), mv_I (b : Int), mv_I ((sp_g V P a (V 2 a)) + (sp_g V P b (V 2 b))), mv_I (sp_sv V P a b)]) (st' := []) (M1 := M) rfl ?_
      refine mv_ffW (by omega) ?_
      refine mv_goW 4 (pc' := 44) (ls' := [mv_R 100, mv_I w, mv_I (sp_as V P), mv_I pr.1, mv_I pr.2, mv_I (a : Int), mv_I (mv_w ((b : Int) + 1)), mv_I ((sp_g V P a (V 2 a)) + (sp_g V P b (V 2 b))), mv_I (sp_sv V P a b)]) (st' := []) (M1 := M) rfl ?_
      rw [show mv_w ((b : Int) + 1) = (b : Int) + 1 from mv_w_id (by omega) (by omega)]
      rw [show (b : Int) + 1 = ((b + 1 : Nat) : Int) from by omega]
      rw [sp_sw2] at hQ
      first | rw [if_pos (show pr.2 < sp_sv V P a b by omega)] at hQ | rw [if_neg (show ¬ (pr.2 < sp_sv V P a b) by omega)] at hQ
      first | exact ih (b + 1) (10 * (a : Int) + b, sp_sv V P a b) _ _ (by omega) (by omega) rfl rfl hQ | exact ih (b + 1) pr _ _ (by omega) (by omega) rfl rfl hQ
theorem sp_msw1 {V M : mv_M} {P : Nat → Nat → List Int} {w : Int} {d : Nat} {Q : mv_V → mv_M → Prop} (hm : sp_m M V) (ho : sp_ok V) (ht : sp_tmm V P M) :
    ∀ (r a : Nat) (pr : Int × Int) (l6 l7 l8 : mv_V), (a : Int) + r = V 0 8 → mv_isL l6 = false → mv_isL l7 = false → mv_isL l8 = false →
      (∀ (l6 l7 l8 : mv_V), mv_W (d + 2) 168 164 [mv_R 100, mv_I w, mv_I (sp_as V P), mv_I (sp_sw1 V P r a pr).1, mv_I (sp_sw1 V P r a pr).2, mv_I (V 0 8), l6, l7, l8] [] M Q) →
      mv_W (d + 2) 168 29 [mv_R 100, mv_I w, mv_I (sp_as V P), mv_I pr.1, mv_I pr.2, mv_I (a : Int), l6, l7, l8] [] M Q := by
  have h8 := sp_ok_s8 ho
  intro r
  induction r with
  | zero =>
    intro a pr l6 l7 l8 hk h6 h7 h8' hQ
    have e8 : M 100 0 = (a : Int) := by rw [sp_m_s8 hm]; omega
    have hq := hQ l6 l7 l8
    rw [show V 0 8 = (a : Int) from by omega] at hq
    refine mv_goW 3 (pc' := 35) (ls' := [mv_R 100, mv_I w, mv_I (sp_as V P), mv_I pr.1, mv_I pr.2, mv_I (a : Int), l6, l7, l8]) (st' := [mv_I (M 100 0), mv_I (a : Int)]) (M1 := M) rfl ?_
    rw [show M 100 0 = (a : Int) from by exact e8]
    refine mv_goW 1 (pc' := if (a : Int) < (a : Int) then 38 else 164) (ls' := [mv_R 100, mv_I w, mv_I (sp_as V P), mv_I pr.1, mv_I pr.2, mv_I (a : Int), l6, l7, l8]) (st' := []) (M1 := M) rfl ?_
    refine mv_ffW (by omega) ?_
    exact hq
  | succ r ih =>
    intro a pr l6 l7 l8 hk h6 h7 h8' hQ
    rw [sp_sw1] at hQ
    refine mv_goW 3 (pc' := 35) (ls' := [mv_R 100, mv_I w, mv_I (sp_as V P), mv_I pr.1, mv_I pr.2, mv_I (a : Int), l6, l7, l8]) (st' := [mv_I (M 100 0), mv_I (a : Int)]) (M1 := M) rfl ?_
    rw [show M 100 0 = V 0 8 from by exact sp_m_s8 hm]
    refine mv_goW 1 (pc' := if (a : Int) < (V 0 8) then 38 else 164) (ls' := [mv_R 100, mv_I w, mv_I (sp_as V P), mv_I pr.1, mv_I pr.2, mv_I (a : Int), l6, l7, l8]) (st' := []) (M1 := M) rfl ?_
    refine mv_ttW (by omega) ?_
    refine mv_goW 4 (pc' := 44) (ls' := [mv_R 100, mv_I w, mv_I (sp_as V P), mv_I pr.1, mv_I pr.2, mv_I (a : Int), mv_I (mv_w ((a : Int) + 1)), l7, l8]) (st' := []) (M1 := M) rfl ?_
    rw [show mv_w ((a : Int) + 1) = (a : Int) + 1 from mv_w_id (by omega) (by omega)]
    rw [show (a : Int) + 1 = ((a + 1 : Nat) : Int) from by omega]
    refine sp_msw2 hm ho ht r (a + 1) pr _ _ (by omega) (by omega) h7 h8' (fun l6 l7 l8 h6 h7 h8' => ?_)
    refine mv_goW 2 (pc' := 29) (ls' := [mv_R 100, mv_I w, mv_I (sp_as V P), mv_I ((sp_sw2 V P a r (a + 1) pr).1), mv_I ((sp_sw2 V P a r (a + 1) pr).2), mv_I (mv_w ((a : Int) + 1)), l6, l7, l8]) (st' := []) (M1 := M) rfl ?_
    rw [show mv_w ((a : Int) + 1) = (a : Int) + 1 from mv_w_id (by omega) (by omega)]
    rw [show (a : Int) + 1 = ((a + 1 : Nat) : Int) from by omega]
    exact ih (a + 1) (sp_sw2 V P a r (a + 1) pr) _ _ _ (by omega) h6 h7 h8' hQ
theorem sp_k17 (w : Int) : sp_call 78 168 [mv_I w] [mv_I w] := by
  refine sp_mkW (lc := [mv_R 0, mv_I w, mv_U, mv_U, mv_U, mv_U]) (lm := [mv_R 100, mv_I w, mv_U, mv_U, mv_U, mv_U, mv_U, mv_U, mv_U]) rfl rfl (fun M hI => ?_)
  have hI2 := hI
  obtain ⟨V, P, n, B, K, t, h⟩ := hI2
  have h' := h
  obtain ⟨⟨hc, hm, ho⟩, ⟨hyy, hl, hn1, hn⟩, ⟨hct, hmt, _⟩, _⟩ := h'
  have h8 := sp_ok_s8 ho
  refine mv_goW 1 (pc' := 1) (ls' := [mv_R 0, mv_I w, mv_U, mv_U, mv_U, mv_U]) (st' := [mv_I w]) (M1 := M) rfl ?_
  by_cases ha2 : w = 0 ∨ w = 1
  · refine mv_callPW (st2 := [mv_I 1]) rfl (Or.inr rfl) rfl rfl rfl (sp_eith_t ha2) (by first | decide | omega) ?_
    refine mv_goW 1 (pc' := if 1 = 0 then 7 else 10) (ls' := [mv_R 0, mv_I w, mv_U, mv_U, mv_U, mv_U]) (st' := []) (M1 := M) rfl ?_
    refine mv_ffW (by first | decide | omega) ?_
    refine mv_goW 4 (pc' := 18) (ls' := [mv_R 0, mv_I w, mv_U, mv_U, mv_U, mv_U]) (st' := [mv_R 30, mv_R 60]) (M1 := M) rfl ?_
    refine mv_callW (st2 := []) rfl (Or.inl rfl) rfl rfl rfl (sp_crs hc ho hl hn hct) (by first | decide | omega) (fun Ma3 hm4 => ?_)
    have hx := hm4
    have hm := sp_m_ag2 hm hx.1 (by decide)
    have hmt := sp_mts_ag hmt hx.1 (by decide)
    have hcc := sp_c_ag hc hx.1 (by decide)
    refine mv_goW 5 (pc' := 32) (ls' := [mv_R 0, mv_I w, mv_U, mv_U, mv_U, mv_U]) (st' := [mv_R 32, mv_R 60]) (M1 := Ma3) rfl ?_
    refine mv_callPW (st2 := [mv_I (sp_as V P)]) rfl (Or.inl rfl) rfl rfl rfl ((mv_Ru.val (sp_csb_32 (D := V 2) ho hx.2 (fun j hj => ⟨sp_c_2 hcc j hj, sp_ok_2 ho j hj⟩)) (congrArg mv_I (sp_as_rs V P _).symm))) (by first | decide | omega) ?_
    refine mv_goW 5 (pc' := 41) (ls' := [mv_R 0, mv_I w, mv_I (sp_as V P), mv_I (-1), mv_I 0, mv_U]) (st' := []) (M1 := Ma3) rfl ?_
    refine sp_csw1 (d := 18) hcc ho hx.2 (V 0 8).toNat 0 Ma3 (-1, sp_as V P) mv_U (by omega) mv_ag.rf rfl (fun M2 l5 hd => ?_)
    have hag : mv_ag [36, 37, 60, 61, 63, 64] M M2 := (hx.1.wd (by decide)).tr (hd.wd (by decide))
    have hm := sp_m_ag2 hm hd (by decide)
    have hmt := sp_mts_ag hmt hd (by decide)
    refine mv_goW 2 (pc' := if w = 0 then 176 else 180) (ls' := [mv_R 0, mv_I w, mv_I ((sp_sw1 V P (V 0 8).toNat 0 (-1, sp_as V P)).2), mv_I ((sp_sw1 V P (V 0 8).toNat 0 (-1, sp_as V P)).1), mv_I (V 0 8), l5]) (st' := []) (M1 := M2) rfl ?_
    refine mv_spW (fun ha5 => ?_) (fun ha5 => ?_)
    · refine mv_goW 2 (pc' := 181) (ls' := [mv_R 0, mv_I w, mv_I ((sp_sw1 V P (V 0 8).toNat 0 (-1, sp_as V P)).2), mv_I ((sp_sw1 V P (V 0 8).toNat 0 (-1, sp_as V P)).1), mv_I (V 0 8), l5]) (st' := [mv_I ((sp_sw1 V P (V 0 8).toNat 0 (-1, sp_as V P)).1)]) (M1 := M2) rfl ?_
      refine mv_retW (fun n => rfl) ⟨_, rfl, ?_⟩
      refine mv_goW 3 (pc' := 3) (ls' := [mv_R 100, mv_I w, mv_U, mv_U, mv_U, mv_U, mv_U, mv_U, mv_U]) (st' := [mv_I 1, mv_I 0, mv_I w]) (M1 := M2) rfl ?_
      have ha6 : (0 : Int) ≤ w ∧ w ≤ (1 : Int) := by omega
      refine mv_callPW (st2 := [mv_I 1]) rfl (Or.inr rfl) rfl rfl rfl (sp_min_t ha6) (by first | decide | omega) ?_
      refine mv_goW 1 (pc' := if 1 = 0 then 9 else 12) (ls' := [mv_R 100, mv_I w, mv_U, mv_U, mv_U, mv_U, mv_U, mv_U, mv_U]) (st' := []) (M1 := M2) rfl ?_
      refine mv_ffW (by first | decide | omega) ?_
      refine mv_goW 1 (pc' := 13) (ls' := [mv_R 100, mv_I w, mv_U, mv_U, mv_U, mv_U, mv_U, mv_U, mv_U]) (st' := [mv_R 100]) (M1 := M2) rfl ?_
      refine mv_callW (st2 := []) rfl (Or.inl rfl) rfl rfl rfl (sp_mrs hm ho hl hmt) (by first | decide | omega) (fun Ma7 hm8 => ?_)
      have hy := hm8
      have hm := sp_m_ag2 hm hy.1 (by decide)
      have hmt := sp_mts_ag hmt hy.1 (by decide)
      refine mv_goW 1 (pc' := 17) (ls' := [mv_R 100, mv_I w, mv_U, mv_U, mv_U, mv_U, mv_U, mv_U, mv_U]) (st' := [mv_R 100]) (M1 := Ma7) rfl ?_
      refine mv_callW (st2 := [mv_I (sp_as V P)]) rfl (Or.inl rfl) rfl rfl rfl (sp_mas hm ho hl hmt) (by first | decide | omega) (fun Ma9 hm10 => ?_)
      have hz := hm10
      have hm := sp_m_ag2 hm hz (by decide)
      have ht3 := sp_tmm_ag hy.2 hz (by decide)
      refine mv_goW 7 (pc' := 29) (ls' := [mv_R 100, mv_I w, mv_I (sp_as V P), mv_I (-1), mv_I (sp_as V P), mv_I 0, mv_U, mv_U, mv_U]) (st' := []) (M1 := Ma9) rfl ?_
      refine sp_msw1 (d := 18) hm ho ht3 (V 0 8).toNat 0 (-1, sp_as V P) mv_U mv_U mv_U (by omega) rfl rfl rfl (fun l6 l7 l8 => ?_)
      refine mv_goW 2 (pc' := if w = 0 then 168 else 172) (ls' := [mv_R 100, mv_I w, mv_I (sp_as V P), mv_I ((sp_sw1 V P (V 0 8).toNat 0 (-1, sp_as V P)).1), mv_I ((sp_sw1 V P (V 0 8).toNat 0 (-1, sp_as V P)).2), mv_I (V 0 8), l6, l7, l8]) (st' := []) (M1 := Ma9) rfl ?_
      refine mv_ttW (by omega) ?_
      refine mv_goW 2 (pc' := 174) (ls' := [mv_R 100, mv_I w, mv_I (sp_as V P), mv_I ((sp_sw1 V P (V 0 8).toNat 0 (-1, sp_as V P)).1), mv_I ((sp_sw1 V P (V 0 8).toNat 0 (-1, sp_as V P)).2), mv_I (V 0 8), l6, l7, l8]) (st' := [mv_I ((sp_sw1 V P (V 0 8).toNat 0 (-1, sp_as V P)).1)]) (M1 := Ma9) rfl ?_
      exact mv_retW (fun n => rfl) ⟨congrArg mv_I (by first | with_reducible rfl | omega), sp_tend h (((hag.wd (by decide)).tr (hy.1.wd (by decide))).tr (hz.wd (by decide))) (fun j hj => by rw [hz 100 (by decide), hy.1 100 (by decide), hag 100 (by decide)])⟩
    · refine mv_goW 1 (pc' := 181) (ls' := [mv_R 0, mv_I w, mv_I ((sp_sw1 V P (V 0 8).toNat 0 (-1, sp_as V P)).2), mv_I ((sp_sw1 V P (V 0 8).toNat 0 (-1, sp_as V P)).1), mv_I (V 0 8), l5]) (st' := [mv_I ((sp_sw1 V P (V 0 8).toNat 0 (-1, sp_as V P)).2)]) (M1 := M2) rfl ?_
      refine mv_retW (fun n => rfl) ⟨_, rfl, ?_⟩
      refine mv_goW 3 (pc' := 3) (ls' := [mv_R 100, mv_I w, mv_U, mv_U, mv_U, mv_U, mv_U, mv_U, mv_U]) (st' := [mv_I 1, mv_I 0, mv_I w]) (M1 := M2) rfl ?_
      have ha11 : (0 : Int) ≤ w ∧ w ≤ (1 : Int) := by omega
      refine mv_callPW (st2 := [mv_I 1]) rfl (Or.inr rfl) rfl rfl rfl (sp_min_t ha11) (by first | decide | omega) ?_
      refine mv_goW 1 (pc' := if 1 = 0 then 9 else 12) (ls' := [mv_R 100, mv_I w, mv_U, mv_U, mv_U, mv_U, mv_U, mv_U, mv_U]) (st' := []) (M1 := M2) rfl ?_
      refine mv_ffW (by first | decide | omega) ?_
      refine mv_goW 1 (pc' := 13) (ls' := [mv_R 100, mv_I w, mv_U, mv_U, mv_U, mv_U, mv_U, mv_U, mv_U]) (st' := [mv_R 100]) (M1 := M2) rfl ?_
      refine mv_callW (st2 := []) rfl (Or.inl rfl) rfl rfl rfl (sp_mrs hm ho hl hmt) (by first | decide | omega) (fun Ma12 hm13 => ?_)
      have hy := hm13
      have hm := sp_m_ag2 hm hy.1 (by decide)
      have hmt := sp_mts_ag hmt hy.1 (by decide)
      refine mv_goW 1 (pc' := 17) (ls' := [mv_R 100, mv_I w, mv_U, mv_U, mv_U, mv_U, mv_U, mv_U, mv_U]) (st' := [mv_R 100]) (M1 := Ma12) rfl ?_
      refine mv_callW (st2 := [mv_I (sp_as V P)]) rfl (Or.inl rfl) rfl rfl rfl (sp_mas hm ho hl hmt) (by first | decide | omega) (fun Ma14 hm15 => ?_)
      have hz := hm15
      have hm := sp_m_ag2 hm hz (by decide)
      have ht3 := sp_tmm_ag hy.2 hz (by decide)
      refine mv_goW 7 (pc' := 29) (ls' := [mv_R 100, mv_I w, mv_I (sp_as V P), mv_I (-1), mv_I (sp_as V P), mv_I 0, mv_U, mv_U, mv_U]) (st' := []) (M1 := Ma14) rfl ?_
      refine sp_msw1 (d := 18) hm ho ht3 (V 0 8).toNat 0 (-1, sp_as V P) mv_U mv_U mv_U (by omega) rfl rfl rfl (fun l6 l7 l8 => ?_)
      refine mv_goW 2 (pc' := if w = 0 then 168 else 172) (ls' := [mv_R 100, mv_I w, mv_I (sp_as V P), mv_I ((sp_sw1 V P (V 0 8).toNat 0 (-1, sp_as V P)).1), mv_I ((sp_sw1 V P (V 0 8).toNat 0 (-1, sp_as V P)).2), mv_I (V 0 8), l6, l7, l8]) (st' := []) (M1 := Ma14) rfl ?_
      refine mv_ffW (by omega) ?_
      refine mv_goW 1 (pc' := 174) (ls' := [mv_R 100, mv_I w, mv_I (sp_as V P), mv_I ((sp_sw1 V P (V 0 8).toNat 0 (-1, sp_as V P)).1), mv_I ((sp_sw1 V P (V 0 8).toNat 0 (-1, sp_as V P)).2), mv_I (V 0 8), l6, l7, l8]) (st' := [mv_I ((sp_sw1 V P (V 0 8).toNat 0 (-1, sp_as V P)).2)]) (M1 := Ma14) rfl ?_
      exact mv_retW (fun n => rfl) ⟨congrArg mv_I (by first | with_reducible rfl | omega), sp_tend h (((hag.wd (by decide)).tr (hy.1.wd (by decide))).tr (hz.wd (by decide))) (fun j hj => by rw [hz 100 (by decide), hy.1 100 (by decide), hag 100 (by decide)])⟩
  · refine mv_callPW (st2 := [mv_I 0]) rfl (Or.inr rfl) rfl rfl rfl (sp_eith_f ha2) (by first | decide | omega) ?_
    refine mv_goW 1 (pc' := if 0 = 0 then 7 else 10) (ls' := [mv_R 0, mv_I w, mv_U, mv_U, mv_U, mv_U]) (st' := []) (M1 := M) rfl ?_
    refine mv_ttW (by first | decide | omega) ?_
    refine mv_goW 1 (pc' := 9) (ls' := [mv_R 0, mv_I w, mv_U, mv_U, mv_U, mv_U]) (st' := [mv_I (-2)]) (M1 := M) rfl ?_
    refine mv_retW (fun n => rfl) ⟨_, rfl, ?_⟩
    refine mv_goW 3 (pc' := 3) (ls' := [mv_R 100, mv_I w, mv_U, mv_U, mv_U, mv_U, mv_U, mv_U, mv_U]) (st' := [mv_I 1, mv_I 0, mv_I w]) (M1 := M) rfl ?_
    have ha16 : ¬ ((0 : Int) ≤ w ∧ w ≤ (1 : Int)) := by omega
    refine mv_callPW (st2 := [mv_I 0]) rfl (Or.inr rfl) rfl rfl rfl (sp_min_f ha16) (by first | decide | omega) ?_
    refine mv_goW 1 (pc' := if 0 = 0 then 9 else 12) (ls' := [mv_R 100, mv_I w, mv_U, mv_U, mv_U, mv_U, mv_U, mv_U, mv_U]) (st' := []) (M1 := M) rfl ?_
    refine mv_ttW (by first | decide | omega) ?_
    refine mv_goW 1 (pc' := 11) (ls' := [mv_R 100, mv_I w, mv_U, mv_U, mv_U, mv_U, mv_U, mv_U, mv_U]) (st' := [mv_I (-2)]) (M1 := M) rfl ?_
    exact mv_retW (fun n => rfl) ⟨congrArg mv_I (by first | with_reducible rfl | omega), hI⟩
