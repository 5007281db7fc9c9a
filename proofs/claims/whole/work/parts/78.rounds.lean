/-! settled: rounds -/
def sp_sc (V : mv_M) (P : Nat → Nat → List Int) (c : Nat) (st : (Nat → Int) × (Nat → Nat)) : (Nat → Int) × (Nat → Nat) :=
  if st.1 c = -1 ∧ sp_nx (sp_suits V P c) (st.2 c) (V 0 9).toNat ≠ -1 then (sp_r1 V P c (sp_nx (sp_suits V P c) (st.2 c) (V 0 9).toNat).toNat st.1, sp_a1 c (sp_nx (sp_suits V P c) (st.2 c) (V 0 9).toNat).toNat st.2) else st
def sp_rn (V : mv_M) (P : Nat → Nat → List Int) : Nat → Nat → (Nat → Int) × (Nat → Nat) → (Nat → Int) × (Nat → Nat)
  | 0, _, st => st
  | r + 1, c, st => sp_rn V P r (c + 1) (sp_sc V P c st)
def sp_rf (V : mv_M) (P : Nat → Nat → List Int) : Nat → Nat → (Nat → Int) × (Nat → Nat) → Int → Int
  | 0, _, _, f => f
  | r + 1, c, st, f => sp_rf V P r (c + 1) (sp_sc V P c st) (if st.1 c = -1 ∧ sp_nx (sp_suits V P c) (st.2 c) (V 0 9).toNat ≠ -1 then 1 else f)
theorem sp_rf_b (V : mv_M) (P : Nat → Nat → List Int) : ∀ (r c : Nat) (st : (Nat → Int) × (Nat → Nat)) (f : Int), (f = 0 ∨ f = 1) → sp_rf V P r c st f = 0 ∨ sp_rf V P r c st f = 1
  | 0, _, _, f, h => h
  | r + 1, c, st, f, h => by
    rw [sp_rf]
    exact sp_rf_b V P r (c + 1) _ _ (by split <;> omega)
def sp_gs (V : mv_M) (P : Nat → Nat → List Int) : Nat → (Nat → Int) × (Nat → Nat) → (Nat → Int) × (Nat → Nat)
  | 0, st => st
  | r + 1, st => if sp_rf V P (V 0 8).toNat 0 st 0 = 1 then sp_gs V P r (sp_rn V P (V 0 8).toNat 0 st) else sp_rn V P (V 0 8).toNat 0 st
theorem sp_nx_b (s : Nat → Int) (a U : Nat) : -1 ≤ sp_nx s a U ∧ sp_nx s a U < U := by
  have h := sp_ms_b s a U
  unfold sp_nx
  split <;> omega
theorem sp_wfs_s {V : mv_M} {P : Nat → Nat → List Int} {st : (Nat → Int) × (Nat → Nat)} {c : Nat} (h : sp_wfs V st.1 st.2) (h9 : 0 ≤ V 0 9 ∧ V 0 9 ≤ 6) (hc : (c : Int) < V 0 8) : sp_wfs V (sp_sc V P c st).1 (sp_sc V P c st).2 := by
  unfold sp_sc
  by_cases q : st.1 c = -1 ∧ sp_nx (sp_suits V P c) (st.2 c) (V 0 9).toNat ≠ -1
  · rw [if_pos q]
    have hb := sp_nx_b (sp_suits V P c) (st.2 c) (V 0 9).toNat
    exact sp_wfs_1 h h9.2 hc (by omega)
  · rw [if_neg q]; exact h
theorem sp_wfs_rn {V : mv_M} {P : Nat → Nat → List Int} (h9 : 0 ≤ V 0 9 ∧ V 0 9 ≤ 6) : ∀ (r c : Nat) (st : (Nat → Int) × (Nat → Nat)), (c : Int) + r ≤ V 0 8 → sp_wfs V st.1 st.2 → sp_wfs V (sp_rn V P r c st).1 (sp_rn V P r c st).2
  | 0, _, _, _, h => h
  | r + 1, c, st, hk, h => by
    rw [sp_rn]
    exact sp_wfs_rn h9 r (c + 1) _ (by omega) (sp_wfs_s h h9 (by omega))
theorem sp_sc_0 {V : mv_M} {P : Nat → Nat → List Int} {c : Nat} {st : (Nat → Int) × (Nat → Nat)} (h : st.1 c = -1 → sp_nx (sp_suits V P c) (st.2 c) (V 0 9).toNat = -1) : sp_sc V P c st = st := if_neg (fun q => q.2 (h q.1))
theorem sp_sc_1 {V : mv_M} {P : Nat → Nat → List Int} {c m : Nat} {st : (Nat → Int) × (Nat → Nat)} (h : st.1 c = -1) (hn : sp_nx (sp_suits V P c) (st.2 c) (V 0 9).toNat = (m : Int)) : sp_sc V P c st = (sp_r1 V P c m st.1, sp_a1 c m st.2) := by
  unfold sp_sc
  rw [hn, if_pos ⟨h, by omega⟩, Int.toNat_natCast]
theorem sp_crd {V M0 : mv_M} {P : Nat → Nat → List Int} {i : Int} {d : Nat} {Q : mv_M → Prop} (ho : sp_ok V) (ht : sp_tb V P M0) (htl : sp_tl V P M0) :
    ∀ (r c : Nat) (M : mv_M) (st : (Nat → Int) × (Nat → Nat)) (f : Int), (c : Int) + r = V 0 8 → mv_ag [64, 65, 66] M0 M → sp_cst V st.1 st.2 M → sp_wfs V st.1 st.2 → (f = 0 ∨ f = 1) →
      (∀ M2, mv_ag [64, 65, 66] M0 M2 → sp_cst V (sp_rn V P r c st).1 (sp_rn V P r c st).2 M2 → mv_Ru (d + 3) 37 82 [mv_R 60, mv_I (sp_rf V P r c st f), mv_I i, mv_I (V 0 8)] [] M2 mv_U Q) → mv_Ru (d + 3) 37 42 [mv_R 60, mv_I f, mv_I i, mv_I (c : Int)] [] M mv_U Q := by
  have h8 := sp_ok_s8 ho
  have h9 := sp_ok_s9 ho
  intro r
  induction r with
  | zero =>
    intro c M st f hk hag hst hw hf e
    have e8 : M 60 8 = (c : Int) := by rw [hag 60 (by decide), ht.1.1]; omega
    have hq := e M hag hst
    rw [show V 0 8 = (c : Int) from by omega] at hq
    refine mv_go' 3 (pc' := 47) (ls' := [mv_R 60, mv_I f, mv_I i, mv_I (c : Int)]) (st' := [mv_I (M 60 8), mv_I (c : Int)]) (M1 := M) rfl ?_
    rw [show M 60 8 = (c : Int) from by exact e8]
    refine mv_go' 1 (pc' := if (c : Int) < (c : Int) then 50 else 82) (ls' := [mv_R 60, mv_I f, mv_I i, mv_I (c : Int)]) (st' := []) (M1 := M) rfl ?_
    refine mv_ff' (by omega) ?_
    exact hq
  | succ r ih =>
    intro c M st f hk hag hst hw hf e
    have e8 : M 60 8 = V 0 8 := by rw [hag 60 (by decide), ht.1.1]
    have hcc : (c : Int) < V 0 8 := by omega
    have e64 := hst.1 c hcc
    have ht2 := sp_tb_ag ht hag (by decide)
    have htl2 : sp_tl V P M := by unfold sp_tl; rw [hag 62 (by decide)]; exact htl
    rw [sp_rn, sp_rf] at e
    by_cases hr : st.1 c = -1
    · have hb := sp_nx_b (sp_suits V P c) (st.2 c) (V 0 9).toNat
      by_cases hn : sp_nx (sp_suits V P c) (st.2 c) (V 0 9).toNat = -1
      · rw [sp_sc_0 (fun _ => hn), if_neg (fun q => q.2 hn)] at e
        have hcall := sp_can_0 ho ht2 hcc hst hw hn
        rcases hf with q | q <;> subst q
        · refine mv_go' 3 (pc' := 47) (ls' := [mv_R 60, mv_I 0, mv_I i, mv_I (c : Int)]) (st' := [mv_I (M 60 8), mv_I (c : Int)]) (M1 := M) rfl ?_
          rw [show M 60 8 = V 0 8 from by exact e8]
          refine mv_go' 1 (pc' := if (c : Int) < (V 0 8) then 50 else 82) (ls' := [mv_R 60, mv_I 0, mv_I i, mv_I (c : Int)]) (st' := []) (M1 := M) rfl ?_
          refine mv_tt' (by omega) ?_
          refine mv_go' 5 (pc' := if 0 ≤ (c : Int) ∧ (c : Int) < 6 then 57 else mv_bad) (ls' := [mv_R 60, mv_I 0, mv_I i, mv_I (c : Int)]) (st' := [mv_I (M 64 c), mv_I 0]) (M1 := M) rfl ?_
          refine mv_tt' (by omega) ?_
          rw [show M 64 c = -1 from by rw [e64]; exact hr]
          refine mv_go' 2 (pc' := if (-1) = (-1) then 61 else 73) (ls' := [mv_R 60, mv_I 0, mv_I i, mv_I (c : Int)]) (st' := [mv_I 0]) (M1 := M) rfl ?_
          refine mv_tt' (by first | decide | omega) ?_
          refine mv_go' 2 (pc' := 63) (ls' := [mv_R 60, mv_I 0, mv_I i, mv_I (c : Int)]) (st' := [mv_I (c : Int), mv_R 60, mv_I 0]) (M1 := M) rfl ?_
          refine mv_call (st2 := [mv_I 0, mv_I 0]) rfl (Or.inl rfl) rfl rfl rfl (hcall) (by first | decide | omega) (fun Ma1 hm2 => ?_)
          have hx := hm2
          refine mv_go' 1 (pc' := if 0 = 0 then 73 else 69) (ls' := [mv_R 60, mv_I 0, mv_I i, mv_I (c : Int)]) (st' := [mv_I 0]) (M1 := Ma1) rfl ?_
          refine mv_tt' (by first | decide | omega) ?_
          refine mv_go' 2 (pc' := 75) (ls' := [mv_R 60, mv_I 0, mv_I i, mv_I (c : Int)]) (st' := [mv_I (mv_or 0 0)]) (M1 := Ma1) rfl ?_
          rw [show mv_or 0 0 = 0 from by decide]
          refine mv_go' 3 (pc' := 42) (ls' := [mv_R 60, mv_I 0, mv_I i, mv_I (mv_w ((c : Int) + 1))]) (st' := []) (M1 := Ma1) rfl ?_
          rw [show mv_w ((c : Int) + 1) = (c : Int) + 1 from mv_w_id (by omega) (by omega)]
          rw [show (c : Int) + 1 = ((c + 1 : Nat) : Int) from by omega]
          exact ih (c + 1) _ st 0 (by omega) (hag.tr hx.1) hx.2 hw (by omega) e
        · refine mv_go' 3 (pc' := 47) (ls' := [mv_R 60, mv_I 1, mv_I i, mv_I (c : Int)]) (st' := [mv_I (M 60 8), mv_I (c : Int)]) (M1 := M) rfl ?_
          rw [show M 60 8 = V 0 8 from by exact e8]
          refine mv_go' 1 (pc' := if (c : Int) < (V 0 8) then 50 else 82) (ls' := [mv_R 60, mv_I 1, mv_I i, mv_I (c : Int)]) (st' := []) (M1 := M) rfl ?_
          refine mv_tt' (by omega) ?_
          refine mv_go' 5 (pc' := if 0 ≤ (c : Int) ∧ (c : Int) < 6 then 57 else mv_bad) (ls' := [mv_R 60, mv_I 1, mv_I i, mv_I (c : Int)]) (st' := [mv_I (M 64 c), mv_I 1]) (M1 := M) rfl ?_
          refine mv_tt' (by omega) ?_
          rw [show M 64 c = -1 from by rw [e64]; exact hr]
          refine mv_go' 2 (pc' := if (-1) = (-1) then 61 else 73) (ls' := [mv_R 60, mv_I 1, mv_I i, mv_I (c : Int)]) (st' := [mv_I 1]) (M1 := M) rfl ?_
          refine mv_tt' (by first | decide | omega) ?_
          refine mv_go' 2 (pc' := 63) (ls' := [mv_R 60, mv_I 1, mv_I i, mv_I (c : Int)]) (st' := [mv_I (c : Int), mv_R 60, mv_I 1]) (M1 := M) rfl ?_
          refine mv_call (st2 := [mv_I 0, mv_I 1]) rfl (Or.inl rfl) rfl rfl rfl (hcall) (by first | decide | omega) (fun Ma3 hm4 => ?_)
          have hx := hm4
          refine mv_go' 1 (pc' := if 0 = 0 then 73 else 69) (ls' := [mv_R 60, mv_I 1, mv_I i, mv_I (c : Int)]) (st' := [mv_I 1]) (M1 := Ma3) rfl ?_
          refine mv_tt' (by first | decide | omega) ?_
          refine mv_go' 2 (pc' := 75) (ls' := [mv_R 60, mv_I 1, mv_I i, mv_I (c : Int)]) (st' := [mv_I (mv_or 1 0)]) (M1 := Ma3) rfl ?_
          rw [show mv_or 1 0 = 1 from by decide]
          refine mv_go' 3 (pc' := 42) (ls' := [mv_R 60, mv_I 1, mv_I i, mv_I (mv_w ((c : Int) + 1))]) (st' := []) (M1 := Ma3) rfl ?_
          rw [show mv_w ((c : Int) + 1) = (c : Int) + 1 from mv_w_id (by omega) (by omega)]
          rw [show (c : Int) + 1 = ((c + 1 : Nat) : Int) from by omega]
          exact ih (c + 1) _ st 1 (by omega) (hag.tr hx.1) hx.2 hw (by omega) e
      · obtain ⟨m, hm⟩ : ∃ m : Nat, sp_nx (sp_suits V P c) (st.2 c) (V 0 9).toNat = (m : Int) := ⟨(sp_nx (sp_suits V P c) (st.2 c) (V 0 9).toNat).toNat, by omega⟩
        rw [sp_sc_1 hr hm, if_pos ⟨hr, hn⟩] at e
        have hcall := sp_can_1 ho ht2 htl2 hcc hst hw hr hm
        have hw2 : sp_wfs V (sp_r1 V P c m st.1) (sp_a1 c m st.2) := sp_wfs_1 hw h9.2 hcc (by omega)
        rcases hf with q | q <;> subst q
        · refine mv_go' 3 (pc' := 47) (ls' := [mv_R 60, mv_I 0, mv_I i, mv_I (c : Int)]) (st' := [mv_I (M 60 8), mv_I (c : Int)]) (M1 := M) rfl ?_
          rw [show M 60 8 = V 0 8 from by exact e8]
          refine mv_go' 1 (pc' := if (c : Int) < (V 0 8) then 50 else 82) (ls' := [mv_R 60, mv_I 0, mv_I i, mv_I (c : Int)]) (st' := []) (M1 := M) rfl ?_
          refine mv_tt' (by omega) ?_
          refine mv_go' 5 (pc' := if 0 ≤ (c : Int) ∧ (c : Int) < 6 then 57 else mv_bad) (ls' := [mv_R 60, mv_I 0, mv_I i, mv_I (c : Int)]) (st' := [mv_I (M 64 c), mv_I 0]) (M1 := M) rfl ?_
          refine mv_tt' (by omega) ?_
          rw [show M 64 c = -1 from by rw [e64]; exact hr]
          refine mv_go' 2 (pc' := if (-1) = (-1) then 61 else 73) (ls' := [mv_R 60, mv_I 0, mv_I i, mv_I (c : Int)]) (st' := [mv_I 0]) (M1 := M) rfl ?_
          refine mv_tt' (by first | decide | omega) ?_
          refine mv_go' 2 (pc' := 63) (ls' := [mv_R 60, mv_I 0, mv_I i, mv_I (c : Int)]) (st' := [mv_I (c : Int), mv_R 60, mv_I 0]) (M1 := M) rfl ?_
          refine mv_call (st2 := [mv_I 1, mv_I 0]) rfl (Or.inl rfl) rfl rfl rfl (hcall) (by first | decide | omega) (fun Ma5 hm6 => ?_)
          have hx := hm6
          refine mv_go' 1 (pc' := if 1 = 0 then 73 else 69) (ls' := [mv_R 60, mv_I 0, mv_I i, mv_I (c : Int)]) (st' := [mv_I 0]) (M1 := Ma5) rfl ?_
          refine mv_ff' (by first | decide | omega) ?_
          refine mv_go' 3 (pc' := 75) (ls' := [mv_R 60, mv_I 0, mv_I i, mv_I (c : Int)]) (st' := [mv_I (mv_or 0 1)]) (M1 := Ma5) rfl ?_
          rw [show mv_or 0 1 = 1 from by decide]
          refine mv_go' 3 (pc' := 42) (ls' := [mv_R 60, mv_I 1, mv_I i, mv_I (mv_w ((c : Int) + 1))]) (st' := []) (M1 := Ma5) rfl ?_
          rw [show mv_w ((c : Int) + 1) = (c : Int) + 1 from mv_w_id (by omega) (by omega)]
          rw [show (c : Int) + 1 = ((c + 1 : Nat) : Int) from by omega]
          exact ih (c + 1) _ (sp_r1 V P c m st.1, sp_a1 c m st.2) 1 (by omega) (hag.tr hx.1) hx.2 hw2 (by omega) e
        · refine mv_go' 3 (pc' := 47) (ls' := [mv_R 60, mv_I 1, mv_I i, mv_I (c : Int)]) (st' := [mv_I (M 60 8), mv_I (c : Int)]) (M1 := M) rfl ?_
          rw [show M 60 8 = V 0 8 from by exact e8]
          refine mv_go' 1 (pc' := if (c : Int) < (V 0 8) then 50 else 82) (ls' := [mv_R 60, mv_I 1, mv_I i, mv_I (c : Int)]) (st' := []) (M1 := M) rfl ?_
          refine mv_tt' (by omega) ?_
          refine mv_go' 5 (pc' := if 0 ≤ (c : Int) ∧ (c : Int) < 6 then 57 else mv_bad) (ls' := [mv_R 60, mv_I 1, mv_I i, mv_I (c : Int)]) (st' := [mv_I (M 64 c), mv_I 1]) (M1 := M) rfl ?_
          refine mv_tt' (by omega) ?_
          rw [show M 64 c = -1 from by rw [e64]; exact hr]
          refine mv_go' 2 (pc' := if (-1) = (-1) then 61 else 73) (ls' := [mv_R 60, mv_I 1, mv_I i, mv_I (c : Int)]) (st' := [mv_I 1]) (M1 := M) rfl ?_
          refine mv_tt' (by first | decide | omega) ?_
          refine mv_go' 2 (pc' := 63) (ls' := [mv_R 60, mv_I 1, mv_I i, mv_I (c : Int)]) (st' := [mv_I (c : Int), mv_R 60, mv_I 1]) (M1 := M) rfl ?_
          refine mv_call (st2 := [mv_I 1, mv_I 1]) rfl (Or.inl rfl) rfl rfl rfl (hcall) (by first | decide | omega) (fun Ma7 hm8 => ?_)
          have hx := hm8
          refine mv_go' 1 (pc' := if 1 = 0 then 73 else 69) (ls' := [mv_R 60, mv_I 1, mv_I i, mv_I (c : Int)]) (st' := [mv_I 1]) (M1 := Ma7) rfl ?_
          refine mv_ff' (by first | decide | omega) ?_
          refine mv_go' 3 (pc' := 75) (ls' := [mv_R 60, mv_I 1, mv_I i, mv_I (c : Int)]) (st' := [mv_I (mv_or 1 1)]) (M1 := Ma7) rfl ?_
          rw [show mv_or 1 1 = 1 from by decide]
          refine mv_go' 3 (pc' := 42) (ls' := [mv_R 60, mv_I 1, mv_I i, mv_I (mv_w ((c : Int) + 1))]) (st' := []) (M1 := Ma7) rfl ?_
          rw [show mv_w ((c : Int) + 1) = (c : Int) + 1 from mv_w_id (by omega) (by omega)]
          rw [show (c : Int) + 1 = ((c + 1 : Nat) : Int) from by omega]
          exact ih (c + 1) _ (sp_r1 V P c m st.1, sp_a1 c m st.2) 1 (by omega) (hag.tr hx.1) hx.2 hw2 (by omega) e
    · rw [sp_sc_0 (fun q => absurd q hr), if_neg (fun q => hr q.1)] at e
      rcases hf with q | q <;> subst q
      · refine mv_go' 3 (pc' := 47) (ls' := [mv_R 60, mv_I 0, mv_I i, mv_I (c : Int)]) (st' := [mv_I (M 60 8), mv_I (c : Int)]) (M1 := M) rfl ?_
        rw [show M 60 8 = V 0 8 from by exact e8]
        refine mv_go' 1 (pc' := if (c : Int) < (V 0 8) then 50 else 82) (ls' := [mv_R 60, mv_I 0, mv_I i, mv_I (c : Int)]) (st' := []) (M1 := M) rfl ?_
        refine mv_tt' (by omega) ?_
        refine mv_go' 5 (pc' := if 0 ≤ (c : Int) ∧ (c : Int) < 6 then 57 else mv_bad) (ls' := [mv_R 60, mv_I 0, mv_I i, mv_I (c : Int)]) (st' := [mv_I (M 64 c), mv_I 0]) (M1 := M) rfl ?_
        refine mv_tt' (by omega) ?_
        rw [show M 64 c = st.1 c from by exact e64]
        refine mv_go' 2 (pc' := if (st.1 c) = (-1) then 61 else 73) (ls' := [mv_R 60, mv_I 0, mv_I i, mv_I (c : Int)]) (st' := [mv_I 0]) (M1 := M) rfl ?_
        refine mv_ff' (by omega) ?_
        refine mv_go' 2 (pc' := 75) (ls' := [mv_R 60, mv_I 0, mv_I i, mv_I (c : Int)]) (st' := [mv_I (mv_or 0 0)]) (M1 := M) rfl ?_
        rw [show mv_or 0 0 = 0 from by decide]
        refine mv_go' 3 (pc' := 42) (ls' := [mv_R 60, mv_I 0, mv_I i, mv_I (mv_w ((c : Int) + 1))]) (st' := []) (M1 := M) rfl ?_
        rw [show mv_w ((c : Int) + 1) = (c : Int) + 1 from mv_w_id (by omega) (by omega)]
        rw [show (c : Int) + 1 = ((c + 1 : Nat) : Int) from by omega]
        exact ih (c + 1) _ st 0 (by omega) hag hst hw (by omega) e
      · refine mv_go' 3 (pc' := 47) (ls' := [mv_R 60, mv_I 1, mv_I i, mv_I (c : Int)]) (st' := [mv_I (M 60 8), mv_I (c : Int)]) (M1 := M) rfl ?_
        rw [show M 60 8 = V 0 8 from by exact e8]
        refine mv_go' 1 (pc' := if (c : Int) < (V 0 8) then 50 else 82) (ls' := [mv_R 60, mv_I 1, mv_I i, mv_I (c : Int)]) (st' := []) (M1 := M) rfl ?_
        refine mv_tt' (by omega) ?_
        refine mv_go' 5 (pc' := if 0 ≤ (c : Int) ∧ (c : Int) < 6 then 57 else mv_bad) (ls' := [mv_R 60, mv_I 1, mv_I i, mv_I (c : Int)]) (st' := [mv_I (M 64 c), mv_I 1]) (M1 := M) rfl ?_
        refine mv_tt' (by omega) ?_
        rw [show M 64 c = st.1 c from by exact e64]
        refine mv_go' 2 (pc' := if (st.1 c) = (-1) then 61 else 73) (ls' := [mv_R 60, mv_I 1, mv_I i, mv_I (c : Int)]) (st' := [mv_I 1]) (M1 := M) rfl ?_
        refine mv_ff' (by omega) ?_
        refine mv_go' 2 (pc' := 75) (ls' := [mv_R 60, mv_I 1, mv_I i, mv_I (c : Int)]) (st' := [mv_I (mv_or 1 0)]) (M1 := M) rfl ?_
        rw [show mv_or 1 0 = 1 from by decide]
        refine mv_go' 3 (pc' := 42) (ls' := [mv_R 60, mv_I 1, mv_I i, mv_I (mv_w ((c : Int) + 1))]) (st' := []) (M1 := M) rfl ?_
        rw [show mv_w ((c : Int) + 1) = (c : Int) + 1 from mv_w_id (by omega) (by omega)]
        rw [show (c : Int) + 1 = ((c + 1 : Nat) : Int) from by omega]
        exact ih (c + 1) _ st 1 (by omega) hag hst hw (by omega) e
theorem sp_cgo {V M0 : mv_M} {P : Nat → Nat → List Int} {d : Nat} (ho : sp_ok V) (ht : sp_tb V P M0) (htl : sp_tl V P M0) :
    ∀ (r i : Nat) (M : mv_M) (st : (Nat → Int) × (Nat → Nat)) (l3 : mv_V), i + r = 37 → mv_ag [64, 65, 66] M0 M → sp_cst V st.1 st.2 M → sp_wfs V st.1 st.2 → mv_isL l3 = false →
      mv_Ru (d + 3) 37 28 [mv_R 60, mv_I 1, mv_I (i : Int), l3] [] M mv_U (fun M1 => mv_ag [64, 65, 66] M0 M1 ∧ sp_cst V (sp_gs V P r st).1 (sp_gs V P r st).2 M1) := by
  have h8 := sp_ok_s8 ho
  have h9 := sp_ok_s9 ho
  intro r
  induction r with
  | zero =>
    intro i M st l3 hk hag hst hw h3
    have hk : i = 37 := by omega
    subst hk
    refine mv_go' 3 (pc' := if 36 < ((37 : Nat) : Int) then 88 else 34) (ls' := [mv_R 60, mv_I 1, mv_I ((37 : Nat) : Int), l3]) (st' := []) (M1 := M) rfl ?_
    refine mv_tt' (by decide) ?_
    exact mv_ret (fun n => rfl) ⟨hag, hst⟩
  | succ r ih =>
    intro i M st l3 hk hag hst hw h3
    have hfb := sp_rf_b V P (V 0 8).toNat 0 st 0 (Or.inl rfl)
    refine mv_go' 3 (pc' := if 36 < (i : Int) then 88 else 34) (ls' := [mv_R 60, mv_I 1, mv_I (i : Int), l3]) (st' := []) (M1 := M) rfl ?_
    refine mv_ff' (by omega) ?_
    refine mv_go' 2 (pc' := if 1 = 0 then 88 else 38) (ls' := [mv_R 60, mv_I 1, mv_I (i : Int), l3]) (st' := []) (M1 := M) rfl ?_
    refine mv_ff' (by decide) ?_
    refine mv_go' 4 (pc' := 42) (ls' := [mv_R 60, mv_I 0, mv_I (i : Int), mv_I 0]) (st' := []) (M1 := M) rfl ?_
    refine sp_crd (d := d) ho ht htl (V 0 8).toNat 0 M st 0 (by omega) hag hst hw (Or.inl rfl) (fun M2 q1 q2 => ?_)
    refine mv_go' 2 (pc' := 28) (ls' := [mv_R 60, mv_I (sp_rf V P (V 0 8).toNat 0 st 0), mv_I (mv_w ((i : Int) + 1)), mv_I (V 0 8)]) (st' := []) (M1 := M2) rfl ?_
    rw [show mv_w ((i : Int) + 1) = ((i + 1 : Nat) : Int) from by unfold mv_w; omega]
    rw [sp_gs]
    have hw2 := sp_wfs_rn (P := P) h9 (V 0 8).toNat 0 st (by omega) hw
    by_cases q : sp_rf V P (V 0 8).toNat 0 st 0 = 1
    · rw [if_pos q, q]
      exact ih (i + 1) M2 _ _ (by omega) q1 q2 hw2 rfl
    · rw [if_neg q, show sp_rf V P (V 0 8).toNat 0 st 0 = 0 from by omega]
      by_cases q3 : i = 36
      · subst q3
        refine mv_go' 3 (pc' := if 36 < ((36 + 1 : Nat) : Int) then 88 else 34) (ls' := [mv_R 60, mv_I 0, mv_I ((36 + 1 : Nat) : Int), mv_I (V 0 8)]) (st' := []) (M1 := M2) rfl ?_
        refine mv_tt' (by decide) ?_
        exact mv_ret (fun n => rfl) ⟨q1, q2⟩
      · refine mv_go' 3 (pc' := if 36 < ((i + 1 : Nat) : Int) then 88 else 34) (ls' := [mv_R 60, mv_I 0, mv_I ((i + 1 : Nat) : Int), mv_I (V 0 8)]) (st' := []) (M1 := M2) rfl ?_
        refine mv_ff' (by omega) ?_
        refine mv_go' 2 (pc' := if 0 = 0 then 88 else 38) (ls' := [mv_R 60, mv_I 0, mv_I ((i + 1 : Nat) : Int), mv_I (V 0 8)]) (st' := []) (M1 := M2) rfl ?_
        refine mv_tt' (by rfl) ?_
        exact mv_ret (fun n => rfl) ⟨q1, q2⟩
