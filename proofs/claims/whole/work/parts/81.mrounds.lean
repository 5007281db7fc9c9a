/-! settled: rounds of the model -/
theorem sp_sum_up (f : Nat → Int) (c : Nat) (x : Int) : ∀ n : Nat, sp_sum (fun j => if j = c then x else f j) n = sp_sum f n + (if c < n then x - f c else 0)
  | 0 => rfl
  | n + 1 => by
    have h := sp_sum_up f c x n
    have e1 : sp_sum (fun j => if j = c then x else f j) (n + 1) = sp_sum (fun j => if j = c then x else f j) n + (if n = c then x else f n) := rfl
    have e2 : sp_sum f (n + 1) = sp_sum f n + f n := rfl
    rw [e1, e2, h]
    by_cases q : n = c
    · subst q
      rw [if_pos rfl, if_neg (show ¬ n < n by omega), if_pos (show n < n + 1 by omega)]
      omega
    · rw [if_neg q]
      have t : (c < n + 1) = (c < n) := propext ⟨fun _ => by omega, fun _ => by omega⟩
      simp only [t]
      omega
theorem sp_bc_le (a : Nat) : ∀ k : Nat, sp_bc a k ≤ k
  | 0 => Nat.le_refl _
  | k + 1 => by
    have h := sp_bc_le a k
    simp only [sp_bc]
    split <;> omega
def sp_mu (V : mv_M) (ask : Nat → Nat) : Int := sp_sum (fun c => (sp_bc (ask c) (V 0 9).toNat : Int)) (V 0 8).toNat
theorem sp_mu_b {V : mv_M} (ask : Nat → Nat) (h8 : 0 ≤ V 0 8 ∧ V 0 8 ≤ 6) (h9 : 0 ≤ V 0 9 ∧ V 0 9 ≤ 6) : 0 ≤ sp_mu V ask ∧ sp_mu V ask ≤ 36 := by
  have h := @sp_sum_b (fun c => (sp_bc (ask c) (V 0 9).toNat : Int)) 0 6 (V 0 8).toNat (fun i _ => by
    have := sp_bc_le (ask i) (V 0 9).toNat
    show 0 ≤ (sp_bc (ask i) (V 0 9).toNat : Int) ∧ (sp_bc (ask i) (V 0 9).toNat : Int) ≤ 6
    omega)
  unfold sp_mu
  omega
theorem sp_mu_a {V : mv_M} {ask : Nat → Nat} {c m : Nat} (h8 : 0 ≤ V 0 8 ∧ V 0 8 ≤ 6) (h9 : 0 ≤ V 0 9 ∧ V 0 9 ≤ 6) (hc : (c : Int) < V 0 8) (hm : (m : Int) < V 0 9) (ha : ask c < 64) (ht : Nat.testBit (ask c) m = false) : sp_mu V (sp_a1 c m ask) = sp_mu V ask + 1 := by
  have e : (fun j => (sp_bc (sp_a1 c m ask j) (V 0 9).toNat : Int)) = fun j => if j = c then (sp_bc (ask c ||| 1 <<< m) (V 0 9).toNat : Int) else (sp_bc (ask j) (V 0 9).toNat : Int) := by
    funext j
    unfold sp_a1
    split <;> rfl
  unfold sp_mu
  rw [e, sp_sum_up (fun j => (sp_bc (ask j) (V 0 9).toNat : Int)), if_pos (by omega), sp_bc_u ha (by omega) ht _ (by omega), if_pos (by omega)]
  omega
theorem sp_mu_r {V : mv_M} {P : Nat → Nat → List Int} (h8 : 0 ≤ V 0 8 ∧ V 0 8 ≤ 6) (h9 : 0 ≤ V 0 9 ∧ V 0 9 ≤ 6) : ∀ (r c : Nat) (st : (Nat → Int) × (Nat → Nat)) (f : Int), (c : Int) + r ≤ V 0 8 → sp_wfs V st.1 st.2 → (f = 0 ∨ f = 1) → sp_mu V st.2 + sp_rf V P r c st f ≤ sp_mu V (sp_rn V P r c st).2 + f
  | 0, _, _, _, _, _, _ => Int.le_refl _
  | r + 1, c, st, f, hk, hw, hf => by
    have hw2 := sp_wfs_s (P := P) hw h9 (c := c) (by omega)
    rw [sp_rn, sp_rf]
    by_cases q : st.1 c = -1 ∧ sp_nx (sp_suits V P c) (st.2 c) (V 0 9).toNat ≠ -1
    · have ih := sp_mu_r (P := P) h8 h9 r (c + 1) (sp_sc V P c st) 1 (by omega) hw2 (Or.inr rfl)
      have hb := sp_nx_b (sp_suits V P c) (st.2 c) (V 0 9).toNat
      obtain ⟨m, hm⟩ : ∃ m : Nat, sp_nx (sp_suits V P c) (st.2 c) (V 0 9).toNat = (m : Int) := ⟨(sp_nx (sp_suits V P c) (st.2 c) (V 0 9).toNat).toNat, by omega⟩
      have hms : sp_ms (sp_suits V P c) (st.2 c) (V 0 9).toNat = (m : Int) := by
        have h := hm
        unfold sp_nx at h
        split at h
        · omega
        · exact h
      have ht := sp_ms_t _ _ _ m hms
      have e := sp_mu_a h8 h9 (c := c) (m := m) (by omega) (by omega) (hw c (by omega)).2 ht
      rw [if_pos q]
      have es : (sp_sc V P c st).2 = sp_a1 c m st.2 := by rw [sp_sc_1 q.1 hm]
      rw [es] at ih
      omega
    · rw [if_neg q]
      have es : sp_sc V P c st = st := if_neg q
      rw [es]
      exact sp_mu_r (P := P) h8 h9 r (c + 1) st f (by omega) hw hf
def sp_mst (V : mv_M) (row : Nat → Int) (ask : Nat → Nat) (M : mv_M) : Prop := (∀ c : Nat, (c : Int) < V 0 8 → M 140 c = row c) ∧ ∀ c : Nat, (c : Int) < V 0 8 → M 141 c = (ask c : Int)
theorem sp_mrd {V M0 : mv_M} {P : Nat → Nat → List Int} {n : Int} {d : Nat} {Q : mv_M → Prop} (hm : sp_m M0 V) (ho : sp_ok V) (hl : V 0 11 < n) (hP : sp_mts M0 P n) (ht : sp_tmm V P M0) :
    ∀ (r c : Nat) (M : mv_M) (st : (Nat → Int) × (Nat → Nat)) (f : Int) (l3 : mv_V), (c : Int) + r = V 0 8 → mv_ag [130, 131, 140, 141] M0 M → sp_mst V st.1 st.2 M → sp_wfs V st.1 st.2 → (f = 0 ∨ f = 1) → mv_isL l3 = false →
      (∀ (M2 : mv_M) (l3 : mv_V), mv_ag [130, 131, 140, 141] M0 M2 → sp_mst V (sp_rn V P r c st).1 (sp_rn V P r c st).2 M2 → mv_isL l3 = false → mv_Ru (d + 6) 163 109 [mv_R 100, mv_I (sp_rf V P r c st f), mv_I (V 0 8), l3] [] M2 mv_U Q) → mv_Ru (d + 6) 163 44 [mv_R 100, mv_I f, mv_I (c : Int), l3] [] M mv_U Q := by
  have h8 := sp_ok_s8 ho
  have h9 := sp_ok_s9 ho
  intro r
  induction r with
  | zero =>
    intro c M st f l3 hk hag hst hw hf h3 e
    have e8 : M 100 0 = (c : Int) := by rw [hag 100 (by decide), sp_m_s8 hm]; omega
    have hq := e M l3 hag hst h3
    rw [show V 0 8 = (c : Int) from by omega] at hq
    refine mv_go' 3 (pc' := 49) (ls' := [mv_R 100, mv_I f, mv_I (c : Int), l3]) (st' := [mv_I (M 100 0), mv_I (c : Int)]) (M1 := M) rfl ?_
    rw [show M 100 0 = (c : Int) from by exact e8]
    refine mv_go' 1 (pc' := if (c : Int) < (c : Int) then 52 else 109) (ls' := [mv_R 100, mv_I f, mv_I (c : Int), l3]) (st' := []) (M1 := M) rfl ?_
    refine mv_ff' (by omega) ?_
    exact hq
  | succ r ih =>
    intro c M st f l3 hk hag hst hw hf h3 e
    have e8 : M 100 0 = V 0 8 := by rw [hag 100 (by decide), sp_m_s8 hm]
    have e9 : M 100 1 = V 0 9 := by rw [hag 100 (by decide), sp_m_s9 hm]
    have hcc : (c : Int) < V 0 8 := by omega
    have e140 := hst.1 c hcc
    have e141 := hst.2 c hcc
    have ht2 := sp_tmm_ag ht hag (by decide)
    rw [sp_rn, sp_rf] at e
    by_cases hr : st.1 c = -1
    · have hb := sp_nx_b (sp_suits V P c) (st.2 c) (V 0 9).toNat
      have hcall := sp_masn e9 ho ht2 hcc (hw c hcc).2 e141
      by_cases hn : sp_nx (sp_suits V P c) (st.2 c) (V 0 9).toNat = -1
      · rw [sp_sc_0 (fun _ => hn), if_neg (fun q => q.2 hn)] at e
        rw [hn] at hcall
        refine mv_go' 3 (pc' := 49) (ls' := [mv_R 100, mv_I f, mv_I (c : Int), l3]) (st' := [mv_I (M 100 0), mv_I (c : Int)]) (M1 := M) rfl ?_
        rw [show M 100 0 = V 0 8 from by exact e8]
        refine mv_go' 1 (pc' := if (c : Int) < (V 0 8) then 52 else 109) (ls' := [mv_R 100, mv_I f, mv_I (c : Int), l3]) (st' := []) (M1 := M) rfl ?_
        refine mv_tt' (by omega) ?_
        refine mv_go' 4 (pc' := if 0 ≤ (c : Int) ∧ (c : Int) < 6 then 58 else mv_bad) (ls' := [mv_R 100, mv_I f, mv_I (c : Int), l3]) (st' := [mv_I (M 140 c)]) (M1 := M) rfl ?_
        refine mv_tt' (by omega) ?_
        rw [show M 140 c = -1 from by rw [e140]; exact hr]
        refine mv_go' 2 (pc' := if (-1) = (-1) then 62 else 70) (ls' := [mv_R 100, mv_I f, mv_I (c : Int), l3]) (st' := []) (M1 := M) rfl ?_
        refine mv_tt' (by first | decide | omega) ?_
        refine mv_go' 2 (pc' := 64) (ls' := [mv_R 100, mv_I f, mv_I (c : Int), l3]) (st' := [mv_I (c : Int), mv_R 100]) (M1 := M) rfl ?_
        refine mv_callP (st2 := [mv_I (-1)]) rfl (Or.inl rfl) rfl rfl rfl (hcall) (by first | decide | omega) ?_
        refine mv_go' 5 (pc' := if (-1) = (-1) then 103 else 77) (ls' := [mv_R 100, mv_I f, mv_I (c : Int), mv_I (-1)]) (st' := []) (M1 := M) rfl ?_
        refine mv_tt' (by first | decide | omega) ?_
        refine mv_go' 2 (pc' := 44) (ls' := [mv_R 100, mv_I f, mv_I (mv_w ((c : Int) + 1)), mv_I (-1)]) (st' := []) (M1 := M) rfl ?_
        rw [show mv_w ((c : Int) + 1) = (c : Int) + 1 from mv_w_id (by omega) (by omega)]
        rw [show (c : Int) + 1 = ((c + 1 : Nat) : Int) from by omega]
        exact ih (c + 1) _ st f _ (by omega) hag hst hw hf rfl e
      · obtain ⟨m, hm2⟩ : ∃ m : Nat, sp_nx (sp_suits V P c) (st.2 c) (V 0 9).toNat = (m : Int) := ⟨(sp_nx (sp_suits V P c) (st.2 c) (V 0 9).toNat).toNat, by omega⟩
        rw [sp_sc_1 hr hm2, if_pos ⟨hr, hn⟩] at e
        rw [hm2] at hcall
        have hw2 : sp_wfs V (sp_r1 V P c m st.1) (sp_a1 c m st.2) := sp_wfs_1 hw h9.2 hcc (by omega)
        have ha := (hw c hcc).2
        have hor := (mv_sor ha (show m < 6 by omega)).1
        obtain ⟨a, eA⟩ : ∃ a, a = st.2 c := ⟨_, rfl⟩
        rw [← eA] at hor e141
        refine mv_go' 3 (pc' := 49) (ls' := [mv_R 100, mv_I f, mv_I (c : Int), l3]) (st' := [mv_I (M 100 0), mv_I (c : Int)]) (M1 := M) rfl ?_
        rw [show M 100 0 = V 0 8 from by exact e8]
        refine mv_go' 1 (pc' := if (c : Int) < (V 0 8) then 52 else 109) (ls' := [mv_R 100, mv_I f, mv_I (c : Int), l3]) (st' := []) (M1 := M) rfl ?_
        refine mv_tt' (by omega) ?_
        refine mv_go' 4 (pc' := if 0 ≤ (c : Int) ∧ (c : Int) < 6 then 58 else mv_bad) (ls' := [mv_R 100, mv_I f, mv_I (c : Int), l3]) (st' := [mv_I (M 140 c)]) (M1 := M) rfl ?_
        refine mv_tt' (by omega) ?_
        rw [show M 140 c = -1 from by rw [e140]; exact hr]
        refine mv_go' 2 (pc' := if (-1) = (-1) then 62 else 70) (ls' := [mv_R 100, mv_I f, mv_I (c : Int), l3]) (st' := []) (M1 := M) rfl ?_
        refine mv_tt' (by first | decide | omega) ?_
        refine mv_go' 2 (pc' := 64) (ls' := [mv_R 100, mv_I f, mv_I (c : Int), l3]) (st' := [mv_I (c : Int), mv_R 100]) (M1 := M) rfl ?_
        refine mv_callP (st2 := [mv_I (m : Int)]) rfl (Or.inl rfl) rfl rfl rfl (hcall) (by first | decide | omega) ?_
        refine mv_go' 5 (pc' := if (m : Int) = (-1) then 103 else 77) (ls' := [mv_R 100, mv_I f, mv_I (c : Int), mv_I (m : Int)]) (st' := []) (M1 := M) rfl ?_
        refine mv_ff' (by omega) ?_
        refine mv_go' 7 (pc' := if 0 ≤ (c : Int) ∧ (c : Int) < 6 then 86 else mv_bad) (ls' := [mv_R 100, mv_I 1, mv_I (c : Int), mv_I (m : Int)]) (st' := [mv_I (M 141 c), mv_I (c : Int), mv_R 141]) (M1 := M) rfl ?_
        refine mv_tt' (by omega) ?_
        rw [show M 141 c = (a : Int) from by exact e141]
        refine mv_go' 4 (pc' := 90) (ls' := [mv_R 100, mv_I 1, mv_I (c : Int), mv_I (m : Int)]) (st' := [mv_I (mv_or (a : Int) (mv_shl 1 (m : Int))), mv_I (c : Int), mv_R 141]) (M1 := M) rfl ?_
        rw [show mv_or (a : Int) (mv_shl 1 (m : Int)) = ((a ||| 1 <<< m : Nat) : Int) from by exact hor]
        refine mv_go' 1 (pc' := if 0 ≤ (c : Int) ∧ (c : Int) < 6 then 91 else mv_bad) (ls' := [mv_R 100, mv_I 1, mv_I (c : Int), mv_I (m : Int)]) (st' := []) (M1 := (mv_st M 141 (mv_up (M 141) c ((a ||| 1 <<< m : Nat) : Int)))) rfl ?_
        refine mv_tt' (by omega) ?_
        refine mv_go' 5 (pc' := if 0 ≤ (c : Int) ∧ (c : Int) < 6 then 98 else mv_bad) (ls' := [mv_R 100, mv_I 1, mv_I (c : Int), mv_I (m : Int)]) (st' := []) (M1 := (mv_st (mv_st M 141 (mv_up (M 141) c ((a ||| 1 <<< m : Nat) : Int))) 140 (mv_up (M 140) c (m : Int)))) rfl ?_
        refine mv_tt' (by omega) ?_
        have hagX : mv_ag [130, 131, 140, 141] M0 (mv_st (mv_st M 141 (mv_up (M 141) c ((a ||| 1 <<< m : Nat) : Int))) 140 (mv_up (M 140) c (m : Int))) := (hag.st (by decide)).st (by decide)
        have hlg := sp_mlg (d := d) (M0 := (mv_st (mv_st M 141 (mv_up (M 141) c ((a ||| 1 <<< m : Nat) : Int))) 140 (mv_up (M 140) c (m : Int)))) (row := mv_up st.1 c (m : Int)) (u := m) (one := c) (sp_m_ag2 hm hagX (by decide)) ho hl (sp_mts_ag hP hagX (by decide)) (sp_tmm_ag ht hagX (by decide)) (by omega) (fun j hj => sp_up_c (hst.1 j hj)) hcc (mv_up_s _ _ _)
        refine mv_go' 2 (pc' := 100) (ls' := [mv_R 100, mv_I 1, mv_I (c : Int), mv_I (m : Int)]) (st' := [mv_I (m : Int), mv_R 100]) (M1 := (mv_st (mv_st M 141 (mv_up (M 141) c ((a ||| 1 <<< m : Nat) : Int))) 140 (mv_up (M 140) c (m : Int)))) rfl ?_
        refine mv_call (st2 := []) rfl (Or.inl rfl) rfl rfl rfl (hlg) (by first | decide | omega) (fun Ma1 hm2 => ?_)
        have hx := hm2
        refine mv_go' 2 (pc' := 44) (ls' := [mv_R 100, mv_I 1, mv_I (mv_w ((c : Int) + 1)), mv_I (m : Int)]) (st' := []) (M1 := Ma1) rfl ?_
        rw [show mv_w ((c : Int) + 1) = (c : Int) + 1 from mv_w_id (by omega) (by omega)]
        rw [show (c : Int) + 1 = ((c + 1 : Nat) : Int) from by omega]
        refine ih (c + 1) _ (sp_r1 V P c m st.1, sp_a1 c m st.2) 1 _ (by omega) (hagX.tr (hx.1.wd (by decide))) ⟨hx.2, fun j hj => ?_⟩ hw2 (Or.inr rfl) rfl e
        rw [hx.1 141 (by decide)]
        show mv_up (M 141) c _ j = _
        unfold sp_a1
        by_cases q : j = c
        · rw [q, mv_up_s]
          show _ = ((if c = c then st.2 c ||| 1 <<< m else st.2 c : Nat) : Int)
          rw [if_pos rfl, ← eA]
        · rw [mv_up_n _ _ q]
          show _ = ((if j = c then st.2 c ||| 1 <<< m else st.2 j : Nat) : Int)
          rw [if_neg q]; exact hst.2 j hj
    · rw [sp_sc_0 (fun q => absurd q hr), if_neg (fun q => hr q.1)] at e
      refine mv_go' 3 (pc' := 49) (ls' := [mv_R 100, mv_I f, mv_I (c : Int), l3]) (st' := [mv_I (M 100 0), mv_I (c : Int)]) (M1 := M) rfl ?_
      rw [show M 100 0 = V 0 8 from by exact e8]
      refine mv_go' 1 (pc' := if (c : Int) < (V 0 8) then 52 else 109) (ls' := [mv_R 100, mv_I f, mv_I (c : Int), l3]) (st' := []) (M1 := M) rfl ?_
      refine mv_tt' (by omega) ?_
      refine mv_go' 4 (pc' := if 0 ≤ (c : Int) ∧ (c : Int) < 6 then 58 else mv_bad) (ls' := [mv_R 100, mv_I f, mv_I (c : Int), l3]) (st' := [mv_I (M 140 c)]) (M1 := M) rfl ?_
      refine mv_tt' (by omega) ?_
      rw [show M 140 c = st.1 c from by exact e140]
      refine mv_go' 2 (pc' := if (st.1 c) = (-1) then 62 else 70) (ls' := [mv_R 100, mv_I f, mv_I (c : Int), l3]) (st' := []) (M1 := M) rfl ?_
      refine mv_ff' (by omega) ?_
      refine mv_go' 5 (pc' := if (-1) = (-1) then 103 else 77) (ls' := [mv_R 100, mv_I f, mv_I (c : Int), mv_I (-1)]) (st' := []) (M1 := M) rfl ?_
      refine mv_tt' (by first | decide | omega) ?_
      refine mv_go' 2 (pc' := 44) (ls' := [mv_R 100, mv_I f, mv_I (mv_w ((c : Int) + 1)), mv_I (-1)]) (st' := []) (M1 := M) rfl ?_
      rw [show mv_w ((c : Int) + 1) = (c : Int) + 1 from mv_w_id (by omega) (by omega)]
      rw [show (c : Int) + 1 = ((c + 1 : Nat) : Int) from by omega]
      exact ih (c + 1) _ st f _ (by omega) hag hst hw hf rfl e
theorem sp_mgo {V M0 : mv_M} {P : Nat → Nat → List Int} {n : Int} {d : Nat} (hm : sp_m M0 V) (ho : sp_ok V) (hl : V 0 11 < n) (hP : sp_mts M0 P n) (ht : sp_tmm V P M0) :
    ∀ (r : Nat) (M : mv_M) (st : (Nat → Int) × (Nat → Nat)) (l2 l3 : mv_V), 36 < sp_mu V st.2 + r → mv_ag [130, 131, 140, 141] M0 M → sp_mst V st.1 st.2 M → sp_wfs V st.1 st.2 → mv_isL l2 = false → mv_isL l3 = false →
      mv_Ru (d + 6) 163 36 [mv_R 100, mv_I 1, l2, l3] [] M mv_U (fun M1 => mv_ag [130, 131, 140, 141] M0 M1 ∧ sp_mst V (sp_gs V P r st).1 (sp_gs V P r st).2 M1) := by
  have h8 := sp_ok_s8 ho
  have h9 := sp_ok_s9 ho
  intro r
  induction r with
  | zero =>
    intro M st l2 l3 hk hag hst hw h2 h3
    have := sp_mu_b (V := V) st.2 h8 h9
    omega
  | succ r ih =>
    intro M st l2 l3 hk hag hst hw h2 h3
    have hfb := sp_rf_b V P (V 0 8).toNat 0 st 0 (Or.inl rfl)
    have hmu := sp_mu_r (P := P) h8 h9 (V 0 8).toNat 0 st 0 (by omega) hw (Or.inl rfl)
    refine mv_go' 2 (pc' := if 1 = 0 then 112 else 40) (ls' := [mv_R 100, mv_I 1, l2, l3]) (st' := []) (M1 := M) rfl ?_
    refine mv_ff' (by decide) ?_
    refine mv_go' 4 (pc' := 44) (ls' := [mv_R 100, mv_I 0, mv_I 0, l3]) (st' := []) (M1 := M) rfl ?_
    refine sp_mrd (d := d) hm ho hl hP ht (V 0 8).toNat 0 M st 0 l3 (by omega) hag hst hw (Or.inl rfl) h3 (fun M2 l3 q1 q2 h3 => ?_)
    refine mv_go' 1 (pc' := 36) (ls' := [mv_R 100, mv_I (sp_rf V P (V 0 8).toNat 0 st 0), mv_I (V 0 8), l3]) (st' := []) (M1 := M2) rfl ?_
    rw [sp_gs]
    have hw2 := sp_wfs_rn (P := P) h9 (V 0 8).toNat 0 st (by omega) hw
    by_cases q : sp_rf V P (V 0 8).toNat 0 st 0 = 1
    · rw [if_pos q, q]
      exact ih M2 _ _ _ (by omega) q1 q2 hw2 rfl h3
    · rw [if_neg q, show sp_rf V P (V 0 8).toNat 0 st 0 = 0 from by omega]
      refine mv_go' 2 (pc' := if 0 = 0 then 112 else 40) (ls' := [mv_R 100, mv_I 0, mv_I (V 0 8), l3]) (st' := []) (M1 := M2) rfl ?_
      refine mv_tt' (by rfl) ?_
      exact mv_ret (fun n => rfl) ⟨q1, q2⟩
