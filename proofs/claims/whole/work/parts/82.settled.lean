/-! settled: the call -/
def sp_s0 : (Nat → Int) × (Nat → Nat) := (fun _ => -1, fun _ => 0)
theorem sp_wfs_0 {V : mv_M} (h9 : 0 ≤ V 0 9) : sp_wfs V sp_s0.1 sp_s0.2 := fun c hc => ⟨⟨Int.le_refl _, by show (-1 : Int) < V 0 9; omega⟩, (show (0 : Nat) < 64 by decide)⟩
theorem sp_wfs_gs {V : mv_M} {P : Nat → Nat → List Int} (h8 : 0 ≤ V 0 8) (h9 : 0 ≤ V 0 9 ∧ V 0 9 ≤ 6) : ∀ (r : Nat) (st : (Nat → Int) × (Nat → Nat)), sp_wfs V st.1 st.2 → sp_wfs V (sp_gs V P r st).1 (sp_gs V P r st).2
  | 0, _, h => h
  | r + 1, st, h => by
    have h2 := sp_wfs_rn (P := P) h9 (V 0 8).toNat 0 st (by omega) h
    rw [sp_gs]
    split
    · exact sp_wfs_gs h8 h9 r _ h2
    · exact h2
theorem sp_cn_0 (u : Nat) : ∀ n : Nat, sp_cn (fun _ => -1) (u : Int) n = 0
  | 0 => rfl
  | n + 1 => by
    rw [sp_cn_s, sp_cn_0 u n, if_neg (show ¬ ((-1 : Int) = (u : Int)) by omega)]
    rfl
def sp_sd (V : mv_M) (P : Nat → Nat → List Int) (c : Nat) : Int := (sp_gs V P 37 sp_s0).1 c
theorem sp_sd_b {V : mv_M} (P : Nat → Nat → List Int) (h8 : 0 ≤ V 0 8) (h9 : 0 ≤ V 0 9 ∧ V 0 9 ≤ 6) {c : Nat} (hc : (c : Int) < V 0 8) : -1 ≤ sp_sd V P c ∧ sp_sd V P c < V 0 9 := (sp_wfs_gs (P := P) h8 h9 37 sp_s0 (sp_wfs_0 h9.1) c hc).1
theorem sp_csl {V M : mv_M} {P : Nat → Nat → List Int} (ho : sp_ok V) (ht : sp_tb V P M) (htl : sp_tl V P M) : mv_Ru 4 37 0 [mv_R 60, mv_U, mv_U, mv_U] [] M mv_U (fun M1 => mv_ag [64, 65, 66] M M1 ∧ ∀ c : Nat, (c : Int) < V 0 8 → M1 64 c = sp_sd V P c) := by
  have h8 := sp_ok_s8 ho
  have h9 := sp_ok_s9 ho
  refine mv_go' 3 (pc' := 5) (ls' := [mv_R 60, mv_U, mv_U, mv_U]) (st' := [mv_I (-1), mv_R 64]) (M1 := M) rfl ?_
  refine mv_call (st2 := []) rfl (Or.inr rfl) rfl rfl rfl (sp_fill_64) (by first | decide | omega) (fun Ma1 hm2 => ?_)
  have hx := hm2
  refine mv_go' 3 (pc' := 13) (ls' := [mv_R 60, mv_U, mv_U, mv_U]) (st' := [mv_I 0, mv_R 66]) (M1 := Ma1) rfl ?_
  refine mv_call (st2 := []) rfl (Or.inr rfl) rfl rfl rfl (sp_fill_66) (by first | decide | omega) (fun Ma3 hm4 => ?_)
  have hy := hm4
  refine mv_go' 3 (pc' := 21) (ls' := [mv_R 60, mv_U, mv_U, mv_U]) (st' := [mv_I 0, mv_R 65]) (M1 := Ma3) rfl ?_
  refine mv_call (st2 := []) rfl (Or.inr rfl) rfl rfl rfl (sp_fill_65) (by first | decide | omega) (fun Ma5 hm6 => ?_)
  have hz := hm6
  refine mv_go' 4 (pc' := 28) (ls' := [mv_R 60, mv_I 1, mv_I 0, mv_U]) (st' := []) (M1 := Ma5) rfl ?_
  have hag : mv_ag [64, 65, 66] M Ma5 := ((hx.1.wd (by decide)).tr (hy.1.wd (by decide))).tr (hz.1.wd (by decide))
  have htl2 : sp_tl V P Ma5 := by unfold sp_tl; rw [hag 62 (by decide)]; exact htl
  refine (sp_cgo (d := 1) (M0 := Ma5) ho (sp_tb_ag ht hag (by decide)) htl2 37 0 Ma5 sp_s0 mv_U (by omega) mv_ag.rf ⟨fun j hj => ?_, fun j hj => ?_, fun j hj => ?_⟩ (sp_wfs_0 h9.1) rfl).imp (fun M1 q => ⟨hag.tr q.1, q.2.1⟩)
  · rw [hz.1 64 (by decide), hy.1 64 (by decide)]; exact hx.2 j (by omega)
  · rw [show sp_cn sp_s0.1 (j : Int) (V 0 8).toNat = 0 from sp_cn_0 j _]; exact hz.2 j (by omega)
  · rw [hz.1 66 (by decide)]; exact hy.2 j (by omega)
theorem sp_msl1 {V M0 : mv_M} {d : Nat} {Q : mv_M → Prop} (ho : sp_ok V) (h8m : M0 100 0 = V 0 8) : ∀ (r k : Nat) (M : mv_M), (k : Int) + r = V 0 8 → mv_ag [140, 141] M0 M → (∀ j, j < k → M 140 j = -1 ∧ M 141 j = 0) →
    (∀ M2, mv_ag [140, 141] M0 M2 → (∀ j : Nat, (j : Int) < V 0 8 → M2 140 j = -1 ∧ M2 141 j = 0) → mv_Ru d 163 34 [mv_R 100, mv_I (V 0 8), mv_U, mv_U] [] M2 mv_U Q) → mv_Ru d 163 6 [mv_R 100, mv_I (k : Int), mv_U, mv_U] [] M mv_U Q := by
  have h8 := sp_ok_s8 ho
  intro r
  induction r with
  | zero =>
    intro k M hk hag hj e
    have e8 : M 100 0 = (k : Int) := by rw [hag 100 (by decide), h8m]; omega
    have hq := e M hag (fun j hj2 => hj j (by omega))
    rw [show V 0 8 = (k : Int) from by omega] at hq
    refine mv_go' 3 (pc' := 11) (ls' := [mv_R 100, mv_I (k : Int), mv_U, mv_U]) (st' := [mv_I (M 100 0), mv_I (k : Int)]) (M1 := M) rfl ?_
    rw [show M 100 0 = (k : Int) from by exact e8]
    refine mv_go' 1 (pc' := if (k : Int) < (k : Int) then 14 else 34) (ls' := [mv_R 100, mv_I (k : Int), mv_U, mv_U]) (st' := []) (M1 := M) rfl ?_
    refine mv_ff' (by omega) ?_
    exact hq
  | succ r ih =>
    intro k M hk hag hj e
    have e8 : M 100 0 = V 0 8 := by rw [hag 100 (by decide), h8m]
    refine mv_go' 3 (pc' := 11) (ls' := [mv_R 100, mv_I (k : Int), mv_U, mv_U]) (st' := [mv_I (M 100 0), mv_I (k : Int)]) (M1 := M) rfl ?_
    rw [show M 100 0 = V 0 8 from by exact e8]
    refine mv_go' 1 (pc' := if (k : Int) < (V 0 8) then 14 else 34) (ls' := [mv_R 100, mv_I (k : Int), mv_U, mv_U]) (st' := []) (M1 := M) rfl ?_
    refine mv_tt' (by omega) ?_
    refine mv_go' 5 (pc' := if 0 ≤ (k : Int) ∧ (k : Int) < 6 then 21 else mv_bad) (ls' := [mv_R 100, mv_I (k : Int), mv_U, mv_U]) (st' := []) (M1 := (mv_st M 140 (mv_up (M 140) k (-1)))) rfl ?_
    refine mv_tt' (by omega) ?_
    refine mv_go' 5 (pc' := if 0 ≤ (k : Int) ∧ (k : Int) < 6 then 28 else mv_bad) (ls' := [mv_R 100, mv_I (k : Int), mv_U, mv_U]) (st' := []) (M1 := (mv_st (mv_st M 140 (mv_up (M 140) k (-1))) 141 (mv_up (M 141) k 0))) rfl ?_
    refine mv_tt' (by omega) ?_
    refine mv_go' 2 (pc' := 6) (ls' := [mv_R 100, mv_I (mv_w ((k : Int) + 1)), mv_U, mv_U]) (st' := []) (M1 := (mv_st (mv_st M 140 (mv_up (M 140) k (-1))) 141 (mv_up (M 141) k 0))) rfl ?_
    rw [show mv_w ((k : Int) + 1) = ((k + 1 : Nat) : Int) from by (rw [show mv_w ((k : Int) + 1) = (k : Int) + 1 from mv_w_id (by omega) (by omega)]) <;> omega]
    refine ih (k + 1) _ (by omega) ((hag.st (by decide)).st (by decide)) (fun j hj2 => ?_) e
    show mv_up (M 140) k (-1) j = -1 ∧ mv_up (M 141) k 0 j = 0
    by_cases q : j = k
    · rw [q, mv_up_s, mv_up_s]; exact ⟨rfl, rfl⟩
    · rw [mv_up_n _ _ q, mv_up_n _ _ q]; exact hj j (by omega)
theorem sp_msl {V M : mv_M} {P : Nat → Nat → List Int} {n : Int} (hm : sp_m M V) (ho : sp_ok V) (hl : V 0 11 < n) (hP : sp_mts M P n) : mv_Ru 12 163 0 [mv_R 100, mv_U, mv_U, mv_U] [] M mv_U (fun M1 => mv_ag [130, 131, 133, 134, 140, 141] M M1 ∧ sp_tmm V P M1 ∧ ∀ c : Nat, (c : Int) < V 0 8 → M1 140 c = sp_sd V P c) := by
  have h8 := sp_ok_s8 ho
  have h9 := sp_ok_s9 ho
  refine mv_go' 1 (pc' := 1) (ls' := [mv_R 100, mv_U, mv_U, mv_U]) (st' := [mv_R 100]) (M1 := M) rfl ?_
  refine mv_call (st2 := []) rfl (Or.inl rfl) rfl rfl rfl (sp_mrs hm ho hl hP) (by first | decide | omega) (fun Ma7 hm8 => ?_)
  have hx := hm8
  have hm2 := sp_m_ag2 hm hx.1 (by decide)
  refine mv_go' 2 (pc' := 6) (ls' := [mv_R 100, mv_I 0, mv_U, mv_U]) (st' := []) (M1 := Ma7) rfl ?_
  refine sp_msl1 (M0 := Ma7) ho (sp_m_s8 hm2) (V 0 8).toNat 0 Ma7 (by omega) mv_ag.rf (fun j hj => absurd hj (by omega)) (fun M2 q1 q2 => ?_)
  refine mv_go' 2 (pc' := 36) (ls' := [mv_R 100, mv_I 1, mv_U, mv_U]) (st' := []) (M1 := M2) rfl ?_
  have hag : mv_ag [130, 131, 133, 134, 140, 141] M M2 := (hx.1.wd (by decide)).tr (q1.wd (by decide))
  have ht2 := sp_tmm_ag hx.2 q1 (by decide)
  have hmb := sp_mu_b (V := V) sp_s0.2 h8 h9
  refine (sp_mgo (d := 6) (M0 := M2) (sp_m_ag2 hm hag (by decide)) ho hl (sp_mts_ag hP hag (by decide)) ht2 37 M2 sp_s0 mv_U mv_U (by omega) mv_ag.rf ⟨fun j hj => (q2 j hj).1, fun j hj => (q2 j hj).2⟩ (sp_wfs_0 h9.1) rfl rfl).imp (fun M1 q => ⟨hag.tr (q.1.wd (by decide)), sp_tmm_ag ht2 q.1 (by decide), q.2.1⟩)
theorem sp_msd {V M : mv_M} {P : Nat → Nat → List Int} {D : Nat → Int} {w : Int} {d : Nat} {Q : mv_V → mv_M → Prop} (ho : sp_ok V) (h100 : M 100 0 = V 0 8) (ht : sp_tmm V P M) (hD : ∀ j : Nat, (j : Int) < V 0 8 → M 140 j = D j ∧ -1 ≤ D j ∧ D j < V 0 9)
    (hQ : mv_W (d + 2) 164 118 [mv_R 100, mv_I w, mv_I (sp_rd D (V 0 8).toNat), mv_I (sp_rs (sp_suits V P) D (V 0 8).toNat), mv_I (sp_ra D (V 0 8).toNat), mv_I (V 0 8)] [] M Q) :
    ∀ (r c : Nat), (c : Int) + r = V 0 8 → mv_W (d + 2) 164 26 [mv_R 100, mv_I w, mv_I (sp_rd D c), mv_I (sp_rs (sp_suits V P) D c), mv_I (sp_ra D c), mv_I (c : Int)] [] M Q := by
  have h8 := sp_ok_s8 ho
  have h9 := sp_ok_s9 ho
  intro r
  induction r with
  | zero =>
    intro c hk
    have e8 : M 100 0 = (c : Int) := by rw [h100]; omega
    rw [show V 0 8 = (c : Int) from by omega, Int.toNat_natCast] at hQ
    refine mv_goW 3 (pc' := 32) (ls' := [mv_R 100, mv_I w, mv_I (sp_rd D c), mv_I (sp_rs (sp_suits V P) D c), mv_I (sp_ra D c), mv_I (c : Int)]) (st' := [mv_I (M 100 0), mv_I (c : Int)]) (M1 := M) rfl ?_
    rw [show M 100 0 = (c : Int) from by exact e8]
    refine mv_goW 1 (pc' := if (c : Int) < (c : Int) then 35 else 118) (ls' := [mv_R 100, mv_I w, mv_I (sp_rd D c), mv_I (sp_rs (sp_suits V P) D c), mv_I (sp_ra D c), mv_I (c : Int)]) (st' := []) (M1 := M) rfl ?_
    refine mv_ffW (by omega) ?_
    exact hQ
  | succ r ih =>
    intro c hk
    have hb := sp_rs_b (P := P) ho D c (fun j hj => (hD j (by omega)).2)
    have hb2 := sp_rd_b D c (fun j hj => by have := hD j (by omega); omega)
    have hb3 := sp_ra_b D c
    have ht6 := sp_t6_b c (by omega)
    have hDc := hD c (by omega)
    by_cases hd0 : D c = -1
    · refine mv_goW 3 (pc' := 32) (ls' := [mv_R 100, mv_I w, mv_I (sp_rd D c), mv_I (sp_rs (sp_suits V P) D c), mv_I (sp_ra D c), mv_I (c : Int)]) (st' := [mv_I (M 100 0), mv_I (c : Int)]) (M1 := M) rfl ?_
      rw [show M 100 0 = V 0 8 from by exact h100]
      refine mv_goW 1 (pc' := if (c : Int) < (V 0 8) then 35 else 118) (ls' := [mv_R 100, mv_I w, mv_I (sp_rd D c), mv_I (sp_rs (sp_suits V P) D c), mv_I (sp_ra D c), mv_I (c : Int)]) (st' := []) (M1 := M) rfl ?_
      refine mv_ttW (by omega) ?_
      refine mv_goW 7 (pc' := if 0 ≤ (c : Int) ∧ (c : Int) < 6 then 46 else mv_bad) (ls' := [mv_R 100, mv_I w, mv_I (sp_rd D c), mv_I (sp_rs (sp_suits V P) D c), mv_I (sp_ra D c), mv_I (c : Int)]) (st' := [mv_I (M 140 c), mv_I (mv_w (10 * (sp_rd D c)))]) (M1 := M) rfl ?_
      refine mv_ttW (by omega) ?_
      rw [show M 140 c = D c from by exact hDc.1]
      refine mv_goW 9 (pc' := if 0 ≤ (c : Int) ∧ (c : Int) < 6 then 58 else mv_bad) (ls' := [mv_R 100, mv_I w, mv_I (mv_w ((mv_w ((mv_w (10 * (sp_rd D c))) + (D c))) + 1)), mv_I (sp_rs (sp_suits V P) D c), mv_I (sp_ra D c), mv_I (c : Int)]) (st' := [mv_I (M 140 c), mv_I (sp_rs (sp_suits V P) D c)]) (M1 := M) rfl ?_
      refine mv_ttW (by omega) ?_
      rw [show M 140 c = D c from by exact hDc.1]
      refine mv_goW 2 (pc' := if (D c) = (-1) then 62 else 66) (ls' := [mv_R 100, mv_I w, mv_I (mv_w ((mv_w ((mv_w (10 * (sp_rd D c))) + (D c))) + 1)), mv_I (sp_rs (sp_suits V P) D c), mv_I (sp_ra D c), mv_I (c : Int)]) (st' := [mv_I (sp_rs (sp_suits V P) D c)]) (M1 := M) rfl ?_
      rw [show mv_w (10 * (sp_rd D c)) = 10 * (sp_rd D c) from mv_w_id (by omega) (by omega)]
      rw [show mv_w ((10 * (sp_rd D c)) + (D c)) = (10 * (sp_rd D c)) + (D c) from mv_w_id (by omega) (by omega)]
      rw [show mv_w (((10 * (sp_rd D c)) + (D c)) + 1) = ((10 * (sp_rd D c)) + (D c)) + 1 from mv_w_id (by omega) (by omega)]
      refine mv_ttW (by omega) ?_
      refine mv_goW 9 (pc' := if 0 ≤ (c : Int) ∧ (c : Int) < 6 then 100 else mv_bad) (ls' := [mv_R 100, mv_I w, mv_I (((10 * (sp_rd D c)) + (D c)) + 1), mv_I (mv_w ((sp_rs (sp_suits V P) D c) + 0)), mv_I (sp_ra D c), mv_I (c : Int)]) (st' := [mv_I (M 140 c), mv_I (sp_ra D c)]) (M1 := M) rfl ?_
      refine mv_ttW (by omega) ?_
      rw [show M 140 c = D c from by exact hDc.1]
      refine mv_goW 2 (pc' := if (D c) = (-1) then 104 else 108) (ls' := [mv_R 100, mv_I w, mv_I (((10 * (sp_rd D c)) + (D c)) + 1), mv_I (mv_w ((sp_rs (sp_suits V P) D c) + 0)), mv_I (sp_ra D c), mv_I (c : Int)]) (st' := [mv_I (sp_ra D c)]) (M1 := M) rfl ?_
      rw [show mv_w ((sp_rs (sp_suits V P) D c) + 0) = (sp_rs (sp_suits V P) D c) + 0 from mv_w_id (by omega) (by omega)]
      refine mv_ttW (by omega) ?_
      refine mv_goW 6 (pc' := 26) (ls' := [mv_R 100, mv_I w, mv_I (((10 * (sp_rd D c)) + (D c)) + 1), mv_I ((sp_rs (sp_suits V P) D c) + 0), mv_I (mv_w ((sp_ra D c) + 0)), mv_I (mv_w ((c : Int) + 1))]) (st' := []) (M1 := M) rfl ?_
      rw [show mv_w ((sp_ra D c) + 0) = (sp_ra D c) + 0 from mv_w_id (by omega) (by omega)]
      rw [show mv_w ((c : Int) + 1) = (c : Int) + 1 from mv_w_id (by omega) (by omega)]
      rw [show (c : Int) + 1 = ((c + 1 : Nat) : Int) from by omega]
      refine mv_eqsW (ls2 := [mv_R 100, mv_I w, mv_I (sp_rd D (c + 1)), mv_I (sp_rs (sp_suits V P) D (c + 1)), mv_I (sp_ra D (c + 1)), mv_I ((c + 1 : Nat) : Int)]) (by rw [show ((10 * (sp_rd D c)) + (D c)) + 1 = sp_rd D (c + 1) from by simp only [sp_rd] <;> omega, show (sp_rs (sp_suits V P) D c) + 0 = sp_rs (sp_suits V P) D (c + 1) from by simp only [sp_rs]; first | (rw [if_pos hd0] <;> omega) | (rw [if_neg hd0, hd, Int.toNat_natCast]), show (sp_ra D c) + 0 = sp_ra D (c + 1) from by simp only [sp_ra]; first | (rw [if_pos hd0] <;> omega) | rw [if_neg hd0]]) rfl rfl (ih (c + 1) (by omega))
    · obtain ⟨dn, hd⟩ : ∃ x : Nat, D c = (x : Int) := ⟨(D c).toNat, by omega⟩
      have hs := sp_suits_b P ho c (u := dn) (by omega)
      have hr := ht.2 c dn (by omega) (by omega)
      refine mv_goW 3 (pc' := 32) (ls' := [mv_R 100, mv_I w, mv_I (sp_rd D c), mv_I (sp_rs (sp_suits V P) D c), mv_I (sp_ra D c), mv_I (c : Int)]) (st' := [mv_I (M 100 0), mv_I (c : Int)]) (M1 := M) rfl ?_
      rw [show M 100 0 = V 0 8 from by exact h100]
      refine mv_goW 1 (pc' := if (c : Int) < (V 0 8) then 35 else 118) (ls' := [mv_R 100, mv_I w, mv_I (sp_rd D c), mv_I (sp_rs (sp_suits V P) D c), mv_I (sp_ra D c), mv_I (c : Int)]) (st' := []) (M1 := M) rfl ?_
      refine mv_ttW (by omega) ?_
      refine mv_goW 7 (pc' := if 0 ≤ (c : Int) ∧ (c : Int) < 6 then 46 else mv_bad) (ls' := [mv_R 100, mv_I w, mv_I (sp_rd D c), mv_I (sp_rs (sp_suits V P) D c), mv_I (sp_ra D c), mv_I (c : Int)]) (st' := [mv_I (M 140 c), mv_I (mv_w (10 * (sp_rd D c)))]) (M1 := M) rfl ?_
      refine mv_ttW (by omega) ?_
      rw [show M 140 c = (dn : Int) from by rw [hDc.1]; exact hd]
      refine mv_goW 9 (pc' := if 0 ≤ (c : Int) ∧ (c : Int) < 6 then 58 else mv_bad) (ls' := [mv_R 100, mv_I w, mv_I (mv_w ((mv_w ((mv_w (10 * (sp_rd D c))) + (dn : Int))) + 1)), mv_I (sp_rs (sp_suits V P) D c), mv_I (sp_ra D c), mv_I (c : Int)]) (st' := [mv_I (M 140 c), mv_I (sp_rs (sp_suits V P) D c)]) (M1 := M) rfl ?_
      refine mv_ttW (by omega) ?_
      rw [show M 140 c = (dn : Int) from by rw [hDc.1]; exact hd]
      refine mv_goW 2 (pc' := if (dn : Int) = (-1) then 62 else 66) (ls' := [mv_R 100, mv_I w, mv_I (mv_w ((mv_w ((mv_w (10 * (sp_rd D c))) + (dn : Int))) + 1)), mv_I (sp_rs (sp_suits V P) D c), mv_I (sp_ra D c), mv_I (c : Int)]) (st' := [mv_I (sp_rs (sp_suits V P) D c)]) (M1 := M) rfl ?_
      rw [show mv_w (10 * (sp_rd D c)) = 10 * (sp_rd D c) from mv_w_id (by omega) (by omega)]
      rw [show mv_w ((10 * (sp_rd D c)) + (dn : Int)) = (10 * (sp_rd D c)) + (dn : Int) from mv_w_id (by omega) (by omega)]
      rw [show mv_w (((10 * (sp_rd D c)) + (dn : Int)) + 1) = ((10 * (sp_rd D c)) + (dn : Int)) + 1 from mv_w_id (by omega) (by omega)]
      refine mv_ffW (by omega) ?_
      refine mv_goW 9 (pc' := if 0 ≤ (c : Int) ∧ (c : Int) < 6 then 82 else mv_bad) (ls' := [mv_R 100, mv_I w, mv_I (((10 * (sp_rd D c)) + (dn : Int)) + 1), mv_I (sp_rs (sp_suits V P) D c), mv_I (sp_ra D c), mv_I (c : Int)]) (st' := [mv_I (M 140 c), mv_I (mv_w (6 * (c : Int))), mv_R 133, mv_I (sp_rs (sp_suits V P) D c)]) (M1 := M) rfl ?_
      refine mv_ttW (by omega) ?_
      rw [show M 140 c = (dn : Int) from by rw [hDc.1]; exact hd]
      refine mv_goW 2 (pc' := 84) (ls' := [mv_R 100, mv_I w, mv_I (((10 * (sp_rd D c)) + (dn : Int)) + 1), mv_I (sp_rs (sp_suits V P) D c), mv_I (sp_ra D c), mv_I (c : Int)]) (st' := [mv_I 5, mv_I 0, mv_I (dn : Int), mv_I (mv_w (6 * (c : Int))), mv_R 133, mv_I (sp_rs (sp_suits V P) D c)]) (M1 := M) rfl ?_
      rw [show mv_w (6 * (c : Int)) = 6 * (c : Int) from mv_w_id (by omega) (by omega)]
      rw [show 6 * (c : Int) = ((6 * c : Nat) : Int) from by omega]
      refine mv_callPW (st2 := [mv_I (dn : Int), mv_I ((6 * c : Nat) : Int), mv_R 133, mv_I (sp_rs (sp_suits V P) D c)]) rfl (Or.inr rfl) rfl rfl rfl ((mv_Ru.val sp_mwithin (congrArg mv_I (sp_cl_id (by omega) (by omega))))) (by first | decide | omega) ?_
      refine mv_goW 1 (pc' := 88) (ls' := [mv_R 100, mv_I w, mv_I (((10 * (sp_rd D c)) + (dn : Int)) + 1), mv_I (sp_rs (sp_suits V P) D c), mv_I (sp_ra D c), mv_I (c : Int)]) (st' := [mv_I (mv_w (((6 * c : Nat) : Int) + (dn : Int))), mv_R 133, mv_I (sp_rs (sp_suits V P) D c)]) (M1 := M) rfl ?_
      rw [show mv_w (((6 * c : Nat) : Int) + (dn : Int)) = ((6 * c + dn : Nat) : Int) from by (rw [show mv_w (((6 * c : Nat) : Int) + (dn : Int)) = ((6 * c : Nat) : Int) + (dn : Int) from mv_w_id (by omega) (by omega)]) <;> omega]
      refine mv_goW 1 (pc' := if 0 ≤ ((6 * c + dn : Nat) : Int) ∧ ((6 * c + dn : Nat) : Int) < 36 then 89 else mv_bad) (ls' := [mv_R 100, mv_I w, mv_I (((10 * (sp_rd D c)) + (dn : Int)) + 1), mv_I (sp_rs (sp_suits V P) D c), mv_I (sp_ra D c), mv_I (c : Int)]) (st' := [mv_I (M 133 (6 * c + dn)), mv_I (sp_rs (sp_suits V P) D c)]) (M1 := M) rfl ?_
      refine mv_ttW (by omega) ?_
      rw [show M 133 (6 * c + dn) = sp_suits V P c dn from by exact hr]
      refine mv_goW 7 (pc' := if 0 ≤ (c : Int) ∧ (c : Int) < 6 then 100 else mv_bad) (ls' := [mv_R 100, mv_I w, mv_I (((10 * (sp_rd D c)) + (dn : Int)) + 1), mv_I (mv_w ((sp_rs (sp_suits V P) D c) + (sp_suits V P c dn))), mv_I (sp_ra D c), mv_I (c : Int)]) (st' := [mv_I (M 140 c), mv_I (sp_ra D c)]) (M1 := M) rfl ?_
      refine mv_ttW (by omega) ?_
      rw [show M 140 c = (dn : Int) from by rw [hDc.1]; exact hd]
      refine mv_goW 2 (pc' := if (dn : Int) = (-1) then 104 else 108) (ls' := [mv_R 100, mv_I w, mv_I (((10 * (sp_rd D c)) + (dn : Int)) + 1), mv_I (mv_w ((sp_rs (sp_suits V P) D c) + (sp_suits V P c dn))), mv_I (sp_ra D c), mv_I (c : Int)]) (st' := [mv_I (sp_ra D c)]) (M1 := M) rfl ?_
      rw [show mv_w ((sp_rs (sp_suits V P) D c) + (sp_suits V P c dn)) = (sp_rs (sp_suits V P) D c) + (sp_suits V P c dn) from mv_w_id (by omega) (by omega)]
      refine mv_ffW (by omega) ?_
      refine mv_goW 5 (pc' := 26) (ls' := [mv_R 100, mv_I w, mv_I (((10 * (sp_rd D c)) + (dn : Int)) + 1), mv_I ((sp_rs (sp_suits V P) D c) + (sp_suits V P c dn)), mv_I (mv_w ((sp_ra D c) + 1)), mv_I (mv_w ((c : Int) + 1))]) (st' := []) (M1 := M) rfl ?_
      rw [show mv_w ((sp_ra D c) + 1) = (sp_ra D c) + 1 from mv_w_id (by omega) (by omega)]
      rw [show mv_w ((c : Int) + 1) = (c : Int) + 1 from mv_w_id (by omega) (by omega)]
      rw [show (c : Int) + 1 = ((c + 1 : Nat) : Int) from by omega]
      refine mv_eqsW (ls2 := [mv_R 100, mv_I w, mv_I (sp_rd D (c + 1)), mv_I (sp_rs (sp_suits V P) D (c + 1)), mv_I (sp_ra D (c + 1)), mv_I ((c + 1 : Nat) : Int)]) (by rw [show ((10 * (sp_rd D c)) + (dn : Int)) + 1 = sp_rd D (c + 1) from by simp only [sp_rd] <;> omega, show (sp_rs (sp_suits V P) D c) + (sp_suits V P c dn) = sp_rs (sp_suits V P) D (c + 1) from by simp only [sp_rs]; first | (rw [if_pos hd0] <;> omega) | (rw [if_neg hd0, hd, Int.toNat_natCast]), show (sp_ra D c) + 1 = sp_ra D (c + 1) from by simp only [sp_ra]; first | (rw [if_pos hd0] <;> omega) | rw [if_neg hd0]]) rfl rfl (ih (c + 1) (by omega))
theorem sp_k15 (w : Int) : sp_call 76 164 [mv_I w] [mv_I w] := by
  refine sp_mkW (lc := [mv_R 0, mv_I w]) (lm := [mv_R 100, mv_I w, mv_U, mv_U, mv_U, mv_U]) rfl rfl (fun M hI => ?_)
  have hI2 := hI
  obtain ⟨V, P, n, B, K, t, h⟩ := hI2
  have h' := h
  obtain ⟨⟨hc, hm, ho⟩, ⟨hyy, hl, hn1, hn⟩, ⟨hct, hmt, _⟩, _⟩ := h'
  have h8 := sp_ok_s8 ho
  have h9 := sp_ok_s9 ho
  refine mv_goW 2 (pc' := if w < 0 then 9 else 4) (ls' := [mv_R 0, mv_I w]) (st' := []) (M1 := M) rfl ?_
  refine mv_spW (fun ha9 => ?_) (fun ha9 => ?_)
  · refine mv_goW 1 (pc' := 11) (ls' := [mv_R 0, mv_I w]) (st' := [mv_I (-2)]) (M1 := M) rfl ?_
    refine mv_retW (fun n => rfl) ⟨_, rfl, ?_⟩
    refine mv_goW 3 (pc' := 3) (ls' := [mv_R 100, mv_I w, mv_U, mv_U, mv_U, mv_U]) (st' := [mv_I 2, mv_I 0, mv_I w]) (M1 := M) rfl ?_
    have ha10 : ¬ ((0 : Int) ≤ w ∧ w ≤ (2 : Int)) := by omega
    refine mv_callPW (st2 := [mv_I 0]) rfl (Or.inr rfl) rfl rfl rfl (sp_min_f ha10) (by first | decide | omega) ?_
    refine mv_goW 1 (pc' := if 0 = 0 then 9 else 12) (ls' := [mv_R 100, mv_I w, mv_U, mv_U, mv_U, mv_U]) (st' := []) (M1 := M) rfl ?_
    refine mv_ttW (by first | decide | omega) ?_
    refine mv_goW 1 (pc' := 11) (ls' := [mv_R 100, mv_I w, mv_U, mv_U, mv_U, mv_U]) (st' := [mv_I (-2)]) (M1 := M) rfl ?_
    exact mv_retW (fun n => rfl) ⟨congrArg mv_I (by first | with_reducible rfl | omega), hI⟩
  · refine mv_goW 3 (pc' := if 2 < w then 9 else 12) (ls' := [mv_R 0, mv_I w]) (st' := []) (M1 := M) rfl ?_
    refine mv_spW (fun ha11 => ?_) (fun ha11 => ?_)
    · refine mv_goW 1 (pc' := 11) (ls' := [mv_R 0, mv_I w]) (st' := [mv_I (-2)]) (M1 := M) rfl ?_
      refine mv_retW (fun n => rfl) ⟨_, rfl, ?_⟩
      refine mv_goW 3 (pc' := 3) (ls' := [mv_R 100, mv_I w, mv_U, mv_U, mv_U, mv_U]) (st' := [mv_I 2, mv_I 0, mv_I w]) (M1 := M) rfl ?_
      have ha12 : ¬ ((0 : Int) ≤ w ∧ w ≤ (2 : Int)) := by omega
      refine mv_callPW (st2 := [mv_I 0]) rfl (Or.inr rfl) rfl rfl rfl (sp_min_f ha12) (by first | decide | omega) ?_
      refine mv_goW 1 (pc' := if 0 = 0 then 9 else 12) (ls' := [mv_R 100, mv_I w, mv_U, mv_U, mv_U, mv_U]) (st' := []) (M1 := M) rfl ?_
      refine mv_ttW (by first | decide | omega) ?_
      refine mv_goW 1 (pc' := 11) (ls' := [mv_R 100, mv_I w, mv_U, mv_U, mv_U, mv_U]) (st' := [mv_I (-2)]) (M1 := M) rfl ?_
      exact mv_retW (fun n => rfl) ⟨congrArg mv_I (by first | with_reducible rfl | omega), hI⟩
    · refine mv_goW 4 (pc' := 20) (ls' := [mv_R 0, mv_I w]) (st' := [mv_R 30, mv_R 60]) (M1 := M) rfl ?_
      refine mv_callW (st2 := []) rfl (Or.inl rfl) rfl rfl rfl (sp_crs hc ho hl hn hct) (by first | decide | omega) (fun Ma13 hm14 => ?_)
      have hx := hm14
      have hm := sp_m_ag2 hm hx.1 (by decide)
      have hmt := sp_mts_ag hmt hx.1 (by decide)
      have hcc := sp_c_ag hc hx.1 (by decide)
      refine mv_goW 4 (pc' := 31) (ls' := [mv_R 0, mv_I w]) (st' := [mv_R 30, mv_R 60]) (M1 := Ma13) rfl ?_
      refine mv_callW (st2 := []) rfl (Or.inl rfl) rfl rfl rfl (sp_crl hcc ho hl hn (sp_cts_ag hct hx.1 hn (fun i h1 h2 => by simp only [List.mem_cons, List.not_mem_nil, or_false]; omega)) hx.2.1) (by first | decide | omega) (fun Ma15 hm16 => ?_)
      have hrl := hm16
      have ht2 := sp_tb_ag hx.2 hrl.1 (by decide)
      refine mv_goW 2 (pc' := 38) (ls' := [mv_R 0, mv_I w]) (st' := [mv_R 60]) (M1 := Ma15) rfl ?_
      refine mv_callW (st2 := []) rfl (Or.inl rfl) rfl rfl rfl (sp_csl ho ht2 hrl.2) (by first | decide | omega) (fun Ma17 hm18 => ?_)
      have hsl := hm18
      have hag : mv_ag [36, 37, 60, 61, 62, 63, 64, 65, 66] M Ma17 := ((hx.1.wd (by decide)).tr (hrl.1.wd (by decide))).tr (hsl.1.wd (by decide))
      have hm := sp_m_ag2 (sp_m_ag2 hm hrl.1 (by decide)) hsl.1 (by decide)
      have hmt := sp_mts_ag (sp_mts_ag hmt hrl.1 (by decide)) hsl.1 (by decide)
      have ht3 := sp_tb_ag ht2 hsl.1 (by decide)
      have hD : ∀ j : Nat, (j : Int) < V 0 8 → Ma17 64 j = sp_sd V P j ∧ -1 ≤ sp_sd V P j ∧ sp_sd V P j < V 0 9 := fun j hj => ⟨hsl.2 j hj, sp_sd_b P h8.1 h9 hj⟩
      refine mv_goW 2 (pc' := if w = 0 then 45 else 55) (ls' := [mv_R 0, mv_I w]) (st' := []) (M1 := Ma17) rfl ?_
      refine mv_spW (fun ha19 => ?_) (fun ha19 => ?_)
      · refine mv_goW 2 (pc' := 49) (ls' := [mv_R 0, mv_I w]) (st' := [mv_R 60]) (M1 := Ma17) rfl ?_
        refine mv_callPW (st2 := [mv_I (sp_rd (sp_sd V P) (V 0 8).toNat)]) rfl (Or.inl rfl) rfl rfl rfl (sp_crdg ho ht3.1.1 hD) (by first | decide | omega) ?_
        refine mv_goW 1 (pc' := 77) (ls' := [mv_R 0, mv_I w]) (st' := [mv_I (sp_rd (sp_sd V P) (V 0 8).toNat)]) (M1 := Ma17) rfl ?_
        refine mv_retW (fun n => rfl) ⟨_, rfl, ?_⟩
        refine mv_goW 3 (pc' := 3) (ls' := [mv_R 100, mv_I w, mv_U, mv_U, mv_U, mv_U]) (st' := [mv_I 2, mv_I 0, mv_I w]) (M1 := Ma17) rfl ?_
        have ha20 : (0 : Int) ≤ w ∧ w ≤ (2 : Int) := by omega
        refine mv_callPW (st2 := [mv_I 1]) rfl (Or.inr rfl) rfl rfl rfl (sp_min_t ha20) (by first | decide | omega) ?_
        refine mv_goW 1 (pc' := if 1 = 0 then 9 else 12) (ls' := [mv_R 100, mv_I w, mv_U, mv_U, mv_U, mv_U]) (st' := []) (M1 := Ma17) rfl ?_
        refine mv_ffW (by first | decide | omega) ?_
        refine mv_goW 1 (pc' := 13) (ls' := [mv_R 100, mv_I w, mv_U, mv_U, mv_U, mv_U]) (st' := [mv_R 100]) (M1 := Ma17) rfl ?_
        refine mv_callW (st2 := []) rfl (Or.inl rfl) rfl rfl rfl (sp_msl hm ho hl hmt) (by first | decide | omega) (fun Ma21 hm22 => ?_)
        have hms := hm22
        have hm8 : Ma21 100 0 = V 0 8 := by rw [hms.1 100 (by decide)]; exact sp_m_s8 hm
        have hD2 : ∀ j : Nat, (j : Int) < V 0 8 → Ma21 140 j = sp_sd V P j ∧ -1 ≤ sp_sd V P j ∧ sp_sd V P j < V 0 9 := fun j hj => ⟨hms.2.2 j hj, sp_sd_b P h8.1 h9 hj⟩
        refine mv_goW 8 (pc' := 26) (ls' := [mv_R 100, mv_I w, mv_I 0, mv_I 0, mv_I 0, mv_I 0]) (st' := []) (M1 := Ma21) rfl ?_
        refine sp_msd (d := 18) (D := sp_sd V P) ho hm8 hms.2.1 hD2 ?_ (V 0 8).toNat 0 (by omega)
        refine mv_goW 2 (pc' := if w = 0 then 122 else 126) (ls' := [mv_R 100, mv_I w, mv_I (sp_rd (sp_sd V P) (V 0 8).toNat), mv_I (sp_rs (sp_suits V P) (sp_sd V P) (V 0 8).toNat), mv_I (sp_ra (sp_sd V P) (V 0 8).toNat), mv_I (V 0 8)]) (st' := []) (M1 := Ma21) rfl ?_
        refine mv_ttW (by omega) ?_
        refine mv_goW 2 (pc' := 137) (ls' := [mv_R 100, mv_I w, mv_I (sp_rd (sp_sd V P) (V 0 8).toNat), mv_I (sp_rs (sp_suits V P) (sp_sd V P) (V 0 8).toNat), mv_I (sp_ra (sp_sd V P) (V 0 8).toNat), mv_I (V 0 8)]) (st' := [mv_I (sp_rd (sp_sd V P) (V 0 8).toNat)]) (M1 := Ma21) rfl ?_
        exact mv_retW (fun n => rfl) ⟨congrArg mv_I (by first | with_reducible rfl | omega), sp_tend h ((hag.wd (by decide)).tr (hms.1.wd (by decide))) (fun j hj => by rw [hms.1 100 (by decide), hag 100 (by decide)])⟩
      · refine mv_goW 3 (pc' := if w = 1 then 60 else 70) (ls' := [mv_R 0, mv_I w]) (st' := []) (M1 := Ma17) rfl ?_
        refine mv_spW (fun ha23 => ?_) (fun ha23 => ?_)
        · refine mv_goW 2 (pc' := 64) (ls' := [mv_R 0, mv_I w]) (st' := [mv_R 60]) (M1 := Ma17) rfl ?_
          refine mv_callPW (st2 := [mv_I (sp_rs (sp_suits V P) (sp_sd V P) (V 0 8).toNat)]) rfl (Or.inl rfl) rfl rfl rfl (sp_crsd ho ht3 hD) (by first | decide | omega) ?_
          refine mv_goW 1 (pc' := 77) (ls' := [mv_R 0, mv_I w]) (st' := [mv_I (sp_rs (sp_suits V P) (sp_sd V P) (V 0 8).toNat)]) (M1 := Ma17) rfl ?_
          refine mv_retW (fun n => rfl) ⟨_, rfl, ?_⟩
          refine mv_goW 3 (pc' := 3) (ls' := [mv_R 100, mv_I w, mv_U, mv_U, mv_U, mv_U]) (st' := [mv_I 2, mv_I 0, mv_I w]) (M1 := Ma17) rfl ?_
          have ha24 : (0 : Int) ≤ w ∧ w ≤ (2 : Int) := by omega
          refine mv_callPW (st2 := [mv_I 1]) rfl (Or.inr rfl) rfl rfl rfl (sp_min_t ha24) (by first | decide | omega) ?_
          refine mv_goW 1 (pc' := if 1 = 0 then 9 else 12) (ls' := [mv_R 100, mv_I w, mv_U, mv_U, mv_U, mv_U]) (st' := []) (M1 := Ma17) rfl ?_
          refine mv_ffW (by first | decide | omega) ?_
          refine mv_goW 1 (pc' := 13) (ls' := [mv_R 100, mv_I w, mv_U, mv_U, mv_U, mv_U]) (st' := [mv_R 100]) (M1 := Ma17) rfl ?_
          refine mv_callW (st2 := []) rfl (Or.inl rfl) rfl rfl rfl (sp_msl hm ho hl hmt) (by first | decide | omega) (fun Ma25 hm26 => ?_)
          have hms := hm26
          have hm8 : Ma25 100 0 = V 0 8 := by rw [hms.1 100 (by decide)]; exact sp_m_s8 hm
          have hD2 : ∀ j : Nat, (j : Int) < V 0 8 → Ma25 140 j = sp_sd V P j ∧ -1 ≤ sp_sd V P j ∧ sp_sd V P j < V 0 9 := fun j hj => ⟨hms.2.2 j hj, sp_sd_b P h8.1 h9 hj⟩
          refine mv_goW 8 (pc' := 26) (ls' := [mv_R 100, mv_I w, mv_I 0, mv_I 0, mv_I 0, mv_I 0]) (st' := []) (M1 := Ma25) rfl ?_
          refine sp_msd (d := 18) (D := sp_sd V P) ho hm8 hms.2.1 hD2 ?_ (V 0 8).toNat 0 (by omega)
          refine mv_goW 2 (pc' := if w = 0 then 122 else 126) (ls' := [mv_R 100, mv_I w, mv_I (sp_rd (sp_sd V P) (V 0 8).toNat), mv_I (sp_rs (sp_suits V P) (sp_sd V P) (V 0 8).toNat), mv_I (sp_ra (sp_sd V P) (V 0 8).toNat), mv_I (V 0 8)]) (st' := []) (M1 := Ma25) rfl ?_
          refine mv_ffW (by omega) ?_
          refine mv_goW 3 (pc' := if w = 1 then 131 else 135) (ls' := [mv_R 100, mv_I w, mv_I (sp_rd (sp_sd V P) (V 0 8).toNat), mv_I (sp_rs (sp_suits V P) (sp_sd V P) (V 0 8).toNat), mv_I (sp_ra (sp_sd V P) (V 0 8).toNat), mv_I (V 0 8)]) (st' := []) (M1 := Ma25) rfl ?_
          refine mv_ttW (by omega) ?_
          refine mv_goW 2 (pc' := 137) (ls' := [mv_R 100, mv_I w, mv_I (sp_rd (sp_sd V P) (V 0 8).toNat), mv_I (sp_rs (sp_suits V P) (sp_sd V P) (V 0 8).toNat), mv_I (sp_ra (sp_sd V P) (V 0 8).toNat), mv_I (V 0 8)]) (st' := [mv_I (sp_rs (sp_suits V P) (sp_sd V P) (V 0 8).toNat)]) (M1 := Ma25) rfl ?_
          exact mv_retW (fun n => rfl) ⟨congrArg mv_I (by first | with_reducible rfl | omega), sp_tend h ((hag.wd (by decide)).tr (hms.1.wd (by decide))) (fun j hj => by rw [hms.1 100 (by decide), hag 100 (by decide)])⟩
        · refine mv_goW 2 (pc' := 74) (ls' := [mv_R 0, mv_I w]) (st' := [mv_R 60]) (M1 := Ma17) rfl ?_
          refine mv_callPW (st2 := [mv_I (sp_ra (sp_sd V P) (V 0 8).toNat)]) rfl (Or.inl rfl) rfl rfl rfl (sp_crap ho ht3.1.1 hD) (by first | decide | omega) ?_
          refine mv_retW (fun n => rfl) ⟨_, rfl, ?_⟩
          refine mv_goW 3 (pc' := 3) (ls' := [mv_R 100, mv_I w, mv_U, mv_U, mv_U, mv_U]) (st' := [mv_I 2, mv_I 0, mv_I w]) (M1 := Ma17) rfl ?_
          have ha27 : (0 : Int) ≤ w ∧ w ≤ (2 : Int) := by omega
          refine mv_callPW (st2 := [mv_I 1]) rfl (Or.inr rfl) rfl rfl rfl (sp_min_t ha27) (by first | decide | omega) ?_
          refine mv_goW 1 (pc' := if 1 = 0 then 9 else 12) (ls' := [mv_R 100, mv_I w, mv_U, mv_U, mv_U, mv_U]) (st' := []) (M1 := Ma17) rfl ?_
          refine mv_ffW (by first | decide | omega) ?_
          refine mv_goW 1 (pc' := 13) (ls' := [mv_R 100, mv_I w, mv_U, mv_U, mv_U, mv_U]) (st' := [mv_R 100]) (M1 := Ma17) rfl ?_
          refine mv_callW (st2 := []) rfl (Or.inl rfl) rfl rfl rfl (sp_msl hm ho hl hmt) (by first | decide | omega) (fun Ma28 hm29 => ?_)
          have hms := hm29
          have hm8 : Ma28 100 0 = V 0 8 := by rw [hms.1 100 (by decide)]; exact sp_m_s8 hm
          have hD2 : ∀ j : Nat, (j : Int) < V 0 8 → Ma28 140 j = sp_sd V P j ∧ -1 ≤ sp_sd V P j ∧ sp_sd V P j < V 0 9 := fun j hj => ⟨hms.2.2 j hj, sp_sd_b P h8.1 h9 hj⟩
          refine mv_goW 8 (pc' := 26) (ls' := [mv_R 100, mv_I w, mv_I 0, mv_I 0, mv_I 0, mv_I 0]) (st' := []) (M1 := Ma28) rfl ?_
          refine sp_msd (d := 18) (D := sp_sd V P) ho hm8 hms.2.1 hD2 ?_ (V 0 8).toNat 0 (by omega)
          refine mv_goW 2 (pc' := if w = 0 then 122 else 126) (ls' := [mv_R 100, mv_I w, mv_I (sp_rd (sp_sd V P) (V 0 8).toNat), mv_I (sp_rs (sp_suits V P) (sp_sd V P) (V 0 8).toNat), mv_I (sp_ra (sp_sd V P) (V 0 8).toNat), mv_I (V 0 8)]) (st' := []) (M1 := Ma28) rfl ?_
          refine mv_ffW (by omega) ?_
          refine mv_goW 3 (pc' := if w = 1 then 131 else 135) (ls' := [mv_R 100, mv_I w, mv_I (sp_rd (sp_sd V P) (V 0 8).toNat), mv_I (sp_rs (sp_suits V P) (sp_sd V P) (V 0 8).toNat), mv_I (sp_ra (sp_sd V P) (V 0 8).toNat), mv_I (V 0 8)]) (st' := []) (M1 := Ma28) rfl ?_
          refine mv_ffW (by omega) ?_
          refine mv_goW 1 (pc' := 137) (ls' := [mv_R 100, mv_I w, mv_I (sp_rd (sp_sd V P) (V 0 8).toNat), mv_I (sp_rs (sp_suits V P) (sp_sd V P) (V 0 8).toNat), mv_I (sp_ra (sp_sd V P) (V 0 8).toNat), mv_I (V 0 8)]) (st' := [mv_I (sp_ra (sp_sd V P) (V 0 8).toNat)]) (M1 := Ma28) rfl ?_
          exact mv_retW (fun n => rfl) ⟨congrArg mv_I (by first | with_reducible rfl | omega), sp_tend h ((hag.wd (by decide)).tr (hms.1.wd (by decide))) (fun j hj => by rw [hms.1 100 (by decide), hag 100 (by decide)])⟩
