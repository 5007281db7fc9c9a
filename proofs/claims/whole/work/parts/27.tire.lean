/-! a year: how a child's need eases, how an uncle tires -/
def sp_mx (z : Int) : Int := if 0 < z then z else 0
theorem sp_mx_b {z b : Int} (hz : z ≤ b) (hb : 0 ≤ b) : 0 ≤ sp_mx z ∧ sp_mx z ≤ b := by unfold sp_mx; split <;> omega
def sp_tk (V : mv_M) (P : Nat → Nat → List Int) (u k : Nat) : mv_M := mv_st V 3 (mv_up (V 3) (4 * u + k) (sp_mx (V 3 (4 * u + k) - sp_says V P 2 u k 0)))
def sp_tire (V : mv_M) (P : Nat → Nat → List Int) (u : Nat) : mv_M := sp_tk (sp_tk (sp_tk (sp_tk V P u 0) P u 1) P u 2) P u 3
def sp_g1 (f : Nat → Int) (c : Nat) : Nat := if f (4 * c) < f (4 * c + 1) then 1 else 0
def sp_g2 (f : Nat → Int) (c : Nat) : Nat := if f (4 * c + sp_g1 f c) < f (4 * c + 2) then 2 else sp_g1 f c
def sp_g3 (f : Nat → Int) (c : Nat) : Nat := if f (4 * c + sp_g2 f c) < f (4 * c + 3) then 3 else sp_g2 f c
theorem sp_g3_b (f : Nat → Int) (c : Nat) : sp_g3 f c ≤ 3 := by
  unfold sp_g3
  split
  · omega
  · unfold sp_g2
    split
    · omega
    · unfold sp_g1
      split <;> omega
def sp_ease (V : mv_M) (c : Nat) : mv_M := mv_st V 1 (mv_up (V 1) (4 * c + sp_g3 (V 1) c) (sp_mx (V 1 (4 * c + sp_g3 (V 1) c) - 1)))
theorem sp_c_st1 {w : Nat} {M V : mv_M} {k : Nat} {z : Int} (h : sp_c w M V) : sp_c w (mv_st M (w + 1) (mv_up (M (w + 1)) k z)) (mv_st V 1 (mv_up (V 1) k z)) := by
  unfold sp_c
  rw [mv_st_n _ _ (show w ≠ w + 1 by omega), mv_st_n _ _ (show w + 2 ≠ w + 1 by omega), mv_st_n _ _ (show w + 3 ≠ w + 1 by omega), mv_st_n _ _ (show w + 4 ≠ w + 1 by omega), mv_st_n _ _ (show w + 5 ≠ w + 1 by omega), mv_st_s]
  exact ⟨h.1, fun j hj => sp_up_c (h.2.1 j hj), h.2.2⟩
theorem sp_c_st3 {w : Nat} {M V : mv_M} {k : Nat} {z : Int} (h : sp_c w M V) : sp_c w (mv_st M (w + 3) (mv_up (M (w + 3)) k z)) (mv_st V 3 (mv_up (V 3) k z)) := by
  unfold sp_c
  rw [mv_st_n _ _ (show w ≠ w + 3 by omega), mv_st_n _ _ (show w + 1 ≠ w + 3 by omega), mv_st_n _ _ (show w + 2 ≠ w + 3 by omega), mv_st_n _ _ (show w + 4 ≠ w + 3 by omega), mv_st_n _ _ (show w + 5 ≠ w + 3 by omega), mv_st_s]
  exact ⟨h.1, h.2.1, h.2.2.1, fun j hj => sp_up_c (h.2.2.2.1 j hj), h.2.2.2.2⟩
theorem sp_m_st1 {M V : mv_M} {k : Nat} {z : Int} (h : sp_m M V) : sp_m (mv_st M 104 (mv_up (M 104) k z)) (mv_st V 1 (mv_up (V 1) k z)) := ⟨h.1, fun j hj => sp_up_c (h.2.1 j hj), h.2.2⟩
theorem sp_m_st3 {M V : mv_M} {k : Nat} {z : Int} (h : sp_m M V) : sp_m (mv_st M 105 (mv_up (M 105) k z)) (mv_st V 3 (mv_up (V 3) k z)) := ⟨h.1, h.2.1, h.2.2.1, fun j hj => sp_up_c (h.2.2.2.1 j hj), h.2.2.2.2⟩
theorem sp_ok_st1 {V : mv_M} {k : Nat} {z : Int} (h : sp_ok V) (hz : 0 ≤ z ∧ z ≤ 9) : sp_ok (mv_st V 1 (mv_up (V 1) k z)) := ⟨h.1, h.2.1, h.2.2.1, h.2.2.2.1, fun j hj => sp_up_b (h.2.2.2.2.1 j hj) hz, h.2.2.2.2.2⟩
theorem sp_ok_st3 {V : mv_M} {k : Nat} {z : Int} (h : sp_ok V) (hz : 0 ≤ z ∧ z ≤ 9) : sp_ok (mv_st V 3 (mv_up (V 3) k z)) := ⟨h.1, h.2.1, h.2.2.1, h.2.2.2.1, h.2.2.2.2.1, h.2.2.2.2.2.1, fun j hj => sp_up_b (h.2.2.2.2.2.2.1 j hj) hz, h.2.2.2.2.2.2.2⟩
theorem sp_ok_tk {V : mv_M} (P : Nat → Nat → List Int) (h : sp_ok V) {u k : Nat} (hk : 4 * u + k < 24) : sp_ok (sp_tk V P u k) := by
  have h1 := sp_ok_3 h (4 * u + k) hk
  have h2 := sp_says_b2 V P u k 0
  exact sp_ok_st3 h (sp_mx_b (by omega) (by omega))
theorem sp_ok_tire {V : mv_M} (P : Nat → Nat → List Int) (h : sp_ok V) {u : Nat} (hu : u < 6) : sp_ok (sp_tire V P u) := sp_ok_tk P (sp_ok_tk P (sp_ok_tk P (sp_ok_tk P h (by omega)) (by omega)) (by omega)) (by omega)
theorem sp_ok_ease {V : mv_M} (h : sp_ok V) {c : Nat} (hc : c < 6) : sp_ok (sp_ease V c) := by
  have hg := sp_g3_b (V 1) c
  have h1 := sp_ok_1 h (4 * c + sp_g3 (V 1) c) (by omega)
  exact sp_ok_st1 h (sp_mx_b (by omega) (by omega))
theorem sp_ctire_30 {V M : mv_M} {P : Nat → Nat → List Int} {n : Int} {u : Nat} (hV : sp_c 30 M V) (ho : sp_ok V) (hl : V 0 11 < n) (hn : n ≤ 6) (hP : sp_cts M P n) (hu : (u : Int) < V 0 9) :
    mv_Ru 3 60 0 [mv_R 30, mv_I (u : Int), mv_U, mv_U] [] M mv_U (fun M1 => mv_ag [33, 36, 37] M M1 ∧ sp_c 30 M1 (sp_tire V P u)) := by
  have hS : ∀ i, 10 ≤ i → i < 28 → i ∉ [33, 36, 37] := fun i h1 h2 => by simp; omega
  have h9 := sp_ok_s9 ho
  have ha : mv_ag [33, 36, 37] M M := mv_ag.rf
  refine mv_go' 2 (pc' := 2) (ls' := [mv_R 30, mv_I (u : Int), mv_I 0, mv_U]) (st' := []) (M1 := M) rfl ?_
  refine mv_go' 3 (pc' := if 0 < 4 then 7 else 44) (ls' := [mv_R 30, mv_I (u : Int), mv_I 0, mv_U]) (st' := []) (M1 := M) rfl ?_
  refine mv_tt' (by decide) ?_
  refine mv_go' 13 (pc' := 24) (ls' := [mv_R 30, mv_I (u : Int), mv_I 0, mv_I (mv_w ((mv_w ((u : Int) * 4)) + 0))]) (st' := [mv_I (mv_w ((mv_w ((u : Int) * 4)) + 0)), mv_R 33, mv_I 0, mv_I (mv_w ((mv_w ((u : Int) * 4)) + 0)), mv_R 33]) (M1 := M) rfl ?_
  rw [show mv_w ((mv_w ((u : Int) * 4)) + 0) = ((4 * u : Nat) : Int) from by (rw [show mv_w ((u : Int) * 4) = (u : Int) * 4 from mv_w_id (by omega) (by omega), show mv_w (((u : Int) * 4) + 0) = ((u : Int) * 4) + 0 from mv_w_id (by omega) (by omega)]) <;> omega]
  refine mv_go' 1 (pc' := if 0 ≤ ((4 * u : Nat) : Int) ∧ ((4 * u : Nat) : Int) < 24 then 25 else mv_bad) (ls' := [mv_R 30, mv_I (u : Int), mv_I 0, mv_I ((4 * u : Nat) : Int)]) (st' := [mv_I (M 33 (4 * u)), mv_I 0, mv_I ((4 * u : Nat) : Int), mv_R 33]) (M1 := M) rfl ?_
  refine mv_tt' (by omega) ?_
  have hr1 := sp_ok_3 ho (4 * u) (by omega)
  rw [show M 33 (4 * u) = V 3 (4 * u) from by exact sp_c_3 hV (4 * u) (by omega)]
  refine mv_go' 5 (pc' := 30) (ls' := [mv_R 30, mv_I (u : Int), mv_I 0, mv_I ((4 * u : Nat) : Int)]) (st' := [mv_I 0, mv_I 0, mv_I (u : Int), mv_I 2, mv_R 30, mv_I (V 3 (4 * u)), mv_I 0, mv_I ((4 * u : Nat) : Int), mv_R 33]) (M1 := M) rfl ?_
  have g1 := sp_says_b2 V P u 0 0
  refine mv_call (st2 := [mv_I (sp_says V P 2 u 0 0), mv_I (V 3 (4 * u)), mv_I 0, mv_I ((4 * u : Nat) : Int), mv_R 33]) rfl (Or.inl rfl) rfl rfl rfl (sp_csays_30 (p := 2) (k := 0) hV ho hl hP (by decide) hu (by decide)) (by first | decide | omega) (fun N1 hc1 => ?_)
  have hN1 := sp_c_ag hV hc1 (by decide)
  refine mv_go' 3 (pc' := if 0 ≤ ((4 * u : Nat) : Int) ∧ ((4 * u : Nat) : Int) < 24 then 38 else mv_bad) (ls' := [mv_R 30, mv_I (u : Int), mv_I 0, mv_I ((4 * u : Nat) : Int)]) (st' := []) (M1 := (mv_st N1 33 (mv_up (N1 33) (4 * u) (if 0 < (mv_w ((V 3 (4 * u)) - (sp_says V P 2 u 0 0))) then (mv_w ((V 3 (4 * u)) - (sp_says V P 2 u 0 0))) else 0)))) rfl ?_
  refine mv_tt' (by omega) ?_
  refine mv_go' 2 (pc' := 2) (ls' := [mv_R 30, mv_I (u : Int), mv_I (mv_w (0 + 1)), mv_I ((4 * u : Nat) : Int)]) (st' := []) (M1 := (mv_st N1 33 (mv_up (N1 33) (4 * u) (if 0 < (mv_w ((V 3 (4 * u)) - (sp_says V P 2 u 0 0))) then (mv_w ((V 3 (4 * u)) - (sp_says V P 2 u 0 0))) else 0)))) rfl ?_
  rw [show mv_w (0 + 1) = 1 from by (rw [show mv_w (0 + 1) = 0 + 1 from mv_w_id (by omega) (by omega)]) <;> omega]
  rw [show mv_w ((V 3 (4 * u)) - (sp_says V P 2 u 0 0)) = (V 3 (4 * u)) - (sp_says V P 2 u 0 0) from mv_w_id (by omega) (by omega)]
  obtain ⟨V1, e1⟩ : ∃ V1, V1 = sp_tk V P u 0 := ⟨_, rfl⟩
  have hV1 : sp_c 30 (mv_st N1 33 (mv_up (N1 33) (4 * u) (if 0 < ((V 3 (4 * u)) - (sp_says V P 2 u 0 0)) then ((V 3 (4 * u)) - (sp_says V P 2 u 0 0)) else 0))) V1 := by rw [e1]; exact sp_c_st3 hN1
  have ha1 : mv_ag [33, 36, 37] M (mv_st N1 33 (mv_up (N1 33) (4 * u) (if 0 < ((V 3 (4 * u)) - (sp_says V P 2 u 0 0)) then ((V 3 (4 * u)) - (sp_says V P 2 u 0 0)) else 0))) := ((ha.tr (hc1.wd (by decide)))).st (by decide)
  have ho1 : sp_ok V1 := by rw [e1]; exact sp_ok_tk P ho (by omega)
  have hP1 := sp_cts_ag hP ha1 hn hS
  generalize (mv_st N1 33 (mv_up (N1 33) (4 * u) (if 0 < ((V 3 (4 * u)) - (sp_says V P 2 u 0 0)) then ((V 3 (4 * u)) - (sp_says V P 2 u 0 0)) else 0))) = M1 at hV1 ha1 hP1 ⊢
  have hu1 : (u : Int) < V1 0 9 := by rw [e1]; exact hu
  have hl1 : V1 0 11 < n := by rw [e1]; exact hl
  refine mv_go' 3 (pc' := if 1 < 4 then 7 else 44) (ls' := [mv_R 30, mv_I (u : Int), mv_I 1, mv_I ((4 * u : Nat) : Int)]) (st' := []) (M1 := M1) rfl ?_
  refine mv_tt' (by decide) ?_
  refine mv_go' 13 (pc' := 24) (ls' := [mv_R 30, mv_I (u : Int), mv_I 1, mv_I (mv_w ((mv_w ((u : Int) * 4)) + 1))]) (st' := [mv_I (mv_w ((mv_w ((u : Int) * 4)) + 1)), mv_R 33, mv_I 0, mv_I (mv_w ((mv_w ((u : Int) * 4)) + 1)), mv_R 33]) (M1 := M1) rfl ?_
  rw [show mv_w ((mv_w ((u : Int) * 4)) + 1) = ((4 * u + 1 : Nat) : Int) from by (rw [show mv_w ((u : Int) * 4) = (u : Int) * 4 from mv_w_id (by omega) (by omega), show mv_w (((u : Int) * 4) + 1) = ((u : Int) * 4) + 1 from mv_w_id (by omega) (by omega)]) <;> omega]
  refine mv_go' 1 (pc' := if 0 ≤ ((4 * u + 1 : Nat) : Int) ∧ ((4 * u + 1 : Nat) : Int) < 24 then 25 else mv_bad) (ls' := [mv_R 30, mv_I (u : Int), mv_I 1, mv_I ((4 * u + 1 : Nat) : Int)]) (st' := [mv_I (M1 33 (4 * u + 1)), mv_I 0, mv_I ((4 * u + 1 : Nat) : Int), mv_R 33]) (M1 := M1) rfl ?_
  refine mv_tt' (by omega) ?_
  have hr3 := sp_ok_3 ho1 (4 * u + 1) (by omega)
  rw [show M1 33 (4 * u + 1) = V1 3 (4 * u + 1) from by exact sp_c_3 hV1 (4 * u + 1) (by omega)]
  refine mv_go' 5 (pc' := 30) (ls' := [mv_R 30, mv_I (u : Int), mv_I 1, mv_I ((4 * u + 1 : Nat) : Int)]) (st' := [mv_I 0, mv_I 1, mv_I (u : Int), mv_I 2, mv_R 30, mv_I (V1 3 (4 * u + 1)), mv_I 0, mv_I ((4 * u + 1 : Nat) : Int), mv_R 33]) (M1 := M1) rfl ?_
  have g2 := sp_says_b2 V1 P u 1 0
  refine mv_call (st2 := [mv_I (sp_says V1 P 2 u 1 0), mv_I (V1 3 (4 * u + 1)), mv_I 0, mv_I ((4 * u + 1 : Nat) : Int), mv_R 33]) rfl (Or.inl rfl) rfl rfl rfl (sp_csays_30 (p := 2) (k := 1) hV1 ho1 hl1 hP1 (by decide) hu1 (by decide)) (by first | decide | omega) (fun N2 hc2 => ?_)
  have hN2 := sp_c_ag hV1 hc2 (by decide)
  refine mv_go' 3 (pc' := if 0 ≤ ((4 * u + 1 : Nat) : Int) ∧ ((4 * u + 1 : Nat) : Int) < 24 then 38 else mv_bad) (ls' := [mv_R 30, mv_I (u : Int), mv_I 1, mv_I ((4 * u + 1 : Nat) : Int)]) (st' := []) (M1 := (mv_st N2 33 (mv_up (N2 33) (4 * u + 1) (if 0 < (mv_w ((V1 3 (4 * u + 1)) - (sp_says V1 P 2 u 1 0))) then (mv_w ((V1 3 (4 * u + 1)) - (sp_says V1 P 2 u 1 0))) else 0)))) rfl ?_
  refine mv_tt' (by omega) ?_
  refine mv_go' 2 (pc' := 2) (ls' := [mv_R 30, mv_I (u : Int), mv_I (mv_w (1 + 1)), mv_I ((4 * u + 1 : Nat) : Int)]) (st' := []) (M1 := (mv_st N2 33 (mv_up (N2 33) (4 * u + 1) (if 0 < (mv_w ((V1 3 (4 * u + 1)) - (sp_says V1 P 2 u 1 0))) then (mv_w ((V1 3 (4 * u + 1)) - (sp_says V1 P 2 u 1 0))) else 0)))) rfl ?_
  rw [show mv_w (1 + 1) = 2 from by (rw [show mv_w (1 + 1) = 1 + 1 from mv_w_id (by omega) (by omega)]) <;> omega]
  rw [show mv_w ((V1 3 (4 * u + 1)) - (sp_says V1 P 2 u 1 0)) = (V1 3 (4 * u + 1)) - (sp_says V1 P 2 u 1 0) from mv_w_id (by omega) (by omega)]
  obtain ⟨V2, e2⟩ : ∃ V2, V2 = sp_tk V1 P u 1 := ⟨_, rfl⟩
  have hV2 : sp_c 30 (mv_st N2 33 (mv_up (N2 33) (4 * u + 1) (if 0 < ((V1 3 (4 * u + 1)) - (sp_says V1 P 2 u 1 0)) then ((V1 3 (4 * u + 1)) - (sp_says V1 P 2 u 1 0)) else 0))) V2 := by rw [e2]; exact sp_c_st3 hN2
  have ha2 : mv_ag [33, 36, 37] M (mv_st N2 33 (mv_up (N2 33) (4 * u + 1) (if 0 < ((V1 3 (4 * u + 1)) - (sp_says V1 P 2 u 1 0)) then ((V1 3 (4 * u + 1)) - (sp_says V1 P 2 u 1 0)) else 0))) := ((ha1.tr (hc2.wd (by decide)))).st (by decide)
  have ho2 : sp_ok V2 := by rw [e2]; exact sp_ok_tk P ho1 (by omega)
  have hP2 := sp_cts_ag hP ha2 hn hS
  generalize (mv_st N2 33 (mv_up (N2 33) (4 * u + 1) (if 0 < ((V1 3 (4 * u + 1)) - (sp_says V1 P 2 u 1 0)) then ((V1 3 (4 * u + 1)) - (sp_says V1 P 2 u 1 0)) else 0))) = M2 at hV2 ha2 hP2 ⊢
  have hu2 : (u : Int) < V2 0 9 := by rw [e2]; exact hu1
  have hl2 : V2 0 11 < n := by rw [e2]; exact hl1
  refine mv_go' 3 (pc' := if 2 < 4 then 7 else 44) (ls' := [mv_R 30, mv_I (u : Int), mv_I 2, mv_I ((4 * u + 1 : Nat) : Int)]) (st' := []) (M1 := M2) rfl ?_
  refine mv_tt' (by decide) ?_
  refine mv_go' 13 (pc' := 24) (ls' := [mv_R 30, mv_I (u : Int), mv_I 2, mv_I (mv_w ((mv_w ((u : Int) * 4)) + 2))]) (st' := [mv_I (mv_w ((mv_w ((u : Int) * 4)) + 2)), mv_R 33, mv_I 0, mv_I (mv_w ((mv_w ((u : Int) * 4)) + 2)), mv_R 33]) (M1 := M2) rfl ?_
  rw [show mv_w ((mv_w ((u : Int) * 4)) + 2) = ((4 * u + 2 : Nat) : Int) from by (rw [show mv_w ((u : Int) * 4) = (u : Int) * 4 from mv_w_id (by omega) (by omega), show mv_w (((u : Int) * 4) + 2) = ((u : Int) * 4) + 2 from mv_w_id (by omega) (by omega)]) <;> omega]
  refine mv_go' 1 (pc' := if 0 ≤ ((4 * u + 2 : Nat) : Int) ∧ ((4 * u + 2 : Nat) : Int) < 24 then 25 else mv_bad) (ls' := [mv_R 30, mv_I (u : Int), mv_I 2, mv_I ((4 * u + 2 : Nat) : Int)]) (st' := [mv_I (M2 33 (4 * u + 2)), mv_I 0, mv_I ((4 * u + 2 : Nat) : Int), mv_R 33]) (M1 := M2) rfl ?_
  refine mv_tt' (by omega) ?_
  have hr5 := sp_ok_3 ho2 (4 * u + 2) (by omega)
  rw [show M2 33 (4 * u + 2) = V2 3 (4 * u + 2) from by exact sp_c_3 hV2 (4 * u + 2) (by omega)]
  refine mv_go' 5 (pc' := 30) (ls' := [mv_R 30, mv_I (u : Int), mv_I 2, mv_I ((4 * u + 2 : Nat) : Int)]) (st' := [mv_I 0, mv_I 2, mv_I (u : Int), mv_I 2, mv_R 30, mv_I (V2 3 (4 * u + 2)), mv_I 0, mv_I ((4 * u + 2 : Nat) : Int), mv_R 33]) (M1 := M2) rfl ?_
  have g3 := sp_says_b2 V2 P u 2 0
  refine mv_call (st2 := [mv_I (sp_says V2 P 2 u 2 0), mv_I (V2 3 (4 * u + 2)), mv_I 0, mv_I ((4 * u + 2 : Nat) : Int), mv_R 33]) rfl (Or.inl rfl) rfl rfl rfl (sp_csays_30 (p := 2) (k := 2) hV2 ho2 hl2 hP2 (by decide) hu2 (by decide)) (by first | decide | omega) (fun N3 hc3 => ?_)
  have hN3 := sp_c_ag hV2 hc3 (by decide)
  refine mv_go' 3 (pc' := if 0 ≤ ((4 * u + 2 : Nat) : Int) ∧ ((4 * u + 2 : Nat) : Int) < 24 then 38 else mv_bad) (ls' := [mv_R 30, mv_I (u : Int), mv_I 2, mv_I ((4 * u + 2 : Nat) : Int)]) (st' := []) (M1 := (mv_st N3 33 (mv_up (N3 33) (4 * u + 2) (if 0 < (mv_w ((V2 3 (4 * u + 2)) - (sp_says V2 P 2 u 2 0))) then (mv_w ((V2 3 (4 * u + 2)) - (sp_says V2 P 2 u 2 0))) else 0)))) rfl ?_
  refine mv_tt' (by omega) ?_
  refine mv_go' 2 (pc' := 2) (ls' := [mv_R 30, mv_I (u : Int), mv_I (mv_w (2 + 1)), mv_I ((4 * u + 2 : Nat) : Int)]) (st' := []) (M1 := (mv_st N3 33 (mv_up (N3 33) (4 * u + 2) (if 0 < (mv_w ((V2 3 (4 * u + 2)) - (sp_says V2 P 2 u 2 0))) then (mv_w ((V2 3 (4 * u + 2)) - (sp_says V2 P 2 u 2 0))) else 0)))) rfl ?_
  rw [show mv_w (2 + 1) = 3 from by (rw [show mv_w (2 + 1) = 2 + 1 from mv_w_id (by omega) (by omega)]) <;> omega]
  rw [show mv_w ((V2 3 (4 * u + 2)) - (sp_says V2 P 2 u 2 0)) = (V2 3 (4 * u + 2)) - (sp_says V2 P 2 u 2 0) from mv_w_id (by omega) (by omega)]
  obtain ⟨V3, e3⟩ : ∃ V3, V3 = sp_tk V2 P u 2 := ⟨_, rfl⟩
  have hV3 : sp_c 30 (mv_st N3 33 (mv_up (N3 33) (4 * u + 2) (if 0 < ((V2 3 (4 * u + 2)) - (sp_says V2 P 2 u 2 0)) then ((V2 3 (4 * u + 2)) - (sp_says V2 P 2 u 2 0)) else 0))) V3 := by rw [e3]; exact sp_c_st3 hN3
  have ha3 : mv_ag [33, 36, 37] M (mv_st N3 33 (mv_up (N3 33) (4 * u + 2) (if 0 < ((V2 3 (4 * u + 2)) - (sp_says V2 P 2 u 2 0)) then ((V2 3 (4 * u + 2)) - (sp_says V2 P 2 u 2 0)) else 0))) := ((ha2.tr (hc3.wd (by decide)))).st (by decide)
  have ho3 : sp_ok V3 := by rw [e3]; exact sp_ok_tk P ho2 (by omega)
  have hP3 := sp_cts_ag hP ha3 hn hS
  generalize (mv_st N3 33 (mv_up (N3 33) (4 * u + 2) (if 0 < ((V2 3 (4 * u + 2)) - (sp_says V2 P 2 u 2 0)) then ((V2 3 (4 * u + 2)) - (sp_says V2 P 2 u 2 0)) else 0))) = M3 at hV3 ha3 hP3 ⊢
  have hu3 : (u : Int) < V3 0 9 := by rw [e3]; exact hu2
  have hl3 : V3 0 11 < n := by rw [e3]; exact hl2
  refine mv_go' 3 (pc' := if 3 < 4 then 7 else 44) (ls' := [mv_R 30, mv_I (u : Int), mv_I 3, mv_I ((4 * u + 2 : Nat) : Int)]) (st' := []) (M1 := M3) rfl ?_
  refine mv_tt' (by decide) ?_
  refine mv_go' 13 (pc' := 24) (ls' := [mv_R 30, mv_I (u : Int), mv_I 3, mv_I (mv_w ((mv_w ((u : Int) * 4)) + 3))]) (st' := [mv_I (mv_w ((mv_w ((u : Int) * 4)) + 3)), mv_R 33, mv_I 0, mv_I (mv_w ((mv_w ((u : Int) * 4)) + 3)), mv_R 33]) (M1 := M3) rfl ?_
  rw [show mv_w ((mv_w ((u : Int) * 4)) + 3) = ((4 * u + 3 : Nat) : Int) from by (rw [show mv_w ((u : Int) * 4) = (u : Int) * 4 from mv_w_id (by omega) (by omega), show mv_w (((u : Int) * 4) + 3) = ((u : Int) * 4) + 3 from mv_w_id (by omega) (by omega)]) <;> omega]
  refine mv_go' 1 (pc' := if 0 ≤ ((4 * u + 3 : Nat) : Int) ∧ ((4 * u + 3 : Nat) : Int) < 24 then 25 else mv_bad) (ls' := [mv_R 30, mv_I (u : Int), mv_I 3, mv_I ((4 * u + 3 : Nat) : Int)]) (st' := [mv_I (M3 33 (4 * u + 3)), mv_I 0, mv_I ((4 * u + 3 : Nat) : Int), mv_R 33]) (M1 := M3) rfl ?_
  refine mv_tt' (by omega) ?_
  have hr7 := sp_ok_3 ho3 (4 * u + 3) (by omega)
  rw [show M3 33 (4 * u + 3) = V3 3 (4 * u + 3) from by exact sp_c_3 hV3 (4 * u + 3) (by omega)]
  refine mv_go' 5 (pc' := 30) (ls' := [mv_R 30, mv_I (u : Int), mv_I 3, mv_I ((4 * u + 3 : Nat) : Int)]) (st' := [mv_I 0, mv_I 3, mv_I (u : Int), mv_I 2, mv_R 30, mv_I (V3 3 (4 * u + 3)), mv_I 0, mv_I ((4 * u + 3 : Nat) : Int), mv_R 33]) (M1 := M3) rfl ?_
  have g4 := sp_says_b2 V3 P u 3 0
  refine mv_call (st2 := [mv_I (sp_says V3 P 2 u 3 0), mv_I (V3 3 (4 * u + 3)), mv_I 0, mv_I ((4 * u + 3 : Nat) : Int), mv_R 33]) rfl (Or.inl rfl) rfl rfl rfl (sp_csays_30 (p := 2) (k := 3) hV3 ho3 hl3 hP3 (by decide) hu3 (by decide)) (by first | decide | omega) (fun N4 hc4 => ?_)
  have hN4 := sp_c_ag hV3 hc4 (by decide)
  refine mv_go' 3 (pc' := if 0 ≤ ((4 * u + 3 : Nat) : Int) ∧ ((4 * u + 3 : Nat) : Int) < 24 then 38 else mv_bad) (ls' := [mv_R 30, mv_I (u : Int), mv_I 3, mv_I ((4 * u + 3 : Nat) : Int)]) (st' := []) (M1 := (mv_st N4 33 (mv_up (N4 33) (4 * u + 3) (if 0 < (mv_w ((V3 3 (4 * u + 3)) - (sp_says V3 P 2 u 3 0))) then (mv_w ((V3 3 (4 * u + 3)) - (sp_says V3 P 2 u 3 0))) else 0)))) rfl ?_
  refine mv_tt' (by omega) ?_
  refine mv_go' 2 (pc' := 2) (ls' := [mv_R 30, mv_I (u : Int), mv_I (mv_w (3 + 1)), mv_I ((4 * u + 3 : Nat) : Int)]) (st' := []) (M1 := (mv_st N4 33 (mv_up (N4 33) (4 * u + 3) (if 0 < (mv_w ((V3 3 (4 * u + 3)) - (sp_says V3 P 2 u 3 0))) then (mv_w ((V3 3 (4 * u + 3)) - (sp_says V3 P 2 u 3 0))) else 0)))) rfl ?_
  rw [show mv_w (3 + 1) = 4 from by (rw [show mv_w (3 + 1) = 3 + 1 from mv_w_id (by omega) (by omega)]) <;> omega]
  rw [show mv_w ((V3 3 (4 * u + 3)) - (sp_says V3 P 2 u 3 0)) = (V3 3 (4 * u + 3)) - (sp_says V3 P 2 u 3 0) from mv_w_id (by omega) (by omega)]
  obtain ⟨V4, e4⟩ : ∃ V4, V4 = sp_tk V3 P u 3 := ⟨_, rfl⟩
  have hV4 : sp_c 30 (mv_st N4 33 (mv_up (N4 33) (4 * u + 3) (if 0 < ((V3 3 (4 * u + 3)) - (sp_says V3 P 2 u 3 0)) then ((V3 3 (4 * u + 3)) - (sp_says V3 P 2 u 3 0)) else 0))) V4 := by rw [e4]; exact sp_c_st3 hN4
  have ha4 : mv_ag [33, 36, 37] M (mv_st N4 33 (mv_up (N4 33) (4 * u + 3) (if 0 < ((V3 3 (4 * u + 3)) - (sp_says V3 P 2 u 3 0)) then ((V3 3 (4 * u + 3)) - (sp_says V3 P 2 u 3 0)) else 0))) := ((ha3.tr (hc4.wd (by decide)))).st (by decide)
  have ho4 : sp_ok V4 := by rw [e4]; exact sp_ok_tk P ho3 (by omega)
  have hP4 := sp_cts_ag hP ha4 hn hS
  generalize (mv_st N4 33 (mv_up (N4 33) (4 * u + 3) (if 0 < ((V3 3 (4 * u + 3)) - (sp_says V3 P 2 u 3 0)) then ((V3 3 (4 * u + 3)) - (sp_says V3 P 2 u 3 0)) else 0))) = M4 at hV4 ha4 hP4 ⊢
  refine mv_go' 3 (pc' := if 4 < 4 then 7 else 44) (ls' := [mv_R 30, mv_I (u : Int), mv_I 4, mv_I ((4 * u + 3 : Nat) : Int)]) (st' := []) (M1 := M4) rfl ?_
  refine mv_ff' (by decide) ?_
  exact mv_ret (fun n => rfl) (⟨ha4, by unfold sp_tire; rw [← e1, ← e2, ← e3, ← e4]; exact hV4⟩)
theorem sp_ctire_50 {V M : mv_M} {P : Nat → Nat → List Int} {n : Int} {u : Nat} (hV : sp_c 50 M V) (ho : sp_ok V) (hl : V 0 11 < n) (hn : n ≤ 6) (hP : sp_cts M P n) (hu : (u : Int) < V 0 9) :
    mv_Ru 3 60 0 [mv_R 50, mv_I (u : Int), mv_U, mv_U] [] M mv_U (fun M1 => mv_ag [53, 56, 57] M M1 ∧ sp_c 50 M1 (sp_tire V P u)) := by
  have hS : ∀ i, 10 ≤ i → i < 28 → i ∉ [53, 56, 57] := fun i h1 h2 => by simp; omega
  have h9 := sp_ok_s9 ho
  have ha : mv_ag [53, 56, 57] M M := mv_ag.rf
  refine mv_go' 2 (pc' := 2) (ls' := [mv_R 50, mv_I (u : Int), mv_I 0, mv_U]) (st' := []) (M1 := M) rfl ?_
  refine mv_go' 3 (pc' := if 0 < 4 then 7 else 44) (ls' := [mv_R 50, mv_I (u : Int), mv_I 0, mv_U]) (st' := []) (M1 := M) rfl ?_
  refine mv_tt' (by decide) ?_
  refine mv_go' 13 (pc' := 24) (ls' := [mv_R 50, mv_I (u : Int), mv_I 0, mv_I (mv_w ((mv_w ((u : Int) * 4)) + 0))]) (st' := [mv_I (mv_w ((mv_w ((u : Int) * 4)) + 0)), mv_R 53, mv_I 0, mv_I (mv_w ((mv_w ((u : Int) * 4)) + 0)), mv_R 53]) (M1 := M) rfl ?_
  rw [show mv_w ((mv_w ((u : Int) * 4)) + 0) = ((4 * u : Nat) : Int) from by (rw [show mv_w ((u : Int) * 4) = (u : Int) * 4 from mv_w_id (by omega) (by omega), show mv_w (((u : Int) * 4) + 0) = ((u : Int) * 4) + 0 from mv_w_id (by omega) (by omega)]) <;> omega]
  refine mv_go' 1 (pc' := if 0 ≤ ((4 * u : Nat) : Int) ∧ ((4 * u : Nat) : Int) < 24 then 25 else mv_bad) (ls' := [mv_R 50, mv_I (u : Int), mv_I 0, mv_I ((4 * u : Nat) : Int)]) (st' := [mv_I (M 53 (4 * u)), mv_I 0, mv_I ((4 * u : Nat) : Int), mv_R 53]) (M1 := M) rfl ?_
  refine mv_tt' (by omega) ?_
  have hr9 := sp_ok_3 ho (4 * u) (by omega)
  rw [show M 53 (4 * u) = V 3 (4 * u) from by exact sp_c_3 hV (4 * u) (by omega)]
  refine mv_go' 5 (pc' := 30) (ls' := [mv_R 50, mv_I (u : Int), mv_I 0, mv_I ((4 * u : Nat) : Int)]) (st' := [mv_I 0, mv_I 0, mv_I (u : Int), mv_I 2, mv_R 50, mv_I (V 3 (4 * u)), mv_I 0, mv_I ((4 * u : Nat) : Int), mv_R 53]) (M1 := M) rfl ?_
  have g1 := sp_says_b2 V P u 0 0
  refine mv_call (st2 := [mv_I (sp_says V P 2 u 0 0), mv_I (V 3 (4 * u)), mv_I 0, mv_I ((4 * u : Nat) : Int), mv_R 53]) rfl (Or.inl rfl) rfl rfl rfl (sp_csays_50 (p := 2) (k := 0) hV ho hl hP (by decide) hu (by decide)) (by first | decide | omega) (fun N1 hc1 => ?_)
  have hN1 := sp_c_ag hV hc1 (by decide)
  refine mv_go' 3 (pc' := if 0 ≤ ((4 * u : Nat) : Int) ∧ ((4 * u : Nat) : Int) < 24 then 38 else mv_bad) (ls' := [mv_R 50, mv_I (u : Int), mv_I 0, mv_I ((4 * u : Nat) : Int)]) (st' := []) (M1 := (mv_st N1 53 (mv_up (N1 53) (4 * u) (if 0 < (mv_w ((V 3 (4 * u)) - (sp_says V P 2 u 0 0))) then (mv_w ((V 3 (4 * u)) - (sp_says V P 2 u 0 0))) else 0)))) rfl ?_
  refine mv_tt' (by omega) ?_
  refine mv_go' 2 (pc' := 2) (ls' := [mv_R 50, mv_I (u : Int), mv_I (mv_w (0 + 1)), mv_I ((4 * u : Nat) : Int)]) (st' := []) (M1 := (mv_st N1 53 (mv_up (N1 53) (4 * u) (if 0 < (mv_w ((V 3 (4 * u)) - (sp_says V P 2 u 0 0))) then (mv_w ((V 3 (4 * u)) - (sp_says V P 2 u 0 0))) else 0)))) rfl ?_
  rw [show mv_w (0 + 1) = 1 from by (rw [show mv_w (0 + 1) = 0 + 1 from mv_w_id (by omega) (by omega)]) <;> omega]
  rw [show mv_w ((V 3 (4 * u)) - (sp_says V P 2 u 0 0)) = (V 3 (4 * u)) - (sp_says V P 2 u 0 0) from mv_w_id (by omega) (by omega)]
  obtain ⟨V1, e1⟩ : ∃ V1, V1 = sp_tk V P u 0 := ⟨_, rfl⟩
  have hV1 : sp_c 50 (mv_st N1 53 (mv_up (N1 53) (4 * u) (if 0 < ((V 3 (4 * u)) - (sp_says V P 2 u 0 0)) then ((V 3 (4 * u)) - (sp_says V P 2 u 0 0)) else 0))) V1 := by rw [e1]; exact sp_c_st3 hN1
  have ha1 : mv_ag [53, 56, 57] M (mv_st N1 53 (mv_up (N1 53) (4 * u) (if 0 < ((V 3 (4 * u)) - (sp_says V P 2 u 0 0)) then ((V 3 (4 * u)) - (sp_says V P 2 u 0 0)) else 0))) := ((ha.tr (hc1.wd (by decide)))).st (by decide)
  have ho1 : sp_ok V1 := by rw [e1]; exact sp_ok_tk P ho (by omega)
  have hP1 := sp_cts_ag hP ha1 hn hS
  generalize (mv_st N1 53 (mv_up (N1 53) (4 * u) (if 0 < ((V 3 (4 * u)) - (sp_says V P 2 u 0 0)) then ((V 3 (4 * u)) - (sp_says V P 2 u 0 0)) else 0))) = M1 at hV1 ha1 hP1 ⊢
  have hu1 : (u : Int) < V1 0 9 := by rw [e1]; exact hu
  have hl1 : V1 0 11 < n := by rw [e1]; exact hl
  refine mv_go' 3 (pc' := if 1 < 4 then 7 else 44) (ls' := [mv_R 50, mv_I (u : Int), mv_I 1, mv_I ((4 * u : Nat) : Int)]) (st' := []) (M1 := M1) rfl ?_
  refine mv_tt' (by decide) ?_
  refine mv_go' 13 (pc' := 24) (ls' := [mv_R 50, mv_I (u : Int), mv_I 1, mv_I (mv_w ((mv_w ((u : Int) * 4)) + 1))]) (st' := [mv_I (mv_w ((mv_w ((u : Int) * 4)) + 1)), mv_R 53, mv_I 0, mv_I (mv_w ((mv_w ((u : Int) * 4)) + 1)), mv_R 53]) (M1 := M1) rfl ?_
  rw [show mv_w ((mv_w ((u : Int) * 4)) + 1) = ((4 * u + 1 : Nat) : Int) from by (rw [show mv_w ((u : Int) * 4) = (u : Int) * 4 from mv_w_id (by omega) (by omega), show mv_w (((u : Int) * 4) + 1) = ((u : Int) * 4) + 1 from mv_w_id (by omega) (by omega)]) <;> omega]
  refine mv_go' 1 (pc' := if 0 ≤ ((4 * u + 1 : Nat) : Int) ∧ ((4 * u + 1 : Nat) : Int) < 24 then 25 else mv_bad) (ls' := [mv_R 50, mv_I (u : Int), mv_I 1, mv_I ((4 * u + 1 : Nat) : Int)]) (st' := [mv_I (M1 53 (4 * u + 1)), mv_I 0, mv_I ((4 * u + 1 : Nat) : Int), mv_R 53]) (M1 := M1) rfl ?_
  refine mv_tt' (by omega) ?_
  have hr11 := sp_ok_3 ho1 (4 * u + 1) (by omega)
  rw [show M1 53 (4 * u + 1) = V1 3 (4 * u + 1) from by exact sp_c_3 hV1 (4 * u + 1) (by omega)]
  refine mv_go' 5 (pc' := 30) (ls' := [mv_R 50, mv_I (u : Int), mv_I 1, mv_I ((4 * u + 1 : Nat) : Int)]) (st' := [mv_I 0, mv_I 1, mv_I (u : Int), mv_I 2, mv_R 50, mv_I (V1 3 (4 * u + 1)), mv_I 0, mv_I ((4 * u + 1 : Nat) : Int), mv_R 53]) (M1 := M1) rfl ?_
  have g2 := sp_says_b2 V1 P u 1 0
  refine mv_call (st2 := [mv_I (sp_says V1 P 2 u 1 0), mv_I (V1 3 (4 * u + 1)), mv_I 0, mv_I ((4 * u + 1 : Nat) : Int), mv_R 53]) rfl (Or.inl rfl) rfl rfl rfl (sp_csays_50 (p := 2) (k := 1) hV1 ho1 hl1 hP1 (by decide) hu1 (by decide)) (by first | decide | omega) (fun N2 hc2 => ?_)
  have hN2 := sp_c_ag hV1 hc2 (by decide)
  refine mv_go' 3 (pc' := if 0 ≤ ((4 * u + 1 : Nat) : Int) ∧ ((4 * u + 1 : Nat) : Int) < 24 then 38 else mv_bad) (ls' := [mv_R 50, mv_I (u : Int), mv_I 1, mv_I ((4 * u + 1 : Nat) : Int)]) (st' := []) (M1 := (mv_st N2 53 (mv_up (N2 53) (4 * u + 1) (if 0 < (mv_w ((V1 3 (4 * u + 1)) - (sp_says V1 P 2 u 1 0))) then (mv_w ((V1 3 (4 * u + 1)) - (sp_says V1 P 2 u 1 0))) else 0)))) rfl ?_
  refine mv_tt' (by omega) ?_
  refine mv_go' 2 (pc' := 2) (ls' := [mv_R 50, mv_I (u : Int), mv_I (mv_w (1 + 1)), mv_I ((4 * u + 1 : Nat) : Int)]) (st' := []) (M1 := (mv_st N2 53 (mv_up (N2 53) (4 * u + 1) (if 0 < (mv_w ((V1 3 (4 * u + 1)) - (sp_says V1 P 2 u 1 0))) then (mv_w ((V1 3 (4 * u + 1)) - (sp_says V1 P 2 u 1 0))) else 0)))) rfl ?_
  rw [show mv_w (1 + 1) = 2 from by (rw [show mv_w (1 + 1) = 1 + 1 from mv_w_id (by omega) (by omega)]) <;> omega]
  rw [show mv_w ((V1 3 (4 * u + 1)) - (sp_says V1 P 2 u 1 0)) = (V1 3 (4 * u + 1)) - (sp_says V1 P 2 u 1 0) from mv_w_id (by omega) (by omega)]
  obtain ⟨V2, e2⟩ : ∃ V2, V2 = sp_tk V1 P u 1 := ⟨_, rfl⟩
  have hV2 : sp_c 50 (mv_st N2 53 (mv_up (N2 53) (4 * u + 1) (if 0 < ((V1 3 (4 * u + 1)) - (sp_says V1 P 2 u 1 0)) then ((V1 3 (4 * u + 1)) - (sp_says V1 P 2 u 1 0)) else 0))) V2 := by rw [e2]; exact sp_c_st3 hN2
  have ha2 : mv_ag [53, 56, 57] M (mv_st N2 53 (mv_up (N2 53) (4 * u + 1) (if 0 < ((V1 3 (4 * u + 1)) - (sp_says V1 P 2 u 1 0)) then ((V1 3 (4 * u + 1)) - (sp_says V1 P 2 u 1 0)) else 0))) := ((ha1.tr (hc2.wd (by decide)))).st (by decide)
  have ho2 : sp_ok V2 := by rw [e2]; exact sp_ok_tk P ho1 (by omega)
  have hP2 := sp_cts_ag hP ha2 hn hS
  generalize (mv_st N2 53 (mv_up (N2 53) (4 * u + 1) (if 0 < ((V1 3 (4 * u + 1)) - (sp_says V1 P 2 u 1 0)) then ((V1 3 (4 * u + 1)) - (sp_says V1 P 2 u 1 0)) else 0))) = M2 at hV2 ha2 hP2 ⊢
  have hu2 : (u : Int) < V2 0 9 := by rw [e2]; exact hu1
  have hl2 : V2 0 11 < n := by rw [e2]; exact hl1
  refine mv_go' 3 (pc' := if 2 < 4 then 7 else 44) (ls' := [mv_R 50, mv_I (u : Int), mv_I 2, mv_I ((4 * u + 1 : Nat) : Int)]) (st' := []) (M1 := M2) rfl ?_
  refine mv_tt' (by decide) ?_
  refine mv_go' 13 (pc' := 24) (ls' := [mv_R 50, mv_I (u : Int), mv_I 2, mv_I (mv_w ((mv_w ((u : Int) * 4)) + 2))]) (st' := [mv_I (mv_w ((mv_w ((u : Int) * 4)) + 2)), mv_R 53, mv_I 0, mv_I (mv_w ((mv_w ((u : Int) * 4)) + 2)), mv_R 53]) (M1 := M2) rfl ?_
  rw [show mv_w ((mv_w ((u : Int) * 4)) + 2) = ((4 * u + 2 : Nat) : Int) from by (rw [show mv_w ((u : Int) * 4) = (u : Int) * 4 from mv_w_id (by omega) (by omega), show mv_w (((u : Int) * 4) + 2) = ((u : Int) * 4) + 2 from mv_w_id (by omega) (by omega)]) <;> omega]
  refine mv_go' 1 (pc' := if 0 ≤ ((4 * u + 2 : Nat) : Int) ∧ ((4 * u + 2 : Nat) : Int) < 24 then 25 else mv_bad) (ls' := [mv_R 50, mv_I (u : Int), mv_I 2, mv_I ((4 * u + 2 : Nat) : Int)]) (st' := [mv_I (M2 53 (4 * u + 2)), mv_I 0, mv_I ((4 * u + 2 : Nat) : Int), mv_R 53]) (M1 := M2) rfl ?_
  refine mv_tt' (by omega) ?_
  have hr13 := sp_ok_3 ho2 (4 * u + 2) (by omega)
  rw [show M2 53 (4 * u + 2) = V2 3 (4 * u + 2) from by exact sp_c_3 hV2 (4 * u + 2) (by omega)]
  refine mv_go' 5 (pc' := 30) (ls' := [mv_R 50, mv_I (u : Int), mv_I 2, mv_I ((4 * u + 2 : Nat) : Int)]) (st' := [mv_I 0, mv_I 2, mv_I (u : Int), mv_I 2, mv_R 50, mv_I (V2 3 (4 * u + 2)), mv_I 0, mv_I ((4 * u + 2 : Nat) : Int), mv_R 53]) (M1 := M2) rfl ?_
  have g3 := sp_says_b2 V2 P u 2 0
  refine mv_call (st2 := [mv_I (sp_says V2 P 2 u 2 0), mv_I (V2 3 (4 * u + 2)), mv_I 0, mv_I ((4 * u + 2 : Nat) : Int), mv_R 53]) rfl (Or.inl rfl) rfl rfl rfl (sp_csays_50 (p := 2) (k := 2) hV2 ho2 hl2 hP2 (by decide) hu2 (by decide)) (by first | decide | omega) (fun N3 hc3 => ?_)
  have hN3 := sp_c_ag hV2 hc3 (by decide)
  refine mv_go' 3 (pc' := if 0 ≤ ((4 * u + 2 : Nat) : Int) ∧ ((4 * u + 2 : Nat) : Int) < 24 then 38 else mv_bad) (ls' := [mv_R 50, mv_I (u : Int), mv_I 2, mv_I ((4 * u + 2 : Nat) : Int)]) (st' := []) (M1 := (mv_st N3 53 (mv_up (N3 53) (4 * u + 2) (if 0 < (mv_w ((V2 3 (4 * u + 2)) - (sp_says V2 P 2 u 2 0))) then (mv_w ((V2 3 (4 * u + 2)) - (sp_says V2 P 2 u 2 0))) else 0)))) rfl ?_
  refine mv_tt' (by omega) ?_
  refine mv_go' 2 (pc' := 2) (ls' := [mv_R 50, mv_I (u : Int), mv_I (mv_w (2 + 1)), mv_I ((4 * u + 2 : Nat) : Int)]) (st' := []) (M1 := (mv_st N3 53 (mv_up (N3 53) (4 * u + 2) (if 0 < (mv_w ((V2 3 (4 * u + 2)) - (sp_says V2 P 2 u 2 0))) then (mv_w ((V2 3 (4 * u + 2)) - (sp_says V2 P 2 u 2 0))) else 0)))) rfl ?_
  rw [show mv_w (2 + 1) = 3 from by (rw [show mv_w (2 + 1) = 2 + 1 from mv_w_id (by omega) (by omega)]) <;> omega]
  rw [show mv_w ((V2 3 (4 * u + 2)) - (sp_says V2 P 2 u 2 0)) = (V2 3 (4 * u + 2)) - (sp_says V2 P 2 u 2 0) from mv_w_id (by omega) (by omega)]
  obtain ⟨V3, e3⟩ : ∃ V3, V3 = sp_tk V2 P u 2 := ⟨_, rfl⟩
  have hV3 : sp_c 50 (mv_st N3 53 (mv_up (N3 53) (4 * u + 2) (if 0 < ((V2 3 (4 * u + 2)) - (sp_says V2 P 2 u 2 0)) then ((V2 3 (4 * u + 2)) - (sp_says V2 P 2 u 2 0)) else 0))) V3 := by rw [e3]; exact sp_c_st3 hN3
  have ha3 : mv_ag [53, 56, 57] M (mv_st N3 53 (mv_up (N3 53) (4 * u + 2) (if 0 < ((V2 3 (4 * u + 2)) - (sp_says V2 P 2 u 2 0)) then ((V2 3 (4 * u + 2)) - (sp_says V2 P 2 u 2 0)) else 0))) := ((ha2.tr (hc3.wd (by decide)))).st (by decide)
  have ho3 : sp_ok V3 := by rw [e3]; exact sp_ok_tk P ho2 (by omega)
  have hP3 := sp_cts_ag hP ha3 hn hS
  generalize (mv_st N3 53 (mv_up (N3 53) (4 * u + 2) (if 0 < ((V2 3 (4 * u + 2)) - (sp_says V2 P 2 u 2 0)) then ((V2 3 (4 * u + 2)) - (sp_says V2 P 2 u 2 0)) else 0))) = M3 at hV3 ha3 hP3 ⊢
  have hu3 : (u : Int) < V3 0 9 := by rw [e3]; exact hu2
  have hl3 : V3 0 11 < n := by rw [e3]; exact hl2
  refine mv_go' 3 (pc' := if 3 < 4 then 7 else 44) (ls' := [mv_R 50, mv_I (u : Int), mv_I 3, mv_I ((4 * u + 2 : Nat) : Int)]) (st' := []) (M1 := M3) rfl ?_
  refine mv_tt' (by decide) ?_
  refine mv_go' 13 (pc' := 24) (ls' := [mv_R 50, mv_I (u : Int), mv_I 3, mv_I (mv_w ((mv_w ((u : Int) * 4)) + 3))]) (st' := [mv_I (mv_w ((mv_w ((u : Int) * 4)) + 3)), mv_R 53, mv_I 0, mv_I (mv_w ((mv_w ((u : Int) * 4)) + 3)), mv_R 53]) (M1 := M3) rfl ?_
  rw [show mv_w ((mv_w ((u : Int) * 4)) + 3) = ((4 * u + 3 : Nat) : Int) from by (rw [show mv_w ((u : Int) * 4) = (u : Int) * 4 from mv_w_id (by omega) (by omega), show mv_w (((u : Int) * 4) + 3) = ((u : Int) * 4) + 3 from mv_w_id (by omega) (by omega)]) <;> omega]
  refine mv_go' 1 (pc' := if 0 ≤ ((4 * u + 3 : Nat) : Int) ∧ ((4 * u + 3 : Nat) : Int) < 24 then 25 else mv_bad) (ls' := [mv_R 50, mv_I (u : Int), mv_I 3, mv_I ((4 * u + 3 : Nat) : Int)]) (st' := [mv_I (M3 53 (4 * u + 3)), mv_I 0, mv_I ((4 * u + 3 : Nat) : Int), mv_R 53]) (M1 := M3) rfl ?_
  refine mv_tt' (by omega) ?_
  have hr15 := sp_ok_3 ho3 (4 * u + 3) (by omega)
  rw [show M3 53 (4 * u + 3) = V3 3 (4 * u + 3) from by exact sp_c_3 hV3 (4 * u + 3) (by omega)]
  refine mv_go' 5 (pc' := 30) (ls' := [mv_R 50, mv_I (u : Int), mv_I 3, mv_I ((4 * u + 3 : Nat) : Int)]) (st' := [mv_I 0, mv_I 3, mv_I (u : Int), mv_I 2, mv_R 50, mv_I (V3 3 (4 * u + 3)), mv_I 0, mv_I ((4 * u + 3 : Nat) : Int), mv_R 53]) (M1 := M3) rfl ?_
  have g4 := sp_says_b2 V3 P u 3 0
  refine mv_call (st2 := [mv_I (sp_says V3 P 2 u 3 0), mv_I (V3 3 (4 * u + 3)), mv_I 0, mv_I ((4 * u + 3 : Nat) : Int), mv_R 53]) rfl (Or.inl rfl) rfl rfl rfl (sp_csays_50 (p := 2) (k := 3) hV3 ho3 hl3 hP3 (by decide) hu3 (by decide)) (by first | decide | omega) (fun N4 hc4 => ?_)
  have hN4 := sp_c_ag hV3 hc4 (by decide)
  refine mv_go' 3 (pc' := if 0 ≤ ((4 * u + 3 : Nat) : Int) ∧ ((4 * u + 3 : Nat) : Int) < 24 then 38 else mv_bad) (ls' := [mv_R 50, mv_I (u : Int), mv_I 3, mv_I ((4 * u + 3 : Nat) : Int)]) (st' := []) (M1 := (mv_st N4 53 (mv_up (N4 53) (4 * u + 3) (if 0 < (mv_w ((V3 3 (4 * u + 3)) - (sp_says V3 P 2 u 3 0))) then (mv_w ((V3 3 (4 * u + 3)) - (sp_says V3 P 2 u 3 0))) else 0)))) rfl ?_
  refine mv_tt' (by omega) ?_
  refine mv_go' 2 (pc' := 2) (ls' := [mv_R 50, mv_I (u : Int), mv_I (mv_w (3 + 1)), mv_I ((4 * u + 3 : Nat) : Int)]) (st' := []) (M1 := (mv_st N4 53 (mv_up (N4 53) (4 * u + 3) (if 0 < (mv_w ((V3 3 (4 * u + 3)) - (sp_says V3 P 2 u 3 0))) then (mv_w ((V3 3 (4 * u + 3)) - (sp_says V3 P 2 u 3 0))) else 0)))) rfl ?_
  rw [show mv_w (3 + 1) = 4 from by (rw [show mv_w (3 + 1) = 3 + 1 from mv_w_id (by omega) (by omega)]) <;> omega]
  rw [show mv_w ((V3 3 (4 * u + 3)) - (sp_says V3 P 2 u 3 0)) = (V3 3 (4 * u + 3)) - (sp_says V3 P 2 u 3 0) from mv_w_id (by omega) (by omega)]
  obtain ⟨V4, e4⟩ : ∃ V4, V4 = sp_tk V3 P u 3 := ⟨_, rfl⟩
  have hV4 : sp_c 50 (mv_st N4 53 (mv_up (N4 53) (4 * u + 3) (if 0 < ((V3 3 (4 * u + 3)) - (sp_says V3 P 2 u 3 0)) then ((V3 3 (4 * u + 3)) - (sp_says V3 P 2 u 3 0)) else 0))) V4 := by rw [e4]; exact sp_c_st3 hN4
  have ha4 : mv_ag [53, 56, 57] M (mv_st N4 53 (mv_up (N4 53) (4 * u + 3) (if 0 < ((V3 3 (4 * u + 3)) - (sp_says V3 P 2 u 3 0)) then ((V3 3 (4 * u + 3)) - (sp_says V3 P 2 u 3 0)) else 0))) := ((ha3.tr (hc4.wd (by decide)))).st (by decide)
  have ho4 : sp_ok V4 := by rw [e4]; exact sp_ok_tk P ho3 (by omega)
  have hP4 := sp_cts_ag hP ha4 hn hS
  generalize (mv_st N4 53 (mv_up (N4 53) (4 * u + 3) (if 0 < ((V3 3 (4 * u + 3)) - (sp_says V3 P 2 u 3 0)) then ((V3 3 (4 * u + 3)) - (sp_says V3 P 2 u 3 0)) else 0))) = M4 at hV4 ha4 hP4 ⊢
  refine mv_go' 3 (pc' := if 4 < 4 then 7 else 44) (ls' := [mv_R 50, mv_I (u : Int), mv_I 4, mv_I ((4 * u + 3 : Nat) : Int)]) (st' := []) (M1 := M4) rfl ?_
  refine mv_ff' (by decide) ?_
  exact mv_ret (fun n => rfl) (⟨ha4, by unfold sp_tire; rw [← e1, ← e2, ← e3, ← e4]; exact hV4⟩)
