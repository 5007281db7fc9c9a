/-! calls that change the ward: what they must keep; force -/
def sp_keep2 (i : Nat) : Bool := Nat.blt i 30 || (Nat.ble 40 i && Nat.ble i 45) || (Nat.ble 70 i && Nat.ble i 79) || Nat.beq i 108 || Nat.beq i 110 || Nat.beq i 111 || (Nat.ble 115 i && Nat.ble i 119) || Nat.beq i 125
theorem sp_R_up {V V2 : mv_M} {P : Nat → Nat → List Int} {n : Int} {B : mv_M} {K : Int} {t : Nat} {M M2 : mv_M} (h : sp_R V P n B K t M) (hc : sp_c 30 M2 V2) (hm : sp_m M2 V2) (ho : sp_ok V2) (hy : V2 0 10 ≤ 99) (hl : V2 0 11 < n) (hu : V 0 9 ≤ V2 0 9)
    (hk : ∀ u : Nat, (u : Int) < V 0 9 → V2 4 u = V 4 u ∧ V2 5 u = V 5 u) (e : ∀ i, sp_keep2 i = true → M2 i = M i) (e100 : M2 100 9 = M 100 9 ∧ M2 100 12 = M 100 12 ∧ M2 100 14 = M 100 14) : sp_R V2 P n B K t M2 := by
  obtain ⟨_, ⟨_, _, hn1, hn⟩, ⟨hct, hmt, hn7, hn12⟩, hi, ht, hs, hw⟩ := h
  obtain ⟨q9, q12, q14⟩ := e100
  refine ⟨⟨hc, hm, ho⟩, ⟨hy, hl, hn1, hn⟩, ⟨?_, ?_, ?_, ?_⟩, ?_, ?_, ?_, ?_⟩
  · intro t ht
    have hk : ∀ i, i < 30 → sp_keep2 i = true := fun i hi => by unfold sp_keep2; rw [show Nat.blt i 30 = true from Nat.ble_eq_true_of_le hi]; rfl
    unfold sp_ct
    rw [e _ (hk (10 + 3 * t + 1) (by omega)), e _ (hk (10 + 3 * t + 2) (by omega))]
    exact hct t ht
  · intro t ht
    unfold sp_mt
    rw [e 110 rfl, e 111 rfl]
    exact hmt t ht
  · rw [e 0 rfl]; exact hn7
  · rw [q12]; exact hn12
  · unfold sp_im sp_c sp_mi at hi ⊢
    rw [e 0 rfl, q14, e 40 rfl, e (40 + 1) rfl, e (40 + 2) rfl, e (40 + 3) rfl, e (40 + 4) rfl, e (40 + 5) rfl, e 115 rfl, e 116 rfl]
    refine ⟨hi.1, hi.2.1, hi.2.2.1, fun hK => ?_⟩
    obtain ⟨a, ⟨b1, b2, b3⟩, c⟩ := hi.2.2.2 hK
    exact ⟨a, ⟨by omega, b2, b3⟩, fun u hu2 => by rw [(hk u (by omega)).1, (hk u (by omega)).2]; exact c u hu2⟩
  · unfold sp_tp at ht ⊢
    rw [e 28 rfl, q9, e 29 rfl, e 108 rfl]
    exact ht
  · intro s hs4
    have h1 := hs s hs4
    have hk : sp_keep2 (71 + 2 * s) = true ∧ sp_keep2 (72 + 2 * s) = true := by
      rcases (by omega : s = 0 ∨ s = 1 ∨ s = 2 ∨ s = 3) with q | q | q | q <;> rw [q] <;> exact ⟨rfl, rfl⟩
    rw [e _ hk.1, e _ hk.2, e 117 rfl, e 118 rfl, e 119 rfl]
    exact h1
  · rw [e 125 rfl]; exact hw
theorem sp_c_sc {w : Nat} {M V : mv_M} {k : Nat} {z : Int} (hk : k = 10 ∨ k = 11) (h : sp_c w M V) : sp_c w (mv_st M w (mv_up (M w) k z)) (mv_st V 0 (mv_up (V 0) k z)) := by
  unfold sp_c
  rw [mv_st_n _ _ (show w + 1 ≠ w by omega), mv_st_n _ _ (show w + 2 ≠ w by omega), mv_st_n _ _ (show w + 3 ≠ w by omega), mv_st_n _ _ (show w + 4 ≠ w by omega), mv_st_n _ _ (show w + 5 ≠ w by omega), mv_st_s]
  rcases hk with q | q <;> subst q
  · exact ⟨⟨h.1.1, h.1.2.1, rfl, h.1.2.2.2⟩, h.2⟩
  · exact ⟨⟨h.1.1, h.1.2.1, h.1.2.2.1, rfl⟩, h.2⟩
theorem sp_keep_n {S : List Nat} {M M2 : mv_M} (h : mv_ag S M M2) (hS : ∀ i ∈ S, sp_keep2 i = false) : ∀ i, sp_keep2 i = true → M2 i = M i := fun i hi => h i (fun hm => by rw [hS i hm] at hi; cases hi)
theorem sp_k4 (a : Int) : sp_call 65 139 [mv_I a] [mv_I a] := by
  refine sp_mk (lc := [mv_R 0, mv_I a, mv_U]) (lm := [mv_R 100, mv_I a, mv_U]) rfl rfl (fun M hI => ?_)
  obtain ⟨V, P, n, B, K, t, h⟩ := hI
  have h' := h
  obtain ⟨⟨hc, hm, ho⟩, ⟨hy, hl, hn1, hn⟩, ⟨hct, hmt, hn7, hn12⟩, _⟩ := h'
  have ho11 := sp_ok_s11 ho
  by_cases q : 0 ≤ a ∧ a < n
  · refine ⟨V 0 11, ?_⟩
    refine mv_go' 2 (pc' := if a < 0 then 12 else 4) (ls' := [mv_R 0, mv_I a, mv_U]) (st' := []) (M1 := M) rfl ?_
    refine mv_ff' (by omega) ?_
    refine mv_go' 3 (pc' := 9) (ls' := [mv_R 0, mv_I a, mv_U]) (st' := [mv_I (M 0 7), mv_I a]) (M1 := M) rfl ?_
    rw [show M 0 7 = n from by exact hn7]
    refine mv_go' 1 (pc' := if a < n then 15 else 12) (ls' := [mv_R 0, mv_I a, mv_U]) (st' := []) (M1 := M) rfl ?_
    refine mv_tt' (by omega) ?_
    refine mv_go' 3 (pc' := 22) (ls' := [mv_R 0, mv_I a, mv_U]) (st' := [mv_I (M 30 11)]) (M1 := M) rfl ?_
    have hr1 := sp_ok_s11 ho
    rw [show M 30 11 = V 0 11 from by exact sp_c_s11 hc]
    refine mv_go' 6 (pc' := 32) (ls' := [mv_R 0, mv_I a, mv_I (V 0 11)]) (st' := [mv_I (V 0 11)]) (M1 := (mv_st M 30 (mv_up (M 30) 11 a))) rfl ?_
    refine mv_ret (fun n => rfl) ?_
    have hm1 : sp_m (mv_st M 30 (mv_up (M 30) 11 a)) V := hm
    obtain ⟨M1, e1⟩ : ∃ M1, M1 = (mv_st M 30 (mv_up (M 30) 11 a)) := ⟨_, rfl⟩
    rw [← e1] at hm1 ⊢
    have hn12' : M1 100 12 = n := by rw [e1]; exact hn12
    have h13 : M1 100 13 = V 0 11 := sp_m_s11 hm1
    refine mv_go' 4 (pc' := 6) (ls' := [mv_R 100, mv_I a, mv_U]) (st' := [mv_I (M1 100 12), mv_I 0, mv_I a]) (M1 := M1) rfl ?_
    rw [show M1 100 12 = n from by exact hn12']
    refine mv_go' 2 (pc' := 8) (ls' := [mv_R 100, mv_I a, mv_U]) (st' := [mv_I (mv_w (n - 1)), mv_I 0, mv_I a]) (M1 := M1) rfl ?_
    rw [show mv_w (n - 1) = n - 1 from mv_w_id (by omega) (by omega)]
    refine mv_callP (st2 := [mv_I 1]) rfl (Or.inr rfl) rfl rfl rfl (sp_min_t (by omega)) (by first | decide | omega) ?_
    refine mv_go' 1 (pc' := if 1 = 0 then 14 else 17) (ls' := [mv_R 100, mv_I a, mv_U]) (st' := []) (M1 := M1) rfl ?_
    refine mv_ff' (by decide) ?_
    refine mv_go' 2 (pc' := 21) (ls' := [mv_R 100, mv_I a, mv_U]) (st' := [mv_I (M1 100 13)]) (M1 := M1) rfl ?_
    have hr3 := sp_ok_s11 ho
    rw [show M1 100 13 = V 0 11 from by exact sp_m_s11 hm1]
    refine mv_go' 5 (pc' := 28) (ls' := [mv_R 100, mv_I a, mv_I (V 0 11)]) (st' := [mv_I (V 0 11)]) (M1 := (mv_st M1 100 (mv_up (M1 100) 13 a))) rfl ?_
    refine mv_ret (fun n => rfl) ⟨mv_st V 0 (mv_up (V 0) 11 a), P, n, B, K, t, sp_R_up h ?_ ?_ ?_ hy q.2 (Int.le_refl _) (fun u _ => ⟨rfl, rfl⟩) ?_ ?_⟩
    · rw [e1]; exact sp_c_sc (Or.inr rfl) hc
    · exact ⟨⟨hm1.1.1, hm1.1.2.1, hm1.1.2.2.1, rfl⟩, hm1.2⟩
    · exact ⟨ho.1, ho.2.1, ho.2.2.1, ⟨q.1, by show a < 6; omega⟩, ho.2.2.2.2⟩
    · exact sp_keep_n (S := [30, 100]) (by rw [e1]; repeat (first | exact mv_ag.rf | refine mv_ag.st ?_ (by decide))) (by decide)
    · rw [e1]; exact ⟨rfl, rfl, rfl⟩
  · refine ⟨-2, ?_⟩
    by_cases q0 : a < 0
    · refine mv_go' 2 (pc' := if a < 0 then 12 else 4) (ls' := [mv_R 0, mv_I a, mv_U]) (st' := []) (M1 := M) rfl ?_
      refine mv_tt' (q0) ?_
      refine mv_go' 1 (pc' := 14) (ls' := [mv_R 0, mv_I a, mv_U]) (st' := [mv_I (-2)]) (M1 := M) rfl ?_
      refine mv_ret (fun n => rfl) ?_
      refine mv_go' 4 (pc' := 6) (ls' := [mv_R 100, mv_I a, mv_U]) (st' := [mv_I (M 100 12), mv_I 0, mv_I a]) (M1 := M) rfl ?_
      rw [show M 100 12 = n from by exact hn12]
      refine mv_go' 2 (pc' := 8) (ls' := [mv_R 100, mv_I a, mv_U]) (st' := [mv_I (mv_w (n - 1)), mv_I 0, mv_I a]) (M1 := M) rfl ?_
      rw [show mv_w (n - 1) = n - 1 from mv_w_id (by omega) (by omega)]
      refine mv_callP (st2 := [mv_I 0]) rfl (Or.inr rfl) rfl rfl rfl (sp_min_f (by omega)) (by first | decide | omega) ?_
      refine mv_go' 1 (pc' := if 0 = 0 then 14 else 17) (ls' := [mv_R 100, mv_I a, mv_U]) (st' := []) (M1 := M) rfl ?_
      refine mv_tt' (rfl) ?_
      refine mv_go' 1 (pc' := 16) (ls' := [mv_R 100, mv_I a, mv_U]) (st' := [mv_I (-2)]) (M1 := M) rfl ?_
      exact mv_ret (fun n => rfl) (⟨V, P, n, B, K, t, h⟩)
    · refine mv_go' 2 (pc' := if a < 0 then 12 else 4) (ls' := [mv_R 0, mv_I a, mv_U]) (st' := []) (M1 := M) rfl ?_
      refine mv_ff' (q0) ?_
      refine mv_go' 3 (pc' := 9) (ls' := [mv_R 0, mv_I a, mv_U]) (st' := [mv_I (M 0 7), mv_I a]) (M1 := M) rfl ?_
      rw [show M 0 7 = n from by exact hn7]
      refine mv_go' 1 (pc' := if a < n then 15 else 12) (ls' := [mv_R 0, mv_I a, mv_U]) (st' := []) (M1 := M) rfl ?_
      refine mv_ff' (by omega) ?_
      refine mv_go' 1 (pc' := 14) (ls' := [mv_R 0, mv_I a, mv_U]) (st' := [mv_I (-2)]) (M1 := M) rfl ?_
      refine mv_ret (fun n => rfl) ?_
      refine mv_go' 4 (pc' := 6) (ls' := [mv_R 100, mv_I a, mv_U]) (st' := [mv_I (M 100 12), mv_I 0, mv_I a]) (M1 := M) rfl ?_
      rw [show M 100 12 = n from by exact hn12]
      refine mv_go' 2 (pc' := 8) (ls' := [mv_R 100, mv_I a, mv_U]) (st' := [mv_I (mv_w (n - 1)), mv_I 0, mv_I a]) (M1 := M) rfl ?_
      rw [show mv_w (n - 1) = n - 1 from mv_w_id (by omega) (by omega)]
      refine mv_callP (st2 := [mv_I 0]) rfl (Or.inr rfl) rfl rfl rfl (sp_min_f (by omega)) (by first | decide | omega) ?_
      refine mv_go' 1 (pc' := if 0 = 0 then 14 else 17) (ls' := [mv_R 100, mv_I a, mv_U]) (st' := []) (M1 := M) rfl ?_
      refine mv_tt' (rfl) ?_
      refine mv_go' 1 (pc' := 16) (ls' := [mv_R 100, mv_I a, mv_U]) (st' := [mv_I (-2)]) (M1 := M) rfl ?_
      exact mv_ret (fun n => rfl) (⟨V, P, n, B, K, t, h⟩)
