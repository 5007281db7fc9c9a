/-! a ward that is otherwise in one number -/
theorem mv_up_up (f : Nat → Int) (k : Nat) (a b : Int) : mv_up (mv_up f k a) k b = mv_up f k b := by
  funext j
  unfold mv_up
  split <;> rfl
theorem mv_up_id (f : Nat → Int) (k : Nat) : mv_up f k (f k) = f := by
  funext j
  unfold mv_up
  split
  · next h => rw [h]
  · rfl
theorem mv_st_id (M : mv_M) (i : Nat) : mv_st M i (M i) = M := by
  funext a
  unfold mv_st
  cases h : Nat.beq a i with
  | true => rw [Nat.eq_of_beq_eq_true h]; rfl
  | false => rfl
def sp_alt (V : mv_M) (r i : Nat) (x : Int) : mv_M := mv_st V r (mv_up (V r) i x)
theorem sp_alt_alt (V : mv_M) (r i : Nat) (x y : Int) : sp_alt (sp_alt V r i x) r i y = sp_alt V r i y := by
  unfold sp_alt
  rw [mv_st_s, mv_st_st, mv_up_up]
theorem sp_alt_id (V : mv_M) (r i : Nat) : sp_alt V r i (V r i) = V := by
  unfold sp_alt
  rw [mv_up_id, mv_st_id]
theorem sp_c_alt3 {w i : Nat} {M V : mv_M} {x : Int} (h : sp_c w M V) : sp_c w (mv_st M (w + 3) (mv_up (M (w + 3)) i x)) (sp_alt V 3 i x) := by
  unfold sp_c
  rw [mv_st_n _ _ (show w ≠ w + 3 by omega), mv_st_n _ _ (show w + 1 ≠ w + 3 by omega), mv_st_n _ _ (show w + 2 ≠ w + 3 by omega), mv_st_n _ _ (show w + 4 ≠ w + 3 by omega), mv_st_n _ _ (show w + 5 ≠ w + 3 by omega), mv_st_s]
  exact ⟨h.1, h.2.1, h.2.2.1, fun j hj => sp_up_c (h.2.2.2.1 j hj), h.2.2.2.2⟩
theorem sp_c_alt4 {w i : Nat} {M V : mv_M} {x : Int} (h : sp_c w M V) : sp_c w (mv_st M (w + 4) (mv_up (M (w + 4)) i x)) (sp_alt V 4 i x) := by
  unfold sp_c
  rw [mv_st_n _ _ (show w ≠ w + 4 by omega), mv_st_n _ _ (show w + 1 ≠ w + 4 by omega), mv_st_n _ _ (show w + 2 ≠ w + 4 by omega), mv_st_n _ _ (show w + 3 ≠ w + 4 by omega), mv_st_n _ _ (show w + 5 ≠ w + 4 by omega), mv_st_s]
  exact ⟨h.1, h.2.1, h.2.2.1, h.2.2.2.1, fun j hj => sp_up_c (h.2.2.2.2.1 j hj), h.2.2.2.2.2⟩
theorem sp_c_alt5 {w i : Nat} {M V : mv_M} {x : Int} (h : sp_c w M V) : sp_c w (mv_st M (w + 5) (mv_up (M (w + 5)) i x)) (sp_alt V 5 i x) := by
  unfold sp_c
  rw [mv_st_n _ _ (show w ≠ w + 5 by omega), mv_st_n _ _ (show w + 1 ≠ w + 5 by omega), mv_st_n _ _ (show w + 2 ≠ w + 5 by omega), mv_st_n _ _ (show w + 3 ≠ w + 5 by omega), mv_st_n _ _ (show w + 4 ≠ w + 5 by omega), mv_st_s]
  exact ⟨h.1, h.2.1, h.2.2.1, h.2.2.2.1, h.2.2.2.2.1, fun j hj => sp_up_c (h.2.2.2.2.2 j hj)⟩
theorem sp_c_alt10 {w : Nat} {M V : mv_M} {x : Int} (h : sp_c w M V) : sp_c w (mv_st M w (mv_up (M w) 10 x)) (sp_alt V 0 10 x) := sp_c_sc (Or.inl rfl) h
theorem sp_c_alt11 {w : Nat} {M V : mv_M} {x : Int} (h : sp_c w M V) : sp_c w (mv_st M w (mv_up (M w) 11 x)) (sp_alt V 0 11 x) := sp_c_sc (Or.inr rfl) h
theorem sp_m_alt3 {i : Nat} {M V : mv_M} {x : Int} (h : sp_m M V) : sp_m (mv_st M 105 (mv_up (M 105) i x)) (sp_alt V 3 i x) := ⟨h.1, h.2.1, h.2.2.1, fun j hj => sp_up_c (h.2.2.2.1 j hj), h.2.2.2.2⟩
theorem sp_m_alt4 {i : Nat} {M V : mv_M} {x : Int} (h : sp_m M V) : sp_m (mv_st M 102 (mv_up (M 102) i x)) (sp_alt V 4 i x) := ⟨h.1, h.2.1, h.2.2.1, h.2.2.2.1, fun j hj => sp_up_c (h.2.2.2.2.1 j hj), h.2.2.2.2.2⟩
theorem sp_m_alt5 {i : Nat} {M V : mv_M} {x : Int} (h : sp_m M V) : sp_m (mv_st M 103 (mv_up (M 103) i x)) (sp_alt V 5 i x) := ⟨h.1, h.2.1, h.2.2.1, h.2.2.2.1, h.2.2.2.2.1, fun j hj => sp_up_c (h.2.2.2.2.2 j hj)⟩
theorem sp_m_alt10 {M V : mv_M} {x : Int} (h : sp_m M V) : sp_m (mv_st M 100 (mv_up (M 100) 7 x)) (sp_alt V 0 10 x) := ⟨⟨h.1.1, h.1.2.1, rfl, h.1.2.2.2⟩, h.2⟩
theorem sp_m_alt11 {M V : mv_M} {x : Int} (h : sp_m M V) : sp_m (mv_st M 100 (mv_up (M 100) 13 x)) (sp_alt V 0 11 x) := ⟨⟨h.1.1, h.1.2.1, h.1.2.2.1, rfl⟩, h.2⟩
theorem sp_ok_alt3 {V : mv_M} {i : Nat} {x : Int} (h : sp_ok V) (hx : 0 ≤ x ∧ x ≤ 9) : sp_ok (sp_alt V 3 i x) :=
  ⟨h.1, h.2.1, h.2.2.1, h.2.2.2.1, h.2.2.2.2.1, h.2.2.2.2.2.1, fun j hj => sp_up_b (h.2.2.2.2.2.2.1 j hj) hx, h.2.2.2.2.2.2.2⟩
theorem sp_ok_alt4 {V : mv_M} {i : Nat} {x : Int} (h : sp_ok V) (hx : 0 ≤ x ∧ x ≤ 5) : sp_ok (sp_alt V 4 i x) :=
  ⟨h.1, h.2.1, h.2.2.1, h.2.2.2.1, h.2.2.2.2.1, h.2.2.2.2.2.1, h.2.2.2.2.2.2.1, fun j hj => sp_up_b (h.2.2.2.2.2.2.2.1 j hj) hx, h.2.2.2.2.2.2.2.2⟩
theorem sp_ok_alt5 {V : mv_M} {i : Nat} {x : Int} (h : sp_ok V) (hx : 0 ≤ x ∧ x ≤ 9) : sp_ok (sp_alt V 5 i x) :=
  ⟨h.1, h.2.1, h.2.2.1, h.2.2.2.1, h.2.2.2.2.1, h.2.2.2.2.2.1, h.2.2.2.2.2.2.1, h.2.2.2.2.2.2.2.1, fun j hj => sp_up_b (h.2.2.2.2.2.2.2.2 j hj) hx⟩
theorem sp_ok_alt10 {V : mv_M} {x : Int} (h : sp_ok V) (hx : 0 ≤ x ∧ x ≤ 200) : sp_ok (sp_alt V 0 10 x) := ⟨h.1, h.2.1, hx, h.2.2.2⟩
theorem sp_ok_alt11 {V : mv_M} {x : Int} (h : sp_ok V) (hx : 0 ≤ x ∧ x < 6) : sp_ok (sp_alt V 0 11 x) := ⟨h.1, h.2.1, h.2.2.1, hx, h.2.2.2.2⟩
def sp_pa (V : mv_M) (P : Nat → Nat → List Int) (g : Nat → Int) (z u r i x : Nat) : Int := sp_pv (sp_alt V r i (x : Int)) P g z u
theorem sp_cfa_0 {V M0 : mv_M} {P : Nat → Nat → List Int} {n : Int} {u z r i x : Nat} {g : Nat → Int} (hc : sp_c 50 M0 (sp_alt V r i (x : Int))) (ho : sp_ok (sp_alt V r i (x : Int))) (hl : sp_alt V r i (x : Int) 0 11 < n) (hn : n ≤ 6) (hP : sp_cts M0 P n) (hu : (u : Int) < sp_alt V r i (x : Int) 0 9) (hz : M0 71 2 = (z : Int)) (hz8 : (z : Int) ≤ sp_alt V r i (x : Int) 0 8) (hg : ∀ j, j < z → M0 72 j = g j) :
    mv_Ru 7 100 0 [mv_R 50, mv_R 71, mv_I (u : Int), mv_U] [] M0 (mv_I (sp_pa V P g z u r i x)) (fun M1 => mv_ag [56, 57] M0 M1) := sp_cfo_50_0 hc ho hl hn hP hu hz hz8 hg
theorem sp_cfa_1 {V M0 : mv_M} {P : Nat → Nat → List Int} {n : Int} {u z r i x : Nat} {g : Nat → Int} (hc : sp_c 50 M0 (sp_alt V r i (x : Int))) (ho : sp_ok (sp_alt V r i (x : Int))) (hl : sp_alt V r i (x : Int) 0 11 < n) (hn : n ≤ 6) (hP : sp_cts M0 P n) (hu : (u : Int) < sp_alt V r i (x : Int) 0 9) (hz : M0 73 2 = (z : Int)) (hz8 : (z : Int) ≤ sp_alt V r i (x : Int) 0 8) (hg : ∀ j, j < z → M0 74 j = g j) :
    mv_Ru 7 100 0 [mv_R 50, mv_R 73, mv_I (u : Int), mv_U] [] M0 (mv_I (sp_pa V P g z u r i x)) (fun M1 => mv_ag [56, 57] M0 M1) := sp_cfo_50_1 hc ho hl hn hP hu hz hz8 hg
theorem sp_cfa_2 {V M0 : mv_M} {P : Nat → Nat → List Int} {n : Int} {u z r i x : Nat} {g : Nat → Int} (hc : sp_c 50 M0 (sp_alt V r i (x : Int))) (ho : sp_ok (sp_alt V r i (x : Int))) (hl : sp_alt V r i (x : Int) 0 11 < n) (hn : n ≤ 6) (hP : sp_cts M0 P n) (hu : (u : Int) < sp_alt V r i (x : Int) 0 9) (hz : M0 75 2 = (z : Int)) (hz8 : (z : Int) ≤ sp_alt V r i (x : Int) 0 8) (hg : ∀ j, j < z → M0 76 j = g j) :
    mv_Ru 7 100 0 [mv_R 50, mv_R 75, mv_I (u : Int), mv_U] [] M0 (mv_I (sp_pa V P g z u r i x)) (fun M1 => mv_ag [56, 57] M0 M1) := sp_cfo_50_2 hc ho hl hn hP hu hz hz8 hg
theorem sp_cfa_3 {V M0 : mv_M} {P : Nat → Nat → List Int} {n : Int} {u z r i x : Nat} {g : Nat → Int} (hc : sp_c 50 M0 (sp_alt V r i (x : Int))) (ho : sp_ok (sp_alt V r i (x : Int))) (hl : sp_alt V r i (x : Int) 0 11 < n) (hn : n ≤ 6) (hP : sp_cts M0 P n) (hu : (u : Int) < sp_alt V r i (x : Int) 0 9) (hz : M0 77 2 = (z : Int)) (hz8 : (z : Int) ≤ sp_alt V r i (x : Int) 0 8) (hg : ∀ j, j < z → M0 78 j = g j) :
    mv_Ru 7 100 0 [mv_R 50, mv_R 77, mv_I (u : Int), mv_U] [] M0 (mv_I (sp_pa V P g z u r i x)) (fun M1 => mv_ag [56, 57] M0 M1) := sp_cfo_50_3 hc ho hl hn hP hu hz hz8 hg
theorem sp_mfa {V M0 : mv_M} {P : Nat → Nat → List Int} {n : Int} {S u z r i x : Nat} {g : Nat → Int} (hS : S < 4) (hm : sp_m M0 (sp_alt V r i (x : Int))) (ho : sp_ok (sp_alt V r i (x : Int))) (hl : sp_alt V r i (x : Int) 0 11 < n) (hP : sp_mts M0 P n) (hu : (u : Int) < sp_alt V r i (x : Int) 0 9) (hz : M0 118 S = (z : Int)) (hz8 : (z : Int) ≤ sp_alt V r i (x : Int) 0 8) (hg : ∀ j, j < z → M0 119 (40 * S + j) = g j) :
    mv_Ru 7 173 0 [mv_R 100, mv_I (S : Int), mv_I (u : Int), mv_U] [] M0 (mv_I (sp_pa V P g z u r i x)) (fun M1 => mv_ag [130, 131] M0 M1) := sp_mul hS hm ho hl hP hu hz hz8 hg
theorem sp_bend {V : mv_M} {P : Nat → Nat → List Int} {n : Int} {B : mv_M} {K : Int} {t : Nat} {M M1 M2 : mv_M} (h : sp_R V P n B K t M) (h1 : mv_ag [36, 37, 50, 51, 52, 53, 54, 55, 56, 57] M M1) (h2 : mv_ag [100, 102, 103, 104, 105, 130, 131, 132] M1 M2) (h100 : M2 100 9 = M1 100 9 ∧ M2 100 12 = M1 100 12 ∧ M2 100 14 = M1 100 14) (hm2 : sp_m M2 V) : sp_Inv M2 := by
  have h' := h
  obtain ⟨⟨hc, hm, ho⟩, ⟨hy, hl, hn1, hn⟩, _⟩ := h'
  have e : M1 100 = M 100 := h1 100 (by decide)
  exact ⟨V, P, n, B, K, t, sp_R_up h (sp_c_ag (sp_c_ag hc h1 (by decide)) h2 (by decide)) hm2 ho hy hl (Int.le_refl _) (fun u _ => ⟨rfl, rfl⟩) (sp_keep_n (S := [36, 37, 50, 51, 52, 53, 54, 55, 56, 57, 100, 102, 103, 104, 105, 130, 131, 132]) ((h1.wd (by decide)).tr (h2.wd (by decide))) (by decide)) (by rw [← e]; exact h100)⟩
/-! whose -/
theorem sp_cwh_0 {V M0 : mv_M} {P : Nat → Nat → List Int} {n : Int} {z d : Nat} {g : Nat → Int} {Q : mv_V → mv_M → Prop} (hc : sp_c 30 M0 V) (ho : sp_ok V) (hl : V 0 11 < n) (hn : n ≤ 6) (hP : sp_cts M0 P n) (hz : M0 71 2 = (z : Int)) (hz8 : (z : Int) ≤ V 0 8) (hg : ∀ j, j < z → M0 72 j = g j)
    (hQ : ∀ M2, mv_ag [36, 37] M0 M2 → mv_W (d + 8) 85 60 [mv_R 0, mv_I 0, mv_I 0, mv_I (sp_bits (sp_pv V P g z) (V 0 9).toNat), mv_I (V 0 9)] [] M2 Q) :
    ∀ (r u : Nat) (M : mv_M), (u : Int) + r = V 0 9 → mv_ag [36, 37] M0 M → mv_W (d + 8) 85 17 [mv_R 0, mv_I 0, mv_I 0, mv_I (sp_bits (sp_pv V P g z) u), mv_I (u : Int)] [] M Q := by
  have h9 := sp_ok_s9 ho
  intro r
  induction r with
  | zero =>
    intro u M hk hag
    have e : V 0 9 = (u : Int) := by omega
    have h92 : M 30 9 = (u : Int) := by rw [hag _ (by decide), sp_c_s9 hc, e]
    have hq := hQ M hag
    rw [e, Int.toNat_natCast] at hq
    refine mv_goW 4 (pc' := 26) (ls' := [mv_R 0, mv_I 0, mv_I 0, mv_I (sp_bits (sp_pv V P g z) u), mv_I (u : Int)]) (st' := [mv_I (M 30 9), mv_I (u : Int)]) (M1 := M) rfl ?_
    rw [show M 30 9 = (u : Int) from by exact h92]
    refine mv_goW 1 (pc' := if (u : Int) < (u : Int) then 29 else 60) (ls' := [mv_R 0, mv_I 0, mv_I 0, mv_I (sp_bits (sp_pv V P g z) u), mv_I (u : Int)]) (st' := []) (M1 := M) rfl ?_
    refine mv_ffW (by omega) ?_
    exact hq
  | succ r ih =>
    intro u M hk hag
    have h92 : M 30 9 = V 0 9 := by rw [hag _ (by decide), sp_c_s9 hc]
    refine mv_goW 4 (pc' := 26) (ls' := [mv_R 0, mv_I 0, mv_I 0, mv_I (sp_bits (sp_pv V P g z) u), mv_I (u : Int)]) (st' := [mv_I (M 30 9), mv_I (u : Int)]) (M1 := M) rfl ?_
    rw [show M 30 9 = V 0 9 from by exact h92]
    refine mv_goW 1 (pc' := if (u : Int) < (V 0 9) then 29 else 60) (ls' := [mv_R 0, mv_I 0, mv_I 0, mv_I (sp_bits (sp_pv V P g z) u), mv_I (u : Int)]) (st' := []) (M1 := M) rfl ?_
    refine mv_ttW (by omega) ?_
    refine mv_goW 4 (pc' := 35) (ls' := [mv_R 0, mv_I 0, mv_I 0, mv_I (sp_bits (sp_pv V P g z) u), mv_I (u : Int)]) (st' := [mv_I 0, mv_R 0, mv_R 30]) (M1 := M) rfl ?_
    refine mv_callPW (st2 := [mv_R 71, mv_R 30]) rfl (Or.inl rfl) rfl rfl rfl (sp_sheetAt_0) (by first | decide | omega) ?_
    refine mv_goW 1 (pc' := 40) (ls' := [mv_R 0, mv_I 0, mv_I 0, mv_I (sp_bits (sp_pv V P g z) u), mv_I (u : Int)]) (st' := [mv_I (u : Int), mv_R 71, mv_R 30]) (M1 := M) rfl ?_
    refine mv_callW (st2 := [mv_I (sp_pv V P g z u)]) rfl (Or.inr rfl) rfl rfl rfl (sp_cfv_0 (g := g) (u := u) (sp_c_ag hc hag (by decide)) ho hl hn (sp_cts_ag hP hag hn (fun i h1 h2 => by simp only [List.mem_cons, List.not_mem_nil, or_false]; omega)) (by omega) (by rw [hag _ (by decide)]; exact hz) hz8 (fun j hj => by rw [hag _ (by decide)]; exact hg j hj)) (by first | decide | omega) (fun Ma1 hm2 => ?_)
    have hx := hm2
    refine mv_goW 2 (pc' := if (sp_pv V P g z u) = (-1) then 47 else 54) (ls' := [mv_R 0, mv_I 0, mv_I 0, mv_I (sp_bits (sp_pv V P g z) u), mv_I (u : Int)]) (st' := []) (M1 := Ma1) rfl ?_
    refine mv_spW (fun ha3 => ?_) (fun ha3 => ?_)
    · refine mv_goW 8 (pc' := 17) (ls' := [mv_R 0, mv_I 0, mv_I 0, mv_I (mv_or (sp_bits (sp_pv V P g z) u) (mv_shl 1 (u : Int))), mv_I (mv_w ((u : Int) + 1))]) (st' := []) (M1 := Ma1) rfl ?_
      rw [show mv_w ((u : Int) + 1) = (u : Int) + 1 from mv_w_id (by omega) (by omega)]
      rw [show (u : Int) + 1 = ((u + 1 : Nat) : Int) from by omega]
      refine mv_eqsW (ls2 := [mv_R 0, mv_I 0, mv_I 0, mv_I (sp_bits (sp_pv V P g z) (u + 1)), mv_I ((u + 1 : Nat) : Int)]) (by rw [show mv_or (sp_bits (sp_pv V P g z) u) (mv_shl 1 (u : Int)) = sp_bits (sp_pv V P g z) (u + 1) from by simp only [sp_bits]; split <;> first | with_reducible rfl | omega]) rfl rfl (ih (u + 1) _ (by omega) (hag.tr hx))
    · refine mv_goW 2 (pc' := 17) (ls' := [mv_R 0, mv_I 0, mv_I 0, mv_I (sp_bits (sp_pv V P g z) u), mv_I (mv_w ((u : Int) + 1))]) (st' := []) (M1 := Ma1) rfl ?_
      rw [show mv_w ((u : Int) + 1) = (u : Int) + 1 from mv_w_id (by omega) (by omega)]
      rw [show (u : Int) + 1 = ((u + 1 : Nat) : Int) from by omega]
      refine mv_eqsW (ls2 := [mv_R 0, mv_I 0, mv_I 0, mv_I (sp_bits (sp_pv V P g z) (u + 1)), mv_I ((u + 1 : Nat) : Int)]) (by rw [show sp_bits (sp_pv V P g z) u = sp_bits (sp_pv V P g z) (u + 1) from by simp only [sp_bits]; split <;> first | with_reducible rfl | omega]) rfl rfl (ih (u + 1) _ (by omega) (hag.tr hx))
theorem sp_cwh_1 {V M0 : mv_M} {P : Nat → Nat → List Int} {n : Int} {z d : Nat} {g : Nat → Int} {Q : mv_V → mv_M → Prop} (hc : sp_c 30 M0 V) (ho : sp_ok V) (hl : V 0 11 < n) (hn : n ≤ 6) (hP : sp_cts M0 P n) (hz : M0 73 2 = (z : Int)) (hz8 : (z : Int) ≤ V 0 8) (hg : ∀ j, j < z → M0 74 j = g j)
    (hQ : ∀ M2, mv_ag [36, 37] M0 M2 → mv_W (d + 8) 85 60 [mv_R 0, mv_I 1, mv_I 0, mv_I (sp_bits (sp_pv V P g z) (V 0 9).toNat), mv_I (V 0 9)] [] M2 Q) :
    ∀ (r u : Nat) (M : mv_M), (u : Int) + r = V 0 9 → mv_ag [36, 37] M0 M → mv_W (d + 8) 85 17 [mv_R 0, mv_I 1, mv_I 0, mv_I (sp_bits (sp_pv V P g z) u), mv_I (u : Int)] [] M Q := by
  have h9 := sp_ok_s9 ho
  intro r
  induction r with
  | zero =>
    intro u M hk hag
    have e : V 0 9 = (u : Int) := by omega
    have h92 : M 30 9 = (u : Int) := by rw [hag _ (by decide), sp_c_s9 hc, e]
    have hq := hQ M hag
    rw [e, Int.toNat_natCast] at hq
    refine mv_goW 4 (pc' := 26) (ls' := [mv_R 0, mv_I 1, mv_I 0, mv_I (sp_bits (sp_pv V P g z) u), mv_I (u : Int)]) (st' := [mv_I (M 30 9), mv_I (u : Int)]) (M1 := M) rfl ?_
    rw [show M 30 9 = (u : Int) from by exact h92]
    refine mv_goW 1 (pc' := if (u : Int) < (u : Int) then 29 else 60) (ls' := [mv_R 0, mv_I 1, mv_I 0, mv_I (sp_bits (sp_pv V P g z) u), mv_I (u : Int)]) (st' := []) (M1 := M) rfl ?_
    refine mv_ffW (by omega) ?_
    exact hq
  | succ r ih =>
    intro u M hk hag
    have h92 : M 30 9 = V 0 9 := by rw [hag _ (by decide), sp_c_s9 hc]
    refine mv_goW 4 (pc' := 26) (ls' := [mv_R 0, mv_I 1, mv_I 0, mv_I (sp_bits (sp_pv V P g z) u), mv_I (u : Int)]) (st' := [mv_I (M 30 9), mv_I (u : Int)]) (M1 := M) rfl ?_
    rw [show M 30 9 = V 0 9 from by exact h92]
    refine mv_goW 1 (pc' := if (u : Int) < (V 0 9) then 29 else 60) (ls' := [mv_R 0, mv_I 1, mv_I 0, mv_I (sp_bits (sp_pv V P g z) u), mv_I (u : Int)]) (st' := []) (M1 := M) rfl ?_
    refine mv_ttW (by omega) ?_
    refine mv_goW 4 (pc' := 35) (ls' := [mv_R 0, mv_I 1, mv_I 0, mv_I (sp_bits (sp_pv V P g z) u), mv_I (u : Int)]) (st' := [mv_I 1, mv_R 0, mv_R 30]) (M1 := M) rfl ?_
    refine mv_callPW (st2 := [mv_R 73, mv_R 30]) rfl (Or.inl rfl) rfl rfl rfl (sp_sheetAt_1) (by first | decide | omega) ?_
    refine mv_goW 1 (pc' := 40) (ls' := [mv_R 0, mv_I 1, mv_I 0, mv_I (sp_bits (sp_pv V P g z) u), mv_I (u : Int)]) (st' := [mv_I (u : Int), mv_R 73, mv_R 30]) (M1 := M) rfl ?_
    refine mv_callW (st2 := [mv_I (sp_pv V P g z u)]) rfl (Or.inr rfl) rfl rfl rfl (sp_cfv_1 (g := g) (u := u) (sp_c_ag hc hag (by decide)) ho hl hn (sp_cts_ag hP hag hn (fun i h1 h2 => by simp only [List.mem_cons, List.not_mem_nil, or_false]; omega)) (by omega) (by rw [hag _ (by decide)]; exact hz) hz8 (fun j hj => by rw [hag _ (by decide)]; exact hg j hj)) (by first | decide | omega) (fun Ma4 hm5 => ?_)
    have hx := hm5
    refine mv_goW 2 (pc' := if (sp_pv V P g z u) = (-1) then 47 else 54) (ls' := [mv_R 0, mv_I 1, mv_I 0, mv_I (sp_bits (sp_pv V P g z) u), mv_I (u : Int)]) (st' := []) (M1 := Ma4) rfl ?_
    refine mv_spW (fun ha6 => ?_) (fun ha6 => ?_)
    · refine mv_goW 8 (pc' := 17) (ls' := [mv_R 0, mv_I 1, mv_I 0, mv_I (mv_or (sp_bits (sp_pv V P g z) u) (mv_shl 1 (u : Int))), mv_I (mv_w ((u : Int) + 1))]) (st' := []) (M1 := Ma4) rfl ?_
      rw [show mv_w ((u : Int) + 1) = (u : Int) + 1 from mv_w_id (by omega) (by omega)]
      rw [show (u : Int) + 1 = ((u + 1 : Nat) : Int) from by omega]
      refine mv_eqsW (ls2 := [mv_R 0, mv_I 1, mv_I 0, mv_I (sp_bits (sp_pv V P g z) (u + 1)), mv_I ((u + 1 : Nat) : Int)]) (by rw [show mv_or (sp_bits (sp_pv V P g z) u) (mv_shl 1 (u : Int)) = sp_bits (sp_pv V P g z) (u + 1) from by simp only [sp_bits]; split <;> first | with_reducible rfl | omega]) rfl rfl (ih (u + 1) _ (by omega) (hag.tr hx))
    · refine mv_goW 2 (pc' := 17) (ls' := [mv_R 0, mv_I 1, mv_I 0, mv_I (sp_bits (sp_pv V P g z) u), mv_I (mv_w ((u : Int) + 1))]) (st' := []) (M1 := Ma4) rfl ?_
      rw [show mv_w ((u : Int) + 1) = (u : Int) + 1 from mv_w_id (by omega) (by omega)]
      rw [show (u : Int) + 1 = ((u + 1 : Nat) : Int) from by omega]
      refine mv_eqsW (ls2 := [mv_R 0, mv_I 1, mv_I 0, mv_I (sp_bits (sp_pv V P g z) (u + 1)), mv_I ((u + 1 : Nat) : Int)]) (by rw [show sp_bits (sp_pv V P g z) u = sp_bits (sp_pv V P g z) (u + 1) from by simp only [sp_bits]; split <;> first | with_reducible rfl | omega]) rfl rfl (ih (u + 1) _ (by omega) (hag.tr hx))
theorem sp_cwh_2 {V M0 : mv_M} {P : Nat → Nat → List Int} {n : Int} {z d : Nat} {g : Nat → Int} {Q : mv_V → mv_M → Prop} (hc : sp_c 30 M0 V) (ho : sp_ok V) (hl : V 0 11 < n) (hn : n ≤ 6) (hP : sp_cts M0 P n) (hz : M0 75 2 = (z : Int)) (hz8 : (z : Int) ≤ V 0 8) (hg : ∀ j, j < z → M0 76 j = g j)
    (hQ : ∀ M2, mv_ag [36, 37] M0 M2 → mv_W (d + 8) 85 60 [mv_R 0, mv_I 2, mv_I 0, mv_I (sp_bits (sp_pv V P g z) (V 0 9).toNat), mv_I (V 0 9)] [] M2 Q) :
    ∀ (r u : Nat) (M : mv_M), (u : Int) + r = V 0 9 → mv_ag [36, 37] M0 M → mv_W (d + 8) 85 17 [mv_R 0, mv_I 2, mv_I 0, mv_I (sp_bits (sp_pv V P g z) u), mv_I (u : Int)] [] M Q := by
  have h9 := sp_ok_s9 ho
  intro r
  induction r with
  | zero =>
    intro u M hk hag
    have e : V 0 9 = (u : Int) := by omega
    have h92 : M 30 9 = (u : Int) := by rw [hag _ (by decide), sp_c_s9 hc, e]
    have hq := hQ M hag
    rw [e, Int.toNat_natCast] at hq
    refine mv_goW 4 (pc' := 26) (ls' := [mv_R 0, mv_I 2, mv_I 0, mv_I (sp_bits (sp_pv V P g z) u), mv_I (u : Int)]) (st' := [mv_I (M 30 9), mv_I (u : Int)]) (M1 := M) rfl ?_
    rw [show M 30 9 = (u : Int) from by exact h92]
    refine mv_goW 1 (pc' := if (u : Int) < (u : Int) then 29 else 60) (ls' := [mv_R 0, mv_I 2, mv_I 0, mv_I (sp_bits (sp_pv V P g z) u), mv_I (u : Int)]) (st' := []) (M1 := M) rfl ?_
    refine mv_ffW (by omega) ?_
    exact hq
  | succ r ih =>
    intro u M hk hag
    have h92 : M 30 9 = V 0 9 := by rw [hag _ (by decide), sp_c_s9 hc]
    refine mv_goW 4 (pc' := 26) (ls' := [mv_R 0, mv_I 2, mv_I 0, mv_I (sp_bits (sp_pv V P g z) u), mv_I (u : Int)]) (st' := [mv_I (M 30 9), mv_I (u : Int)]) (M1 := M) rfl ?_
    rw [show M 30 9 = V 0 9 from by exact h92]
    refine mv_goW 1 (pc' := if (u : Int) < (V 0 9) then 29 else 60) (ls' := [mv_R 0, mv_I 2, mv_I 0, mv_I (sp_bits (sp_pv V P g z) u), mv_I (u : Int)]) (st' := []) (M1 := M) rfl ?_
    refine mv_ttW (by omega) ?_
    refine mv_goW 4 (pc' := 35) (ls' := [mv_R 0, mv_I 2, mv_I 0, mv_I (sp_bits (sp_pv V P g z) u), mv_I (u : Int)]) (st' := [mv_I 2, mv_R 0, mv_R 30]) (M1 := M) rfl ?_
    refine mv_callPW (st2 := [mv_R 75, mv_R 30]) rfl (Or.inl rfl) rfl rfl rfl (sp_sheetAt_2) (by first | decide | omega) ?_
    refine mv_goW 1 (pc' := 40) (ls' := [mv_R 0, mv_I 2, mv_I 0, mv_I (sp_bits (sp_pv V P g z) u), mv_I (u : Int)]) (st' := [mv_I (u : Int), mv_R 75, mv_R 30]) (M1 := M) rfl ?_
    refine mv_callW (st2 := [mv_I (sp_pv V P g z u)]) rfl (Or.inr rfl) rfl rfl rfl (sp_cfv_2 (g := g) (u := u) (sp_c_ag hc hag (by decide)) ho hl hn (sp_cts_ag hP hag hn (fun i h1 h2 => by simp only [List.mem_cons, List.not_mem_nil, or_false]; omega)) (by omega) (by rw [hag _ (by decide)]; exact hz) hz8 (fun j hj => by rw [hag _ (by decide)]; exact hg j hj)) (by first | decide | omega) (fun Ma7 hm8 => ?_)
    have hx := hm8
    refine mv_goW 2 (pc' := if (sp_pv V P g z u) = (-1) then 47 else 54) (ls' := [mv_R 0, mv_I 2, mv_I 0, mv_I (sp_bits (sp_pv V P g z) u), mv_I (u : Int)]) (st' := []) (M1 := Ma7) rfl ?_
    refine mv_spW (fun ha9 => ?_) (fun ha9 => ?_)
    · refine mv_goW 8 (pc' := 17) (ls' := [mv_R 0, mv_I 2, mv_I 0, mv_I (mv_or (sp_bits (sp_pv V P g z) u) (mv_shl 1 (u : Int))), mv_I (mv_w ((u : Int) + 1))]) (st' := []) (M1 := Ma7) rfl ?_
      rw [show mv_w ((u : Int) + 1) = (u : Int) + 1 from mv_w_id (by omega) (by omega)]
      rw [show (u : Int) + 1 = ((u + 1 : Nat) : Int) from by omega]
      refine mv_eqsW (ls2 := [mv_R 0, mv_I 2, mv_I 0, mv_I (sp_bits (sp_pv V P g z) (u + 1)), mv_I ((u + 1 : Nat) : Int)]) (by rw [show mv_or (sp_bits (sp_pv V P g z) u) (mv_shl 1 (u : Int)) = sp_bits (sp_pv V P g z) (u + 1) from by simp only [sp_bits]; split <;> first | with_reducible rfl | omega]) rfl rfl (ih (u + 1) _ (by omega) (hag.tr hx))
    · refine mv_goW 2 (pc' := 17) (ls' := [mv_R 0, mv_I 2, mv_I 0, mv_I (sp_bits (sp_pv V P g z) u), mv_I (mv_w ((u : Int) + 1))]) (st' := []) (M1 := Ma7) rfl ?_
      rw [show mv_w ((u : Int) + 1) = (u : Int) + 1 from mv_w_id (by omega) (by omega)]
      rw [show (u : Int) + 1 = ((u + 1 : Nat) : Int) from by omega]
      refine mv_eqsW (ls2 := [mv_R 0, mv_I 2, mv_I 0, mv_I (sp_bits (sp_pv V P g z) (u + 1)), mv_I ((u + 1 : Nat) : Int)]) (by rw [show sp_bits (sp_pv V P g z) u = sp_bits (sp_pv V P g z) (u + 1) from by simp only [sp_bits]; split <;> first | with_reducible rfl | omega]) rfl rfl (ih (u + 1) _ (by omega) (hag.tr hx))
theorem sp_cwh_3 {V M0 : mv_M} {P : Nat → Nat → List Int} {n : Int} {z d : Nat} {g : Nat → Int} {Q : mv_V → mv_M → Prop} (hc : sp_c 30 M0 V) (ho : sp_ok V) (hl : V 0 11 < n) (hn : n ≤ 6) (hP : sp_cts M0 P n) (hz : M0 77 2 = (z : Int)) (hz8 : (z : Int) ≤ V 0 8) (hg : ∀ j, j < z → M0 78 j = g j)
    (hQ : ∀ M2, mv_ag [36, 37] M0 M2 → mv_W (d + 8) 85 60 [mv_R 0, mv_I 3, mv_I 0, mv_I (sp_bits (sp_pv V P g z) (V 0 9).toNat), mv_I (V 0 9)] [] M2 Q) :
    ∀ (r u : Nat) (M : mv_M), (u : Int) + r = V 0 9 → mv_ag [36, 37] M0 M → mv_W (d + 8) 85 17 [mv_R 0, mv_I 3, mv_I 0, mv_I (sp_bits (sp_pv V P g z) u), mv_I (u : Int)] [] M Q := by
  have h9 := sp_ok_s9 ho
  intro r
  induction r with
  | zero =>
    intro u M hk hag
    have e : V 0 9 = (u : Int) := by omega
    have h92 : M 30 9 = (u : Int) := by rw [hag _ (by decide), sp_c_s9 hc, e]
    have hq := hQ M hag
    rw [e, Int.toNat_natCast] at hq
    refine mv_goW 4 (pc' := 26) (ls' := [mv_R 0, mv_I 3, mv_I 0, mv_I (sp_bits (sp_pv V P g z) u), mv_I (u : Int)]) (st' := [mv_I (M 30 9), mv_I (u : Int)]) (M1 := M) rfl ?_
    rw [show M 30 9 = (u : Int) from by exact h92]
    refine mv_goW 1 (pc' := if (u : Int) < (u : Int) then 29 else 60) (ls' := [mv_R 0, mv_I 3, mv_I 0, mv_I (sp_bits (sp_pv V P g z) u), mv_I (u : Int)]) (st' := []) (M1 := M) rfl ?_
    refine mv_ffW (by omega) ?_
    exact hq
  | succ r ih =>
    intro u M hk hag
    have h92 : M 30 9 = V 0 9 := by rw [hag _ (by decide), sp_c_s9 hc]
    refine mv_goW 4 (pc' := 26) (ls' := [mv_R 0, mv_I 3, mv_I 0, mv_I (sp_bits (sp_pv V P g z) u), mv_I (u : Int)]) (st' := [mv_I (M 30 9), mv_I (u : Int)]) (M1 := M) rfl ?_
    rw [show M 30 9 = V 0 9 from by exact h92]
    refine mv_goW 1 (pc' := if (u : Int) < (V 0 9) then 29 else 60) (ls' := [mv_R 0, mv_I 3, mv_I 0, mv_I (sp_bits (sp_pv V P g z) u), mv_I (u : Int)]) (st' := []) (M1 := M) rfl ?_
    refine mv_ttW (by omega) ?_
    refine mv_goW 4 (pc' := 35) (ls' := [mv_R 0, mv_I 3, mv_I 0, mv_I (sp_bits (sp_pv V P g z) u), mv_I (u : Int)]) (st' := [mv_I 3, mv_R 0, mv_R 30]) (M1 := M) rfl ?_
    refine mv_callPW (st2 := [mv_R 77, mv_R 30]) rfl (Or.inl rfl) rfl rfl rfl (sp_sheetAt_3) (by first | decide | omega) ?_
    refine mv_goW 1 (pc' := 40) (ls' := [mv_R 0, mv_I 3, mv_I 0, mv_I (sp_bits (sp_pv V P g z) u), mv_I (u : Int)]) (st' := [mv_I (u : Int), mv_R 77, mv_R 30]) (M1 := M) rfl ?_
    refine mv_callW (st2 := [mv_I (sp_pv V P g z u)]) rfl (Or.inr rfl) rfl rfl rfl (sp_cfv_3 (g := g) (u := u) (sp_c_ag hc hag (by decide)) ho hl hn (sp_cts_ag hP hag hn (fun i h1 h2 => by simp only [List.mem_cons, List.not_mem_nil, or_false]; omega)) (by omega) (by rw [hag _ (by decide)]; exact hz) hz8 (fun j hj => by rw [hag _ (by decide)]; exact hg j hj)) (by first | decide | omega) (fun Ma10 hm11 => ?_)
    have hx := hm11
    refine mv_goW 2 (pc' := if (sp_pv V P g z u) = (-1) then 47 else 54) (ls' := [mv_R 0, mv_I 3, mv_I 0, mv_I (sp_bits (sp_pv V P g z) u), mv_I (u : Int)]) (st' := []) (M1 := Ma10) rfl ?_
    refine mv_spW (fun ha12 => ?_) (fun ha12 => ?_)
    · refine mv_goW 8 (pc' := 17) (ls' := [mv_R 0, mv_I 3, mv_I 0, mv_I (mv_or (sp_bits (sp_pv V P g z) u) (mv_shl 1 (u : Int))), mv_I (mv_w ((u : Int) + 1))]) (st' := []) (M1 := Ma10) rfl ?_
      rw [show mv_w ((u : Int) + 1) = (u : Int) + 1 from mv_w_id (by omega) (by omega)]
      rw [show (u : Int) + 1 = ((u + 1 : Nat) : Int) from by omega]
      refine mv_eqsW (ls2 := [mv_R 0, mv_I 3, mv_I 0, mv_I (sp_bits (sp_pv V P g z) (u + 1)), mv_I ((u + 1 : Nat) : Int)]) (by rw [show mv_or (sp_bits (sp_pv V P g z) u) (mv_shl 1 (u : Int)) = sp_bits (sp_pv V P g z) (u + 1) from by simp only [sp_bits]; split <;> first | with_reducible rfl | omega]) rfl rfl (ih (u + 1) _ (by omega) (hag.tr hx))
    · refine mv_goW 2 (pc' := 17) (ls' := [mv_R 0, mv_I 3, mv_I 0, mv_I (sp_bits (sp_pv V P g z) u), mv_I (mv_w ((u : Int) + 1))]) (st' := []) (M1 := Ma10) rfl ?_
      rw [show mv_w ((u : Int) + 1) = (u : Int) + 1 from mv_w_id (by omega) (by omega)]
      rw [show (u : Int) + 1 = ((u + 1 : Nat) : Int) from by omega]
      refine mv_eqsW (ls2 := [mv_R 0, mv_I 3, mv_I 0, mv_I (sp_bits (sp_pv V P g z) (u + 1)), mv_I ((u + 1 : Nat) : Int)]) (by rw [show sp_bits (sp_pv V P g z) u = sp_bits (sp_pv V P g z) (u + 1) from by simp only [sp_bits]; split <;> first | with_reducible rfl | omega]) rfl rfl (ih (u + 1) _ (by omega) (hag.tr hx))
theorem sp_mwh {V M0 : mv_M} {P : Nat → Nat → List Int} {n : Int} {S z d : Nat} {g : Nat → Int} {Q : mv_V → mv_M → Prop} (hS : S < 4) (hm : sp_m M0 V) (ho : sp_ok V) (hl : V 0 11 < n) (hP : sp_mts M0 P n) (hz : M0 118 S = (z : Int)) (hz8 : (z : Int) ≤ V 0 8) (hg : ∀ j, j < z → M0 119 (40 * S + j) = g j)
    (hQ : ∀ M2, mv_ag [130, 131] M0 M2 → mv_W (d + 8) 178 54 [mv_R 100, mv_I (S : Int), mv_I 0, mv_I (sp_bits (sp_pv V P g z) (V 0 9).toNat), mv_I (V 0 9)] [] M2 Q) :
    ∀ (r u : Nat) (M : mv_M), (u : Int) + r = V 0 9 → mv_ag [130, 131] M0 M → mv_W (d + 8) 178 17 [mv_R 100, mv_I (S : Int), mv_I 0, mv_I (sp_bits (sp_pv V P g z) u), mv_I (u : Int)] [] M Q := by
  have h9 := sp_ok_s9 ho
  intro r
  induction r with
  | zero =>
    intro u M hk hag
    have e : V 0 9 = (u : Int) := by omega
    have h92 : M 100 1 = (u : Int) := by rw [hag _ (by decide), sp_m_s9 hm, e]
    have hq := hQ M hag
    rw [e, Int.toNat_natCast] at hq
    refine mv_goW 3 (pc' := 23) (ls' := [mv_R 100, mv_I (S : Int), mv_I 0, mv_I (sp_bits (sp_pv V P g z) u), mv_I (u : Int)]) (st' := [mv_I (M 100 1), mv_I (u : Int)]) (M1 := M) rfl ?_
    rw [show M 100 1 = (u : Int) from by exact h92]
    refine mv_goW 1 (pc' := if (u : Int) < (u : Int) then 26 else 54) (ls' := [mv_R 100, mv_I (S : Int), mv_I 0, mv_I (sp_bits (sp_pv V P g z) u), mv_I (u : Int)]) (st' := []) (M1 := M) rfl ?_
    refine mv_ffW (by omega) ?_
    exact hq
  | succ r ih =>
    intro u M hk hag
    have h92 : M 100 1 = V 0 9 := by rw [hag _ (by decide), sp_m_s9 hm]
    refine mv_goW 3 (pc' := 23) (ls' := [mv_R 100, mv_I (S : Int), mv_I 0, mv_I (sp_bits (sp_pv V P g z) u), mv_I (u : Int)]) (st' := [mv_I (M 100 1), mv_I (u : Int)]) (M1 := M) rfl ?_
    rw [show M 100 1 = V 0 9 from by exact h92]
    refine mv_goW 1 (pc' := if (u : Int) < (V 0 9) then 26 else 54) (ls' := [mv_R 100, mv_I (S : Int), mv_I 0, mv_I (sp_bits (sp_pv V P g z) u), mv_I (u : Int)]) (st' := []) (M1 := M) rfl ?_
    refine mv_ttW (by omega) ?_
    refine mv_goW 4 (pc' := 31) (ls' := [mv_R 100, mv_I (S : Int), mv_I 0, mv_I (sp_bits (sp_pv V P g z) u), mv_I (u : Int)]) (st' := [mv_I (u : Int), mv_I (S : Int), mv_R 100, mv_I (sp_bits (sp_pv V P g z) u)]) (M1 := M) rfl ?_
    refine mv_callW (st2 := [mv_I (sp_pv V P g z u), mv_I (sp_bits (sp_pv V P g z) u)]) rfl (Or.inl rfl) rfl rfl rfl (sp_mfv (g := g) (u := u) hS (sp_m_ag2 hm hag (by decide)) ho hl (sp_mts_ag hP hag (by decide)) (by omega) (by rw [hag _ (by decide)]; exact hz) hz8 (fun j hj => by rw [hag _ (by decide)]; exact hg j hj)) (by first | decide | omega) (fun Ma13 hm14 => ?_)
    have hx := hm14
    refine mv_goW 2 (pc' := if (sp_pv V P g z u) = (-1) then 38 else 45) (ls' := [mv_R 100, mv_I (S : Int), mv_I 0, mv_I (sp_bits (sp_pv V P g z) u), mv_I (u : Int)]) (st' := [mv_I (sp_bits (sp_pv V P g z) u)]) (M1 := Ma13) rfl ?_
    refine mv_spW (fun ha15 => ?_) (fun ha15 => ?_)
    · refine mv_goW 8 (pc' := 17) (ls' := [mv_R 100, mv_I (S : Int), mv_I 0, mv_I (mv_or (sp_bits (sp_pv V P g z) u) (mv_shl 1 (u : Int))), mv_I (mv_w ((u : Int) + 1))]) (st' := []) (M1 := Ma13) rfl ?_
      rw [show mv_w ((u : Int) + 1) = (u : Int) + 1 from mv_w_id (by omega) (by omega)]
      rw [show (u : Int) + 1 = ((u + 1 : Nat) : Int) from by omega]
      refine mv_eqsW (ls2 := [mv_R 100, mv_I (S : Int), mv_I 0, mv_I (sp_bits (sp_pv V P g z) (u + 1)), mv_I ((u + 1 : Nat) : Int)]) (by rw [show mv_or (sp_bits (sp_pv V P g z) u) (mv_shl 1 (u : Int)) = sp_bits (sp_pv V P g z) (u + 1) from by (try rw [sp_bits_0]); simp only [sp_bits]; split <;> first | with_reducible rfl | omega]) rfl rfl (ih (u + 1) _ (by omega) (hag.tr hx))
    · refine mv_goW 5 (pc' := 17) (ls' := [mv_R 100, mv_I (S : Int), mv_I 0, mv_I (mv_or (sp_bits (sp_pv V P g z) u) 0), mv_I (mv_w ((u : Int) + 1))]) (st' := []) (M1 := Ma13) rfl ?_
      rw [show mv_w ((u : Int) + 1) = (u : Int) + 1 from mv_w_id (by omega) (by omega)]
      rw [show (u : Int) + 1 = ((u + 1 : Nat) : Int) from by omega]
      refine mv_eqsW (ls2 := [mv_R 100, mv_I (S : Int), mv_I 0, mv_I (sp_bits (sp_pv V P g z) (u + 1)), mv_I ((u + 1 : Nat) : Int)]) (by rw [show mv_or (sp_bits (sp_pv V P g z) u) 0 = sp_bits (sp_pv V P g z) (u + 1) from by (try rw [sp_bits_0]); simp only [sp_bits]; split <;> first | with_reducible rfl | omega]) rfl rfl (ih (u + 1) _ (by omega) (hag.tr hx))
theorem sp_k24_0 : sp_call 85 178 [mv_I 0] [mv_I 0] := by
  refine sp_mkW (lc := [mv_R 0, mv_I 0, mv_U, mv_U, mv_U]) (lm := [mv_R 100, mv_I 0, mv_U, mv_U, mv_U]) rfl rfl (fun M hI => ?_)
  have hI2 := hI
  obtain ⟨V, P, n, B, K, t, h⟩ := hI2
  have h' := h
  obtain ⟨⟨hc, hm, ho⟩, ⟨hy, hl, hn1, hn⟩, ⟨hct, hmt, _⟩, _⟩ := h'
  have h9 := sp_ok_s9 ho
  obtain ⟨so, sz, ⟨hs1, hs2, so0, so1⟩, ⟨hz1, hz2, sz0, sz1⟩, hcl⟩ := sp_sh_get h 0 (by decide)
  obtain ⟨z, rfl⟩ : ∃ x : Nat, sz = (x : Int) := ⟨sz.toNat, by omega⟩
  have hnz := sp_rfv_n so z (V 0 8)
  refine mv_goW 2 (pc' := 2) (ls' := [mv_R 0, mv_I 0, mv_U, mv_U, mv_U]) (st' := [mv_I 0, mv_R 0]) (M1 := M) rfl ?_
  by_cases ha16 : so ≠ -1 ∧ (z : Int) ≤ V 0 8
  · refine mv_callPW (st2 := [mv_I 0]) rfl (Or.inl rfl) rfl rfl rfl (sp_crr_0_t hc ho hs1 hz1 ha16) (by first | decide | omega) ?_
    refine mv_goW 3 (pc' := if 0 = 0 then 12 else 10) (ls' := [mv_R 0, mv_I 0, mv_I 0, mv_U, mv_U]) (st' := []) (M1 := M) rfl ?_
    refine mv_ttW (by first | decide | omega) ?_
    refine mv_goW 4 (pc' := 17) (ls' := [mv_R 0, mv_I 0, mv_I 0, mv_I 0, mv_I 0]) (st' := []) (M1 := M) rfl ?_
    refine sp_cwh_0 (d := 12) (g := fun j => M 119 (40 * 0 + j)) hc ho hl hn hct hz1 (by omega) (fun j hj => hcl j (by omega)) (fun M2 hx => ?_) (V 0 9).toNat 0 M (by omega) mv_ag.rf
    have hm := sp_m_ag2 hm hx (by decide)
    have hmt := sp_mts_ag hmt hx (by decide)
    have hs2 : M2 117 0 = so := by rw [hx 117 (by decide)]; exact hs2
    have hz2 : M2 118 0 = (z : Int) := by rw [hx 118 (by decide)]; exact hz2
    refine mv_goW 1 (pc' := 61) (ls' := [mv_R 0, mv_I 0, mv_I 0, mv_I (sp_bits (sp_pv V P (fun j => M 119 (40 * 0 + j)) z) (V 0 9).toNat), mv_I (V 0 9)]) (st' := [mv_I (sp_bits (sp_pv V P (fun j => M 119 (40 * 0 + j)) z) (V 0 9).toNat)]) (M1 := M2) rfl ?_
    refine mv_retW (fun n => rfl) ⟨_, rfl, ?_⟩
    refine mv_goW 2 (pc' := 2) (ls' := [mv_R 100, mv_I 0, mv_U, mv_U, mv_U]) (st' := [mv_I 0, mv_R 100]) (M1 := M2) rfl ?_
    have ha17 : so ≠ -1 ∧ (z : Int) ≤ V 0 8 := by omega
    refine mv_callPW (st2 := [mv_I 0]) rfl (Or.inl rfl) rfl rfl rfl (sp_mrr_t (S := 0) (by decide) hm ho hs2 hz2 ha17) (by first | decide | omega) ?_
    refine mv_goW 3 (pc' := if 0 = 0 then 12 else 10) (ls' := [mv_R 100, mv_I 0, mv_I 0, mv_U, mv_U]) (st' := []) (M1 := M2) rfl ?_
    refine mv_ttW (by first | decide | omega) ?_
    refine mv_goW 4 (pc' := 17) (ls' := [mv_R 100, mv_I 0, mv_I 0, mv_I 0, mv_I 0]) (st' := []) (M1 := M2) rfl ?_
    refine sp_mwh (d := 12) (S := 0) (g := fun j => M 119 (40 * 0 + j)) (by decide) hm ho hl hmt hz2 (by omega) (fun j hj => by rw [hx 119 (by decide)]) (fun M3 hy => ?_) (V 0 9).toNat 0 M2 (by omega) mv_ag.rf
    refine mv_goW 1 (pc' := 55) (ls' := [mv_R 100, mv_I 0, mv_I 0, mv_I (sp_bits (sp_pv V P (fun j => M 119 (40 * 0 + j)) z) (V 0 9).toNat), mv_I (V 0 9)]) (st' := [mv_I (sp_bits (sp_pv V P (fun j => M 119 (40 * 0 + j)) z) (V 0 9).toNat)]) (M1 := M3) rfl ?_
    exact mv_retW (fun n => rfl) ⟨congrArg mv_I (by first | with_reducible rfl | omega), ⟨V, P, n, B, K, t, sp_R_a1 (sp_R_a1 h hx (by decide) (by decide)) hy (by decide) (by decide)⟩⟩
  · refine mv_callPW (st2 := [mv_I (sp_rfv so (z : Int) (V 0 8))]) rfl (Or.inl rfl) rfl rfl rfl (sp_crr_0_f hc ho hs1 hz1 ha16) (by first | decide | omega) ?_
    refine mv_goW 3 (pc' := if (sp_rfv so (z : Int) (V 0 8)) = 0 then 12 else 10) (ls' := [mv_R 0, mv_I 0, mv_I (sp_rfv so (z : Int) (V 0 8)), mv_U, mv_U]) (st' := []) (M1 := M) rfl ?_
    refine mv_ffW (by omega) ?_
    refine mv_goW 1 (pc' := 11) (ls' := [mv_R 0, mv_I 0, mv_I (sp_rfv so (z : Int) (V 0 8)), mv_U, mv_U]) (st' := [mv_I (sp_rfv so (z : Int) (V 0 8))]) (M1 := M) rfl ?_
    refine mv_retW (fun n => rfl) ⟨_, rfl, ?_⟩
    refine mv_goW 2 (pc' := 2) (ls' := [mv_R 100, mv_I 0, mv_U, mv_U, mv_U]) (st' := [mv_I 0, mv_R 100]) (M1 := M) rfl ?_
    have ha18 : ¬ (so ≠ -1 ∧ (z : Int) ≤ V 0 8) := by omega
    refine mv_callPW (st2 := [mv_I (sp_rfv so (z : Int) (V 0 8))]) rfl (Or.inl rfl) rfl rfl rfl (sp_mrr_f (S := 0) (by decide) hm ho hs2 hz2 ha18) (by first | decide | omega) ?_
    refine mv_goW 3 (pc' := if (sp_rfv so (z : Int) (V 0 8)) = 0 then 12 else 10) (ls' := [mv_R 100, mv_I 0, mv_I (sp_rfv so (z : Int) (V 0 8)), mv_U, mv_U]) (st' := []) (M1 := M) rfl ?_
    refine mv_ffW (by omega) ?_
    refine mv_goW 1 (pc' := 11) (ls' := [mv_R 100, mv_I 0, mv_I (sp_rfv so (z : Int) (V 0 8)), mv_U, mv_U]) (st' := [mv_I (sp_rfv so (z : Int) (V 0 8))]) (M1 := M) rfl ?_
    exact mv_retW (fun n => rfl) ⟨congrArg mv_I (by first | with_reducible rfl | omega), hI⟩
theorem sp_k24_1 : sp_call 85 178 [mv_I 1] [mv_I 1] := by
  refine sp_mkW (lc := [mv_R 0, mv_I 1, mv_U, mv_U, mv_U]) (lm := [mv_R 100, mv_I 1, mv_U, mv_U, mv_U]) rfl rfl (fun M hI => ?_)
  have hI2 := hI
  obtain ⟨V, P, n, B, K, t, h⟩ := hI2
  have h' := h
  obtain ⟨⟨hc, hm, ho⟩, ⟨hy, hl, hn1, hn⟩, ⟨hct, hmt, _⟩, _⟩ := h'
  have h9 := sp_ok_s9 ho
  obtain ⟨so, sz, ⟨hs1, hs2, so0, so1⟩, ⟨hz1, hz2, sz0, sz1⟩, hcl⟩ := sp_sh_get h 1 (by decide)
  obtain ⟨z, rfl⟩ : ∃ x : Nat, sz = (x : Int) := ⟨sz.toNat, by omega⟩
  have hnz := sp_rfv_n so z (V 0 8)
  refine mv_goW 2 (pc' := 2) (ls' := [mv_R 0, mv_I 1, mv_U, mv_U, mv_U]) (st' := [mv_I 1, mv_R 0]) (M1 := M) rfl ?_
  by_cases ha19 : so ≠ -1 ∧ (z : Int) ≤ V 0 8
  · refine mv_callPW (st2 := [mv_I 0]) rfl (Or.inl rfl) rfl rfl rfl (sp_crr_1_t hc ho hs1 hz1 ha19) (by first | decide | omega) ?_
    refine mv_goW 3 (pc' := if 0 = 0 then 12 else 10) (ls' := [mv_R 0, mv_I 1, mv_I 0, mv_U, mv_U]) (st' := []) (M1 := M) rfl ?_
    refine mv_ttW (by first | decide | omega) ?_
    refine mv_goW 4 (pc' := 17) (ls' := [mv_R 0, mv_I 1, mv_I 0, mv_I 0, mv_I 0]) (st' := []) (M1 := M) rfl ?_
    refine sp_cwh_1 (d := 12) (g := fun j => M 119 (40 * 1 + j)) hc ho hl hn hct hz1 (by omega) (fun j hj => hcl j (by omega)) (fun M2 hx => ?_) (V 0 9).toNat 0 M (by omega) mv_ag.rf
    have hm := sp_m_ag2 hm hx (by decide)
    have hmt := sp_mts_ag hmt hx (by decide)
    have hs2 : M2 117 1 = so := by rw [hx 117 (by decide)]; exact hs2
    have hz2 : M2 118 1 = (z : Int) := by rw [hx 118 (by decide)]; exact hz2
    refine mv_goW 1 (pc' := 61) (ls' := [mv_R 0, mv_I 1, mv_I 0, mv_I (sp_bits (sp_pv V P (fun j => M 119 (40 * 1 + j)) z) (V 0 9).toNat), mv_I (V 0 9)]) (st' := [mv_I (sp_bits (sp_pv V P (fun j => M 119 (40 * 1 + j)) z) (V 0 9).toNat)]) (M1 := M2) rfl ?_
    refine mv_retW (fun n => rfl) ⟨_, rfl, ?_⟩
    refine mv_goW 2 (pc' := 2) (ls' := [mv_R 100, mv_I 1, mv_U, mv_U, mv_U]) (st' := [mv_I 1, mv_R 100]) (M1 := M2) rfl ?_
    have ha20 : so ≠ -1 ∧ (z : Int) ≤ V 0 8 := by omega
    refine mv_callPW (st2 := [mv_I 0]) rfl (Or.inl rfl) rfl rfl rfl (sp_mrr_t (S := 1) (by decide) hm ho hs2 hz2 ha20) (by first | decide | omega) ?_
    refine mv_goW 3 (pc' := if 0 = 0 then 12 else 10) (ls' := [mv_R 100, mv_I 1, mv_I 0, mv_U, mv_U]) (st' := []) (M1 := M2) rfl ?_
    refine mv_ttW (by first | decide | omega) ?_
    refine mv_goW 4 (pc' := 17) (ls' := [mv_R 100, mv_I 1, mv_I 0, mv_I 0, mv_I 0]) (st' := []) (M1 := M2) rfl ?_
    refine sp_mwh (d := 12) (S := 1) (g := fun j => M 119 (40 * 1 + j)) (by decide) hm ho hl hmt hz2 (by omega) (fun j hj => by rw [hx 119 (by decide)]) (fun M3 hy => ?_) (V 0 9).toNat 0 M2 (by omega) mv_ag.rf
    refine mv_goW 1 (pc' := 55) (ls' := [mv_R 100, mv_I 1, mv_I 0, mv_I (sp_bits (sp_pv V P (fun j => M 119 (40 * 1 + j)) z) (V 0 9).toNat), mv_I (V 0 9)]) (st' := [mv_I (sp_bits (sp_pv V P (fun j => M 119 (40 * 1 + j)) z) (V 0 9).toNat)]) (M1 := M3) rfl ?_
    exact mv_retW (fun n => rfl) ⟨congrArg mv_I (by first | with_reducible rfl | omega), ⟨V, P, n, B, K, t, sp_R_a1 (sp_R_a1 h hx (by decide) (by decide)) hy (by decide) (by decide)⟩⟩
  · refine mv_callPW (st2 := [mv_I (sp_rfv so (z : Int) (V 0 8))]) rfl (Or.inl rfl) rfl rfl rfl (sp_crr_1_f hc ho hs1 hz1 ha19) (by first | decide | omega) ?_
    refine mv_goW 3 (pc' := if (sp_rfv so (z : Int) (V 0 8)) = 0 then 12 else 10) (ls' := [mv_R 0, mv_I 1, mv_I (sp_rfv so (z : Int) (V 0 8)), mv_U, mv_U]) (st' := []) (M1 := M) rfl ?_
    refine mv_ffW (by omega) ?_
    refine mv_goW 1 (pc' := 11) (ls' := [mv_R 0, mv_I 1, mv_I (sp_rfv so (z : Int) (V 0 8)), mv_U, mv_U]) (st' := [mv_I (sp_rfv so (z : Int) (V 0 8))]) (M1 := M) rfl ?_
    refine mv_retW (fun n => rfl) ⟨_, rfl, ?_⟩
    refine mv_goW 2 (pc' := 2) (ls' := [mv_R 100, mv_I 1, mv_U, mv_U, mv_U]) (st' := [mv_I 1, mv_R 100]) (M1 := M) rfl ?_
    have ha21 : ¬ (so ≠ -1 ∧ (z : Int) ≤ V 0 8) := by omega
    refine mv_callPW (st2 := [mv_I (sp_rfv so (z : Int) (V 0 8))]) rfl (Or.inl rfl) rfl rfl rfl (sp_mrr_f (S := 1) (by decide) hm ho hs2 hz2 ha21) (by first | decide | omega) ?_
    refine mv_goW 3 (pc' := if (sp_rfv so (z : Int) (V 0 8)) = 0 then 12 else 10) (ls' := [mv_R 100, mv_I 1, mv_I (sp_rfv so (z : Int) (V 0 8)), mv_U, mv_U]) (st' := []) (M1 := M) rfl ?_
    refine mv_ffW (by omega) ?_
    refine mv_goW 1 (pc' := 11) (ls' := [mv_R 100, mv_I 1, mv_I (sp_rfv so (z : Int) (V 0 8)), mv_U, mv_U]) (st' := [mv_I (sp_rfv so (z : Int) (V 0 8))]) (M1 := M) rfl ?_
    exact mv_retW (fun n => rfl) ⟨congrArg mv_I (by first | with_reducible rfl | omega), hI⟩
theorem sp_k24_2 : sp_call 85 178 [mv_I 2] [mv_I 2] := by
  refine sp_mkW (lc := [mv_R 0, mv_I 2, mv_U, mv_U, mv_U]) (lm := [mv_R 100, mv_I 2, mv_U, mv_U, mv_U]) rfl rfl (fun M hI => ?_)
  have hI2 := hI
  obtain ⟨V, P, n, B, K, t, h⟩ := hI2
  have h' := h
  obtain ⟨⟨hc, hm, ho⟩, ⟨hy, hl, hn1, hn⟩, ⟨hct, hmt, _⟩, _⟩ := h'
  have h9 := sp_ok_s9 ho
  obtain ⟨so, sz, ⟨hs1, hs2, so0, so1⟩, ⟨hz1, hz2, sz0, sz1⟩, hcl⟩ := sp_sh_get h 2 (by decide)
  obtain ⟨z, rfl⟩ : ∃ x : Nat, sz = (x : Int) := ⟨sz.toNat, by omega⟩
  have hnz := sp_rfv_n so z (V 0 8)
  refine mv_goW 2 (pc' := 2) (ls' := [mv_R 0, mv_I 2, mv_U, mv_U, mv_U]) (st' := [mv_I 2, mv_R 0]) (M1 := M) rfl ?_
  by_cases ha22 : so ≠ -1 ∧ (z : Int) ≤ V 0 8
  · refine mv_callPW (st2 := [mv_I 0]) rfl (Or.inl rfl) rfl rfl rfl (sp_crr_2_t hc ho hs1 hz1 ha22) (by first | decide | omega) ?_
    refine mv_goW 3 (pc' := if 0 = 0 then 12 else 10) (ls' := [mv_R 0, mv_I 2, mv_I 0, mv_U, mv_U]) (st' := []) (M1 := M) rfl ?_
    refine mv_ttW (by first | decide | omega) ?_
    refine mv_goW 4 (pc' := 17) (ls' := [mv_R 0, mv_I 2, mv_I 0, mv_I 0, mv_I 0]) (st' := []) (M1 := M) rfl ?_
    refine sp_cwh_2 (d := 12) (g := fun j => M 119 (40 * 2 + j)) hc ho hl hn hct hz1 (by omega) (fun j hj => hcl j (by omega)) (fun M2 hx => ?_) (V 0 9).toNat 0 M (by omega) mv_ag.rf
    have hm := sp_m_ag2 hm hx (by decide)
    have hmt := sp_mts_ag hmt hx (by decide)
    have hs2 : M2 117 2 = so := by rw [hx 117 (by decide)]; exact hs2
    have hz2 : M2 118 2 = (z : Int) := by rw [hx 118 (by decide)]; exact hz2
    refine mv_goW 1 (pc' := 61) (ls' := [mv_R 0, mv_I 2, mv_I 0, mv_I (sp_bits (sp_pv V P (fun j => M 119 (40 * 2 + j)) z) (V 0 9).toNat), mv_I (V 0 9)]) (st' := [mv_I (sp_bits (sp_pv V P (fun j => M 119 (40 * 2 + j)) z) (V 0 9).toNat)]) (M1 := M2) rfl ?_
    refine mv_retW (fun n => rfl) ⟨_, rfl, ?_⟩
    refine mv_goW 2 (pc' := 2) (ls' := [mv_R 100, mv_I 2, mv_U, mv_U, mv_U]) (st' := [mv_I 2, mv_R 100]) (M1 := M2) rfl ?_
    have ha23 : so ≠ -1 ∧ (z : Int) ≤ V 0 8 := by omega
    refine mv_callPW (st2 := [mv_I 0]) rfl (Or.inl rfl) rfl rfl rfl (sp_mrr_t (S := 2) (by decide) hm ho hs2 hz2 ha23) (by first | decide | omega) ?_
    refine mv_goW 3 (pc' := if 0 = 0 then 12 else 10) (ls' := [mv_R 100, mv_I 2, mv_I 0, mv_U, mv_U]) (st' := []) (M1 := M2) rfl ?_
    refine mv_ttW (by first | decide | omega) ?_
    refine mv_goW 4 (pc' := 17) (ls' := [mv_R 100, mv_I 2, mv_I 0, mv_I 0, mv_I 0]) (st' := []) (M1 := M2) rfl ?_
    refine sp_mwh (d := 12) (S := 2) (g := fun j => M 119 (40 * 2 + j)) (by decide) hm ho hl hmt hz2 (by omega) (fun j hj => by rw [hx 119 (by decide)]) (fun M3 hy => ?_) (V 0 9).toNat 0 M2 (by omega) mv_ag.rf
    refine mv_goW 1 (pc' := 55) (ls' := [mv_R 100, mv_I 2, mv_I 0, mv_I (sp_bits (sp_pv V P (fun j => M 119 (40 * 2 + j)) z) (V 0 9).toNat), mv_I (V 0 9)]) (st' := [mv_I (sp_bits (sp_pv V P (fun j => M 119 (40 * 2 + j)) z) (V 0 9).toNat)]) (M1 := M3) rfl ?_
    exact mv_retW (fun n => rfl) ⟨congrArg mv_I (by first | with_reducible rfl | omega), ⟨V, P, n, B, K, t, sp_R_a1 (sp_R_a1 h hx (by decide) (by decide)) hy (by decide) (by decide)⟩⟩
  · refine mv_callPW (st2 := [mv_I (sp_rfv so (z : Int) (V 0 8))]) rfl (Or.inl rfl) rfl rfl rfl (sp_crr_2_f hc ho hs1 hz1 ha22) (by first | decide | omega) ?_
    refine mv_goW 3 (pc' := if (sp_rfv so (z : Int) (V 0 8)) = 0 then 12 else 10) (ls' := [mv_R 0, mv_I 2, mv_I (sp_rfv so (z : Int) (V 0 8)), mv_U, mv_U]) (st' := []) (M1 := M) rfl ?_
    refine mv_ffW (by omega) ?_
    refine mv_goW 1 (pc' := 11) (ls' := [mv_R 0, mv_I 2, mv_I (sp_rfv so (z : Int) (V 0 8)), mv_U, mv_U]) (st' := [mv_I (sp_rfv so (z : Int) (V 0 8))]) (M1 := M) rfl ?_
    refine mv_retW (fun n => rfl) ⟨_, rfl, ?_⟩
    refine mv_goW 2 (pc' := 2) (ls' := [mv_R 100, mv_I 2, mv_U, mv_U, mv_U]) (st' := [mv_I 2, mv_R 100]) (M1 := M) rfl ?_
    have ha24 : ¬ (so ≠ -1 ∧ (z : Int) ≤ V 0 8) := by omega
    refine mv_callPW (st2 := [mv_I (sp_rfv so (z : Int) (V 0 8))]) rfl (Or.inl rfl) rfl rfl rfl (sp_mrr_f (S := 2) (by decide) hm ho hs2 hz2 ha24) (by first | decide | omega) ?_
    refine mv_goW 3 (pc' := if (sp_rfv so (z : Int) (V 0 8)) = 0 then 12 else 10) (ls' := [mv_R 100, mv_I 2, mv_I (sp_rfv so (z : Int) (V 0 8)), mv_U, mv_U]) (st' := []) (M1 := M) rfl ?_
    refine mv_ffW (by omega) ?_
    refine mv_goW 1 (pc' := 11) (ls' := [mv_R 100, mv_I 2, mv_I (sp_rfv so (z : Int) (V 0 8)), mv_U, mv_U]) (st' := [mv_I (sp_rfv so (z : Int) (V 0 8))]) (M1 := M) rfl ?_
    exact mv_retW (fun n => rfl) ⟨congrArg mv_I (by first | with_reducible rfl | omega), hI⟩
theorem sp_k24_3 : sp_call 85 178 [mv_I 3] [mv_I 3] := by
  refine sp_mkW (lc := [mv_R 0, mv_I 3, mv_U, mv_U, mv_U]) (lm := [mv_R 100, mv_I 3, mv_U, mv_U, mv_U]) rfl rfl (fun M hI => ?_)
  have hI2 := hI
  obtain ⟨V, P, n, B, K, t, h⟩ := hI2
  have h' := h
  obtain ⟨⟨hc, hm, ho⟩, ⟨hy, hl, hn1, hn⟩, ⟨hct, hmt, _⟩, _⟩ := h'
  have h9 := sp_ok_s9 ho
  obtain ⟨so, sz, ⟨hs1, hs2, so0, so1⟩, ⟨hz1, hz2, sz0, sz1⟩, hcl⟩ := sp_sh_get h 3 (by decide)
  obtain ⟨z, rfl⟩ : ∃ x : Nat, sz = (x : Int) := ⟨sz.toNat, by omega⟩
  have hnz := sp_rfv_n so z (V 0 8)
  refine mv_goW 2 (pc' := 2) (ls' := [mv_R 0, mv_I 3, mv_U, mv_U, mv_U]) (st' := [mv_I 3, mv_R 0]) (M1 := M) rfl ?_
  by_cases ha25 : so ≠ -1 ∧ (z : Int) ≤ V 0 8
  · refine mv_callPW (st2 := [mv_I 0]) rfl (Or.inl rfl) rfl rfl rfl (sp_crr_3_t hc ho hs1 hz1 ha25) (by first | decide | omega) ?_
    refine mv_goW 3 (pc' := if 0 = 0 then 12 else 10) (ls' := [mv_R 0, mv_I 3, mv_I 0, mv_U, mv_U]) (st' := []) (M1 := M) rfl ?_
    refine mv_ttW (by first | decide | omega) ?_
    refine mv_goW 4 (pc' := 17) (ls' := [mv_R 0, mv_I 3, mv_I 0, mv_I 0, mv_I 0]) (st' := []) (M1 := M) rfl ?_
    refine sp_cwh_3 (d := 12) (g := fun j => M 119 (40 * 3 + j)) hc ho hl hn hct hz1 (by omega) (fun j hj => hcl j (by omega)) (fun M2 hx => ?_) (V 0 9).toNat 0 M (by omega) mv_ag.rf
    have hm := sp_m_ag2 hm hx (by decide)
    have hmt := sp_mts_ag hmt hx (by decide)
    have hs2 : M2 117 3 = so := by rw [hx 117 (by decide)]; exact hs2
    have hz2 : M2 118 3 = (z : Int) := by rw [hx 118 (by decide)]; exact hz2
    refine mv_goW 1 (pc' := 61) (ls' := [mv_R 0, mv_I 3, mv_I 0, mv_I (sp_bits (sp_pv V P (fun j => M 119 (40 * 3 + j)) z) (V 0 9).toNat), mv_I (V 0 9)]) (st' := [mv_I (sp_bits (sp_pv V P (fun j => M 119 (40 * 3 + j)) z) (V 0 9).toNat)]) (M1 := M2) rfl ?_
    refine mv_retW (fun n => rfl) ⟨_, rfl, ?_⟩
    refine mv_goW 2 (pc' := 2) (ls' := [mv_R 100, mv_I 3, mv_U, mv_U, mv_U]) (st' := [mv_I 3, mv_R 100]) (M1 := M2) rfl ?_
    have ha26 : so ≠ -1 ∧ (z : Int) ≤ V 0 8 := by omega
    refine mv_callPW (st2 := [mv_I 0]) rfl (Or.inl rfl) rfl rfl rfl (sp_mrr_t (S := 3) (by decide) hm ho hs2 hz2 ha26) (by first | decide | omega) ?_
    refine mv_goW 3 (pc' := if 0 = 0 then 12 else 10) (ls' := [mv_R 100, mv_I 3, mv_I 0, mv_U, mv_U]) (st' := []) (M1 := M2) rfl ?_
    refine mv_ttW (by first | decide | omega) ?_
    refine mv_goW 4 (pc' := 17) (ls' := [mv_R 100, mv_I 3, mv_I 0, mv_I 0, mv_I 0]) (st' := []) (M1 := M2) rfl ?_
    refine sp_mwh (d := 12) (S := 3) (g := fun j => M 119 (40 * 3 + j)) (by decide) hm ho hl hmt hz2 (by omega) (fun j hj => by rw [hx 119 (by decide)]) (fun M3 hy => ?_) (V 0 9).toNat 0 M2 (by omega) mv_ag.rf
    refine mv_goW 1 (pc' := 55) (ls' := [mv_R 100, mv_I 3, mv_I 0, mv_I (sp_bits (sp_pv V P (fun j => M 119 (40 * 3 + j)) z) (V 0 9).toNat), mv_I (V 0 9)]) (st' := [mv_I (sp_bits (sp_pv V P (fun j => M 119 (40 * 3 + j)) z) (V 0 9).toNat)]) (M1 := M3) rfl ?_
    exact mv_retW (fun n => rfl) ⟨congrArg mv_I (by first | with_reducible rfl | omega), ⟨V, P, n, B, K, t, sp_R_a1 (sp_R_a1 h hx (by decide) (by decide)) hy (by decide) (by decide)⟩⟩
  · refine mv_callPW (st2 := [mv_I (sp_rfv so (z : Int) (V 0 8))]) rfl (Or.inl rfl) rfl rfl rfl (sp_crr_3_f hc ho hs1 hz1 ha25) (by first | decide | omega) ?_
    refine mv_goW 3 (pc' := if (sp_rfv so (z : Int) (V 0 8)) = 0 then 12 else 10) (ls' := [mv_R 0, mv_I 3, mv_I (sp_rfv so (z : Int) (V 0 8)), mv_U, mv_U]) (st' := []) (M1 := M) rfl ?_
    refine mv_ffW (by omega) ?_
    refine mv_goW 1 (pc' := 11) (ls' := [mv_R 0, mv_I 3, mv_I (sp_rfv so (z : Int) (V 0 8)), mv_U, mv_U]) (st' := [mv_I (sp_rfv so (z : Int) (V 0 8))]) (M1 := M) rfl ?_
    refine mv_retW (fun n => rfl) ⟨_, rfl, ?_⟩
    refine mv_goW 2 (pc' := 2) (ls' := [mv_R 100, mv_I 3, mv_U, mv_U, mv_U]) (st' := [mv_I 3, mv_R 100]) (M1 := M) rfl ?_
    have ha27 : ¬ (so ≠ -1 ∧ (z : Int) ≤ V 0 8) := by omega
    refine mv_callPW (st2 := [mv_I (sp_rfv so (z : Int) (V 0 8))]) rfl (Or.inl rfl) rfl rfl rfl (sp_mrr_f (S := 3) (by decide) hm ho hs2 hz2 ha27) (by first | decide | omega) ?_
    refine mv_goW 3 (pc' := if (sp_rfv so (z : Int) (V 0 8)) = 0 then 12 else 10) (ls' := [mv_R 100, mv_I 3, mv_I (sp_rfv so (z : Int) (V 0 8)), mv_U, mv_U]) (st' := []) (M1 := M) rfl ?_
    refine mv_ffW (by omega) ?_
    refine mv_goW 1 (pc' := 11) (ls' := [mv_R 100, mv_I 3, mv_I (sp_rfv so (z : Int) (V 0 8)), mv_U, mv_U]) (st' := [mv_I (sp_rfv so (z : Int) (V 0 8))]) (M1 := M) rfl ?_
    exact mv_retW (fun n => rfl) ⟨congrArg mv_I (by first | with_reducible rfl | omega), hI⟩
theorem sp_k24_n (s : Int) (hs : ¬ (0 ≤ s ∧ s ≤ 3)) : sp_call 85 178 [mv_I s] [mv_I s] := by
  refine sp_mkW (lc := [mv_R 0, mv_I s, mv_U, mv_U, mv_U]) (lm := [mv_R 100, mv_I s, mv_U, mv_U, mv_U]) rfl rfl (fun M hI => ?_)
  refine mv_goW 2 (pc' := 2) (ls' := [mv_R 0, mv_I s, mv_U, mv_U, mv_U]) (st' := [mv_I s, mv_R 0]) (M1 := M) rfl ?_
  refine mv_callPW (st2 := [mv_I (-2)]) rfl (Or.inl rfl) rfl rfl rfl (sp_crr_n hs) (by first | decide | omega) ?_
  refine mv_goW 3 (pc' := if (-2) = 0 then 12 else 10) (ls' := [mv_R 0, mv_I s, mv_I (-2), mv_U, mv_U]) (st' := []) (M1 := M) rfl ?_
  refine mv_ffW (by first | decide | omega) ?_
  refine mv_goW 1 (pc' := 11) (ls' := [mv_R 0, mv_I s, mv_I (-2), mv_U, mv_U]) (st' := [mv_I (-2)]) (M1 := M) rfl ?_
  refine mv_retW (fun n => rfl) ⟨_, rfl, ?_⟩
  refine mv_goW 2 (pc' := 2) (ls' := [mv_R 100, mv_I s, mv_U, mv_U, mv_U]) (st' := [mv_I s, mv_R 100]) (M1 := M) rfl ?_
  refine mv_callPW (st2 := [mv_I (-2)]) rfl (Or.inl rfl) rfl rfl rfl (sp_mrr_n hs) (by first | decide | omega) ?_
  refine mv_goW 3 (pc' := if (-2) = 0 then 12 else 10) (ls' := [mv_R 100, mv_I s, mv_I (-2), mv_U, mv_U]) (st' := []) (M1 := M) rfl ?_
  refine mv_ffW (by first | decide | omega) ?_
  refine mv_goW 1 (pc' := 11) (ls' := [mv_R 100, mv_I s, mv_I (-2), mv_U, mv_U]) (st' := [mv_I (-2)]) (M1 := M) rfl ?_
  exact mv_retW (fun n => rfl) ⟨congrArg mv_I (by first | with_reducible rfl | omega), hI⟩
theorem sp_k24 (s : Int) : sp_call 85 178 [mv_I s] [mv_I s] :=
  sp_s4 (Q := fun s => sp_call 85 178 [mv_I s] [mv_I s]) sp_k24_0 sp_k24_1 sp_k24_2 sp_k24_3 (sp_k24_n s)
