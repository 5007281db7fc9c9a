/-! run -/
def sp_yrs (V : mv_M) (P : Nat → Nat → List Int) : Nat → mv_M
  | 0 => V
  | k + 1 => sp_year (sp_yrs V P k) P
theorem sp_yrs_r (V : mv_M) (P : Nat → Nat → List Int) : ∀ k : Nat, (sp_yrs V P k 0 8 = V 0 8 ∧ sp_yrs V P k 0 9 = V 0 9 ∧ sp_yrs V P k 0 11 = V 0 11) ∧ sp_yrs V P k 0 10 = V 0 10 + k
  | 0 => ⟨⟨rfl, rfl, rfl⟩, by show V 0 10 = V 0 10 + ((0 : Nat) : Int); omega⟩
  | k + 1 => by
    obtain ⟨⟨a, b, c⟩, d⟩ := sp_yrs_r V P k
    refine ⟨⟨a, b, c⟩, ?_⟩
    show sp_yrs V P k 0 10 + 1 = _
    rw [d]
    omega
theorem sp_ok_yrs {V : mv_M} (P : Nat → Nat → List Int) (h : sp_ok V) (hy : V 0 10 ≤ 99) : ∀ k : Nat, k ≤ 41 → sp_ok (sp_yrs V P k)
  | 0, _ => h
  | k + 1, hk => sp_ok_year P (sp_ok_yrs P h hy k (by omega)) (by rw [(sp_yrs_r V P k).2]; omega)
theorem sp_crn {V M0 : mv_M} {P : Nat → Nat → List Int} {n w : Int} {m d : Nat} {Q : mv_V → mv_M → Prop} (ho : sp_ok V) (hy : V 0 10 ≤ 99) (hl : V 0 11 < n) (hn : n ≤ 6) (hP : sp_cts M0 P n) (hm : m ≤ 40)
    (hQ : ∀ M2, mv_ag [50, 51, 52, 53, 54, 55, 56, 57] M0 M2 → sp_c 50 M2 (sp_yrs V P m) → mv_W (d + 8) 74 79 [mv_R 0, mv_I (m : Int), mv_I w, mv_I (m : Int)] [] M2 Q) :
    ∀ (r k : Nat) (M : mv_M), k + r = m → mv_ag [50, 51, 52, 53, 54, 55, 56, 57] M0 M → sp_c 50 M (sp_yrs V P k) → mv_W (d + 8) 74 61 [mv_R 0, mv_I (m : Int), mv_I w, mv_I (k : Int)] [] M Q := by
  intro r
  induction r with
  | zero =>
    intro k M hk hag hcv
    have hk : k = m := by omega
    subst hk
    refine mv_goW 3 (pc' := if (k : Int) < (k : Int) then 66 else 79) (ls' := [mv_R 0, mv_I (k : Int), mv_I w, mv_I (k : Int)]) (st' := []) (M1 := M) rfl ?_
    refine mv_ffW (by omega) ?_
    exact hQ M hag hcv
  | succ r ih =>
    intro k M hk hag hcv
    refine mv_goW 3 (pc' := if (k : Int) < (m : Int) then 66 else 79) (ls' := [mv_R 0, mv_I (m : Int), mv_I w, mv_I (k : Int)]) (st' := []) (M1 := M) rfl ?_
    refine mv_ttW (by omega) ?_
    refine mv_goW 2 (pc' := 70) (ls' := [mv_R 0, mv_I (m : Int), mv_I w, mv_I (k : Int)]) (st' := [mv_R 50]) (M1 := M) rfl ?_
    refine mv_callW (st2 := []) rfl (Or.inl rfl) rfl rfl rfl (sp_cpass_50 hcv (sp_ok_yrs P ho hy k (by omega)) (by rw [(sp_yrs_r V P k).1.2.2]; exact hl) hn (sp_cts_ag hP hag hn (fun i h1 h2 => by simp only [List.mem_cons, List.not_mem_nil, or_false]; omega))) (by first | decide | omega) (fun M1 h1 => ?_)
    refine mv_goW 2 (pc' := 61) (ls' := [mv_R 0, mv_I (m : Int), mv_I w, mv_I (mv_w ((k : Int) + 1))]) (st' := []) (M1 := M1) rfl ?_
    rw [show mv_w ((k : Int) + 1) = ((k + 1 : Nat) : Int) from by unfold mv_w; omega]
    exact ih (k + 1) M1 (by omega) (hag.tr (h1.1.wd (by decide))) h1.2
theorem sp_mrn1 {d : Nat} {n w was : Int} {Q : mv_V → mv_M → Prop} : ∀ (r k : Nat) (M : mv_M), k + r = 24 → (∀ j, j < k → M 132 j = M 104 j ∧ M 132 (24 + j) = M 105 j) →
    (∀ M2, mv_ag [132] M M2 → (∀ j, j < 24 → M2 132 j = M2 104 j ∧ M2 132 (24 + j) = M2 105 j) → mv_W d 156 112 [mv_R 100, mv_I n, mv_I w, mv_I 1, mv_I was, mv_I 24, mv_U] [] M2 Q) → mv_W d 156 68 [mv_R 100, mv_I n, mv_I w, mv_I 1, mv_I was, mv_I (k : Int), mv_U] [] M Q := by
  intro r
  induction r with
  | zero =>
    intro k M hk hj e
    have hk : k = 24 := by omega
    subst hk
    refine mv_goW 3 (pc' := if ((24 : Nat) : Int) < 24 then 75 else 112) (ls' := [mv_R 100, mv_I n, mv_I w, mv_I 1, mv_I was, mv_I ((24 : Nat) : Int), mv_U]) (st' := []) (M1 := M) rfl ?_
    refine mv_ffW (by decide) ?_
    exact e M mv_ag.rf hj
  | succ r ih =>
    intro k M hk hj e
    refine mv_goW 3 (pc' := if (k : Int) < 24 then 75 else 112) (ls' := [mv_R 100, mv_I n, mv_I w, mv_I 1, mv_I was, mv_I (k : Int), mv_U]) (st' := []) (M1 := M) rfl ?_
    refine mv_ttW (by omega) ?_
    refine mv_goW 7 (pc' := if 0 ≤ (k : Int) ∧ (k : Int) < 24 then 88 else mv_bad) (ls' := [mv_R 100, mv_I n, mv_I w, mv_I 1, mv_I was, mv_I (k : Int), mv_U]) (st' := [mv_I (M 104 k), mv_I (k : Int), mv_R 132]) (M1 := M) rfl ?_
    refine mv_ttW (by omega) ?_
    refine mv_goW 1 (pc' := if 0 ≤ (k : Int) ∧ (k : Int) < 48 then 89 else mv_bad) (ls' := [mv_R 100, mv_I n, mv_I w, mv_I 1, mv_I was, mv_I (k : Int), mv_U]) (st' := []) (M1 := (mv_st M 132 (mv_up (M 132) k (M 104 k)))) rfl ?_
    refine mv_ttW (by omega) ?_
    refine mv_goW 9 (pc' := if 0 ≤ (k : Int) ∧ (k : Int) < 24 then 105 else mv_bad) (ls' := [mv_R 100, mv_I n, mv_I w, mv_I 1, mv_I was, mv_I (k : Int), mv_U]) (st' := [mv_I (M 105 k), mv_I (mv_w (24 + (k : Int))), mv_R 132]) (M1 := (mv_st M 132 (mv_up (M 132) k (M 104 k)))) rfl ?_
    refine mv_ttW (by omega) ?_
    rw [show mv_w (24 + (k : Int)) = ((k + 24 : Nat) : Int) from by (rw [show mv_w (24 + (k : Int)) = 24 + (k : Int) from mv_w_id (by omega) (by omega)]) <;> omega]
    refine mv_goW 1 (pc' := if 0 ≤ ((k + 24 : Nat) : Int) ∧ ((k + 24 : Nat) : Int) < 48 then 106 else mv_bad) (ls' := [mv_R 100, mv_I n, mv_I w, mv_I 1, mv_I was, mv_I (k : Int), mv_U]) (st' := []) (M1 := (mv_st (mv_st M 132 (mv_up (M 132) k (M 104 k))) 132 (mv_up (mv_up (M 132) k (M 104 k)) (k + 24) (M 105 k)))) rfl ?_
    refine mv_ttW (by omega) ?_
    refine mv_goW 2 (pc' := 68) (ls' := [mv_R 100, mv_I n, mv_I w, mv_I 1, mv_I was, mv_I (mv_w ((k : Int) + 1)), mv_U]) (st' := []) (M1 := (mv_st (mv_st M 132 (mv_up (M 132) k (M 104 k))) 132 (mv_up (mv_up (M 132) k (M 104 k)) (k + 24) (M 105 k)))) rfl ?_
    rw [show mv_w ((k : Int) + 1) = ((k + 1 : Nat) : Int) from by (rw [show mv_w ((k : Int) + 1) = (k : Int) + 1 from mv_w_id (by omega) (by omega)]) <;> omega]
    refine ih (k + 1) _ (by omega) (fun j hj2 => ?_) (fun M2 a b => e M2 (mv_ag.tr ((mv_ag.st mv_ag.rf (by decide)).st (by decide)) a) b)
    show mv_up (mv_up (M 132) k (M 104 k)) (k + 24) (M 105 k) j = M 104 j ∧ mv_up (mv_up (M 132) k (M 104 k)) (k + 24) (M 105 k) (24 + j) = M 105 j
    by_cases q : j = k
    · rw [q, mv_up_n _ _ (by omega), mv_up_s, show 24 + k = k + 24 from by omega, mv_up_s]; exact ⟨rfl, rfl⟩
    · rw [mv_up_n _ _ (by omega), mv_up_n _ _ q, mv_up_n _ _ (by omega), mv_up_n _ _ (by omega)]
      exact hj j (by omega)
theorem sp_mrn3 {d : Nat} {n w was v : Int} {Q : mv_V → mv_M → Prop} : ∀ (r k : Nat) (M : mv_M), k + r = 24 → (∀ j, j < k → M 104 j = M 132 j ∧ M 105 j = M 132 (24 + j)) →
    (∀ M2, mv_ag [104, 105] M M2 → (∀ j, j < 24 → M2 104 j = M 132 j ∧ M2 105 j = M 132 (24 + j)) → mv_W d 156 216 [mv_R 100, mv_I n, mv_I w, mv_I 1, mv_I was, mv_I v, mv_I 24] [] M2 Q) → mv_W d 156 172 [mv_R 100, mv_I n, mv_I w, mv_I 1, mv_I was, mv_I v, mv_I (k : Int)] [] M Q := by
  intro r
  induction r with
  | zero =>
    intro k M hk hj e
    have hk : k = 24 := by omega
    subst hk
    refine mv_goW 3 (pc' := if ((24 : Nat) : Int) < 24 then 179 else 216) (ls' := [mv_R 100, mv_I n, mv_I w, mv_I 1, mv_I was, mv_I v, mv_I ((24 : Nat) : Int)]) (st' := []) (M1 := M) rfl ?_
    refine mv_ffW (by decide) ?_
    exact e M mv_ag.rf hj
  | succ r ih =>
    intro k M hk hj e
    refine mv_goW 3 (pc' := if (k : Int) < 24 then 179 else 216) (ls' := [mv_R 100, mv_I n, mv_I w, mv_I 1, mv_I was, mv_I v, mv_I (k : Int)]) (st' := []) (M1 := M) rfl ?_
    refine mv_ttW (by omega) ?_
    refine mv_goW 7 (pc' := if 0 ≤ (k : Int) ∧ (k : Int) < 48 then 192 else mv_bad) (ls' := [mv_R 100, mv_I n, mv_I w, mv_I 1, mv_I was, mv_I v, mv_I (k : Int)]) (st' := [mv_I (M 132 k), mv_I (k : Int), mv_R 104]) (M1 := M) rfl ?_
    refine mv_ttW (by omega) ?_
    refine mv_goW 1 (pc' := if 0 ≤ (k : Int) ∧ (k : Int) < 24 then 193 else mv_bad) (ls' := [mv_R 100, mv_I n, mv_I w, mv_I 1, mv_I was, mv_I v, mv_I (k : Int)]) (st' := []) (M1 := (mv_st M 104 (mv_up (M 104) k (M 132 k)))) rfl ?_
    refine mv_ttW (by omega) ?_
    refine mv_goW 8 (pc' := 208) (ls' := [mv_R 100, mv_I n, mv_I w, mv_I 1, mv_I was, mv_I v, mv_I (k : Int)]) (st' := [mv_I (mv_w (24 + (k : Int))), mv_R 132, mv_I (k : Int), mv_R 105]) (M1 := (mv_st M 104 (mv_up (M 104) k (M 132 k)))) rfl ?_
    rw [show mv_w (24 + (k : Int)) = ((k + 24 : Nat) : Int) from by (rw [show mv_w (24 + (k : Int)) = 24 + (k : Int) from mv_w_id (by omega) (by omega)]) <;> omega]
    refine mv_goW 1 (pc' := if 0 ≤ ((k + 24 : Nat) : Int) ∧ ((k + 24 : Nat) : Int) < 48 then 209 else mv_bad) (ls' := [mv_R 100, mv_I n, mv_I w, mv_I 1, mv_I was, mv_I v, mv_I (k : Int)]) (st' := [mv_I (M 132 (k + 24)), mv_I (k : Int), mv_R 105]) (M1 := (mv_st M 104 (mv_up (M 104) k (M 132 k)))) rfl ?_
    refine mv_ttW (by omega) ?_
    refine mv_goW 1 (pc' := if 0 ≤ (k : Int) ∧ (k : Int) < 24 then 210 else mv_bad) (ls' := [mv_R 100, mv_I n, mv_I w, mv_I 1, mv_I was, mv_I v, mv_I (k : Int)]) (st' := []) (M1 := (mv_st (mv_st M 104 (mv_up (M 104) k (M 132 k))) 105 (mv_up (M 105) k (M 132 (k + 24))))) rfl ?_
    refine mv_ttW (by omega) ?_
    refine mv_goW 2 (pc' := 172) (ls' := [mv_R 100, mv_I n, mv_I w, mv_I 1, mv_I was, mv_I v, mv_I (mv_w ((k : Int) + 1))]) (st' := []) (M1 := (mv_st (mv_st M 104 (mv_up (M 104) k (M 132 k))) 105 (mv_up (M 105) k (M 132 (k + 24))))) rfl ?_
    rw [show mv_w ((k : Int) + 1) = ((k + 1 : Nat) : Int) from by (rw [show mv_w ((k : Int) + 1) = (k : Int) + 1 from mv_w_id (by omega) (by omega)]) <;> omega]
    refine ih (k + 1) _ (by omega) (fun j hj2 => ?_) (fun M2 a b => e M2 (mv_ag.tr ((mv_ag.st mv_ag.rf (by decide)).st (by decide)) a) b)
    show mv_up (M 104) k (M 132 k) j = M 132 j ∧ mv_up (M 105) k (M 132 (k + 24)) j = M 132 (24 + j)
    by_cases q : j = k
    · rw [q, mv_up_s, mv_up_s, show 24 + k = k + 24 from by omega]; exact ⟨rfl, rfl⟩
    · rw [mv_up_n _ _ q, mv_up_n _ _ q]
      exact hj j (by omega)
theorem sp_mrn2 {V M0 : mv_M} {P : Nat → Nat → List Int} {n w was : Int} {m d : Nat} {Q : mv_V → mv_M → Prop} (ho : sp_ok V) (hy : V 0 10 ≤ 99) (hl : V 0 11 < n) (hP : sp_mts M0 P n) (hm : m ≤ 40)
    (hQ : ∀ M2, mv_ag [100, 104, 105, 130, 131] M0 M2 → (∀ j, j ≠ 7 → M2 100 j = M0 100 j) → sp_m M2 (sp_yrs V P m) → mv_W (d + 8) 156 131 [mv_R 100, mv_I (m : Int), mv_I w, mv_I 1, mv_I was, mv_I (m : Int), mv_U] [] M2 Q) :
    ∀ (r k : Nat) (M : mv_M), k + r = m → mv_ag [100, 104, 105, 130, 131] M0 M → (∀ j, j ≠ 7 → M 100 j = M0 100 j) → sp_m M (sp_yrs V P k) → mv_W (d + 8) 156 115 [mv_R 100, mv_I (m : Int), mv_I w, mv_I 1, mv_I was, mv_I (k : Int), mv_U] [] M Q := by
  intro r
  induction r with
  | zero =>
    intro k M hk hag h100 hmv
    have hk : k = m := by omega
    subst hk
    refine mv_goW 3 (pc' := if (k : Int) < (k : Int) then 121 else 131) (ls' := [mv_R 100, mv_I (k : Int), mv_I w, mv_I 1, mv_I was, mv_I (k : Int), mv_U]) (st' := []) (M1 := M) rfl ?_
    refine mv_ffW (by omega) ?_
    exact hQ M hag h100 hmv
  | succ r ih =>
    intro k M hk hag h100 hmv
    refine mv_goW 3 (pc' := if (k : Int) < (m : Int) then 121 else 131) (ls' := [mv_R 100, mv_I (m : Int), mv_I w, mv_I 1, mv_I was, mv_I (k : Int), mv_U]) (st' := []) (M1 := M) rfl ?_
    refine mv_ttW (by omega) ?_
    refine mv_goW 1 (pc' := 122) (ls' := [mv_R 100, mv_I (m : Int), mv_I w, mv_I 1, mv_I was, mv_I (k : Int), mv_U]) (st' := [mv_R 100]) (M1 := M) rfl ?_
    refine mv_callW (st2 := []) rfl (Or.inl rfl) rfl rfl rfl (sp_mpass hmv (sp_ok_yrs P ho hy k (by omega)) (by rw [(sp_yrs_r V P k).1.2.2]; exact hl) (sp_mts_ag hP hag (by decide))) (by first | decide | omega) (fun M1 h1 => ?_)
    refine mv_goW 2 (pc' := 115) (ls' := [mv_R 100, mv_I (m : Int), mv_I w, mv_I 1, mv_I was, mv_I (mv_w ((k : Int) + 1)), mv_U]) (st' := []) (M1 := M1) rfl ?_
    rw [show mv_w ((k : Int) + 1) = ((k + 1 : Nat) : Int) from by unfold mv_w; omega]
    exact ih (k + 1) M1 (by omega) (hag.tr h1.1.1) (fun j hj => by rw [h1.1.2, mv_up_n _ _ hj]; exact h100 j hj) h1.2
theorem sp_f51 {M V : mv_M} (hc : sp_c 50 M V) (ho : sp_ok V) : ∀ j, j < 24 → M 51 j = V 1 j ∧ 0 ≤ V 1 j ∧ V 1 j ≤ 9 := fun j hj => ⟨sp_c_1 hc j hj, sp_ok_1 ho j hj⟩
theorem sp_f53 {M V : mv_M} (hc : sp_c 50 M V) (ho : sp_ok V) : ∀ j, j < 24 → M 53 j = V 3 j ∧ 0 ≤ V 3 j ∧ V 3 j ≤ 9 := fun j hj => ⟨sp_c_3 hc j hj, sp_ok_3 ho j hj⟩
theorem sp_w10 {b : Int} (h0 : b < 0) (h1 : -2147483648 ≤ b) : ¬ (0 ≤ mv_w (b - 10) ∧ mv_w (b - 10) ≤ 6) ∧ ¬ (0 ≤ mv_w (b - 20) ∧ mv_w (b - 20) ≤ 6) := by
  unfold mv_w
  omega
theorem sp_run_end {V : mv_M} {P : Nat → Nat → List Int} {n : Int} {B : mv_M} {K : Int} {t : Nat} {M M2 M3 M4 M5 : mv_M} (h : sp_R V P n B K t M) (hw2 : mv_ag [36, 37, 50, 51, 52, 53, 54, 55, 56, 57] M M2) (hy1 : mv_ag [132] M2 M3) (hy2 : ∀ j, j < 24 → M3 132 j = M3 104 j ∧ M3 132 (24 + j) = M3 105 j)
    (hv1 : mv_ag [100, 104, 105, 130, 131] M3 M4) (hv2 : ∀ j, j ≠ 7 → M4 100 j = M3 100 j) (hz1 : mv_ag [104, 105] M4 M5) (hz2 : ∀ j, j < 24 → M5 104 j = M4 132 j ∧ M5 105 j = M4 132 (24 + j)) : sp_Inv (mv_st M5 100 (mv_up (M5 100) 7 (V 0 10))) := by
  have h' := h
  obtain ⟨⟨hc, hm, ho⟩, _⟩ := h'
  have hm2 := sp_m_ag2 hm hw2 (by decide)
  have e : ∀ j, j ≠ 7 → M5 100 j = M2 100 j := fun j hj => by rw [hz1 100 (by decide), hv2 j hj, hy1 100 (by decide)]
  refine sp_bend h hw2 ((((hy1.wd (by decide)).tr (hv1.wd (by decide))).tr (hz1.wd (by decide))).st (by decide)) ⟨e 9 (by decide), e 12 (by decide), e 14 (by decide)⟩ ⟨⟨(e 0 (by decide)).trans hm2.1.1, (e 1 (by decide)).trans hm2.1.2.1, rfl, (e 13 (by decide)).trans hm2.1.2.2.2⟩, fun j hj => ?_, fun j hj => ?_, fun j hj => ?_, fun j hj => ?_, fun j hj => ?_⟩
  · show M5 104 j = _
    rw [(hz2 j hj).1, hv1 132 (by decide), (hy2 j hj).1, hy1 104 (by decide)]; exact hm2.2.1 j hj
  · show M5 106 j = _
    rw [hz1 106 (by decide), hv1 106 (by decide), hy1 106 (by decide)]; exact hm2.2.2.1 j hj
  · show M5 105 j = _
    rw [(hz2 j hj).2, hv1 132 (by decide), (hy2 j hj).2, hy1 105 (by decide)]; exact hm2.2.2.2.1 j hj
  · show M5 102 j = _
    rw [hz1 102 (by decide), hv1 102 (by decide), hy1 102 (by decide)]; exact hm2.2.2.2.2.1 j hj
  · show M5 103 j = _
    rw [hz1 103 (by decide), hv1 103 (by decide), hy1 103 (by decide)]; exact hm2.2.2.2.2.2 j hj
theorem sp_k13g (m : Nat) (b : Int) (hm40 : m ≤ 40) (M : mv_M) (hI : sp_Inv M) : (b = 0 ∨ (10 ≤ b ∧ b ≤ 15) ∨ (20 ≤ b ∧ b ≤ 25)) → mv_W 20 74 0 [mv_R 0, mv_I (m : Int), mv_I b, mv_U] [] M (fun v M1 => ∃ z, v = mv_I z ∧ mv_W 20 156 0 [mv_R 100, mv_I (m : Int), mv_I b, mv_U, mv_U, mv_U, mv_U] [] M1 (fun w M2 => w = mv_I z ∧ sp_Inv M2)) := by
  have hI2 := hI
  obtain ⟨V, P, n, B, K, t, h⟩ := hI2
  have h' := h
  obtain ⟨⟨hc, hm, ho⟩, ⟨hy, hl, hn1, hn⟩, ⟨hct, hmt, _⟩, _⟩ := h'
  have h8 := sp_ok_s8 ho
  have h9 := sp_ok_s9 ho
  rintro (hb | hb | hb)
  · subst hb
    refine mv_goW 2 (pc' := if (m : Int) < 0 then 10 else 4) (ls' := [mv_R 0, mv_I (m : Int), mv_I 0, mv_U]) (st' := []) (M1 := M) rfl ?_
    refine mv_ffW (by omega) ?_
    refine mv_goW 3 (pc' := if 40 < (m : Int) then 10 else 13) (ls' := [mv_R 0, mv_I (m : Int), mv_I 0, mv_U]) (st' := []) (M1 := M) rfl ?_
    refine mv_ffW (by omega) ?_
    refine mv_goW 2 (pc' := if 0 = 0 then 48 else 17) (ls' := [mv_R 0, mv_I (m : Int), mv_I 0, mv_U]) (st' := []) (M1 := M) rfl ?_
    refine mv_ttW (by first | decide | omega) ?_
    refine mv_goW 4 (pc' := 56) (ls' := [mv_R 0, mv_I (m : Int), mv_I 0, mv_U]) (st' := [mv_R 30, mv_R 50]) (M1 := M) rfl ?_
    refine mv_callW (st2 := []) rfl (Or.inl rfl) rfl rfl rfl (sp_become_50_30 hc (by omega) (by omega)) (by first | decide | omega) (fun Ma1 hm2 => ?_)
    have hb := hm2
    refine mv_goW 2 (pc' := 61) (ls' := [mv_R 0, mv_I (m : Int), mv_I 0, mv_I 0]) (st' := []) (M1 := Ma1) rfl ?_
    refine sp_crn (d := 12) (V := V) (M0 := Ma1) ho hy hl hn (sp_cts_ag hct hb.1 hn (fun i h1 h2 => by simp only [List.mem_cons, List.not_mem_nil, or_false]; omega)) (by omega) (fun M2 hw hcv => ?_) m 0 Ma1 (by omega) mv_ag.rf hb.2
    have hok := sp_ok_yrs P ho hy m (by omega)
    have hw2 : mv_ag [36, 37, 50, 51, 52, 53, 54, 55, 56, 57] M M2 := (hb.1.wd (by decide)).tr (hw.wd (by decide))
    have hm := sp_m_ag2 hm hw2 (by decide)
    have hmt := sp_mts_ag hmt hw2 (by decide)
    refine mv_goW 2 (pc' := if 0 = 0 then 83 else 91) (ls' := [mv_R 0, mv_I (m : Int), mv_I 0, mv_I (m : Int)]) (st' := []) (M1 := M2) rfl ?_
    refine mv_ttW (by first | decide | omega) ?_
    refine mv_goW 2 (pc' := 87) (ls' := [mv_R 0, mv_I (m : Int), mv_I 0, mv_I (m : Int)]) (st' := [mv_R 50]) (M1 := M2) rfl ?_
    refine mv_callPW (st2 := [mv_I (sp_an (sp_yrs V P m))]) rfl (Or.inl rfl) rfl rfl rfl (sp_can50 hcv hok) (by first | decide | omega) ?_
    refine mv_retW (fun n => rfl) ⟨_, rfl, ?_⟩
    refine mv_goW 2 (pc' := if 0 = 0 then 36 else 4) (ls' := [mv_R 100, mv_I (m : Int), mv_I 0, mv_U, mv_U, mv_U, mv_U]) (st' := []) (M1 := M2) rfl ?_
    refine mv_ttW (by first | decide | omega) ?_
    refine mv_goW 6 (pc' := 46) (ls' := [mv_R 100, mv_I (m : Int), mv_I 0, mv_I 1, mv_U, mv_U, mv_U]) (st' := [mv_I 40, mv_I 0, mv_I (m : Int)]) (M1 := M2) rfl ?_
    have ha3 : (0 : Int) ≤ (m : Int) ∧ (m : Int) ≤ (40 : Int) := by omega
    refine mv_callPW (st2 := [mv_I 1]) rfl (Or.inr rfl) rfl rfl rfl (sp_min_t ha3) (by first | decide | omega) ?_
    refine mv_goW 1 (pc' := if 1 = 0 then 56 else 52) (ls' := [mv_R 100, mv_I (m : Int), mv_I 0, mv_I 1, mv_U, mv_U, mv_U]) (st' := []) (M1 := M2) rfl ?_
    refine mv_ffW (by first | decide | omega) ?_
    refine mv_goW 2 (pc' := if 1 = 0 then 56 else 59) (ls' := [mv_R 100, mv_I (m : Int), mv_I 0, mv_I 1, mv_U, mv_U, mv_U]) (st' := []) (M1 := M2) rfl ?_
    refine mv_ffW (by first | decide | omega) ?_
    refine mv_goW 2 (pc' := 63) (ls' := [mv_R 100, mv_I (m : Int), mv_I 0, mv_I 1, mv_U, mv_U, mv_U]) (st' := [mv_I (M2 100 7)]) (M1 := M2) rfl ?_
    have hr1 := sp_ok_s10 ho
    rw [show M2 100 7 = V 0 10 from by exact sp_m_s10 hm]
    refine mv_goW 3 (pc' := 68) (ls' := [mv_R 100, mv_I (m : Int), mv_I 0, mv_I 1, mv_I (V 0 10), mv_I 0, mv_U]) (st' := []) (M1 := M2) rfl ?_
    refine sp_mrn1 24 0 M2 (by omega) (fun j hj => absurd hj (by omega)) (fun M3 hy1 hy2 => ?_)
    refine mv_goW 2 (pc' := 115) (ls' := [mv_R 100, mv_I (m : Int), mv_I 0, mv_I 1, mv_I (V 0 10), mv_I 0, mv_U]) (st' := []) (M1 := M3) rfl ?_
    refine sp_mrn2 (d := 12) (V := V) (M0 := M3) ho hy hl (sp_mts_ag hmt hy1 (by decide)) (by omega) (fun M4 hv1 hv2 hmv => ?_) m 0 M3 (by omega) mv_ag.rf (fun _ _ => rfl) (sp_m_ag2 hm hy1 (by decide))
    refine mv_goW 2 (pc' := if 0 = 0 then 135 else 142) (ls' := [mv_R 100, mv_I (m : Int), mv_I 0, mv_I 1, mv_I (V 0 10), mv_I (m : Int), mv_U]) (st' := []) (M1 := M4) rfl ?_
    refine mv_ttW (by first | decide | omega) ?_
    refine mv_goW 1 (pc' := 136) (ls' := [mv_R 100, mv_I (m : Int), mv_I 0, mv_I 1, mv_I (V 0 10), mv_I (m : Int), mv_U]) (st' := [mv_R 100]) (M1 := M4) rfl ?_
    refine mv_callPW (st2 := [mv_I (sp_an (sp_yrs V P m))]) rfl (Or.inl rfl) rfl rfl rfl (sp_man hmv hok) (by first | decide | omega) ?_
    refine mv_goW 4 (pc' := 172) (ls' := [mv_R 100, mv_I (m : Int), mv_I 0, mv_I 1, mv_I (V 0 10), mv_I (sp_an (sp_yrs V P m)), mv_I 0]) (st' := []) (M1 := M4) rfl ?_
    refine sp_mrn3 24 0 M4 (by omega) (fun j hj => absurd hj (by omega)) (fun M5 hz1 hz2 => ?_)
    refine mv_goW 4 (pc' := 224) (ls' := [mv_R 100, mv_I (m : Int), mv_I 0, mv_I 1, mv_I (V 0 10), mv_I (sp_an (sp_yrs V P m)), mv_I 24]) (st' := [mv_I (sp_an (sp_yrs V P m))]) (M1 := (mv_st M5 100 (mv_up (M5 100) 7 (V 0 10)))) rfl ?_
    exact mv_retW (fun n => rfl) ⟨congrArg mv_I (by first | with_reducible rfl | omega), sp_run_end h hw2 hy1 hy2 hv1 hv2 hz1 hz2⟩
  · obtain ⟨c, rfl⟩ : ∃ c : Nat, b = ((c + 10 : Nat) : Int) := ⟨(b - 10).toNat, by omega⟩
    refine mv_goW 2 (pc' := if (m : Int) < 0 then 10 else 4) (ls' := [mv_R 0, mv_I (m : Int), mv_I ((c + 10 : Nat) : Int), mv_U]) (st' := []) (M1 := M) rfl ?_
    refine mv_ffW (by omega) ?_
    refine mv_goW 3 (pc' := if 40 < (m : Int) then 10 else 13) (ls' := [mv_R 0, mv_I (m : Int), mv_I ((c + 10 : Nat) : Int), mv_U]) (st' := []) (M1 := M) rfl ?_
    refine mv_ffW (by omega) ?_
    refine mv_goW 2 (pc' := if ((c + 10 : Nat) : Int) = 0 then 48 else 17) (ls' := [mv_R 0, mv_I (m : Int), mv_I ((c + 10 : Nat) : Int), mv_U]) (st' := []) (M1 := M) rfl ?_
    refine mv_ffW (by omega) ?_
    refine mv_goW 5 (pc' := 25) (ls' := [mv_R 0, mv_I (m : Int), mv_I ((c + 10 : Nat) : Int), mv_U]) (st' := [mv_I (mv_w (((c + 10 : Nat) : Int) - 10)), mv_R 30]) (M1 := M) rfl ?_
    rw [show mv_w (((c + 10 : Nat) : Int) - 10) = ((c + 10 : Nat) : Int) - 10 from mv_w_id (by omega) (by omega)]
    rw [show ((c + 10 : Nat) : Int) - 10 = (c : Int) from by omega]
    by_cases ha4 : 0 ≤ (c : Int) ∧ (c : Int) < V 0 8
    · refine mv_callPW (st2 := [mv_I 1]) rfl (Or.inl rfl) rfl rfl rfl (sp_cisChild_t_30 hc ho ha4) (by first | decide | omega) ?_
      refine mv_goW 1 (pc' := if 1 = 0 then 31 else 48) (ls' := [mv_R 0, mv_I (m : Int), mv_I ((c + 10 : Nat) : Int), mv_U]) (st' := []) (M1 := M) rfl ?_
      refine mv_ffW (by first | decide | omega) ?_
      refine mv_goW 4 (pc' := 56) (ls' := [mv_R 0, mv_I (m : Int), mv_I ((c + 10 : Nat) : Int), mv_U]) (st' := [mv_R 30, mv_R 50]) (M1 := M) rfl ?_
      refine mv_callW (st2 := []) rfl (Or.inl rfl) rfl rfl rfl (sp_become_50_30 hc (by omega) (by omega)) (by first | decide | omega) (fun Ma5 hm6 => ?_)
      have hb := hm6
      refine mv_goW 2 (pc' := 61) (ls' := [mv_R 0, mv_I (m : Int), mv_I ((c + 10 : Nat) : Int), mv_I 0]) (st' := []) (M1 := Ma5) rfl ?_
      refine sp_crn (d := 12) (V := V) (M0 := Ma5) ho hy hl hn (sp_cts_ag hct hb.1 hn (fun i h1 h2 => by simp only [List.mem_cons, List.not_mem_nil, or_false]; omega)) (by omega) (fun M2 hw hcv => ?_) m 0 Ma5 (by omega) mv_ag.rf hb.2
      have hok := sp_ok_yrs P ho hy m (by omega)
      have hw2 : mv_ag [36, 37, 50, 51, 52, 53, 54, 55, 56, 57] M M2 := (hb.1.wd (by decide)).tr (hw.wd (by decide))
      have hm := sp_m_ag2 hm hw2 (by decide)
      have hmt := sp_mts_ag hmt hw2 (by decide)
      refine mv_goW 2 (pc' := if ((c + 10 : Nat) : Int) = 0 then 83 else 91) (ls' := [mv_R 0, mv_I (m : Int), mv_I ((c + 10 : Nat) : Int), mv_I (m : Int)]) (st' := []) (M1 := M2) rfl ?_
      refine mv_ffW (by omega) ?_
      refine mv_goW 3 (pc' := if ((c + 10 : Nat) : Int) < 20 then 97 else 114) (ls' := [mv_R 0, mv_I (m : Int), mv_I ((c + 10 : Nat) : Int), mv_I (m : Int)]) (st' := []) (M1 := M2) rfl ?_
      refine mv_ttW (by omega) ?_
      refine mv_goW 6 (pc' := 108) (ls' := [mv_R 0, mv_I (m : Int), mv_I ((c + 10 : Nat) : Int), mv_I (m : Int)]) (st' := [mv_I (mv_w (((c + 10 : Nat) : Int) - 10)), mv_R 51]) (M1 := M2) rfl ?_
      rw [show mv_w (((c + 10 : Nat) : Int) - 10) = ((c + 10 : Nat) : Int) - 10 from mv_w_id (by omega) (by omega)]
      rw [show ((c + 10 : Nat) : Int) - 10 = (c : Int) from by omega]
      refine mv_callPW (st2 := [mv_I (sp_dg (sp_yrs V P m 1) c)]) rfl (Or.inr rfl) rfl rfl rfl (sp_cdg51 (sp_f51 hcv hok) (by omega)) (by first | decide | omega) ?_
      refine mv_goW 1 (pc' := 128) (ls' := [mv_R 0, mv_I (m : Int), mv_I ((c + 10 : Nat) : Int), mv_I (m : Int)]) (st' := [mv_I (sp_dg (sp_yrs V P m 1) c)]) (M1 := M2) rfl ?_
      refine mv_retW (fun n => rfl) ⟨_, rfl, ?_⟩
      refine mv_goW 2 (pc' := if ((c + 10 : Nat) : Int) = 0 then 36 else 4) (ls' := [mv_R 100, mv_I (m : Int), mv_I ((c + 10 : Nat) : Int), mv_U, mv_U, mv_U, mv_U]) (st' := []) (M1 := M2) rfl ?_
      refine mv_ffW (by omega) ?_
      refine mv_goW 5 (pc' := 13) (ls' := [mv_R 100, mv_I (m : Int), mv_I ((c + 10 : Nat) : Int), mv_U, mv_U, mv_U, mv_U]) (st' := [mv_I (M2 100 0), mv_I 9, mv_I 10, mv_I ((c + 10 : Nat) : Int)]) (M1 := M2) rfl ?_
      have hr3 := sp_ok_s8 ho
      rw [show M2 100 0 = V 0 8 from by exact sp_m_s8 hm]
      refine mv_goW 1 (pc' := 14) (ls' := [mv_R 100, mv_I (m : Int), mv_I ((c + 10 : Nat) : Int), mv_U, mv_U, mv_U, mv_U]) (st' := [mv_I (mv_w (9 + (V 0 8))), mv_I 10, mv_I ((c + 10 : Nat) : Int)]) (M1 := M2) rfl ?_
      rw [show mv_w (9 + (V 0 8)) = 9 + (V 0 8) from mv_w_id (by omega) (by omega)]
      have ha7 : (10 : Int) ≤ ((c + 10 : Nat) : Int) ∧ ((c + 10 : Nat) : Int) ≤ (9 + (V 0 8)) := by omega
      refine mv_callPW (st2 := [mv_I 1]) rfl (Or.inr rfl) rfl rfl rfl (sp_min_t ha7) (by first | decide | omega) ?_
      refine mv_goW 1 (pc' := if 1 = 0 then 20 else 36) (ls' := [mv_R 100, mv_I (m : Int), mv_I ((c + 10 : Nat) : Int), mv_U, mv_U, mv_U, mv_U]) (st' := []) (M1 := M2) rfl ?_
      refine mv_ffW (by first | decide | omega) ?_
      refine mv_goW 6 (pc' := 46) (ls' := [mv_R 100, mv_I (m : Int), mv_I ((c + 10 : Nat) : Int), mv_I 1, mv_U, mv_U, mv_U]) (st' := [mv_I 40, mv_I 0, mv_I (m : Int)]) (M1 := M2) rfl ?_
      have ha8 : (0 : Int) ≤ (m : Int) ∧ (m : Int) ≤ (40 : Int) := by omega
      refine mv_callPW (st2 := [mv_I 1]) rfl (Or.inr rfl) rfl rfl rfl (sp_min_t ha8) (by first | decide | omega) ?_
      refine mv_goW 1 (pc' := if 1 = 0 then 56 else 52) (ls' := [mv_R 100, mv_I (m : Int), mv_I ((c + 10 : Nat) : Int), mv_I 1, mv_U, mv_U, mv_U]) (st' := []) (M1 := M2) rfl ?_
      refine mv_ffW (by first | decide | omega) ?_
      refine mv_goW 2 (pc' := if 1 = 0 then 56 else 59) (ls' := [mv_R 100, mv_I (m : Int), mv_I ((c + 10 : Nat) : Int), mv_I 1, mv_U, mv_U, mv_U]) (st' := []) (M1 := M2) rfl ?_
      refine mv_ffW (by first | decide | omega) ?_
      refine mv_goW 2 (pc' := 63) (ls' := [mv_R 100, mv_I (m : Int), mv_I ((c + 10 : Nat) : Int), mv_I 1, mv_U, mv_U, mv_U]) (st' := [mv_I (M2 100 7)]) (M1 := M2) rfl ?_
      have hr5 := sp_ok_s10 ho
      rw [show M2 100 7 = V 0 10 from by exact sp_m_s10 hm]
      refine mv_goW 3 (pc' := 68) (ls' := [mv_R 100, mv_I (m : Int), mv_I ((c + 10 : Nat) : Int), mv_I 1, mv_I (V 0 10), mv_I 0, mv_U]) (st' := []) (M1 := M2) rfl ?_
      refine sp_mrn1 24 0 M2 (by omega) (fun j hj => absurd hj (by omega)) (fun M3 hy1 hy2 => ?_)
      refine mv_goW 2 (pc' := 115) (ls' := [mv_R 100, mv_I (m : Int), mv_I ((c + 10 : Nat) : Int), mv_I 1, mv_I (V 0 10), mv_I 0, mv_U]) (st' := []) (M1 := M3) rfl ?_
      refine sp_mrn2 (d := 12) (V := V) (M0 := M3) ho hy hl (sp_mts_ag hmt hy1 (by decide)) (by omega) (fun M4 hv1 hv2 hmv => ?_) m 0 M3 (by omega) mv_ag.rf (fun _ _ => rfl) (sp_m_ag2 hm hy1 (by decide))
      refine mv_goW 2 (pc' := if ((c + 10 : Nat) : Int) = 0 then 135 else 142) (ls' := [mv_R 100, mv_I (m : Int), mv_I ((c + 10 : Nat) : Int), mv_I 1, mv_I (V 0 10), mv_I (m : Int), mv_U]) (st' := []) (M1 := M4) rfl ?_
      refine mv_ffW (by omega) ?_
      refine mv_goW 3 (pc' := if ((c + 10 : Nat) : Int) < 20 then 148 else 159) (ls' := [mv_R 100, mv_I (m : Int), mv_I ((c + 10 : Nat) : Int), mv_I 1, mv_I (V 0 10), mv_I (m : Int), mv_U]) (st' := []) (M1 := M4) rfl ?_
      refine mv_ttW (by omega) ?_
      refine mv_goW 4 (pc' := 153) (ls' := [mv_R 100, mv_I (m : Int), mv_I ((c + 10 : Nat) : Int), mv_I 1, mv_I (V 0 10), mv_I (m : Int), mv_U]) (st' := [mv_I (mv_w (((c + 10 : Nat) : Int) - 10)), mv_R 100]) (M1 := M4) rfl ?_
      rw [show mv_w (((c + 10 : Nat) : Int) - 10) = ((c + 10 : Nat) : Int) - 10 from mv_w_id (by omega) (by omega)]
      rw [show ((c + 10 : Nat) : Int) - 10 = (c : Int) from by omega]
      refine mv_callPW (st2 := [mv_I (sp_dg (sp_yrs V P m 1) c)]) rfl (Or.inl rfl) rfl rfl rfl (sp_mdg104 (sp_f104 hmv hok) (by omega)) (by first | decide | omega) ?_
      refine mv_goW 4 (pc' := 172) (ls' := [mv_R 100, mv_I (m : Int), mv_I ((c + 10 : Nat) : Int), mv_I 1, mv_I (V 0 10), mv_I (sp_dg (sp_yrs V P m 1) c), mv_I 0]) (st' := []) (M1 := M4) rfl ?_
      refine sp_mrn3 24 0 M4 (by omega) (fun j hj => absurd hj (by omega)) (fun M5 hz1 hz2 => ?_)
      refine mv_goW 4 (pc' := 224) (ls' := [mv_R 100, mv_I (m : Int), mv_I ((c + 10 : Nat) : Int), mv_I 1, mv_I (V 0 10), mv_I (sp_dg (sp_yrs V P m 1) c), mv_I 24]) (st' := [mv_I (sp_dg (sp_yrs V P m 1) c)]) (M1 := (mv_st M5 100 (mv_up (M5 100) 7 (V 0 10)))) rfl ?_
      exact mv_retW (fun n => rfl) ⟨congrArg mv_I (by first | with_reducible rfl | omega), sp_run_end h hw2 hy1 hy2 hv1 hv2 hz1 hz2⟩
    · refine mv_callPW (st2 := [mv_I 0]) rfl (Or.inl rfl) rfl rfl rfl (sp_cisChild_f_30 hc ho ha4) (by first | decide | omega) ?_
      refine mv_goW 1 (pc' := if 0 = 0 then 31 else 48) (ls' := [mv_R 0, mv_I (m : Int), mv_I ((c + 10 : Nat) : Int), mv_U]) (st' := []) (M1 := M) rfl ?_
      refine mv_ttW (by first | decide | omega) ?_
      refine mv_goW 5 (pc' := 39) (ls' := [mv_R 0, mv_I (m : Int), mv_I ((c + 10 : Nat) : Int), mv_U]) (st' := [mv_I (mv_w (((c + 10 : Nat) : Int) - 20)), mv_R 30]) (M1 := M) rfl ?_
      rw [show mv_w (((c + 10 : Nat) : Int) - 20) = ((c + 10 : Nat) : Int) - 20 from mv_w_id (by omega) (by omega)]
      have ha9 : ¬ (0 ≤ (((c + 10 : Nat) : Int) - 20) ∧ (((c + 10 : Nat) : Int) - 20) < V 0 9) := by omega
      refine mv_callPW (st2 := [mv_I 0]) rfl (Or.inl rfl) rfl rfl rfl (sp_cisUncle_f_30 hc ho ha9) (by first | decide | omega) ?_
      refine mv_goW 1 (pc' := if 0 = 0 then 45 else 48) (ls' := [mv_R 0, mv_I (m : Int), mv_I ((c + 10 : Nat) : Int), mv_U]) (st' := []) (M1 := M) rfl ?_
      refine mv_ttW (by first | decide | omega) ?_
      refine mv_goW 1 (pc' := 47) (ls' := [mv_R 0, mv_I (m : Int), mv_I ((c + 10 : Nat) : Int), mv_U]) (st' := [mv_I (-2)]) (M1 := M) rfl ?_
      refine mv_retW (fun n => rfl) ⟨_, rfl, ?_⟩
      refine mv_goW 2 (pc' := if ((c + 10 : Nat) : Int) = 0 then 36 else 4) (ls' := [mv_R 100, mv_I (m : Int), mv_I ((c + 10 : Nat) : Int), mv_U, mv_U, mv_U, mv_U]) (st' := []) (M1 := M) rfl ?_
      refine mv_ffW (by omega) ?_
      refine mv_goW 5 (pc' := 13) (ls' := [mv_R 100, mv_I (m : Int), mv_I ((c + 10 : Nat) : Int), mv_U, mv_U, mv_U, mv_U]) (st' := [mv_I (M 100 0), mv_I 9, mv_I 10, mv_I ((c + 10 : Nat) : Int)]) (M1 := M) rfl ?_
      have hr7 := sp_ok_s8 ho
      rw [show M 100 0 = V 0 8 from by exact sp_m_s8 hm]
      refine mv_goW 1 (pc' := 14) (ls' := [mv_R 100, mv_I (m : Int), mv_I ((c + 10 : Nat) : Int), mv_U, mv_U, mv_U, mv_U]) (st' := [mv_I (mv_w (9 + (V 0 8))), mv_I 10, mv_I ((c + 10 : Nat) : Int)]) (M1 := M) rfl ?_
      rw [show mv_w (9 + (V 0 8)) = 9 + (V 0 8) from mv_w_id (by omega) (by omega)]
      have ha10 : ¬ ((10 : Int) ≤ ((c + 10 : Nat) : Int) ∧ ((c + 10 : Nat) : Int) ≤ (9 + (V 0 8))) := by omega
      refine mv_callPW (st2 := [mv_I 0]) rfl (Or.inr rfl) rfl rfl rfl (sp_min_f ha10) (by first | decide | omega) ?_
      refine mv_goW 1 (pc' := if 0 = 0 then 20 else 36) (ls' := [mv_R 100, mv_I (m : Int), mv_I ((c + 10 : Nat) : Int), mv_U, mv_U, mv_U, mv_U]) (st' := []) (M1 := M) rfl ?_
      refine mv_ttW (by first | decide | omega) ?_
      refine mv_goW 5 (pc' := 29) (ls' := [mv_R 100, mv_I (m : Int), mv_I ((c + 10 : Nat) : Int), mv_U, mv_U, mv_U, mv_U]) (st' := [mv_I (M 100 1), mv_I 19, mv_I 20, mv_I ((c + 10 : Nat) : Int)]) (M1 := M) rfl ?_
      have hr9 := sp_ok_s9 ho
      rw [show M 100 1 = V 0 9 from by exact sp_m_s9 hm]
      refine mv_goW 1 (pc' := 30) (ls' := [mv_R 100, mv_I (m : Int), mv_I ((c + 10 : Nat) : Int), mv_U, mv_U, mv_U, mv_U]) (st' := [mv_I (mv_w (19 + (V 0 9))), mv_I 20, mv_I ((c + 10 : Nat) : Int)]) (M1 := M) rfl ?_
      rw [show mv_w (19 + (V 0 9)) = 19 + (V 0 9) from mv_w_id (by omega) (by omega)]
      have ha11 : ¬ ((20 : Int) ≤ ((c + 10 : Nat) : Int) ∧ ((c + 10 : Nat) : Int) ≤ (19 + (V 0 9))) := by omega
      refine mv_callPW (st2 := [mv_I 0]) rfl (Or.inr rfl) rfl rfl rfl (sp_min_f ha11) (by first | decide | omega) ?_
      refine mv_goW 1 (pc' := if 0 = 0 then 40 else 36) (ls' := [mv_R 100, mv_I (m : Int), mv_I ((c + 10 : Nat) : Int), mv_U, mv_U, mv_U, mv_U]) (st' := []) (M1 := M) rfl ?_
      refine mv_ttW (by first | decide | omega) ?_
      refine mv_goW 5 (pc' := 46) (ls' := [mv_R 100, mv_I (m : Int), mv_I ((c + 10 : Nat) : Int), mv_I 0, mv_U, mv_U, mv_U]) (st' := [mv_I 40, mv_I 0, mv_I (m : Int)]) (M1 := M) rfl ?_
      have ha12 : (0 : Int) ≤ (m : Int) ∧ (m : Int) ≤ (40 : Int) := by omega
      refine mv_callPW (st2 := [mv_I 1]) rfl (Or.inr rfl) rfl rfl rfl (sp_min_t ha12) (by first | decide | omega) ?_
      refine mv_goW 1 (pc' := if 1 = 0 then 56 else 52) (ls' := [mv_R 100, mv_I (m : Int), mv_I ((c + 10 : Nat) : Int), mv_I 0, mv_U, mv_U, mv_U]) (st' := []) (M1 := M) rfl ?_
      refine mv_ffW (by first | decide | omega) ?_
      refine mv_goW 2 (pc' := if 0 = 0 then 56 else 59) (ls' := [mv_R 100, mv_I (m : Int), mv_I ((c + 10 : Nat) : Int), mv_I 0, mv_U, mv_U, mv_U]) (st' := []) (M1 := M) rfl ?_
      refine mv_ttW (by first | decide | omega) ?_
      refine mv_goW 1 (pc' := 58) (ls' := [mv_R 100, mv_I (m : Int), mv_I ((c + 10 : Nat) : Int), mv_I 0, mv_U, mv_U, mv_U]) (st' := [mv_I (-2)]) (M1 := M) rfl ?_
      exact mv_retW (fun n => rfl) ⟨congrArg mv_I (by first | with_reducible rfl | omega), hI⟩
  · obtain ⟨c, rfl⟩ : ∃ c : Nat, b = ((c + 20 : Nat) : Int) := ⟨(b - 20).toNat, by omega⟩
    refine mv_goW 2 (pc' := if (m : Int) < 0 then 10 else 4) (ls' := [mv_R 0, mv_I (m : Int), mv_I ((c + 20 : Nat) : Int), mv_U]) (st' := []) (M1 := M) rfl ?_
    refine mv_ffW (by omega) ?_
    refine mv_goW 3 (pc' := if 40 < (m : Int) then 10 else 13) (ls' := [mv_R 0, mv_I (m : Int), mv_I ((c + 20 : Nat) : Int), mv_U]) (st' := []) (M1 := M) rfl ?_
    refine mv_ffW (by omega) ?_
    refine mv_goW 2 (pc' := if ((c + 20 : Nat) : Int) = 0 then 48 else 17) (ls' := [mv_R 0, mv_I (m : Int), mv_I ((c + 20 : Nat) : Int), mv_U]) (st' := []) (M1 := M) rfl ?_
    refine mv_ffW (by omega) ?_
    refine mv_goW 5 (pc' := 25) (ls' := [mv_R 0, mv_I (m : Int), mv_I ((c + 20 : Nat) : Int), mv_U]) (st' := [mv_I (mv_w (((c + 20 : Nat) : Int) - 10)), mv_R 30]) (M1 := M) rfl ?_
    rw [show mv_w (((c + 20 : Nat) : Int) - 10) = ((c + 20 : Nat) : Int) - 10 from mv_w_id (by omega) (by omega)]
    rw [show ((c + 20 : Nat) : Int) - 10 = ((c + 10 : Nat) : Int) from by omega]
    have ha13 : ¬ (0 ≤ ((c + 10 : Nat) : Int) ∧ ((c + 10 : Nat) : Int) < V 0 8) := by omega
    refine mv_callPW (st2 := [mv_I 0]) rfl (Or.inl rfl) rfl rfl rfl (sp_cisChild_f_30 hc ho ha13) (by first | decide | omega) ?_
    refine mv_goW 1 (pc' := if 0 = 0 then 31 else 48) (ls' := [mv_R 0, mv_I (m : Int), mv_I ((c + 20 : Nat) : Int), mv_U]) (st' := []) (M1 := M) rfl ?_
    refine mv_ttW (by first | decide | omega) ?_
    refine mv_goW 5 (pc' := 39) (ls' := [mv_R 0, mv_I (m : Int), mv_I ((c + 20 : Nat) : Int), mv_U]) (st' := [mv_I (mv_w (((c + 20 : Nat) : Int) - 20)), mv_R 30]) (M1 := M) rfl ?_
    rw [show mv_w (((c + 20 : Nat) : Int) - 20) = ((c + 20 : Nat) : Int) - 20 from mv_w_id (by omega) (by omega)]
    rw [show ((c + 20 : Nat) : Int) - 20 = (c : Int) from by omega]
    by_cases ha14 : 0 ≤ (c : Int) ∧ (c : Int) < V 0 9
    · refine mv_callPW (st2 := [mv_I 1]) rfl (Or.inl rfl) rfl rfl rfl (sp_cisUncle_t_30 hc ho ha14) (by first | decide | omega) ?_
      refine mv_goW 1 (pc' := if 1 = 0 then 45 else 48) (ls' := [mv_R 0, mv_I (m : Int), mv_I ((c + 20 : Nat) : Int), mv_U]) (st' := []) (M1 := M) rfl ?_
      refine mv_ffW (by first | decide | omega) ?_
      refine mv_goW 4 (pc' := 56) (ls' := [mv_R 0, mv_I (m : Int), mv_I ((c + 20 : Nat) : Int), mv_U]) (st' := [mv_R 30, mv_R 50]) (M1 := M) rfl ?_
      refine mv_callW (st2 := []) rfl (Or.inl rfl) rfl rfl rfl (sp_become_50_30 hc (by omega) (by omega)) (by first | decide | omega) (fun Ma15 hm16 => ?_)
      have hb := hm16
      refine mv_goW 2 (pc' := 61) (ls' := [mv_R 0, mv_I (m : Int), mv_I ((c + 20 : Nat) : Int), mv_I 0]) (st' := []) (M1 := Ma15) rfl ?_
      refine sp_crn (d := 12) (V := V) (M0 := Ma15) ho hy hl hn (sp_cts_ag hct hb.1 hn (fun i h1 h2 => by simp only [List.mem_cons, List.not_mem_nil, or_false]; omega)) (by omega) (fun M2 hw hcv => ?_) m 0 Ma15 (by omega) mv_ag.rf hb.2
      have hok := sp_ok_yrs P ho hy m (by omega)
      have hw2 : mv_ag [36, 37, 50, 51, 52, 53, 54, 55, 56, 57] M M2 := (hb.1.wd (by decide)).tr (hw.wd (by decide))
      have hm := sp_m_ag2 hm hw2 (by decide)
      have hmt := sp_mts_ag hmt hw2 (by decide)
      refine mv_goW 2 (pc' := if ((c + 20 : Nat) : Int) = 0 then 83 else 91) (ls' := [mv_R 0, mv_I (m : Int), mv_I ((c + 20 : Nat) : Int), mv_I (m : Int)]) (st' := []) (M1 := M2) rfl ?_
      refine mv_ffW (by omega) ?_
      refine mv_goW 3 (pc' := if ((c + 20 : Nat) : Int) < 20 then 97 else 114) (ls' := [mv_R 0, mv_I (m : Int), mv_I ((c + 20 : Nat) : Int), mv_I (m : Int)]) (st' := []) (M1 := M2) rfl ?_
      refine mv_ffW (by omega) ?_
      refine mv_goW 6 (pc' := 125) (ls' := [mv_R 0, mv_I (m : Int), mv_I ((c + 20 : Nat) : Int), mv_I (m : Int)]) (st' := [mv_I (mv_w (((c + 20 : Nat) : Int) - 20)), mv_R 53]) (M1 := M2) rfl ?_
      rw [show mv_w (((c + 20 : Nat) : Int) - 20) = ((c + 20 : Nat) : Int) - 20 from mv_w_id (by omega) (by omega)]
      rw [show ((c + 20 : Nat) : Int) - 20 = (c : Int) from by omega]
      refine mv_callPW (st2 := [mv_I (sp_dg (sp_yrs V P m 3) c)]) rfl (Or.inr rfl) rfl rfl rfl (sp_cdg53 (sp_f53 hcv hok) (by omega)) (by first | decide | omega) ?_
      refine mv_retW (fun n => rfl) ⟨_, rfl, ?_⟩
      refine mv_goW 2 (pc' := if ((c + 20 : Nat) : Int) = 0 then 36 else 4) (ls' := [mv_R 100, mv_I (m : Int), mv_I ((c + 20 : Nat) : Int), mv_U, mv_U, mv_U, mv_U]) (st' := []) (M1 := M2) rfl ?_
      refine mv_ffW (by omega) ?_
      refine mv_goW 5 (pc' := 13) (ls' := [mv_R 100, mv_I (m : Int), mv_I ((c + 20 : Nat) : Int), mv_U, mv_U, mv_U, mv_U]) (st' := [mv_I (M2 100 0), mv_I 9, mv_I 10, mv_I ((c + 20 : Nat) : Int)]) (M1 := M2) rfl ?_
      have hr11 := sp_ok_s8 ho
      rw [show M2 100 0 = V 0 8 from by exact sp_m_s8 hm]
      refine mv_goW 1 (pc' := 14) (ls' := [mv_R 100, mv_I (m : Int), mv_I ((c + 20 : Nat) : Int), mv_U, mv_U, mv_U, mv_U]) (st' := [mv_I (mv_w (9 + (V 0 8))), mv_I 10, mv_I ((c + 20 : Nat) : Int)]) (M1 := M2) rfl ?_
      rw [show mv_w (9 + (V 0 8)) = 9 + (V 0 8) from mv_w_id (by omega) (by omega)]
      have ha17 : ¬ ((10 : Int) ≤ ((c + 20 : Nat) : Int) ∧ ((c + 20 : Nat) : Int) ≤ (9 + (V 0 8))) := by omega
      refine mv_callPW (st2 := [mv_I 0]) rfl (Or.inr rfl) rfl rfl rfl (sp_min_f ha17) (by first | decide | omega) ?_
      refine mv_goW 1 (pc' := if 0 = 0 then 20 else 36) (ls' := [mv_R 100, mv_I (m : Int), mv_I ((c + 20 : Nat) : Int), mv_U, mv_U, mv_U, mv_U]) (st' := []) (M1 := M2) rfl ?_
      refine mv_ttW (by first | decide | omega) ?_
      refine mv_goW 5 (pc' := 29) (ls' := [mv_R 100, mv_I (m : Int), mv_I ((c + 20 : Nat) : Int), mv_U, mv_U, mv_U, mv_U]) (st' := [mv_I (M2 100 1), mv_I 19, mv_I 20, mv_I ((c + 20 : Nat) : Int)]) (M1 := M2) rfl ?_
      have hr13 := sp_ok_s9 ho
      rw [show M2 100 1 = V 0 9 from by exact sp_m_s9 hm]
      refine mv_goW 1 (pc' := 30) (ls' := [mv_R 100, mv_I (m : Int), mv_I ((c + 20 : Nat) : Int), mv_U, mv_U, mv_U, mv_U]) (st' := [mv_I (mv_w (19 + (V 0 9))), mv_I 20, mv_I ((c + 20 : Nat) : Int)]) (M1 := M2) rfl ?_
      rw [show mv_w (19 + (V 0 9)) = 19 + (V 0 9) from mv_w_id (by omega) (by omega)]
      have ha18 : (20 : Int) ≤ ((c + 20 : Nat) : Int) ∧ ((c + 20 : Nat) : Int) ≤ (19 + (V 0 9)) := by omega
      refine mv_callPW (st2 := [mv_I 1]) rfl (Or.inr rfl) rfl rfl rfl (sp_min_t ha18) (by first | decide | omega) ?_
      refine mv_goW 1 (pc' := if 1 = 0 then 40 else 36) (ls' := [mv_R 100, mv_I (m : Int), mv_I ((c + 20 : Nat) : Int), mv_U, mv_U, mv_U, mv_U]) (st' := []) (M1 := M2) rfl ?_
      refine mv_ffW (by first | decide | omega) ?_
      refine mv_goW 6 (pc' := 46) (ls' := [mv_R 100, mv_I (m : Int), mv_I ((c + 20 : Nat) : Int), mv_I 1, mv_U, mv_U, mv_U]) (st' := [mv_I 40, mv_I 0, mv_I (m : Int)]) (M1 := M2) rfl ?_
      have ha19 : (0 : Int) ≤ (m : Int) ∧ (m : Int) ≤ (40 : Int) := by omega
      refine mv_callPW (st2 := [mv_I 1]) rfl (Or.inr rfl) rfl rfl rfl (sp_min_t ha19) (by first | decide | omega) ?_
      refine mv_goW 1 (pc' := if 1 = 0 then 56 else 52) (ls' := [mv_R 100, mv_I (m : Int), mv_I ((c + 20 : Nat) : Int), mv_I 1, mv_U, mv_U, mv_U]) (st' := []) (M1 := M2) rfl ?_
      refine mv_ffW (by first | decide | omega) ?_
      refine mv_goW 2 (pc' := if 1 = 0 then 56 else 59) (ls' := [mv_R 100, mv_I (m : Int), mv_I ((c + 20 : Nat) : Int), mv_I 1, mv_U, mv_U, mv_U]) (st' := []) (M1 := M2) rfl ?_
      refine mv_ffW (by first | decide | omega) ?_
      refine mv_goW 2 (pc' := 63) (ls' := [mv_R 100, mv_I (m : Int), mv_I ((c + 20 : Nat) : Int), mv_I 1, mv_U, mv_U, mv_U]) (st' := [mv_I (M2 100 7)]) (M1 := M2) rfl ?_
      have hr15 := sp_ok_s10 ho
      rw [show M2 100 7 = V 0 10 from by exact sp_m_s10 hm]
      refine mv_goW 3 (pc' := 68) (ls' := [mv_R 100, mv_I (m : Int), mv_I ((c + 20 : Nat) : Int), mv_I 1, mv_I (V 0 10), mv_I 0, mv_U]) (st' := []) (M1 := M2) rfl ?_
      refine sp_mrn1 24 0 M2 (by omega) (fun j hj => absurd hj (by omega)) (fun M3 hy1 hy2 => ?_)
      refine mv_goW 2 (pc' := 115) (ls' := [mv_R 100, mv_I (m : Int), mv_I ((c + 20 : Nat) : Int), mv_I 1, mv_I (V 0 10), mv_I 0, mv_U]) (st' := []) (M1 := M3) rfl ?_
      refine sp_mrn2 (d := 12) (V := V) (M0 := M3) ho hy hl (sp_mts_ag hmt hy1 (by decide)) (by omega) (fun M4 hv1 hv2 hmv => ?_) m 0 M3 (by omega) mv_ag.rf (fun _ _ => rfl) (sp_m_ag2 hm hy1 (by decide))
      refine mv_goW 2 (pc' := if ((c + 20 : Nat) : Int) = 0 then 135 else 142) (ls' := [mv_R 100, mv_I (m : Int), mv_I ((c + 20 : Nat) : Int), mv_I 1, mv_I (V 0 10), mv_I (m : Int), mv_U]) (st' := []) (M1 := M4) rfl ?_
      refine mv_ffW (by omega) ?_
      refine mv_goW 3 (pc' := if ((c + 20 : Nat) : Int) < 20 then 148 else 159) (ls' := [mv_R 100, mv_I (m : Int), mv_I ((c + 20 : Nat) : Int), mv_I 1, mv_I (V 0 10), mv_I (m : Int), mv_U]) (st' := []) (M1 := M4) rfl ?_
      refine mv_ffW (by omega) ?_
      refine mv_goW 4 (pc' := 164) (ls' := [mv_R 100, mv_I (m : Int), mv_I ((c + 20 : Nat) : Int), mv_I 1, mv_I (V 0 10), mv_I (m : Int), mv_U]) (st' := [mv_I (mv_w (((c + 20 : Nat) : Int) - 20)), mv_R 100]) (M1 := M4) rfl ?_
      rw [show mv_w (((c + 20 : Nat) : Int) - 20) = ((c + 20 : Nat) : Int) - 20 from mv_w_id (by omega) (by omega)]
      rw [show ((c + 20 : Nat) : Int) - 20 = (c : Int) from by omega]
      refine mv_callPW (st2 := [mv_I (sp_dg (sp_yrs V P m 3) c)]) rfl (Or.inl rfl) rfl rfl rfl (sp_mdg105 (sp_f105 hmv hok) (by omega)) (by first | decide | omega) ?_
      refine mv_goW 3 (pc' := 172) (ls' := [mv_R 100, mv_I (m : Int), mv_I ((c + 20 : Nat) : Int), mv_I 1, mv_I (V 0 10), mv_I (sp_dg (sp_yrs V P m 3) c), mv_I 0]) (st' := []) (M1 := M4) rfl ?_
      refine sp_mrn3 24 0 M4 (by omega) (fun j hj => absurd hj (by omega)) (fun M5 hz1 hz2 => ?_)
      refine mv_goW 4 (pc' := 224) (ls' := [mv_R 100, mv_I (m : Int), mv_I ((c + 20 : Nat) : Int), mv_I 1, mv_I (V 0 10), mv_I (sp_dg (sp_yrs V P m 3) c), mv_I 24]) (st' := [mv_I (sp_dg (sp_yrs V P m 3) c)]) (M1 := (mv_st M5 100 (mv_up (M5 100) 7 (V 0 10)))) rfl ?_
      exact mv_retW (fun n => rfl) ⟨congrArg mv_I (by first | with_reducible rfl | omega), sp_run_end h hw2 hy1 hy2 hv1 hv2 hz1 hz2⟩
    · refine mv_callPW (st2 := [mv_I 0]) rfl (Or.inl rfl) rfl rfl rfl (sp_cisUncle_f_30 hc ho ha14) (by first | decide | omega) ?_
      refine mv_goW 1 (pc' := if 0 = 0 then 45 else 48) (ls' := [mv_R 0, mv_I (m : Int), mv_I ((c + 20 : Nat) : Int), mv_U]) (st' := []) (M1 := M) rfl ?_
      refine mv_ttW (by first | decide | omega) ?_
      refine mv_goW 1 (pc' := 47) (ls' := [mv_R 0, mv_I (m : Int), mv_I ((c + 20 : Nat) : Int), mv_U]) (st' := [mv_I (-2)]) (M1 := M) rfl ?_
      refine mv_retW (fun n => rfl) ⟨_, rfl, ?_⟩
      refine mv_goW 2 (pc' := if ((c + 20 : Nat) : Int) = 0 then 36 else 4) (ls' := [mv_R 100, mv_I (m : Int), mv_I ((c + 20 : Nat) : Int), mv_U, mv_U, mv_U, mv_U]) (st' := []) (M1 := M) rfl ?_
      refine mv_ffW (by omega) ?_
      refine mv_goW 5 (pc' := 13) (ls' := [mv_R 100, mv_I (m : Int), mv_I ((c + 20 : Nat) : Int), mv_U, mv_U, mv_U, mv_U]) (st' := [mv_I (M 100 0), mv_I 9, mv_I 10, mv_I ((c + 20 : Nat) : Int)]) (M1 := M) rfl ?_
      have hr17 := sp_ok_s8 ho
      rw [show M 100 0 = V 0 8 from by exact sp_m_s8 hm]
      refine mv_goW 1 (pc' := 14) (ls' := [mv_R 100, mv_I (m : Int), mv_I ((c + 20 : Nat) : Int), mv_U, mv_U, mv_U, mv_U]) (st' := [mv_I (mv_w (9 + (V 0 8))), mv_I 10, mv_I ((c + 20 : Nat) : Int)]) (M1 := M) rfl ?_
      rw [show mv_w (9 + (V 0 8)) = 9 + (V 0 8) from mv_w_id (by omega) (by omega)]
      have ha20 : ¬ ((10 : Int) ≤ ((c + 20 : Nat) : Int) ∧ ((c + 20 : Nat) : Int) ≤ (9 + (V 0 8))) := by omega
      refine mv_callPW (st2 := [mv_I 0]) rfl (Or.inr rfl) rfl rfl rfl (sp_min_f ha20) (by first | decide | omega) ?_
      refine mv_goW 1 (pc' := if 0 = 0 then 20 else 36) (ls' := [mv_R 100, mv_I (m : Int), mv_I ((c + 20 : Nat) : Int), mv_U, mv_U, mv_U, mv_U]) (st' := []) (M1 := M) rfl ?_
      refine mv_ttW (by first | decide | omega) ?_
      refine mv_goW 5 (pc' := 29) (ls' := [mv_R 100, mv_I (m : Int), mv_I ((c + 20 : Nat) : Int), mv_U, mv_U, mv_U, mv_U]) (st' := [mv_I (M 100 1), mv_I 19, mv_I 20, mv_I ((c + 20 : Nat) : Int)]) (M1 := M) rfl ?_
      have hr19 := sp_ok_s9 ho
      rw [show M 100 1 = V 0 9 from by exact sp_m_s9 hm]
      refine mv_goW 1 (pc' := 30) (ls' := [mv_R 100, mv_I (m : Int), mv_I ((c + 20 : Nat) : Int), mv_U, mv_U, mv_U, mv_U]) (st' := [mv_I (mv_w (19 + (V 0 9))), mv_I 20, mv_I ((c + 20 : Nat) : Int)]) (M1 := M) rfl ?_
      rw [show mv_w (19 + (V 0 9)) = 19 + (V 0 9) from mv_w_id (by omega) (by omega)]
      have ha21 : ¬ ((20 : Int) ≤ ((c + 20 : Nat) : Int) ∧ ((c + 20 : Nat) : Int) ≤ (19 + (V 0 9))) := by omega
      refine mv_callPW (st2 := [mv_I 0]) rfl (Or.inr rfl) rfl rfl rfl (sp_min_f ha21) (by first | decide | omega) ?_
      refine mv_goW 1 (pc' := if 0 = 0 then 40 else 36) (ls' := [mv_R 100, mv_I (m : Int), mv_I ((c + 20 : Nat) : Int), mv_U, mv_U, mv_U, mv_U]) (st' := []) (M1 := M) rfl ?_
      refine mv_ttW (by first | decide | omega) ?_
      refine mv_goW 5 (pc' := 46) (ls' := [mv_R 100, mv_I (m : Int), mv_I ((c + 20 : Nat) : Int), mv_I 0, mv_U, mv_U, mv_U]) (st' := [mv_I 40, mv_I 0, mv_I (m : Int)]) (M1 := M) rfl ?_
      have ha22 : (0 : Int) ≤ (m : Int) ∧ (m : Int) ≤ (40 : Int) := by omega
      refine mv_callPW (st2 := [mv_I 1]) rfl (Or.inr rfl) rfl rfl rfl (sp_min_t ha22) (by first | decide | omega) ?_
      refine mv_goW 1 (pc' := if 1 = 0 then 56 else 52) (ls' := [mv_R 100, mv_I (m : Int), mv_I ((c + 20 : Nat) : Int), mv_I 0, mv_U, mv_U, mv_U]) (st' := []) (M1 := M) rfl ?_
      refine mv_ffW (by first | decide | omega) ?_
      refine mv_goW 2 (pc' := if 0 = 0 then 56 else 59) (ls' := [mv_R 100, mv_I (m : Int), mv_I ((c + 20 : Nat) : Int), mv_I 0, mv_U, mv_U, mv_U]) (st' := []) (M1 := M) rfl ?_
      refine mv_ttW (by first | decide | omega) ?_
      refine mv_goW 1 (pc' := 58) (ls' := [mv_R 100, mv_I (m : Int), mv_I ((c + 20 : Nat) : Int), mv_I 0, mv_U, mv_U, mv_U]) (st' := [mv_I (-2)]) (M1 := M) rfl ?_
      exact mv_retW (fun n => rfl) ⟨congrArg mv_I (by first | with_reducible rfl | omega), hI⟩
theorem sp_k13 (a b : Int) (hb : -2147483648 ≤ b ∧ b ≤ 2147483647) : sp_call 74 156 [mv_I a, mv_I b] [mv_I a, mv_I b] := by
  refine sp_mkW (lc := [mv_R 0, mv_I a, mv_I b, mv_U]) (lm := [mv_R 100, mv_I a, mv_I b, mv_U, mv_U, mv_U, mv_U]) rfl rfl (fun M hI => ?_)
  by_cases hg : (0 ≤ a ∧ a ≤ 40) ∧ (b = 0 ∨ (10 ≤ b ∧ b ≤ 15) ∨ (20 ≤ b ∧ b ≤ 25))
  · obtain ⟨m, rfl⟩ : ∃ c : Nat, a = (c : Int) := ⟨a.toNat, by omega⟩
    exact sp_k13g m b (by omega) M hI hg.2
  · have hI2 := hI
    obtain ⟨V, P, n, B, K, t, h⟩ := hI2
    have h' := h
    obtain ⟨⟨hc, hm, ho⟩, _⟩ := h'
    have h8 := sp_ok_s8 ho
    have h9 := sp_ok_s9 ho
    by_cases hb0 : b < 0
    · have hw := sp_w10 hb0 hb.1
      refine mv_goW 2 (pc' := if a < 0 then 10 else 4) (ls' := [mv_R 0, mv_I a, mv_I b, mv_U]) (st' := []) (M1 := M) rfl ?_
      refine mv_spW (fun ha23 => ?_) (fun ha23 => ?_)
      · refine mv_goW 1 (pc' := 12) (ls' := [mv_R 0, mv_I a, mv_I b, mv_U]) (st' := [mv_I (-2)]) (M1 := M) rfl ?_
        refine mv_retW (fun n => rfl) ⟨_, rfl, ?_⟩
        refine mv_goW 2 (pc' := if b = 0 then 36 else 4) (ls' := [mv_R 100, mv_I a, mv_I b, mv_U, mv_U, mv_U, mv_U]) (st' := []) (M1 := M) rfl ?_
        refine mv_ffW (by omega) ?_
        refine mv_goW 5 (pc' := 13) (ls' := [mv_R 100, mv_I a, mv_I b, mv_U, mv_U, mv_U, mv_U]) (st' := [mv_I (M 100 0), mv_I 9, mv_I 10, mv_I b]) (M1 := M) rfl ?_
        have hr21 := sp_ok_s8 ho
        rw [show M 100 0 = V 0 8 from by exact sp_m_s8 hm]
        refine mv_goW 1 (pc' := 14) (ls' := [mv_R 100, mv_I a, mv_I b, mv_U, mv_U, mv_U, mv_U]) (st' := [mv_I (mv_w (9 + (V 0 8))), mv_I 10, mv_I b]) (M1 := M) rfl ?_
        rw [show mv_w (9 + (V 0 8)) = 9 + (V 0 8) from mv_w_id (by omega) (by omega)]
        have ha24 : ¬ ((10 : Int) ≤ b ∧ b ≤ (9 + (V 0 8))) := by omega
        refine mv_callPW (st2 := [mv_I 0]) rfl (Or.inr rfl) rfl rfl rfl (sp_min_f ha24) (by first | decide | omega) ?_
        refine mv_goW 1 (pc' := if 0 = 0 then 20 else 36) (ls' := [mv_R 100, mv_I a, mv_I b, mv_U, mv_U, mv_U, mv_U]) (st' := []) (M1 := M) rfl ?_
        refine mv_ttW (by first | decide | omega) ?_
        refine mv_goW 5 (pc' := 29) (ls' := [mv_R 100, mv_I a, mv_I b, mv_U, mv_U, mv_U, mv_U]) (st' := [mv_I (M 100 1), mv_I 19, mv_I 20, mv_I b]) (M1 := M) rfl ?_
        have hr23 := sp_ok_s9 ho
        rw [show M 100 1 = V 0 9 from by exact sp_m_s9 hm]
        refine mv_goW 1 (pc' := 30) (ls' := [mv_R 100, mv_I a, mv_I b, mv_U, mv_U, mv_U, mv_U]) (st' := [mv_I (mv_w (19 + (V 0 9))), mv_I 20, mv_I b]) (M1 := M) rfl ?_
        rw [show mv_w (19 + (V 0 9)) = 19 + (V 0 9) from mv_w_id (by omega) (by omega)]
        have ha25 : ¬ ((20 : Int) ≤ b ∧ b ≤ (19 + (V 0 9))) := by omega
        refine mv_callPW (st2 := [mv_I 0]) rfl (Or.inr rfl) rfl rfl rfl (sp_min_f ha25) (by first | decide | omega) ?_
        refine mv_goW 1 (pc' := if 0 = 0 then 40 else 36) (ls' := [mv_R 100, mv_I a, mv_I b, mv_U, mv_U, mv_U, mv_U]) (st' := []) (M1 := M) rfl ?_
        refine mv_ttW (by first | decide | omega) ?_
        refine mv_goW 5 (pc' := 46) (ls' := [mv_R 100, mv_I a, mv_I b, mv_I 0, mv_U, mv_U, mv_U]) (st' := [mv_I 40, mv_I 0, mv_I a]) (M1 := M) rfl ?_
        have ha26 : ¬ ((0 : Int) ≤ a ∧ a ≤ (40 : Int)) := by omega
        refine mv_callPW (st2 := [mv_I 0]) rfl (Or.inr rfl) rfl rfl rfl (sp_min_f ha26) (by first | decide | omega) ?_
        refine mv_goW 1 (pc' := if 0 = 0 then 56 else 52) (ls' := [mv_R 100, mv_I a, mv_I b, mv_I 0, mv_U, mv_U, mv_U]) (st' := []) (M1 := M) rfl ?_
        refine mv_ttW (by first | decide | omega) ?_
        refine mv_goW 1 (pc' := 58) (ls' := [mv_R 100, mv_I a, mv_I b, mv_I 0, mv_U, mv_U, mv_U]) (st' := [mv_I (-2)]) (M1 := M) rfl ?_
        exact mv_retW (fun n => rfl) ⟨congrArg mv_I (by first | with_reducible rfl | omega), hI⟩
      · refine mv_goW 3 (pc' := if 40 < a then 10 else 13) (ls' := [mv_R 0, mv_I a, mv_I b, mv_U]) (st' := []) (M1 := M) rfl ?_
        refine mv_spW (fun ha27 => ?_) (fun ha27 => ?_)
        · refine mv_goW 1 (pc' := 12) (ls' := [mv_R 0, mv_I a, mv_I b, mv_U]) (st' := [mv_I (-2)]) (M1 := M) rfl ?_
          refine mv_retW (fun n => rfl) ⟨_, rfl, ?_⟩
          refine mv_goW 2 (pc' := if b = 0 then 36 else 4) (ls' := [mv_R 100, mv_I a, mv_I b, mv_U, mv_U, mv_U, mv_U]) (st' := []) (M1 := M) rfl ?_
          refine mv_ffW (by omega) ?_
          refine mv_goW 5 (pc' := 13) (ls' := [mv_R 100, mv_I a, mv_I b, mv_U, mv_U, mv_U, mv_U]) (st' := [mv_I (M 100 0), mv_I 9, mv_I 10, mv_I b]) (M1 := M) rfl ?_
          have hr25 := sp_ok_s8 ho
          rw [show M 100 0 = V 0 8 from by exact sp_m_s8 hm]
          refine mv_goW 1 (pc' := 14) (ls' := [mv_R 100, mv_I a, mv_I b, mv_U, mv_U, mv_U, mv_U]) (st' := [mv_I (mv_w (9 + (V 0 8))), mv_I 10, mv_I b]) (M1 := M) rfl ?_
          rw [show mv_w (9 + (V 0 8)) = 9 + (V 0 8) from mv_w_id (by omega) (by omega)]
          have ha28 : ¬ ((10 : Int) ≤ b ∧ b ≤ (9 + (V 0 8))) := by omega
          refine mv_callPW (st2 := [mv_I 0]) rfl (Or.inr rfl) rfl rfl rfl (sp_min_f ha28) (by first | decide | omega) ?_
          refine mv_goW 1 (pc' := if 0 = 0 then 20 else 36) (ls' := [mv_R 100, mv_I a, mv_I b, mv_U, mv_U, mv_U, mv_U]) (st' := []) (M1 := M) rfl ?_
          refine mv_ttW (by first | decide | omega) ?_
          refine mv_goW 5 (pc' := 29) (ls' := [mv_R 100, mv_I a, mv_I b, mv_U, mv_U, mv_U, mv_U]) (st' := [mv_I (M 100 1), mv_I 19, mv_I 20, mv_I b]) (M1 := M) rfl ?_
          have hr27 := sp_ok_s9 ho
          rw [show M 100 1 = V 0 9 from by exact sp_m_s9 hm]
          refine mv_goW 1 (pc' := 30) (ls' := [mv_R 100, mv_I a, mv_I b, mv_U, mv_U, mv_U, mv_U]) (st' := [mv_I (mv_w (19 + (V 0 9))), mv_I 20, mv_I b]) (M1 := M) rfl ?_
          rw [show mv_w (19 + (V 0 9)) = 19 + (V 0 9) from mv_w_id (by omega) (by omega)]
          have ha29 : ¬ ((20 : Int) ≤ b ∧ b ≤ (19 + (V 0 9))) := by omega
          refine mv_callPW (st2 := [mv_I 0]) rfl (Or.inr rfl) rfl rfl rfl (sp_min_f ha29) (by first | decide | omega) ?_
          refine mv_goW 1 (pc' := if 0 = 0 then 40 else 36) (ls' := [mv_R 100, mv_I a, mv_I b, mv_U, mv_U, mv_U, mv_U]) (st' := []) (M1 := M) rfl ?_
          refine mv_ttW (by first | decide | omega) ?_
          refine mv_goW 5 (pc' := 46) (ls' := [mv_R 100, mv_I a, mv_I b, mv_I 0, mv_U, mv_U, mv_U]) (st' := [mv_I 40, mv_I 0, mv_I a]) (M1 := M) rfl ?_
          have ha30 : ¬ ((0 : Int) ≤ a ∧ a ≤ (40 : Int)) := by omega
          refine mv_callPW (st2 := [mv_I 0]) rfl (Or.inr rfl) rfl rfl rfl (sp_min_f ha30) (by first | decide | omega) ?_
          refine mv_goW 1 (pc' := if 0 = 0 then 56 else 52) (ls' := [mv_R 100, mv_I a, mv_I b, mv_I 0, mv_U, mv_U, mv_U]) (st' := []) (M1 := M) rfl ?_
          refine mv_ttW (by first | decide | omega) ?_
          refine mv_goW 1 (pc' := 58) (ls' := [mv_R 100, mv_I a, mv_I b, mv_I 0, mv_U, mv_U, mv_U]) (st' := [mv_I (-2)]) (M1 := M) rfl ?_
          exact mv_retW (fun n => rfl) ⟨congrArg mv_I (by first | with_reducible rfl | omega), hI⟩
        · refine mv_goW 2 (pc' := if b = 0 then 48 else 17) (ls' := [mv_R 0, mv_I a, mv_I b, mv_U]) (st' := []) (M1 := M) rfl ?_
          refine mv_ffW (by omega) ?_
          refine mv_goW 5 (pc' := 25) (ls' := [mv_R 0, mv_I a, mv_I b, mv_U]) (st' := [mv_I (mv_w (b - 10)), mv_R 30]) (M1 := M) rfl ?_
          have ha31 : ¬ (0 ≤ (mv_w (b - 10)) ∧ (mv_w (b - 10)) < V 0 8) := by omega
          refine mv_callPW (st2 := [mv_I 0]) rfl (Or.inl rfl) rfl rfl rfl (sp_cisChild_f_30 hc ho ha31) (by first | decide | omega) ?_
          refine mv_goW 1 (pc' := if 0 = 0 then 31 else 48) (ls' := [mv_R 0, mv_I a, mv_I b, mv_U]) (st' := []) (M1 := M) rfl ?_
          refine mv_ttW (by first | decide | omega) ?_
          refine mv_goW 5 (pc' := 39) (ls' := [mv_R 0, mv_I a, mv_I b, mv_U]) (st' := [mv_I (mv_w (b - 20)), mv_R 30]) (M1 := M) rfl ?_
          have ha32 : ¬ (0 ≤ (mv_w (b - 20)) ∧ (mv_w (b - 20)) < V 0 9) := by omega
          refine mv_callPW (st2 := [mv_I 0]) rfl (Or.inl rfl) rfl rfl rfl (sp_cisUncle_f_30 hc ho ha32) (by first | decide | omega) ?_
          refine mv_goW 1 (pc' := if 0 = 0 then 45 else 48) (ls' := [mv_R 0, mv_I a, mv_I b, mv_U]) (st' := []) (M1 := M) rfl ?_
          refine mv_ttW (by first | decide | omega) ?_
          refine mv_goW 1 (pc' := 47) (ls' := [mv_R 0, mv_I a, mv_I b, mv_U]) (st' := [mv_I (-2)]) (M1 := M) rfl ?_
          refine mv_retW (fun n => rfl) ⟨_, rfl, ?_⟩
          refine mv_goW 2 (pc' := if b = 0 then 36 else 4) (ls' := [mv_R 100, mv_I a, mv_I b, mv_U, mv_U, mv_U, mv_U]) (st' := []) (M1 := M) rfl ?_
          refine mv_ffW (by omega) ?_
          refine mv_goW 5 (pc' := 13) (ls' := [mv_R 100, mv_I a, mv_I b, mv_U, mv_U, mv_U, mv_U]) (st' := [mv_I (M 100 0), mv_I 9, mv_I 10, mv_I b]) (M1 := M) rfl ?_
          have hr29 := sp_ok_s8 ho
          rw [show M 100 0 = V 0 8 from by exact sp_m_s8 hm]
          refine mv_goW 1 (pc' := 14) (ls' := [mv_R 100, mv_I a, mv_I b, mv_U, mv_U, mv_U, mv_U]) (st' := [mv_I (mv_w (9 + (V 0 8))), mv_I 10, mv_I b]) (M1 := M) rfl ?_
          rw [show mv_w (9 + (V 0 8)) = 9 + (V 0 8) from mv_w_id (by omega) (by omega)]
          have ha33 : ¬ ((10 : Int) ≤ b ∧ b ≤ (9 + (V 0 8))) := by omega
          refine mv_callPW (st2 := [mv_I 0]) rfl (Or.inr rfl) rfl rfl rfl (sp_min_f ha33) (by first | decide | omega) ?_
          refine mv_goW 1 (pc' := if 0 = 0 then 20 else 36) (ls' := [mv_R 100, mv_I a, mv_I b, mv_U, mv_U, mv_U, mv_U]) (st' := []) (M1 := M) rfl ?_
          refine mv_ttW (by first | decide | omega) ?_
          refine mv_goW 5 (pc' := 29) (ls' := [mv_R 100, mv_I a, mv_I b, mv_U, mv_U, mv_U, mv_U]) (st' := [mv_I (M 100 1), mv_I 19, mv_I 20, mv_I b]) (M1 := M) rfl ?_
          have hr31 := sp_ok_s9 ho
          rw [show M 100 1 = V 0 9 from by exact sp_m_s9 hm]
          refine mv_goW 1 (pc' := 30) (ls' := [mv_R 100, mv_I a, mv_I b, mv_U, mv_U, mv_U, mv_U]) (st' := [mv_I (mv_w (19 + (V 0 9))), mv_I 20, mv_I b]) (M1 := M) rfl ?_
          rw [show mv_w (19 + (V 0 9)) = 19 + (V 0 9) from mv_w_id (by omega) (by omega)]
          have ha34 : ¬ ((20 : Int) ≤ b ∧ b ≤ (19 + (V 0 9))) := by omega
          refine mv_callPW (st2 := [mv_I 0]) rfl (Or.inr rfl) rfl rfl rfl (sp_min_f ha34) (by first | decide | omega) ?_
          refine mv_goW 1 (pc' := if 0 = 0 then 40 else 36) (ls' := [mv_R 100, mv_I a, mv_I b, mv_U, mv_U, mv_U, mv_U]) (st' := []) (M1 := M) rfl ?_
          refine mv_ttW (by first | decide | omega) ?_
          refine mv_goW 5 (pc' := 46) (ls' := [mv_R 100, mv_I a, mv_I b, mv_I 0, mv_U, mv_U, mv_U]) (st' := [mv_I 40, mv_I 0, mv_I a]) (M1 := M) rfl ?_
          have ha35 : (0 : Int) ≤ a ∧ a ≤ (40 : Int) := by omega
          refine mv_callPW (st2 := [mv_I 1]) rfl (Or.inr rfl) rfl rfl rfl (sp_min_t ha35) (by first | decide | omega) ?_
          refine mv_goW 1 (pc' := if 1 = 0 then 56 else 52) (ls' := [mv_R 100, mv_I a, mv_I b, mv_I 0, mv_U, mv_U, mv_U]) (st' := []) (M1 := M) rfl ?_
          refine mv_ffW (by first | decide | omega) ?_
          refine mv_goW 2 (pc' := if 0 = 0 then 56 else 59) (ls' := [mv_R 100, mv_I a, mv_I b, mv_I 0, mv_U, mv_U, mv_U]) (st' := []) (M1 := M) rfl ?_
          refine mv_ttW (by first | decide | omega) ?_
          refine mv_goW 1 (pc' := 58) (ls' := [mv_R 100, mv_I a, mv_I b, mv_I 0, mv_U, mv_U, mv_U]) (st' := [mv_I (-2)]) (M1 := M) rfl ?_
          exact mv_retW (fun n => rfl) ⟨congrArg mv_I (by first | with_reducible rfl | omega), hI⟩
    · refine mv_goW 2 (pc' := if a < 0 then 10 else 4) (ls' := [mv_R 0, mv_I a, mv_I b, mv_U]) (st' := []) (M1 := M) rfl ?_
      refine mv_spW (fun ha36 => ?_) (fun ha36 => ?_)
      · refine mv_goW 1 (pc' := 12) (ls' := [mv_R 0, mv_I a, mv_I b, mv_U]) (st' := [mv_I (-2)]) (M1 := M) rfl ?_
        refine mv_retW (fun n => rfl) ⟨_, rfl, ?_⟩
        refine mv_goW 2 (pc' := if b = 0 then 36 else 4) (ls' := [mv_R 100, mv_I a, mv_I b, mv_U, mv_U, mv_U, mv_U]) (st' := []) (M1 := M) rfl ?_
        refine mv_spW (fun ha37 => ?_) (fun ha37 => ?_)
        · refine mv_goW 6 (pc' := 46) (ls' := [mv_R 100, mv_I a, mv_I b, mv_I 1, mv_U, mv_U, mv_U]) (st' := [mv_I 40, mv_I 0, mv_I a]) (M1 := M) rfl ?_
          have ha38 : ¬ ((0 : Int) ≤ a ∧ a ≤ (40 : Int)) := by omega
          refine mv_callPW (st2 := [mv_I 0]) rfl (Or.inr rfl) rfl rfl rfl (sp_min_f ha38) (by first | decide | omega) ?_
          refine mv_goW 1 (pc' := if 0 = 0 then 56 else 52) (ls' := [mv_R 100, mv_I a, mv_I b, mv_I 1, mv_U, mv_U, mv_U]) (st' := []) (M1 := M) rfl ?_
          refine mv_ttW (by first | decide | omega) ?_
          refine mv_goW 1 (pc' := 58) (ls' := [mv_R 100, mv_I a, mv_I b, mv_I 1, mv_U, mv_U, mv_U]) (st' := [mv_I (-2)]) (M1 := M) rfl ?_
          exact mv_retW (fun n => rfl) ⟨congrArg mv_I (by first | with_reducible rfl | omega), hI⟩
        · refine mv_goW 5 (pc' := 13) (ls' := [mv_R 100, mv_I a, mv_I b, mv_U, mv_U, mv_U, mv_U]) (st' := [mv_I (M 100 0), mv_I 9, mv_I 10, mv_I b]) (M1 := M) rfl ?_
          have hr33 := sp_ok_s8 ho
          rw [show M 100 0 = V 0 8 from by exact sp_m_s8 hm]
          refine mv_goW 1 (pc' := 14) (ls' := [mv_R 100, mv_I a, mv_I b, mv_U, mv_U, mv_U, mv_U]) (st' := [mv_I (mv_w (9 + (V 0 8))), mv_I 10, mv_I b]) (M1 := M) rfl ?_
          rw [show mv_w (9 + (V 0 8)) = 9 + (V 0 8) from mv_w_id (by omega) (by omega)]
          by_cases ha39 : (10 : Int) ≤ b ∧ b ≤ (9 + (V 0 8))
          · refine mv_callPW (st2 := [mv_I 1]) rfl (Or.inr rfl) rfl rfl rfl (sp_min_t ha39) (by first | decide | omega) ?_
            refine mv_goW 1 (pc' := if 1 = 0 then 20 else 36) (ls' := [mv_R 100, mv_I a, mv_I b, mv_U, mv_U, mv_U, mv_U]) (st' := []) (M1 := M) rfl ?_
            refine mv_ffW (by first | decide | omega) ?_
            refine mv_goW 6 (pc' := 46) (ls' := [mv_R 100, mv_I a, mv_I b, mv_I 1, mv_U, mv_U, mv_U]) (st' := [mv_I 40, mv_I 0, mv_I a]) (M1 := M) rfl ?_
            have ha40 : ¬ ((0 : Int) ≤ a ∧ a ≤ (40 : Int)) := by omega
            refine mv_callPW (st2 := [mv_I 0]) rfl (Or.inr rfl) rfl rfl rfl (sp_min_f ha40) (by first | decide | omega) ?_
            refine mv_goW 1 (pc' := if 0 = 0 then 56 else 52) (ls' := [mv_R 100, mv_I a, mv_I b, mv_I 1, mv_U, mv_U, mv_U]) (st' := []) (M1 := M) rfl ?_
            refine mv_ttW (by first | decide | omega) ?_
            refine mv_goW 1 (pc' := 58) (ls' := [mv_R 100, mv_I a, mv_I b, mv_I 1, mv_U, mv_U, mv_U]) (st' := [mv_I (-2)]) (M1 := M) rfl ?_
            exact mv_retW (fun n => rfl) ⟨congrArg mv_I (by first | with_reducible rfl | omega), hI⟩
          · refine mv_callPW (st2 := [mv_I 0]) rfl (Or.inr rfl) rfl rfl rfl (sp_min_f ha39) (by first | decide | omega) ?_
            refine mv_goW 1 (pc' := if 0 = 0 then 20 else 36) (ls' := [mv_R 100, mv_I a, mv_I b, mv_U, mv_U, mv_U, mv_U]) (st' := []) (M1 := M) rfl ?_
            refine mv_ttW (by first | decide | omega) ?_
            refine mv_goW 5 (pc' := 29) (ls' := [mv_R 100, mv_I a, mv_I b, mv_U, mv_U, mv_U, mv_U]) (st' := [mv_I (M 100 1), mv_I 19, mv_I 20, mv_I b]) (M1 := M) rfl ?_
            have hr35 := sp_ok_s9 ho
            rw [show M 100 1 = V 0 9 from by exact sp_m_s9 hm]
            refine mv_goW 1 (pc' := 30) (ls' := [mv_R 100, mv_I a, mv_I b, mv_U, mv_U, mv_U, mv_U]) (st' := [mv_I (mv_w (19 + (V 0 9))), mv_I 20, mv_I b]) (M1 := M) rfl ?_
            rw [show mv_w (19 + (V 0 9)) = 19 + (V 0 9) from mv_w_id (by omega) (by omega)]
            by_cases ha41 : (20 : Int) ≤ b ∧ b ≤ (19 + (V 0 9))
            · refine mv_callPW (st2 := [mv_I 1]) rfl (Or.inr rfl) rfl rfl rfl (sp_min_t ha41) (by first | decide | omega) ?_
              refine mv_goW 1 (pc' := if 1 = 0 then 40 else 36) (ls' := [mv_R 100, mv_I a, mv_I b, mv_U, mv_U, mv_U, mv_U]) (st' := []) (M1 := M) rfl ?_
              refine mv_ffW (by first | decide | omega) ?_
              refine mv_goW 6 (pc' := 46) (ls' := [mv_R 100, mv_I a, mv_I b, mv_I 1, mv_U, mv_U, mv_U]) (st' := [mv_I 40, mv_I 0, mv_I a]) (M1 := M) rfl ?_
              have ha42 : ¬ ((0 : Int) ≤ a ∧ a ≤ (40 : Int)) := by omega
              refine mv_callPW (st2 := [mv_I 0]) rfl (Or.inr rfl) rfl rfl rfl (sp_min_f ha42) (by first | decide | omega) ?_
              refine mv_goW 1 (pc' := if 0 = 0 then 56 else 52) (ls' := [mv_R 100, mv_I a, mv_I b, mv_I 1, mv_U, mv_U, mv_U]) (st' := []) (M1 := M) rfl ?_
              refine mv_ttW (by first | decide | omega) ?_
              refine mv_goW 1 (pc' := 58) (ls' := [mv_R 100, mv_I a, mv_I b, mv_I 1, mv_U, mv_U, mv_U]) (st' := [mv_I (-2)]) (M1 := M) rfl ?_
              exact mv_retW (fun n => rfl) ⟨congrArg mv_I (by first | with_reducible rfl | omega), hI⟩
            · refine mv_callPW (st2 := [mv_I 0]) rfl (Or.inr rfl) rfl rfl rfl (sp_min_f ha41) (by first | decide | omega) ?_
              refine mv_goW 1 (pc' := if 0 = 0 then 40 else 36) (ls' := [mv_R 100, mv_I a, mv_I b, mv_U, mv_U, mv_U, mv_U]) (st' := []) (M1 := M) rfl ?_
              refine mv_ttW (by first | decide | omega) ?_
              refine mv_goW 5 (pc' := 46) (ls' := [mv_R 100, mv_I a, mv_I b, mv_I 0, mv_U, mv_U, mv_U]) (st' := [mv_I 40, mv_I 0, mv_I a]) (M1 := M) rfl ?_
              have ha43 : ¬ ((0 : Int) ≤ a ∧ a ≤ (40 : Int)) := by omega
              refine mv_callPW (st2 := [mv_I 0]) rfl (Or.inr rfl) rfl rfl rfl (sp_min_f ha43) (by first | decide | omega) ?_
              refine mv_goW 1 (pc' := if 0 = 0 then 56 else 52) (ls' := [mv_R 100, mv_I a, mv_I b, mv_I 0, mv_U, mv_U, mv_U]) (st' := []) (M1 := M) rfl ?_
              refine mv_ttW (by first | decide | omega) ?_
              refine mv_goW 1 (pc' := 58) (ls' := [mv_R 100, mv_I a, mv_I b, mv_I 0, mv_U, mv_U, mv_U]) (st' := [mv_I (-2)]) (M1 := M) rfl ?_
              exact mv_retW (fun n => rfl) ⟨congrArg mv_I (by first | with_reducible rfl | omega), hI⟩
      · refine mv_goW 3 (pc' := if 40 < a then 10 else 13) (ls' := [mv_R 0, mv_I a, mv_I b, mv_U]) (st' := []) (M1 := M) rfl ?_
        refine mv_spW (fun ha44 => ?_) (fun ha44 => ?_)
        · refine mv_goW 1 (pc' := 12) (ls' := [mv_R 0, mv_I a, mv_I b, mv_U]) (st' := [mv_I (-2)]) (M1 := M) rfl ?_
          refine mv_retW (fun n => rfl) ⟨_, rfl, ?_⟩
          refine mv_goW 2 (pc' := if b = 0 then 36 else 4) (ls' := [mv_R 100, mv_I a, mv_I b, mv_U, mv_U, mv_U, mv_U]) (st' := []) (M1 := M) rfl ?_
          refine mv_spW (fun ha45 => ?_) (fun ha45 => ?_)
          · refine mv_goW 6 (pc' := 46) (ls' := [mv_R 100, mv_I a, mv_I b, mv_I 1, mv_U, mv_U, mv_U]) (st' := [mv_I 40, mv_I 0, mv_I a]) (M1 := M) rfl ?_
            have ha46 : ¬ ((0 : Int) ≤ a ∧ a ≤ (40 : Int)) := by omega
            refine mv_callPW (st2 := [mv_I 0]) rfl (Or.inr rfl) rfl rfl rfl (sp_min_f ha46) (by first | decide | omega) ?_
            refine mv_goW 1 (pc' := if 0 = 0 then 56 else 52) (ls' := [mv_R 100, mv_I a, mv_I b, mv_I 1, mv_U, mv_U, mv_U]) (st' := []) (M1 := M) rfl ?_
            refine mv_ttW (by first | decide | omega) ?_
            refine mv_goW 1 (pc' := 58) (ls' := [mv_R 100, mv_I a, mv_I b, mv_I 1, mv_U, mv_U, mv_U]) (st' := [mv_I (-2)]) (M1 := M) rfl ?_
            exact mv_retW (fun n => rfl) ⟨congrArg mv_I (by first | with_reducible rfl | omega), hI⟩
          · refine mv_goW 5 (pc' := 13) (ls' := [mv_R 100, mv_I a, mv_I b, mv_U, mv_U, mv_U, mv_U]) (st' := [mv_I (M 100 0), mv_I 9, mv_I 10, mv_I b]) (M1 := M) rfl ?_
            have hr37 := sp_ok_s8 ho
            rw [show M 100 0 = V 0 8 from by exact sp_m_s8 hm]
            refine mv_goW 1 (pc' := 14) (ls' := [mv_R 100, mv_I a, mv_I b, mv_U, mv_U, mv_U, mv_U]) (st' := [mv_I (mv_w (9 + (V 0 8))), mv_I 10, mv_I b]) (M1 := M) rfl ?_
            rw [show mv_w (9 + (V 0 8)) = 9 + (V 0 8) from mv_w_id (by omega) (by omega)]
            by_cases ha47 : (10 : Int) ≤ b ∧ b ≤ (9 + (V 0 8))
            · refine mv_callPW (st2 := [mv_I 1]) rfl (Or.inr rfl) rfl rfl rfl (sp_min_t ha47) (by first | decide | omega) ?_
              refine mv_goW 1 (pc' := if 1 = 0 then 20 else 36) (ls' := [mv_R 100, mv_I a, mv_I b, mv_U, mv_U, mv_U, mv_U]) (st' := []) (M1 := M) rfl ?_
              refine mv_ffW (by first | decide | omega) ?_
              refine mv_goW 6 (pc' := 46) (ls' := [mv_R 100, mv_I a, mv_I b, mv_I 1, mv_U, mv_U, mv_U]) (st' := [mv_I 40, mv_I 0, mv_I a]) (M1 := M) rfl ?_
              have ha48 : ¬ ((0 : Int) ≤ a ∧ a ≤ (40 : Int)) := by omega
              refine mv_callPW (st2 := [mv_I 0]) rfl (Or.inr rfl) rfl rfl rfl (sp_min_f ha48) (by first | decide | omega) ?_
              refine mv_goW 1 (pc' := if 0 = 0 then 56 else 52) (ls' := [mv_R 100, mv_I a, mv_I b, mv_I 1, mv_U, mv_U, mv_U]) (st' := []) (M1 := M) rfl ?_
              refine mv_ttW (by first | decide | omega) ?_
              refine mv_goW 1 (pc' := 58) (ls' := [mv_R 100, mv_I a, mv_I b, mv_I 1, mv_U, mv_U, mv_U]) (st' := [mv_I (-2)]) (M1 := M) rfl ?_
              exact mv_retW (fun n => rfl) ⟨congrArg mv_I (by first | with_reducible rfl | omega), hI⟩
            · refine mv_callPW (st2 := [mv_I 0]) rfl (Or.inr rfl) rfl rfl rfl (sp_min_f ha47) (by first | decide | omega) ?_
              refine mv_goW 1 (pc' := if 0 = 0 then 20 else 36) (ls' := [mv_R 100, mv_I a, mv_I b, mv_U, mv_U, mv_U, mv_U]) (st' := []) (M1 := M) rfl ?_
              refine mv_ttW (by first | decide | omega) ?_
              refine mv_goW 5 (pc' := 29) (ls' := [mv_R 100, mv_I a, mv_I b, mv_U, mv_U, mv_U, mv_U]) (st' := [mv_I (M 100 1), mv_I 19, mv_I 20, mv_I b]) (M1 := M) rfl ?_
              have hr39 := sp_ok_s9 ho
              rw [show M 100 1 = V 0 9 from by exact sp_m_s9 hm]
              refine mv_goW 1 (pc' := 30) (ls' := [mv_R 100, mv_I a, mv_I b, mv_U, mv_U, mv_U, mv_U]) (st' := [mv_I (mv_w (19 + (V 0 9))), mv_I 20, mv_I b]) (M1 := M) rfl ?_
              rw [show mv_w (19 + (V 0 9)) = 19 + (V 0 9) from mv_w_id (by omega) (by omega)]
              by_cases ha49 : (20 : Int) ≤ b ∧ b ≤ (19 + (V 0 9))
              · refine mv_callPW (st2 := [mv_I 1]) rfl (Or.inr rfl) rfl rfl rfl (sp_min_t ha49) (by first | decide | omega) ?_
                refine mv_goW 1 (pc' := if 1 = 0 then 40 else 36) (ls' := [mv_R 100, mv_I a, mv_I b, mv_U, mv_U, mv_U, mv_U]) (st' := []) (M1 := M) rfl ?_
                refine mv_ffW (by first | decide | omega) ?_
                refine mv_goW 6 (pc' := 46) (ls' := [mv_R 100, mv_I a, mv_I b, mv_I 1, mv_U, mv_U, mv_U]) (st' := [mv_I 40, mv_I 0, mv_I a]) (M1 := M) rfl ?_
                have ha50 : ¬ ((0 : Int) ≤ a ∧ a ≤ (40 : Int)) := by omega
                refine mv_callPW (st2 := [mv_I 0]) rfl (Or.inr rfl) rfl rfl rfl (sp_min_f ha50) (by first | decide | omega) ?_
                refine mv_goW 1 (pc' := if 0 = 0 then 56 else 52) (ls' := [mv_R 100, mv_I a, mv_I b, mv_I 1, mv_U, mv_U, mv_U]) (st' := []) (M1 := M) rfl ?_
                refine mv_ttW (by first | decide | omega) ?_
                refine mv_goW 1 (pc' := 58) (ls' := [mv_R 100, mv_I a, mv_I b, mv_I 1, mv_U, mv_U, mv_U]) (st' := [mv_I (-2)]) (M1 := M) rfl ?_
                exact mv_retW (fun n => rfl) ⟨congrArg mv_I (by first | with_reducible rfl | omega), hI⟩
              · refine mv_callPW (st2 := [mv_I 0]) rfl (Or.inr rfl) rfl rfl rfl (sp_min_f ha49) (by first | decide | omega) ?_
                refine mv_goW 1 (pc' := if 0 = 0 then 40 else 36) (ls' := [mv_R 100, mv_I a, mv_I b, mv_U, mv_U, mv_U, mv_U]) (st' := []) (M1 := M) rfl ?_
                refine mv_ttW (by first | decide | omega) ?_
                refine mv_goW 5 (pc' := 46) (ls' := [mv_R 100, mv_I a, mv_I b, mv_I 0, mv_U, mv_U, mv_U]) (st' := [mv_I 40, mv_I 0, mv_I a]) (M1 := M) rfl ?_
                have ha51 : ¬ ((0 : Int) ≤ a ∧ a ≤ (40 : Int)) := by omega
                refine mv_callPW (st2 := [mv_I 0]) rfl (Or.inr rfl) rfl rfl rfl (sp_min_f ha51) (by first | decide | omega) ?_
                refine mv_goW 1 (pc' := if 0 = 0 then 56 else 52) (ls' := [mv_R 100, mv_I a, mv_I b, mv_I 0, mv_U, mv_U, mv_U]) (st' := []) (M1 := M) rfl ?_
                refine mv_ttW (by first | decide | omega) ?_
                refine mv_goW 1 (pc' := 58) (ls' := [mv_R 100, mv_I a, mv_I b, mv_I 0, mv_U, mv_U, mv_U]) (st' := [mv_I (-2)]) (M1 := M) rfl ?_
                exact mv_retW (fun n => rfl) ⟨congrArg mv_I (by first | with_reducible rfl | omega), hI⟩
        · refine mv_goW 2 (pc' := if b = 0 then 48 else 17) (ls' := [mv_R 0, mv_I a, mv_I b, mv_U]) (st' := []) (M1 := M) rfl ?_
          refine mv_ffW (by omega) ?_
          refine mv_goW 5 (pc' := 25) (ls' := [mv_R 0, mv_I a, mv_I b, mv_U]) (st' := [mv_I (mv_w (b - 10)), mv_R 30]) (M1 := M) rfl ?_
          rw [show mv_w (b - 10) = b - 10 from mv_w_id (by omega) (by omega)]
          have ha52 : ¬ (0 ≤ (b - 10) ∧ (b - 10) < V 0 8) := by omega
          refine mv_callPW (st2 := [mv_I 0]) rfl (Or.inl rfl) rfl rfl rfl (sp_cisChild_f_30 hc ho ha52) (by first | decide | omega) ?_
          refine mv_goW 1 (pc' := if 0 = 0 then 31 else 48) (ls' := [mv_R 0, mv_I a, mv_I b, mv_U]) (st' := []) (M1 := M) rfl ?_
          refine mv_ttW (by first | decide | omega) ?_
          refine mv_goW 5 (pc' := 39) (ls' := [mv_R 0, mv_I a, mv_I b, mv_U]) (st' := [mv_I (mv_w (b - 20)), mv_R 30]) (M1 := M) rfl ?_
          rw [show mv_w (b - 20) = b - 20 from mv_w_id (by omega) (by omega)]
          have ha53 : ¬ (0 ≤ (b - 20) ∧ (b - 20) < V 0 9) := by omega
          refine mv_callPW (st2 := [mv_I 0]) rfl (Or.inl rfl) rfl rfl rfl (sp_cisUncle_f_30 hc ho ha53) (by first | decide | omega) ?_
          refine mv_goW 1 (pc' := if 0 = 0 then 45 else 48) (ls' := [mv_R 0, mv_I a, mv_I b, mv_U]) (st' := []) (M1 := M) rfl ?_
          refine mv_ttW (by first | decide | omega) ?_
          refine mv_goW 1 (pc' := 47) (ls' := [mv_R 0, mv_I a, mv_I b, mv_U]) (st' := [mv_I (-2)]) (M1 := M) rfl ?_
          refine mv_retW (fun n => rfl) ⟨_, rfl, ?_⟩
          refine mv_goW 2 (pc' := if b = 0 then 36 else 4) (ls' := [mv_R 100, mv_I a, mv_I b, mv_U, mv_U, mv_U, mv_U]) (st' := []) (M1 := M) rfl ?_
          refine mv_ffW (by omega) ?_
          refine mv_goW 5 (pc' := 13) (ls' := [mv_R 100, mv_I a, mv_I b, mv_U, mv_U, mv_U, mv_U]) (st' := [mv_I (M 100 0), mv_I 9, mv_I 10, mv_I b]) (M1 := M) rfl ?_
          have hr41 := sp_ok_s8 ho
          rw [show M 100 0 = V 0 8 from by exact sp_m_s8 hm]
          refine mv_goW 1 (pc' := 14) (ls' := [mv_R 100, mv_I a, mv_I b, mv_U, mv_U, mv_U, mv_U]) (st' := [mv_I (mv_w (9 + (V 0 8))), mv_I 10, mv_I b]) (M1 := M) rfl ?_
          rw [show mv_w (9 + (V 0 8)) = 9 + (V 0 8) from mv_w_id (by omega) (by omega)]
          have ha54 : ¬ ((10 : Int) ≤ b ∧ b ≤ (9 + (V 0 8))) := by omega
          refine mv_callPW (st2 := [mv_I 0]) rfl (Or.inr rfl) rfl rfl rfl (sp_min_f ha54) (by first | decide | omega) ?_
          refine mv_goW 1 (pc' := if 0 = 0 then 20 else 36) (ls' := [mv_R 100, mv_I a, mv_I b, mv_U, mv_U, mv_U, mv_U]) (st' := []) (M1 := M) rfl ?_
          refine mv_ttW (by first | decide | omega) ?_
          refine mv_goW 5 (pc' := 29) (ls' := [mv_R 100, mv_I a, mv_I b, mv_U, mv_U, mv_U, mv_U]) (st' := [mv_I (M 100 1), mv_I 19, mv_I 20, mv_I b]) (M1 := M) rfl ?_
          have hr43 := sp_ok_s9 ho
          rw [show M 100 1 = V 0 9 from by exact sp_m_s9 hm]
          refine mv_goW 1 (pc' := 30) (ls' := [mv_R 100, mv_I a, mv_I b, mv_U, mv_U, mv_U, mv_U]) (st' := [mv_I (mv_w (19 + (V 0 9))), mv_I 20, mv_I b]) (M1 := M) rfl ?_
          rw [show mv_w (19 + (V 0 9)) = 19 + (V 0 9) from mv_w_id (by omega) (by omega)]
          have ha55 : ¬ ((20 : Int) ≤ b ∧ b ≤ (19 + (V 0 9))) := by omega
          refine mv_callPW (st2 := [mv_I 0]) rfl (Or.inr rfl) rfl rfl rfl (sp_min_f ha55) (by first | decide | omega) ?_
          refine mv_goW 1 (pc' := if 0 = 0 then 40 else 36) (ls' := [mv_R 100, mv_I a, mv_I b, mv_U, mv_U, mv_U, mv_U]) (st' := []) (M1 := M) rfl ?_
          refine mv_ttW (by first | decide | omega) ?_
          refine mv_goW 5 (pc' := 46) (ls' := [mv_R 100, mv_I a, mv_I b, mv_I 0, mv_U, mv_U, mv_U]) (st' := [mv_I 40, mv_I 0, mv_I a]) (M1 := M) rfl ?_
          have ha56 : (0 : Int) ≤ a ∧ a ≤ (40 : Int) := by omega
          refine mv_callPW (st2 := [mv_I 1]) rfl (Or.inr rfl) rfl rfl rfl (sp_min_t ha56) (by first | decide | omega) ?_
          refine mv_goW 1 (pc' := if 1 = 0 then 56 else 52) (ls' := [mv_R 100, mv_I a, mv_I b, mv_I 0, mv_U, mv_U, mv_U]) (st' := []) (M1 := M) rfl ?_
          refine mv_ffW (by first | decide | omega) ?_
          refine mv_goW 2 (pc' := if 0 = 0 then 56 else 59) (ls' := [mv_R 100, mv_I a, mv_I b, mv_I 0, mv_U, mv_U, mv_U]) (st' := []) (M1 := M) rfl ?_
          refine mv_ttW (by first | decide | omega) ?_
          refine mv_goW 1 (pc' := 58) (ls' := [mv_R 100, mv_I a, mv_I b, mv_I 0, mv_U, mv_U, mv_U]) (st' := [mv_I (-2)]) (M1 := M) rfl ?_
          exact mv_retW (fun n => rfl) ⟨congrArg mv_I (by first | with_reducible rfl | omega), hI⟩
