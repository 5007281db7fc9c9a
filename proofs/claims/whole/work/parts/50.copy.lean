/-! copy -/
theorem sp_cp_up {f : Nat → Int} {a b k : Nat} (h : b ≤ a) : mv_up (mv_cp f f a b k) (b + k) (mv_cp f f a b k (a + k)) = mv_cp f f a b (k + 1) := by
  funext x
  unfold mv_up mv_cp
  by_cases q : x = b + k
  · rw [if_pos q, if_neg (by omega), if_pos (by omega), q]; congr 1; omega
  · rw [if_neg q]
    by_cases q2 : b ≤ x ∧ x < b + k
    · rw [if_pos q2, if_pos (by omega)]
    · rw [if_neg q2, if_neg (by omega)]
theorem sp_cp_dn {f : Nat → Int} {a b k m : Nat} (h : a < b) : mv_up (mv_cp f f (a + (m + 1)) (b + (m + 1)) k) (b + m) (mv_cp f f (a + (m + 1)) (b + (m + 1)) k (a + m)) = mv_cp f f (a + m) (b + m) (k + 1) := by
  funext x
  unfold mv_up mv_cp
  by_cases q : x = b + m
  · rw [if_pos q, if_neg (by omega), if_pos (by omega), q]; congr 1; omega
  · rw [if_neg q]
    by_cases q2 : b + (m + 1) ≤ x ∧ x < b + (m + 1) + k
    · rw [if_pos q2, if_pos (by omega)]; congr 1; omega
    · rw [if_neg q2, if_neg (by omega)]
theorem sp_cp_0 {f : Nat → Int} {a b : Nat} : mv_cp f f a b 0 = f := by
  funext x
  unfold mv_cp
  rw [if_neg (by omega)]
theorem sp_mcpu {d a b n : Nat} {f : Nat → Int} {Q : mv_V → mv_M → Prop} {x1 x2 x3 x4 : mv_V} (ha : a + n ≤ 160) (hb : b + n ≤ 160) (hba : b ≤ a) : ∀ (r k : Nat) (M : mv_M) (l9 : mv_V), k + r = n → mv_isL x1 = false → mv_isL x2 = false → mv_isL x3 = false → mv_isL x4 = false → mv_isL l9 = false → M 119 = mv_cp f f a b k →
    (∀ M2 l9, mv_ag [119] M M2 → M2 119 = mv_cp f f a b n → mv_W d 189 201 [mv_R 100, x1, x2, x3, x4, mv_I (n : Int), mv_I (a : Int), mv_I (b : Int), mv_I (n : Int), l9] [] M2 Q) → mv_W d 189 147 [mv_R 100, x1, x2, x3, x4, mv_I (n : Int), mv_I (a : Int), mv_I (b : Int), mv_I (k : Int), l9] [] M Q := by
  intro r
  induction r with
  | zero =>
    intro k M l9 hk _ _ _ _ _ hf e
    have hk : k = n := by omega
    subst hk
    refine mv_goW 3 (pc' := if (k : Int) < (k : Int) then 154 else 201) (ls' := [mv_R 100, x1, x2, x3, x4, mv_I (k : Int), mv_I (a : Int), mv_I (b : Int), mv_I (k : Int), l9]) (st' := []) (M1 := M) rfl ?_
    refine mv_ffW (by omega) ?_
    exact e M _ mv_ag.rf hf
  | succ r ih =>
    intro k M l9 hk y1 y2 y3 y4 y9 hf e
    refine mv_goW 3 (pc' := if (k : Int) < (n : Int) then 154 else 201) (ls' := [mv_R 100, x1, x2, x3, x4, mv_I (n : Int), mv_I (a : Int), mv_I (b : Int), mv_I (k : Int), l9]) (st' := []) (M1 := M) rfl ?_
    refine mv_ttW (by omega) ?_
    refine mv_goW 3 (pc' := if (a : Int) < (b : Int) then 161 else 171) (ls' := [mv_R 100, x1, x2, x3, x4, mv_I (n : Int), mv_I (a : Int), mv_I (b : Int), mv_I (k : Int), l9]) (st' := []) (M1 := M) rfl ?_
    refine mv_ffW (by omega) ?_
    refine mv_goW 12 (pc' := 193) (ls' := [mv_R 100, x1, x2, x3, x4, mv_I (n : Int), mv_I (a : Int), mv_I (b : Int), mv_I (k : Int), mv_I (k : Int)]) (st' := [mv_I (mv_w ((a : Int) + (k : Int))), mv_R 119, mv_I (mv_w ((b : Int) + (k : Int))), mv_R 119]) (M1 := M) rfl ?_
    rw [show mv_w ((a : Int) + (k : Int)) = ((a + k : Nat) : Int) from by (rw [show mv_w ((a : Int) + (k : Int)) = (a : Int) + (k : Int) from mv_w_id (by omega) (by omega)]) <;> omega]
    refine mv_goW 1 (pc' := if 0 ≤ ((a + k : Nat) : Int) ∧ ((a + k : Nat) : Int) < 160 then 194 else mv_bad) (ls' := [mv_R 100, x1, x2, x3, x4, mv_I (n : Int), mv_I (a : Int), mv_I (b : Int), mv_I (k : Int), mv_I (k : Int)]) (st' := [mv_I (M 119 (a + k)), mv_I (mv_w ((b : Int) + (k : Int))), mv_R 119]) (M1 := M) rfl ?_
    refine mv_ttW (by omega) ?_
    rw [show mv_w ((b : Int) + (k : Int)) = ((b + k : Nat) : Int) from by (rw [show mv_w ((b : Int) + (k : Int)) = (b : Int) + (k : Int) from mv_w_id (by omega) (by omega)]) <;> omega]
    refine mv_goW 1 (pc' := if 0 ≤ ((b + k : Nat) : Int) ∧ ((b + k : Nat) : Int) < 160 then 195 else mv_bad) (ls' := [mv_R 100, x1, x2, x3, x4, mv_I (n : Int), mv_I (a : Int), mv_I (b : Int), mv_I (k : Int), mv_I (k : Int)]) (st' := []) (M1 := (mv_st M 119 (mv_up (M 119) (b + k) (M 119 (a + k))))) rfl ?_
    refine mv_ttW (by omega) ?_
    refine mv_goW 2 (pc' := 147) (ls' := [mv_R 100, x1, x2, x3, x4, mv_I (n : Int), mv_I (a : Int), mv_I (b : Int), mv_I (mv_w ((k : Int) + 1)), mv_I (k : Int)]) (st' := []) (M1 := (mv_st M 119 (mv_up (M 119) (b + k) (M 119 (a + k))))) rfl ?_
    rw [show mv_w ((k : Int) + 1) = ((k + 1 : Nat) : Int) from by (rw [show mv_w ((k : Int) + 1) = (k : Int) + 1 from mv_w_id (by omega) (by omega)]) <;> omega]
    refine ih (k + 1) _ _ (by omega) y1 y2 y3 y4 rfl ?_ (fun M2 l9 q1 q2 => e M2 l9 (mv_ag.tr (mv_ag.st mv_ag.rf (by decide)) q1) q2)
    show mv_up (M 119) (b + k) (M 119 (a + k)) = _
    rw [hf]
    exact sp_cp_up hba
theorem sp_mcpd {d a b n : Nat} {f : Nat → Int} {Q : mv_V → mv_M → Prop} {x1 x2 x3 x4 : mv_V} (ha : a + n ≤ 160) (hb : b + n ≤ 160) (hba : a < b) : ∀ (r k : Nat) (M : mv_M) (l9 : mv_V), k + r = n → mv_isL x1 = false → mv_isL x2 = false → mv_isL x3 = false → mv_isL x4 = false → mv_isL l9 = false → M 119 = mv_cp f f (a + r) (b + r) k →
    (∀ M2 l9, mv_ag [119] M M2 → M2 119 = mv_cp f f a b n → mv_W d 189 201 [mv_R 100, x1, x2, x3, x4, mv_I (n : Int), mv_I (a : Int), mv_I (b : Int), mv_I (n : Int), l9] [] M2 Q) → mv_W d 189 147 [mv_R 100, x1, x2, x3, x4, mv_I (n : Int), mv_I (a : Int), mv_I (b : Int), mv_I (k : Int), l9] [] M Q := by
  intro r
  induction r with
  | zero =>
    intro k M l9 hk _ _ _ _ _ hf e
    have hk : k = n := by omega
    subst hk
    refine mv_goW 3 (pc' := if (k : Int) < (k : Int) then 154 else 201) (ls' := [mv_R 100, x1, x2, x3, x4, mv_I (k : Int), mv_I (a : Int), mv_I (b : Int), mv_I (k : Int), l9]) (st' := []) (M1 := M) rfl ?_
    refine mv_ffW (by omega) ?_
    exact e M _ mv_ag.rf hf
  | succ r ih =>
    intro k M l9 hk y1 y2 y3 y4 y9 hf e
    refine mv_goW 3 (pc' := if (k : Int) < (n : Int) then 154 else 201) (ls' := [mv_R 100, x1, x2, x3, x4, mv_I (n : Int), mv_I (a : Int), mv_I (b : Int), mv_I (k : Int), l9]) (st' := []) (M1 := M) rfl ?_
    refine mv_ttW (by omega) ?_
    refine mv_goW 3 (pc' := if (a : Int) < (b : Int) then 161 else 171) (ls' := [mv_R 100, x1, x2, x3, x4, mv_I (n : Int), mv_I (a : Int), mv_I (b : Int), mv_I (k : Int), l9]) (st' := []) (M1 := M) rfl ?_
    refine mv_ttW (by omega) ?_
    refine mv_goW 6 (pc' := 173) (ls' := [mv_R 100, x1, x2, x3, x4, mv_I (n : Int), mv_I (a : Int), mv_I (b : Int), mv_I (k : Int), l9]) (st' := [mv_I (mv_w ((mv_w ((n : Int) - 1)) - (k : Int)))]) (M1 := M) rfl ?_
    rw [show mv_w ((mv_w ((n : Int) - 1)) - (k : Int)) = (r : Int) from by unfold mv_w; omega]
    refine mv_goW 11 (pc' := 193) (ls' := [mv_R 100, x1, x2, x3, x4, mv_I (n : Int), mv_I (a : Int), mv_I (b : Int), mv_I (k : Int), mv_I (r : Int)]) (st' := [mv_I (mv_w ((a : Int) + (r : Int))), mv_R 119, mv_I (mv_w ((b : Int) + (r : Int))), mv_R 119]) (M1 := M) rfl ?_
    rw [show mv_w ((a : Int) + (r : Int)) = ((a + r : Nat) : Int) from by (rw [show mv_w ((a : Int) + (r : Int)) = (a : Int) + (r : Int) from mv_w_id (by omega) (by omega)]) <;> omega]
    refine mv_goW 1 (pc' := if 0 ≤ ((a + r : Nat) : Int) ∧ ((a + r : Nat) : Int) < 160 then 194 else mv_bad) (ls' := [mv_R 100, x1, x2, x3, x4, mv_I (n : Int), mv_I (a : Int), mv_I (b : Int), mv_I (k : Int), mv_I (r : Int)]) (st' := [mv_I (M 119 (a + r)), mv_I (mv_w ((b : Int) + (r : Int))), mv_R 119]) (M1 := M) rfl ?_
    refine mv_ttW (by omega) ?_
    rw [show mv_w ((b : Int) + (r : Int)) = ((b + r : Nat) : Int) from by (rw [show mv_w ((b : Int) + (r : Int)) = (b : Int) + (r : Int) from mv_w_id (by omega) (by omega)]) <;> omega]
    refine mv_goW 1 (pc' := if 0 ≤ ((b + r : Nat) : Int) ∧ ((b + r : Nat) : Int) < 160 then 195 else mv_bad) (ls' := [mv_R 100, x1, x2, x3, x4, mv_I (n : Int), mv_I (a : Int), mv_I (b : Int), mv_I (k : Int), mv_I (r : Int)]) (st' := []) (M1 := (mv_st M 119 (mv_up (M 119) (b + r) (M 119 (a + r))))) rfl ?_
    refine mv_ttW (by omega) ?_
    refine mv_goW 2 (pc' := 147) (ls' := [mv_R 100, x1, x2, x3, x4, mv_I (n : Int), mv_I (a : Int), mv_I (b : Int), mv_I (mv_w ((k : Int) + 1)), mv_I (r : Int)]) (st' := []) (M1 := (mv_st M 119 (mv_up (M 119) (b + r) (M 119 (a + r))))) rfl ?_
    rw [show mv_w ((k : Int) + 1) = ((k + 1 : Nat) : Int) from by (rw [show mv_w ((k : Int) + 1) = (k : Int) + 1 from mv_w_id (by omega) (by omega)]) <;> omega]
    refine ih (k + 1) _ _ (by omega) y1 y2 y3 y4 rfl ?_ (fun M2 l9 q1 q2 => e M2 l9 (mv_ag.tr (mv_ag.st mv_ag.rf (by decide)) q1) q2)
    show mv_up (M 119) (b + r) (M 119 (a + r)) = _
    rw [hf]
    exact sp_cp_dn hba
theorem sp_cpy_end {S O : Nat} {V : mv_M} {P : Nat → Nat → List Int} {n : Int} {B : mv_M} {K : Int} {t : Nat} {M Mf : mv_M} {i j m : Nat} (hS : S < 4) (hO : O < 4) (h : sp_R V P n B K t M) (hi : i + m ≤ 40) (hj : j + m ≤ 40)
    (e1 : mv_ag [119] (mv_st M (72 + 2 * O) (mv_cp (M (72 + 2 * S)) (M (72 + 2 * O)) i j m)) Mf) (e2 : Mf 119 = mv_cp (M 119) (M 119) (40 * S + i) (40 * O + j) m) : sp_Inv Mf := by
  have h' := h
  obtain ⟨_, _, _, _, _, hs, _⟩ := h'
  have a1 : ∀ x, x ≠ 72 + 2 * O → x ≠ 119 → Mf x = M x := fun x q1 q2 => by rw [e1 x (by simpa using q2), mv_st_n _ _ q1]
  refine ⟨V, P, n, B, K, t, sp_R_sh hO h (fun x hx => a1 x (by omega) (by omega)) (fun s hs4 hn => ?_) ?_⟩
  · rw [a1 (71 + 2 * s) (by omega) (by omega), a1 (72 + 2 * s) (by omega) (by omega), a1 117 (by omega) (by omega), a1 118 (by omega) (by omega), e2]
    refine ⟨⟨rfl, rfl⟩, ⟨rfl, rfl⟩, fun x hx => ?_⟩
    unfold mv_cp
    rw [if_neg (by omega)]
  · obtain ⟨b1, b2, b3⟩ := hs O hO
    obtain ⟨_, _, c3⟩ := hs S hS
    rw [a1 (71 + 2 * O) (by omega) (by omega), a1 117 (by omega) (by omega), a1 118 (by omega) (by omega), e2, e1 (72 + 2 * O) (by simp only [List.mem_cons, List.not_mem_nil, or_false]; omega), mv_st_s]
    refine ⟨b1, b2, fun x hx => ?_⟩
    unfold mv_cp
    by_cases q : j ≤ x ∧ x < j + m
    · rw [if_pos q, if_pos (by omega), c3 _ (by omega)]; congr 1; omega
    · rw [if_neg q, if_neg (by omega)]; exact b3 x hx
def sp_cpg (so sz ro rz i j n : Int) : Prop := (so ≠ -1 ∧ ro ≠ -1 ∧ so = ro) ∧ (0 ≤ n ∧ n ≤ sz ∧ 0 ≤ i ∧ i ≤ sz - n) ∧ (n ≤ rz ∧ 0 ≤ j ∧ j ≤ rz - n)
def sp_cpr (so ro : Int) : Int := if so = -1 ∨ ro = -1 then -11 else if so = ro then -12 else -13
theorem sp_ccpg_0_0 {M : mv_M} {i j n : Nat} {so sz ro rz : Int} (hs1 : M 71 1 = so) (hz1 : M 71 2 = sz) (ht1 : M 71 1 = ro) (hr1 : M 71 2 = rz) (z1 : 0 ≤ sz ∧ sz ≤ 40) (z2 : 0 ≤ rz ∧ rz ≤ 40) (hes : (0 : Nat) = 0 → so = ro ∧ sz = rz)
    (hg : sp_cpg so sz ro rz i j n) : mv_Ru 20 94 0 [mv_R 0, mv_I 0, mv_I (i : Int), mv_I 0, mv_I (j : Int), mv_I (n : Int), mv_U, mv_U] [] M (mv_I (n : Int)) (fun M1 => M1 = mv_st M 72 (mv_cp (M 72) (M 72) i j n)) := by
  obtain ⟨⟨g1, g2, g3⟩, g4, g5⟩ := hg
  obtain ⟨hes1, hes2⟩ := hes rfl
  refine mv_go' 2 (pc' := 2) (ls' := [mv_R 0, mv_I 0, mv_I (i : Int), mv_I 0, mv_I (j : Int), mv_I (n : Int), mv_U, mv_U]) (st' := [mv_I 0, mv_R 0]) (M1 := M) rfl ?_
  refine mv_callP (st2 := [mv_R 71]) rfl (Or.inl rfl) rfl rfl rfl (sp_sheetAt_0) (by first | decide | omega) ?_
  refine mv_go' 3 (pc' := 9) (ls' := [mv_R 0, mv_I 0, mv_I (i : Int), mv_I 0, mv_I (j : Int), mv_I (n : Int), mv_R 71, mv_U]) (st' := [mv_I 0, mv_R 0]) (M1 := M) rfl ?_
  refine mv_callP (st2 := [mv_R 71]) rfl (Or.inl rfl) rfl rfl rfl (sp_sheetAt_0) (by first | decide | omega) ?_
  refine mv_go' 6 (pc' := 29) (ls' := [mv_R 0, mv_I 0, mv_I (i : Int), mv_I 0, mv_I (j : Int), mv_I (n : Int), mv_R 71, mv_R 71]) (st' := [mv_R 71]) (M1 := M) rfl ?_
  have ha1 : ¬ (ro = -1) := by omega
  refine mv_callP (st2 := [mv_I 0]) rfl (Or.inl rfl) rfl rfl rfl (sp_isMiss_0_f (fun q => ha1 (ht1.symm.trans q))) (by first | decide | omega) ?_
  refine mv_go' 1 (pc' := if 0 = 0 then 35 else 43) (ls' := [mv_R 0, mv_I 0, mv_I (i : Int), mv_I 0, mv_I (j : Int), mv_I (n : Int), mv_R 71, mv_R 71]) (st' := []) (M1 := M) rfl ?_
  refine mv_tt' (by first | decide | omega) ?_
  refine mv_go' 1 (pc' := 37) (ls' := [mv_R 0, mv_I 0, mv_I (i : Int), mv_I 0, mv_I (j : Int), mv_I (n : Int), mv_R 71, mv_R 71]) (st' := [mv_R 71]) (M1 := M) rfl ?_
  have ha2 : ¬ (ro = -1) := by omega
  refine mv_callP (st2 := [mv_I 0]) rfl (Or.inl rfl) rfl rfl rfl (sp_isMiss_0_f (fun q => ha2 (ht1.symm.trans q))) (by first | decide | omega) ?_
  refine mv_go' 1 (pc' := if 0 = 0 then 46 else 43) (ls' := [mv_R 0, mv_I 0, mv_I (i : Int), mv_I 0, mv_I (j : Int), mv_I (n : Int), mv_R 71, mv_R 71]) (st' := []) (M1 := M) rfl ?_
  refine mv_tt' (by first | decide | omega) ?_
  refine mv_go' 2 (pc' := 51) (ls' := [mv_R 0, mv_I 0, mv_I (i : Int), mv_I 0, mv_I (j : Int), mv_I (n : Int), mv_R 71, mv_R 71]) (st' := [mv_I (M 71 1)]) (M1 := M) rfl ?_
  rw [show M 71 1 = ro from by exact ht1]
  refine mv_go' 2 (pc' := 56) (ls' := [mv_R 0, mv_I 0, mv_I (i : Int), mv_I 0, mv_I (j : Int), mv_I (n : Int), mv_R 71, mv_R 71]) (st' := [mv_I (M 71 1), mv_I ro]) (M1 := M) rfl ?_
  rw [show M 71 1 = ro from by exact ht1]
  refine mv_go' 1 (pc' := if ro = ro then 62 else 59) (ls' := [mv_R 0, mv_I 0, mv_I (i : Int), mv_I 0, mv_I (j : Int), mv_I (n : Int), mv_R 71, mv_R 71]) (st' := []) (M1 := M) rfl ?_
  refine mv_tt' (by first | decide | omega) ?_
  refine mv_go' 3 (pc' := 67) (ls' := [mv_R 0, mv_I 0, mv_I (i : Int), mv_I 0, mv_I (j : Int), mv_I (n : Int), mv_R 71, mv_R 71]) (st' := [mv_I (n : Int), mv_I (i : Int), mv_R 71]) (M1 := M) rfl ?_
  have ha3 : 0 ≤ (n : Int) ∧ (n : Int) ≤ rz ∧ 0 ≤ (i : Int) ∧ (i : Int) ≤ rz - (n : Int) := by omega
  refine mv_callP (st2 := [mv_I 1]) rfl (Or.inl rfl) rfl rfl rfl (sp_hasRun_0_t hr1 (by omega) (by omega) ha3) (by first | decide | omega) ?_
  refine mv_go' 1 (pc' := if 1 = 0 then 85 else 73) (ls' := [mv_R 0, mv_I 0, mv_I (i : Int), mv_I 0, mv_I (j : Int), mv_I (n : Int), mv_R 71, mv_R 71]) (st' := []) (M1 := M) rfl ?_
  refine mv_ff' (by first | decide | omega) ?_
  refine mv_go' 3 (pc' := 79) (ls' := [mv_R 0, mv_I 0, mv_I (i : Int), mv_I 0, mv_I (j : Int), mv_I (n : Int), mv_R 71, mv_R 71]) (st' := [mv_I (n : Int), mv_I (j : Int), mv_R 71]) (M1 := M) rfl ?_
  have ha4 : 0 ≤ (n : Int) ∧ (n : Int) ≤ rz ∧ 0 ≤ (j : Int) ∧ (j : Int) ≤ rz - (n : Int) := by omega
  refine mv_callP (st2 := [mv_I 1]) rfl (Or.inl rfl) rfl rfl rfl (sp_hasRun_0_t hr1 (by omega) (by omega) ha4) (by first | decide | omega) ?_
  refine mv_go' 1 (pc' := if 1 = 0 then 85 else 88) (ls' := [mv_R 0, mv_I 0, mv_I (i : Int), mv_I 0, mv_I (j : Int), mv_I (n : Int), mv_R 71, mv_R 71]) (st' := []) (M1 := M) rfl ?_
  refine mv_ff' (by first | decide | omega) ?_
  refine mv_go' 8 (pc' := if 0 ≤ (i : Int) ∧ 0 ≤ (j : Int) ∧ 0 ≤ (n : Int) ∧ (i : Int) + (n : Int) ≤ 40 ∧ (j : Int) + (n : Int) ≤ 40 then 106 else mv_bad) (ls' := [mv_R 0, mv_I 0, mv_I (i : Int), mv_I 0, mv_I (j : Int), mv_I (n : Int), mv_R 71, mv_R 71]) (st' := []) (M1 := (mv_st M 72 ((mv_cp (M 72) (M 72) i j n)))) rfl ?_
  refine mv_tt' (by omega) ?_
  refine mv_go' 1 (pc' := 108) (ls' := [mv_R 0, mv_I 0, mv_I (i : Int), mv_I 0, mv_I (j : Int), mv_I (n : Int), mv_R 71, mv_R 71]) (st' := [mv_I (n : Int)]) (M1 := (mv_st M 72 ((mv_cp (M 72) (M 72) i j n)))) rfl ?_
  exact mv_Ru.val (mv_ret (fun n => rfl) rfl) (congrArg mv_I (by first | with_reducible rfl | (unfold sp_cpr; repeat (first | omega | split))))
theorem sp_ccpb_0_0 {M : mv_M} {i j n : Int} {so sz ro rz : Int} (hs1 : M 71 1 = so) (hz1 : M 71 2 = sz) (ht1 : M 71 1 = ro) (hr1 : M 71 2 = rz) (z1 : 0 ≤ sz ∧ sz ≤ 40) (z2 : 0 ≤ rz ∧ rz ≤ 40) (hes : (0 : Nat) = 0 → so = ro ∧ sz = rz)
    (hg : ¬ sp_cpg so sz ro rz i j n) : mv_Ru 20 94 0 [mv_R 0, mv_I 0, mv_I i, mv_I 0, mv_I j, mv_I n, mv_U, mv_U] [] M (mv_I (sp_cpr so ro)) (fun M1 => M1 = M) := by
  obtain ⟨hes1, hes2⟩ := hes rfl
  have hg : ¬ ((so ≠ -1 ∧ ro ≠ -1 ∧ so = ro) ∧ (0 ≤ n ∧ n ≤ sz ∧ 0 ≤ i ∧ i ≤ sz - n) ∧ (n ≤ rz ∧ 0 ≤ j ∧ j ≤ rz - n)) := hg
  refine mv_go' 2 (pc' := 2) (ls' := [mv_R 0, mv_I 0, mv_I i, mv_I 0, mv_I j, mv_I n, mv_U, mv_U]) (st' := [mv_I 0, mv_R 0]) (M1 := M) rfl ?_
  refine mv_callP (st2 := [mv_R 71]) rfl (Or.inl rfl) rfl rfl rfl (sp_sheetAt_0) (by first | decide | omega) ?_
  refine mv_go' 3 (pc' := 9) (ls' := [mv_R 0, mv_I 0, mv_I i, mv_I 0, mv_I j, mv_I n, mv_R 71, mv_U]) (st' := [mv_I 0, mv_R 0]) (M1 := M) rfl ?_
  refine mv_callP (st2 := [mv_R 71]) rfl (Or.inl rfl) rfl rfl rfl (sp_sheetAt_0) (by first | decide | omega) ?_
  refine mv_go' 6 (pc' := 29) (ls' := [mv_R 0, mv_I 0, mv_I i, mv_I 0, mv_I j, mv_I n, mv_R 71, mv_R 71]) (st' := [mv_R 71]) (M1 := M) rfl ?_
  by_cases ha5 : ro = -1
  · refine mv_callP (st2 := [mv_I 1]) rfl (Or.inl rfl) rfl rfl rfl (sp_isMiss_0_t (ht1.trans ha5)) (by first | decide | omega) ?_
    refine mv_go' 1 (pc' := if 1 = 0 then 35 else 43) (ls' := [mv_R 0, mv_I 0, mv_I i, mv_I 0, mv_I j, mv_I n, mv_R 71, mv_R 71]) (st' := []) (M1 := M) rfl ?_
    refine mv_ff' (by first | decide | omega) ?_
    refine mv_go' 1 (pc' := 45) (ls' := [mv_R 0, mv_I 0, mv_I i, mv_I 0, mv_I j, mv_I n, mv_R 71, mv_R 71]) (st' := [mv_I (-11)]) (M1 := M) rfl ?_
    exact mv_Ru.val (mv_ret (fun n => rfl) rfl) (congrArg mv_I (by first | with_reducible rfl | (unfold sp_cpr; repeat (first | omega | split))))
  · refine mv_callP (st2 := [mv_I 0]) rfl (Or.inl rfl) rfl rfl rfl (sp_isMiss_0_f (fun q => ha5 (ht1.symm.trans q))) (by first | decide | omega) ?_
    refine mv_go' 1 (pc' := if 0 = 0 then 35 else 43) (ls' := [mv_R 0, mv_I 0, mv_I i, mv_I 0, mv_I j, mv_I n, mv_R 71, mv_R 71]) (st' := []) (M1 := M) rfl ?_
    refine mv_tt' (by first | decide | omega) ?_
    refine mv_go' 1 (pc' := 37) (ls' := [mv_R 0, mv_I 0, mv_I i, mv_I 0, mv_I j, mv_I n, mv_R 71, mv_R 71]) (st' := [mv_R 71]) (M1 := M) rfl ?_
    have ha6 : ¬ (ro = -1) := by omega
    refine mv_callP (st2 := [mv_I 0]) rfl (Or.inl rfl) rfl rfl rfl (sp_isMiss_0_f (fun q => ha6 (ht1.symm.trans q))) (by first | decide | omega) ?_
    refine mv_go' 1 (pc' := if 0 = 0 then 46 else 43) (ls' := [mv_R 0, mv_I 0, mv_I i, mv_I 0, mv_I j, mv_I n, mv_R 71, mv_R 71]) (st' := []) (M1 := M) rfl ?_
    refine mv_tt' (by first | decide | omega) ?_
    refine mv_go' 2 (pc' := 51) (ls' := [mv_R 0, mv_I 0, mv_I i, mv_I 0, mv_I j, mv_I n, mv_R 71, mv_R 71]) (st' := [mv_I (M 71 1)]) (M1 := M) rfl ?_
    rw [show M 71 1 = ro from by exact ht1]
    refine mv_go' 2 (pc' := 56) (ls' := [mv_R 0, mv_I 0, mv_I i, mv_I 0, mv_I j, mv_I n, mv_R 71, mv_R 71]) (st' := [mv_I (M 71 1), mv_I ro]) (M1 := M) rfl ?_
    rw [show M 71 1 = ro from by exact ht1]
    refine mv_go' 1 (pc' := if ro = ro then 62 else 59) (ls' := [mv_R 0, mv_I 0, mv_I i, mv_I 0, mv_I j, mv_I n, mv_R 71, mv_R 71]) (st' := []) (M1 := M) rfl ?_
    refine mv_tt' (by first | decide | omega) ?_
    refine mv_go' 3 (pc' := 67) (ls' := [mv_R 0, mv_I 0, mv_I i, mv_I 0, mv_I j, mv_I n, mv_R 71, mv_R 71]) (st' := [mv_I n, mv_I i, mv_R 71]) (M1 := M) rfl ?_
    by_cases ha7 : 0 ≤ n ∧ n ≤ rz ∧ 0 ≤ i ∧ i ≤ rz - n
    · refine mv_callP (st2 := [mv_I 1]) rfl (Or.inl rfl) rfl rfl rfl (sp_hasRun_0_t hr1 (by omega) (by omega) ha7) (by first | decide | omega) ?_
      refine mv_go' 1 (pc' := if 1 = 0 then 85 else 73) (ls' := [mv_R 0, mv_I 0, mv_I i, mv_I 0, mv_I j, mv_I n, mv_R 71, mv_R 71]) (st' := []) (M1 := M) rfl ?_
      refine mv_ff' (by first | decide | omega) ?_
      refine mv_go' 3 (pc' := 79) (ls' := [mv_R 0, mv_I 0, mv_I i, mv_I 0, mv_I j, mv_I n, mv_R 71, mv_R 71]) (st' := [mv_I n, mv_I j, mv_R 71]) (M1 := M) rfl ?_
      have ha8 : ¬ (0 ≤ n ∧ n ≤ rz ∧ 0 ≤ j ∧ j ≤ rz - n) := by omega
      refine mv_callP (st2 := [mv_I 0]) rfl (Or.inl rfl) rfl rfl rfl (sp_hasRun_0_f hr1 (by omega) (by omega) ha8) (by first | decide | omega) ?_
      refine mv_go' 1 (pc' := if 0 = 0 then 85 else 88) (ls' := [mv_R 0, mv_I 0, mv_I i, mv_I 0, mv_I j, mv_I n, mv_R 71, mv_R 71]) (st' := []) (M1 := M) rfl ?_
      refine mv_tt' (by first | decide | omega) ?_
      refine mv_go' 1 (pc' := 87) (ls' := [mv_R 0, mv_I 0, mv_I i, mv_I 0, mv_I j, mv_I n, mv_R 71, mv_R 71]) (st' := [mv_I (-12)]) (M1 := M) rfl ?_
      exact mv_Ru.val (mv_ret (fun n => rfl) rfl) (congrArg mv_I (by first | with_reducible rfl | (unfold sp_cpr; repeat (first | omega | split))))
    · refine mv_callP (st2 := [mv_I 0]) rfl (Or.inl rfl) rfl rfl rfl (sp_hasRun_0_f hr1 (by omega) (by omega) ha7) (by first | decide | omega) ?_
      refine mv_go' 1 (pc' := if 0 = 0 then 85 else 73) (ls' := [mv_R 0, mv_I 0, mv_I i, mv_I 0, mv_I j, mv_I n, mv_R 71, mv_R 71]) (st' := []) (M1 := M) rfl ?_
      refine mv_tt' (by first | decide | omega) ?_
      refine mv_go' 1 (pc' := 87) (ls' := [mv_R 0, mv_I 0, mv_I i, mv_I 0, mv_I j, mv_I n, mv_R 71, mv_R 71]) (st' := [mv_I (-12)]) (M1 := M) rfl ?_
      exact mv_Ru.val (mv_ret (fun n => rfl) rfl) (congrArg mv_I (by first | with_reducible rfl | (unfold sp_cpr; repeat (first | omega | split))))
theorem sp_ccpg_0_1 {M : mv_M} {i j n : Nat} {so sz ro rz : Int} (hs1 : M 71 1 = so) (hz1 : M 71 2 = sz) (ht1 : M 73 1 = ro) (hr1 : M 73 2 = rz) (z1 : 0 ≤ sz ∧ sz ≤ 40) (z2 : 0 ≤ rz ∧ rz ≤ 40) (hes : (0 : Nat) = 1 → so = ro ∧ sz = rz)
    (hg : sp_cpg so sz ro rz i j n) : mv_Ru 20 94 0 [mv_R 0, mv_I 0, mv_I (i : Int), mv_I 1, mv_I (j : Int), mv_I (n : Int), mv_U, mv_U] [] M (mv_I (n : Int)) (fun M1 => M1 = mv_st M 74 (mv_cp (M 72) (M 74) i j n)) := by
  obtain ⟨⟨g1, g2, g3⟩, g4, g5⟩ := hg
  skip
  refine mv_go' 2 (pc' := 2) (ls' := [mv_R 0, mv_I 0, mv_I (i : Int), mv_I 1, mv_I (j : Int), mv_I (n : Int), mv_U, mv_U]) (st' := [mv_I 0, mv_R 0]) (M1 := M) rfl ?_
  refine mv_callP (st2 := [mv_R 71]) rfl (Or.inl rfl) rfl rfl rfl (sp_sheetAt_0) (by first | decide | omega) ?_
  refine mv_go' 3 (pc' := 9) (ls' := [mv_R 0, mv_I 0, mv_I (i : Int), mv_I 1, mv_I (j : Int), mv_I (n : Int), mv_R 71, mv_U]) (st' := [mv_I 1, mv_R 0]) (M1 := M) rfl ?_
  refine mv_callP (st2 := [mv_R 73]) rfl (Or.inl rfl) rfl rfl rfl (sp_sheetAt_1) (by first | decide | omega) ?_
  refine mv_go' 6 (pc' := 29) (ls' := [mv_R 0, mv_I 0, mv_I (i : Int), mv_I 1, mv_I (j : Int), mv_I (n : Int), mv_R 71, mv_R 73]) (st' := [mv_R 71]) (M1 := M) rfl ?_
  have ha9 : ¬ (so = -1) := by omega
  refine mv_callP (st2 := [mv_I 0]) rfl (Or.inl rfl) rfl rfl rfl (sp_isMiss_0_f (fun q => ha9 (hs1.symm.trans q))) (by first | decide | omega) ?_
  refine mv_go' 1 (pc' := if 0 = 0 then 35 else 43) (ls' := [mv_R 0, mv_I 0, mv_I (i : Int), mv_I 1, mv_I (j : Int), mv_I (n : Int), mv_R 71, mv_R 73]) (st' := []) (M1 := M) rfl ?_
  refine mv_tt' (by first | decide | omega) ?_
  refine mv_go' 1 (pc' := 37) (ls' := [mv_R 0, mv_I 0, mv_I (i : Int), mv_I 1, mv_I (j : Int), mv_I (n : Int), mv_R 71, mv_R 73]) (st' := [mv_R 73]) (M1 := M) rfl ?_
  have ha10 : ¬ (ro = -1) := by omega
  refine mv_callP (st2 := [mv_I 0]) rfl (Or.inl rfl) rfl rfl rfl (sp_isMiss_1_f (fun q => ha10 (ht1.symm.trans q))) (by first | decide | omega) ?_
  refine mv_go' 1 (pc' := if 0 = 0 then 46 else 43) (ls' := [mv_R 0, mv_I 0, mv_I (i : Int), mv_I 1, mv_I (j : Int), mv_I (n : Int), mv_R 71, mv_R 73]) (st' := []) (M1 := M) rfl ?_
  refine mv_tt' (by first | decide | omega) ?_
  refine mv_go' 2 (pc' := 51) (ls' := [mv_R 0, mv_I 0, mv_I (i : Int), mv_I 1, mv_I (j : Int), mv_I (n : Int), mv_R 71, mv_R 73]) (st' := [mv_I (M 71 1)]) (M1 := M) rfl ?_
  rw [show M 71 1 = so from by exact hs1]
  refine mv_go' 2 (pc' := 56) (ls' := [mv_R 0, mv_I 0, mv_I (i : Int), mv_I 1, mv_I (j : Int), mv_I (n : Int), mv_R 71, mv_R 73]) (st' := [mv_I (M 73 1), mv_I so]) (M1 := M) rfl ?_
  rw [show M 73 1 = ro from by exact ht1]
  refine mv_go' 1 (pc' := if so = ro then 62 else 59) (ls' := [mv_R 0, mv_I 0, mv_I (i : Int), mv_I 1, mv_I (j : Int), mv_I (n : Int), mv_R 71, mv_R 73]) (st' := []) (M1 := M) rfl ?_
  refine mv_tt' (by omega) ?_
  refine mv_go' 3 (pc' := 67) (ls' := [mv_R 0, mv_I 0, mv_I (i : Int), mv_I 1, mv_I (j : Int), mv_I (n : Int), mv_R 71, mv_R 73]) (st' := [mv_I (n : Int), mv_I (i : Int), mv_R 71]) (M1 := M) rfl ?_
  have ha11 : 0 ≤ (n : Int) ∧ (n : Int) ≤ sz ∧ 0 ≤ (i : Int) ∧ (i : Int) ≤ sz - (n : Int) := by omega
  refine mv_callP (st2 := [mv_I 1]) rfl (Or.inl rfl) rfl rfl rfl (sp_hasRun_0_t hz1 (by omega) (by omega) ha11) (by first | decide | omega) ?_
  refine mv_go' 1 (pc' := if 1 = 0 then 85 else 73) (ls' := [mv_R 0, mv_I 0, mv_I (i : Int), mv_I 1, mv_I (j : Int), mv_I (n : Int), mv_R 71, mv_R 73]) (st' := []) (M1 := M) rfl ?_
  refine mv_ff' (by first | decide | omega) ?_
  refine mv_go' 3 (pc' := 79) (ls' := [mv_R 0, mv_I 0, mv_I (i : Int), mv_I 1, mv_I (j : Int), mv_I (n : Int), mv_R 71, mv_R 73]) (st' := [mv_I (n : Int), mv_I (j : Int), mv_R 73]) (M1 := M) rfl ?_
  have ha12 : 0 ≤ (n : Int) ∧ (n : Int) ≤ rz ∧ 0 ≤ (j : Int) ∧ (j : Int) ≤ rz - (n : Int) := by omega
  refine mv_callP (st2 := [mv_I 1]) rfl (Or.inl rfl) rfl rfl rfl (sp_hasRun_1_t hr1 (by omega) (by omega) ha12) (by first | decide | omega) ?_
  refine mv_go' 1 (pc' := if 1 = 0 then 85 else 88) (ls' := [mv_R 0, mv_I 0, mv_I (i : Int), mv_I 1, mv_I (j : Int), mv_I (n : Int), mv_R 71, mv_R 73]) (st' := []) (M1 := M) rfl ?_
  refine mv_ff' (by first | decide | omega) ?_
  refine mv_go' 8 (pc' := if 0 ≤ (i : Int) ∧ 0 ≤ (j : Int) ∧ 0 ≤ (n : Int) ∧ (i : Int) + (n : Int) ≤ 40 ∧ (j : Int) + (n : Int) ≤ 40 then 106 else mv_bad) (ls' := [mv_R 0, mv_I 0, mv_I (i : Int), mv_I 1, mv_I (j : Int), mv_I (n : Int), mv_R 71, mv_R 73]) (st' := []) (M1 := (mv_st M 74 ((mv_cp (M 72) (M 74) i j n)))) rfl ?_
  refine mv_tt' (by omega) ?_
  refine mv_go' 1 (pc' := 108) (ls' := [mv_R 0, mv_I 0, mv_I (i : Int), mv_I 1, mv_I (j : Int), mv_I (n : Int), mv_R 71, mv_R 73]) (st' := [mv_I (n : Int)]) (M1 := (mv_st M 74 ((mv_cp (M 72) (M 74) i j n)))) rfl ?_
  exact mv_Ru.val (mv_ret (fun n => rfl) rfl) (congrArg mv_I (by first | with_reducible rfl | (unfold sp_cpr; repeat (first | omega | split))))
theorem sp_ccpb_0_1 {M : mv_M} {i j n : Int} {so sz ro rz : Int} (hs1 : M 71 1 = so) (hz1 : M 71 2 = sz) (ht1 : M 73 1 = ro) (hr1 : M 73 2 = rz) (z1 : 0 ≤ sz ∧ sz ≤ 40) (z2 : 0 ≤ rz ∧ rz ≤ 40) (hes : (0 : Nat) = 1 → so = ro ∧ sz = rz)
    (hg : ¬ sp_cpg so sz ro rz i j n) : mv_Ru 20 94 0 [mv_R 0, mv_I 0, mv_I i, mv_I 1, mv_I j, mv_I n, mv_U, mv_U] [] M (mv_I (sp_cpr so ro)) (fun M1 => M1 = M) := by
  skip
  have hg : ¬ ((so ≠ -1 ∧ ro ≠ -1 ∧ so = ro) ∧ (0 ≤ n ∧ n ≤ sz ∧ 0 ≤ i ∧ i ≤ sz - n) ∧ (n ≤ rz ∧ 0 ≤ j ∧ j ≤ rz - n)) := hg
  refine mv_go' 2 (pc' := 2) (ls' := [mv_R 0, mv_I 0, mv_I i, mv_I 1, mv_I j, mv_I n, mv_U, mv_U]) (st' := [mv_I 0, mv_R 0]) (M1 := M) rfl ?_
  refine mv_callP (st2 := [mv_R 71]) rfl (Or.inl rfl) rfl rfl rfl (sp_sheetAt_0) (by first | decide | omega) ?_
  refine mv_go' 3 (pc' := 9) (ls' := [mv_R 0, mv_I 0, mv_I i, mv_I 1, mv_I j, mv_I n, mv_R 71, mv_U]) (st' := [mv_I 1, mv_R 0]) (M1 := M) rfl ?_
  refine mv_callP (st2 := [mv_R 73]) rfl (Or.inl rfl) rfl rfl rfl (sp_sheetAt_1) (by first | decide | omega) ?_
  refine mv_go' 6 (pc' := 29) (ls' := [mv_R 0, mv_I 0, mv_I i, mv_I 1, mv_I j, mv_I n, mv_R 71, mv_R 73]) (st' := [mv_R 71]) (M1 := M) rfl ?_
  by_cases ha13 : so = -1
  · refine mv_callP (st2 := [mv_I 1]) rfl (Or.inl rfl) rfl rfl rfl (sp_isMiss_0_t (hs1.trans ha13)) (by first | decide | omega) ?_
    refine mv_go' 1 (pc' := if 1 = 0 then 35 else 43) (ls' := [mv_R 0, mv_I 0, mv_I i, mv_I 1, mv_I j, mv_I n, mv_R 71, mv_R 73]) (st' := []) (M1 := M) rfl ?_
    refine mv_ff' (by first | decide | omega) ?_
    refine mv_go' 1 (pc' := 45) (ls' := [mv_R 0, mv_I 0, mv_I i, mv_I 1, mv_I j, mv_I n, mv_R 71, mv_R 73]) (st' := [mv_I (-11)]) (M1 := M) rfl ?_
    exact mv_Ru.val (mv_ret (fun n => rfl) rfl) (congrArg mv_I (by first | with_reducible rfl | (unfold sp_cpr; repeat (first | omega | split))))
  · refine mv_callP (st2 := [mv_I 0]) rfl (Or.inl rfl) rfl rfl rfl (sp_isMiss_0_f (fun q => ha13 (hs1.symm.trans q))) (by first | decide | omega) ?_
    refine mv_go' 1 (pc' := if 0 = 0 then 35 else 43) (ls' := [mv_R 0, mv_I 0, mv_I i, mv_I 1, mv_I j, mv_I n, mv_R 71, mv_R 73]) (st' := []) (M1 := M) rfl ?_
    refine mv_tt' (by first | decide | omega) ?_
    refine mv_go' 1 (pc' := 37) (ls' := [mv_R 0, mv_I 0, mv_I i, mv_I 1, mv_I j, mv_I n, mv_R 71, mv_R 73]) (st' := [mv_R 73]) (M1 := M) rfl ?_
    by_cases ha14 : ro = -1
    · refine mv_callP (st2 := [mv_I 1]) rfl (Or.inl rfl) rfl rfl rfl (sp_isMiss_1_t (ht1.trans ha14)) (by first | decide | omega) ?_
      refine mv_go' 1 (pc' := if 1 = 0 then 46 else 43) (ls' := [mv_R 0, mv_I 0, mv_I i, mv_I 1, mv_I j, mv_I n, mv_R 71, mv_R 73]) (st' := []) (M1 := M) rfl ?_
      refine mv_ff' (by first | decide | omega) ?_
      refine mv_go' 1 (pc' := 45) (ls' := [mv_R 0, mv_I 0, mv_I i, mv_I 1, mv_I j, mv_I n, mv_R 71, mv_R 73]) (st' := [mv_I (-11)]) (M1 := M) rfl ?_
      exact mv_Ru.val (mv_ret (fun n => rfl) rfl) (congrArg mv_I (by first | with_reducible rfl | (unfold sp_cpr; repeat (first | omega | split))))
    · refine mv_callP (st2 := [mv_I 0]) rfl (Or.inl rfl) rfl rfl rfl (sp_isMiss_1_f (fun q => ha14 (ht1.symm.trans q))) (by first | decide | omega) ?_
      refine mv_go' 1 (pc' := if 0 = 0 then 46 else 43) (ls' := [mv_R 0, mv_I 0, mv_I i, mv_I 1, mv_I j, mv_I n, mv_R 71, mv_R 73]) (st' := []) (M1 := M) rfl ?_
      refine mv_tt' (by first | decide | omega) ?_
      refine mv_go' 2 (pc' := 51) (ls' := [mv_R 0, mv_I 0, mv_I i, mv_I 1, mv_I j, mv_I n, mv_R 71, mv_R 73]) (st' := [mv_I (M 71 1)]) (M1 := M) rfl ?_
      rw [show M 71 1 = so from by exact hs1]
      refine mv_go' 2 (pc' := 56) (ls' := [mv_R 0, mv_I 0, mv_I i, mv_I 1, mv_I j, mv_I n, mv_R 71, mv_R 73]) (st' := [mv_I (M 73 1), mv_I so]) (M1 := M) rfl ?_
      rw [show M 73 1 = ro from by exact ht1]
      refine mv_go' 1 (pc' := if so = ro then 62 else 59) (ls' := [mv_R 0, mv_I 0, mv_I i, mv_I 1, mv_I j, mv_I n, mv_R 71, mv_R 73]) (st' := []) (M1 := M) rfl ?_
      refine mv_sp' (fun ha15 => ?_) (fun ha15 => ?_)
      · refine mv_go' 3 (pc' := 67) (ls' := [mv_R 0, mv_I 0, mv_I i, mv_I 1, mv_I j, mv_I n, mv_R 71, mv_R 73]) (st' := [mv_I n, mv_I i, mv_R 71]) (M1 := M) rfl ?_
        by_cases ha16 : 0 ≤ n ∧ n ≤ sz ∧ 0 ≤ i ∧ i ≤ sz - n
        · refine mv_callP (st2 := [mv_I 1]) rfl (Or.inl rfl) rfl rfl rfl (sp_hasRun_0_t hz1 (by omega) (by omega) ha16) (by first | decide | omega) ?_
          refine mv_go' 1 (pc' := if 1 = 0 then 85 else 73) (ls' := [mv_R 0, mv_I 0, mv_I i, mv_I 1, mv_I j, mv_I n, mv_R 71, mv_R 73]) (st' := []) (M1 := M) rfl ?_
          refine mv_ff' (by first | decide | omega) ?_
          refine mv_go' 3 (pc' := 79) (ls' := [mv_R 0, mv_I 0, mv_I i, mv_I 1, mv_I j, mv_I n, mv_R 71, mv_R 73]) (st' := [mv_I n, mv_I j, mv_R 73]) (M1 := M) rfl ?_
          have ha17 : ¬ (0 ≤ n ∧ n ≤ rz ∧ 0 ≤ j ∧ j ≤ rz - n) := by omega
          refine mv_callP (st2 := [mv_I 0]) rfl (Or.inl rfl) rfl rfl rfl (sp_hasRun_1_f hr1 (by omega) (by omega) ha17) (by first | decide | omega) ?_
          refine mv_go' 1 (pc' := if 0 = 0 then 85 else 88) (ls' := [mv_R 0, mv_I 0, mv_I i, mv_I 1, mv_I j, mv_I n, mv_R 71, mv_R 73]) (st' := []) (M1 := M) rfl ?_
          refine mv_tt' (by first | decide | omega) ?_
          refine mv_go' 1 (pc' := 87) (ls' := [mv_R 0, mv_I 0, mv_I i, mv_I 1, mv_I j, mv_I n, mv_R 71, mv_R 73]) (st' := [mv_I (-12)]) (M1 := M) rfl ?_
          exact mv_Ru.val (mv_ret (fun n => rfl) rfl) (congrArg mv_I (by first | with_reducible rfl | (unfold sp_cpr; repeat (first | omega | split))))
        · refine mv_callP (st2 := [mv_I 0]) rfl (Or.inl rfl) rfl rfl rfl (sp_hasRun_0_f hz1 (by omega) (by omega) ha16) (by first | decide | omega) ?_
          refine mv_go' 1 (pc' := if 0 = 0 then 85 else 73) (ls' := [mv_R 0, mv_I 0, mv_I i, mv_I 1, mv_I j, mv_I n, mv_R 71, mv_R 73]) (st' := []) (M1 := M) rfl ?_
          refine mv_tt' (by first | decide | omega) ?_
          refine mv_go' 1 (pc' := 87) (ls' := [mv_R 0, mv_I 0, mv_I i, mv_I 1, mv_I j, mv_I n, mv_R 71, mv_R 73]) (st' := [mv_I (-12)]) (M1 := M) rfl ?_
          exact mv_Ru.val (mv_ret (fun n => rfl) rfl) (congrArg mv_I (by first | with_reducible rfl | (unfold sp_cpr; repeat (first | omega | split))))
      · refine mv_go' 1 (pc' := 61) (ls' := [mv_R 0, mv_I 0, mv_I i, mv_I 1, mv_I j, mv_I n, mv_R 71, mv_R 73]) (st' := [mv_I (-13)]) (M1 := M) rfl ?_
        exact mv_Ru.val (mv_ret (fun n => rfl) rfl) (congrArg mv_I (by first | with_reducible rfl | (unfold sp_cpr; repeat (first | omega | split))))
theorem sp_ccpg_0_2 {M : mv_M} {i j n : Nat} {so sz ro rz : Int} (hs1 : M 71 1 = so) (hz1 : M 71 2 = sz) (ht1 : M 75 1 = ro) (hr1 : M 75 2 = rz) (z1 : 0 ≤ sz ∧ sz ≤ 40) (z2 : 0 ≤ rz ∧ rz ≤ 40) (hes : (0 : Nat) = 2 → so = ro ∧ sz = rz)
    (hg : sp_cpg so sz ro rz i j n) : mv_Ru 20 94 0 [mv_R 0, mv_I 0, mv_I (i : Int), mv_I 2, mv_I (j : Int), mv_I (n : Int), mv_U, mv_U] [] M (mv_I (n : Int)) (fun M1 => M1 = mv_st M 76 (mv_cp (M 72) (M 76) i j n)) := by
  obtain ⟨⟨g1, g2, g3⟩, g4, g5⟩ := hg
  skip
  refine mv_go' 2 (pc' := 2) (ls' := [mv_R 0, mv_I 0, mv_I (i : Int), mv_I 2, mv_I (j : Int), mv_I (n : Int), mv_U, mv_U]) (st' := [mv_I 0, mv_R 0]) (M1 := M) rfl ?_
  refine mv_callP (st2 := [mv_R 71]) rfl (Or.inl rfl) rfl rfl rfl (sp_sheetAt_0) (by first | decide | omega) ?_
  refine mv_go' 3 (pc' := 9) (ls' := [mv_R 0, mv_I 0, mv_I (i : Int), mv_I 2, mv_I (j : Int), mv_I (n : Int), mv_R 71, mv_U]) (st' := [mv_I 2, mv_R 0]) (M1 := M) rfl ?_
  refine mv_callP (st2 := [mv_R 75]) rfl (Or.inl rfl) rfl rfl rfl (sp_sheetAt_2) (by first | decide | omega) ?_
  refine mv_go' 6 (pc' := 29) (ls' := [mv_R 0, mv_I 0, mv_I (i : Int), mv_I 2, mv_I (j : Int), mv_I (n : Int), mv_R 71, mv_R 75]) (st' := [mv_R 71]) (M1 := M) rfl ?_
  have ha18 : ¬ (so = -1) := by omega
  refine mv_callP (st2 := [mv_I 0]) rfl (Or.inl rfl) rfl rfl rfl (sp_isMiss_0_f (fun q => ha18 (hs1.symm.trans q))) (by first | decide | omega) ?_
  refine mv_go' 1 (pc' := if 0 = 0 then 35 else 43) (ls' := [mv_R 0, mv_I 0, mv_I (i : Int), mv_I 2, mv_I (j : Int), mv_I (n : Int), mv_R 71, mv_R 75]) (st' := []) (M1 := M) rfl ?_
  refine mv_tt' (by first | decide | omega) ?_
  refine mv_go' 1 (pc' := 37) (ls' := [mv_R 0, mv_I 0, mv_I (i : Int), mv_I 2, mv_I (j : Int), mv_I (n : Int), mv_R 71, mv_R 75]) (st' := [mv_R 75]) (M1 := M) rfl ?_
  have ha19 : ¬ (ro = -1) := by omega
  refine mv_callP (st2 := [mv_I 0]) rfl (Or.inl rfl) rfl rfl rfl (sp_isMiss_2_f (fun q => ha19 (ht1.symm.trans q))) (by first | decide | omega) ?_
  refine mv_go' 1 (pc' := if 0 = 0 then 46 else 43) (ls' := [mv_R 0, mv_I 0, mv_I (i : Int), mv_I 2, mv_I (j : Int), mv_I (n : Int), mv_R 71, mv_R 75]) (st' := []) (M1 := M) rfl ?_
  refine mv_tt' (by first | decide | omega) ?_
  refine mv_go' 2 (pc' := 51) (ls' := [mv_R 0, mv_I 0, mv_I (i : Int), mv_I 2, mv_I (j : Int), mv_I (n : Int), mv_R 71, mv_R 75]) (st' := [mv_I (M 71 1)]) (M1 := M) rfl ?_
  rw [show M 71 1 = so from by exact hs1]
  refine mv_go' 2 (pc' := 56) (ls' := [mv_R 0, mv_I 0, mv_I (i : Int), mv_I 2, mv_I (j : Int), mv_I (n : Int), mv_R 71, mv_R 75]) (st' := [mv_I (M 75 1), mv_I so]) (M1 := M) rfl ?_
  rw [show M 75 1 = ro from by exact ht1]
  refine mv_go' 1 (pc' := if so = ro then 62 else 59) (ls' := [mv_R 0, mv_I 0, mv_I (i : Int), mv_I 2, mv_I (j : Int), mv_I (n : Int), mv_R 71, mv_R 75]) (st' := []) (M1 := M) rfl ?_
  refine mv_tt' (by omega) ?_
  refine mv_go' 3 (pc' := 67) (ls' := [mv_R 0, mv_I 0, mv_I (i : Int), mv_I 2, mv_I (j : Int), mv_I (n : Int), mv_R 71, mv_R 75]) (st' := [mv_I (n : Int), mv_I (i : Int), mv_R 71]) (M1 := M) rfl ?_
  have ha20 : 0 ≤ (n : Int) ∧ (n : Int) ≤ sz ∧ 0 ≤ (i : Int) ∧ (i : Int) ≤ sz - (n : Int) := by omega
  refine mv_callP (st2 := [mv_I 1]) rfl (Or.inl rfl) rfl rfl rfl (sp_hasRun_0_t hz1 (by omega) (by omega) ha20) (by first | decide | omega) ?_
  refine mv_go' 1 (pc' := if 1 = 0 then 85 else 73) (ls' := [mv_R 0, mv_I 0, mv_I (i : Int), mv_I 2, mv_I (j : Int), mv_I (n : Int), mv_R 71, mv_R 75]) (st' := []) (M1 := M) rfl ?_
  refine mv_ff' (by first | decide | omega) ?_
  refine mv_go' 3 (pc' := 79) (ls' := [mv_R 0, mv_I 0, mv_I (i : Int), mv_I 2, mv_I (j : Int), mv_I (n : Int), mv_R 71, mv_R 75]) (st' := [mv_I (n : Int), mv_I (j : Int), mv_R 75]) (M1 := M) rfl ?_
  have ha21 : 0 ≤ (n : Int) ∧ (n : Int) ≤ rz ∧ 0 ≤ (j : Int) ∧ (j : Int) ≤ rz - (n : Int) := by omega
  refine mv_callP (st2 := [mv_I 1]) rfl (Or.inl rfl) rfl rfl rfl (sp_hasRun_2_t hr1 (by omega) (by omega) ha21) (by first | decide | omega) ?_
  refine mv_go' 1 (pc' := if 1 = 0 then 85 else 88) (ls' := [mv_R 0, mv_I 0, mv_I (i : Int), mv_I 2, mv_I (j : Int), mv_I (n : Int), mv_R 71, mv_R 75]) (st' := []) (M1 := M) rfl ?_
  refine mv_ff' (by first | decide | omega) ?_
  refine mv_go' 8 (pc' := if 0 ≤ (i : Int) ∧ 0 ≤ (j : Int) ∧ 0 ≤ (n : Int) ∧ (i : Int) + (n : Int) ≤ 40 ∧ (j : Int) + (n : Int) ≤ 40 then 106 else mv_bad) (ls' := [mv_R 0, mv_I 0, mv_I (i : Int), mv_I 2, mv_I (j : Int), mv_I (n : Int), mv_R 71, mv_R 75]) (st' := []) (M1 := (mv_st M 76 ((mv_cp (M 72) (M 76) i j n)))) rfl ?_
  refine mv_tt' (by omega) ?_
  refine mv_go' 1 (pc' := 108) (ls' := [mv_R 0, mv_I 0, mv_I (i : Int), mv_I 2, mv_I (j : Int), mv_I (n : Int), mv_R 71, mv_R 75]) (st' := [mv_I (n : Int)]) (M1 := (mv_st M 76 ((mv_cp (M 72) (M 76) i j n)))) rfl ?_
  exact mv_Ru.val (mv_ret (fun n => rfl) rfl) (congrArg mv_I (by first | with_reducible rfl | (unfold sp_cpr; repeat (first | omega | split))))
theorem sp_ccpb_0_2 {M : mv_M} {i j n : Int} {so sz ro rz : Int} (hs1 : M 71 1 = so) (hz1 : M 71 2 = sz) (ht1 : M 75 1 = ro) (hr1 : M 75 2 = rz) (z1 : 0 ≤ sz ∧ sz ≤ 40) (z2 : 0 ≤ rz ∧ rz ≤ 40) (hes : (0 : Nat) = 2 → so = ro ∧ sz = rz)
    (hg : ¬ sp_cpg so sz ro rz i j n) : mv_Ru 20 94 0 [mv_R 0, mv_I 0, mv_I i, mv_I 2, mv_I j, mv_I n, mv_U, mv_U] [] M (mv_I (sp_cpr so ro)) (fun M1 => M1 = M) := by
  skip
  have hg : ¬ ((so ≠ -1 ∧ ro ≠ -1 ∧ so = ro) ∧ (0 ≤ n ∧ n ≤ sz ∧ 0 ≤ i ∧ i ≤ sz - n) ∧ (n ≤ rz ∧ 0 ≤ j ∧ j ≤ rz - n)) := hg
  refine mv_go' 2 (pc' := 2) (ls' := [mv_R 0, mv_I 0, mv_I i, mv_I 2, mv_I j, mv_I n, mv_U, mv_U]) (st' := [mv_I 0, mv_R 0]) (M1 := M) rfl ?_
  refine mv_callP (st2 := [mv_R 71]) rfl (Or.inl rfl) rfl rfl rfl (sp_sheetAt_0) (by first | decide | omega) ?_
  refine mv_go' 3 (pc' := 9) (ls' := [mv_R 0, mv_I 0, mv_I i, mv_I 2, mv_I j, mv_I n, mv_R 71, mv_U]) (st' := [mv_I 2, mv_R 0]) (M1 := M) rfl ?_
  refine mv_callP (st2 := [mv_R 75]) rfl (Or.inl rfl) rfl rfl rfl (sp_sheetAt_2) (by first | decide | omega) ?_
  refine mv_go' 6 (pc' := 29) (ls' := [mv_R 0, mv_I 0, mv_I i, mv_I 2, mv_I j, mv_I n, mv_R 71, mv_R 75]) (st' := [mv_R 71]) (M1 := M) rfl ?_
  by_cases ha22 : so = -1
  · refine mv_callP (st2 := [mv_I 1]) rfl (Or.inl rfl) rfl rfl rfl (sp_isMiss_0_t (hs1.trans ha22)) (by first | decide | omega) ?_
    refine mv_go' 1 (pc' := if 1 = 0 then 35 else 43) (ls' := [mv_R 0, mv_I 0, mv_I i, mv_I 2, mv_I j, mv_I n, mv_R 71, mv_R 75]) (st' := []) (M1 := M) rfl ?_
    refine mv_ff' (by first | decide | omega) ?_
    refine mv_go' 1 (pc' := 45) (ls' := [mv_R 0, mv_I 0, mv_I i, mv_I 2, mv_I j, mv_I n, mv_R 71, mv_R 75]) (st' := [mv_I (-11)]) (M1 := M) rfl ?_
    exact mv_Ru.val (mv_ret (fun n => rfl) rfl) (congrArg mv_I (by first | with_reducible rfl | (unfold sp_cpr; repeat (first | omega | split))))
  · refine mv_callP (st2 := [mv_I 0]) rfl (Or.inl rfl) rfl rfl rfl (sp_isMiss_0_f (fun q => ha22 (hs1.symm.trans q))) (by first | decide | omega) ?_
    refine mv_go' 1 (pc' := if 0 = 0 then 35 else 43) (ls' := [mv_R 0, mv_I 0, mv_I i, mv_I 2, mv_I j, mv_I n, mv_R 71, mv_R 75]) (st' := []) (M1 := M) rfl ?_
    refine mv_tt' (by first | decide | omega) ?_
    refine mv_go' 1 (pc' := 37) (ls' := [mv_R 0, mv_I 0, mv_I i, mv_I 2, mv_I j, mv_I n, mv_R 71, mv_R 75]) (st' := [mv_R 75]) (M1 := M) rfl ?_
    by_cases ha23 : ro = -1
    · refine mv_callP (st2 := [mv_I 1]) rfl (Or.inl rfl) rfl rfl rfl (sp_isMiss_2_t (ht1.trans ha23)) (by first | decide | omega) ?_
      refine mv_go' 1 (pc' := if 1 = 0 then 46 else 43) (ls' := [mv_R 0, mv_I 0, mv_I i, mv_I 2, mv_I j, mv_I n, mv_R 71, mv_R 75]) (st' := []) (M1 := M) rfl ?_
      refine mv_ff' (by first | decide | omega) ?_
      refine mv_go' 1 (pc' := 45) (ls' := [mv_R 0, mv_I 0, mv_I i, mv_I 2, mv_I j, mv_I n, mv_R 71, mv_R 75]) (st' := [mv_I (-11)]) (M1 := M) rfl ?_
      exact mv_Ru.val (mv_ret (fun n => rfl) rfl) (congrArg mv_I (by first | with_reducible rfl | (unfold sp_cpr; repeat (first | omega | split))))
    · refine mv_callP (st2 := [mv_I 0]) rfl (Or.inl rfl) rfl rfl rfl (sp_isMiss_2_f (fun q => ha23 (ht1.symm.trans q))) (by first | decide | omega) ?_
      refine mv_go' 1 (pc' := if 0 = 0 then 46 else 43) (ls' := [mv_R 0, mv_I 0, mv_I i, mv_I 2, mv_I j, mv_I n, mv_R 71, mv_R 75]) (st' := []) (M1 := M) rfl ?_
      refine mv_tt' (by first | decide | omega) ?_
      refine mv_go' 2 (pc' := 51) (ls' := [mv_R 0, mv_I 0, mv_I i, mv_I 2, mv_I j, mv_I n, mv_R 71, mv_R 75]) (st' := [mv_I (M 71 1)]) (M1 := M) rfl ?_
      rw [show M 71 1 = so from by exact hs1]
      refine mv_go' 2 (pc' := 56) (ls' := [mv_R 0, mv_I 0, mv_I i, mv_I 2, mv_I j, mv_I n, mv_R 71, mv_R 75]) (st' := [mv_I (M 75 1), mv_I so]) (M1 := M) rfl ?_
      rw [show M 75 1 = ro from by exact ht1]
      refine mv_go' 1 (pc' := if so = ro then 62 else 59) (ls' := [mv_R 0, mv_I 0, mv_I i, mv_I 2, mv_I j, mv_I n, mv_R 71, mv_R 75]) (st' := []) (M1 := M) rfl ?_
      refine mv_sp' (fun ha24 => ?_) (fun ha24 => ?_)
      · refine mv_go' 3 (pc' := 67) (ls' := [mv_R 0, mv_I 0, mv_I i, mv_I 2, mv_I j, mv_I n, mv_R 71, mv_R 75]) (st' := [mv_I n, mv_I i, mv_R 71]) (M1 := M) rfl ?_
        by_cases ha25 : 0 ≤ n ∧ n ≤ sz ∧ 0 ≤ i ∧ i ≤ sz - n
        · refine mv_callP (st2 := [mv_I 1]) rfl (Or.inl rfl) rfl rfl rfl (sp_hasRun_0_t hz1 (by omega) (by omega) ha25) (by first | decide | omega) ?_
          refine mv_go' 1 (pc' := if 1 = 0 then 85 else 73) (ls' := [mv_R 0, mv_I 0, mv_I i, mv_I 2, mv_I j, mv_I n, mv_R 71, mv_R 75]) (st' := []) (M1 := M) rfl ?_
          refine mv_ff' (by first | decide | omega) ?_
          refine mv_go' 3 (pc' := 79) (ls' := [mv_R 0, mv_I 0, mv_I i, mv_I 2, mv_I j, mv_I n, mv_R 71, mv_R 75]) (st' := [mv_I n, mv_I j, mv_R 75]) (M1 := M) rfl ?_
          have ha26 : ¬ (0 ≤ n ∧ n ≤ rz ∧ 0 ≤ j ∧ j ≤ rz - n) := by omega
          refine mv_callP (st2 := [mv_I 0]) rfl (Or.inl rfl) rfl rfl rfl (sp_hasRun_2_f hr1 (by omega) (by omega) ha26) (by first | decide | omega) ?_
          refine mv_go' 1 (pc' := if 0 = 0 then 85 else 88) (ls' := [mv_R 0, mv_I 0, mv_I i, mv_I 2, mv_I j, mv_I n, mv_R 71, mv_R 75]) (st' := []) (M1 := M) rfl ?_
          refine mv_tt' (by first | decide | omega) ?_
          refine mv_go' 1 (pc' := 87) (ls' := [mv_R 0, mv_I 0, mv_I i, mv_I 2, mv_I j, mv_I n, mv_R 71, mv_R 75]) (st' := [mv_I (-12)]) (M1 := M) rfl ?_
          exact mv_Ru.val (mv_ret (fun n => rfl) rfl) (congrArg mv_I (by first | with_reducible rfl | (unfold sp_cpr; repeat (first | omega | split))))
        · refine mv_callP (st2 := [mv_I 0]) rfl (Or.inl rfl) rfl rfl rfl (sp_hasRun_0_f hz1 (by omega) (by omega) ha25) (by first | decide | omega) ?_
          refine mv_go' 1 (pc' := if 0 = 0 then 85 else 73) (ls' := [mv_R 0, mv_I 0, mv_I i, mv_I 2, mv_I j, mv_I n, mv_R 71, mv_R 75]) (st' := []) (M1 := M) rfl ?_
          refine mv_tt' (by first | decide | omega) ?_
          refine mv_go' 1 (pc' := 87) (ls' := [mv_R 0, mv_I 0, mv_I i, mv_I 2, mv_I j, mv_I n, mv_R 71, mv_R 75]) (st' := [mv_I (-12)]) (M1 := M) rfl ?_
          exact mv_Ru.val (mv_ret (fun n => rfl) rfl) (congrArg mv_I (by first | with_reducible rfl | (unfold sp_cpr; repeat (first | omega | split))))
      · refine mv_go' 1 (pc' := 61) (ls' := [mv_R 0, mv_I 0, mv_I i, mv_I 2, mv_I j, mv_I n, mv_R 71, mv_R 75]) (st' := [mv_I (-13)]) (M1 := M) rfl ?_
        exact mv_Ru.val (mv_ret (fun n => rfl) rfl) (congrArg mv_I (by first | with_reducible rfl | (unfold sp_cpr; repeat (first | omega | split))))
theorem sp_ccpg_0_3 {M : mv_M} {i j n : Nat} {so sz ro rz : Int} (hs1 : M 71 1 = so) (hz1 : M 71 2 = sz) (ht1 : M 77 1 = ro) (hr1 : M 77 2 = rz) (z1 : 0 ≤ sz ∧ sz ≤ 40) (z2 : 0 ≤ rz ∧ rz ≤ 40) (hes : (0 : Nat) = 3 → so = ro ∧ sz = rz)
    (hg : sp_cpg so sz ro rz i j n) : mv_Ru 20 94 0 [mv_R 0, mv_I 0, mv_I (i : Int), mv_I 3, mv_I (j : Int), mv_I (n : Int), mv_U, mv_U] [] M (mv_I (n : Int)) (fun M1 => M1 = mv_st M 78 (mv_cp (M 72) (M 78) i j n)) := by
  obtain ⟨⟨g1, g2, g3⟩, g4, g5⟩ := hg
  skip
  refine mv_go' 2 (pc' := 2) (ls' := [mv_R 0, mv_I 0, mv_I (i : Int), mv_I 3, mv_I (j : Int), mv_I (n : Int), mv_U, mv_U]) (st' := [mv_I 0, mv_R 0]) (M1 := M) rfl ?_
  refine mv_callP (st2 := [mv_R 71]) rfl (Or.inl rfl) rfl rfl rfl (sp_sheetAt_0) (by first | decide | omega) ?_
  refine mv_go' 3 (pc' := 9) (ls' := [mv_R 0, mv_I 0, mv_I (i : Int), mv_I 3, mv_I (j : Int), mv_I (n : Int), mv_R 71, mv_U]) (st' := [mv_I 3, mv_R 0]) (M1 := M) rfl ?_
  refine mv_callP (st2 := [mv_R 77]) rfl (Or.inl rfl) rfl rfl rfl (sp_sheetAt_3) (by first | decide | omega) ?_
  refine mv_go' 6 (pc' := 29) (ls' := [mv_R 0, mv_I 0, mv_I (i : Int), mv_I 3, mv_I (j : Int), mv_I (n : Int), mv_R 71, mv_R 77]) (st' := [mv_R 71]) (M1 := M) rfl ?_
  have ha27 : ¬ (so = -1) := by omega
  refine mv_callP (st2 := [mv_I 0]) rfl (Or.inl rfl) rfl rfl rfl (sp_isMiss_0_f (fun q => ha27 (hs1.symm.trans q))) (by first | decide | omega) ?_
  refine mv_go' 1 (pc' := if 0 = 0 then 35 else 43) (ls' := [mv_R 0, mv_I 0, mv_I (i : Int), mv_I 3, mv_I (j : Int), mv_I (n : Int), mv_R 71, mv_R 77]) (st' := []) (M1 := M) rfl ?_
  refine mv_tt' (by first | decide | omega) ?_
  refine mv_go' 1 (pc' := 37) (ls' := [mv_R 0, mv_I 0, mv_I (i : Int), mv_I 3, mv_I (j : Int), mv_I (n : Int), mv_R 71, mv_R 77]) (st' := [mv_R 77]) (M1 := M) rfl ?_
  have ha28 : ¬ (ro = -1) := by omega
  refine mv_callP (st2 := [mv_I 0]) rfl (Or.inl rfl) rfl rfl rfl (sp_isMiss_3_f (fun q => ha28 (ht1.symm.trans q))) (by first | decide | omega) ?_
  refine mv_go' 1 (pc' := if 0 = 0 then 46 else 43) (ls' := [mv_R 0, mv_I 0, mv_I (i : Int), mv_I 3, mv_I (j : Int), mv_I (n : Int), mv_R 71, mv_R 77]) (st' := []) (M1 := M) rfl ?_
  refine mv_tt' (by first | decide | omega) ?_
  refine mv_go' 2 (pc' := 51) (ls' := [mv_R 0, mv_I 0, mv_I (i : Int), mv_I 3, mv_I (j : Int), mv_I (n : Int), mv_R 71, mv_R 77]) (st' := [mv_I (M 71 1)]) (M1 := M) rfl ?_
  rw [show M 71 1 = so from by exact hs1]
  refine mv_go' 2 (pc' := 56) (ls' := [mv_R 0, mv_I 0, mv_I (i : Int), mv_I 3, mv_I (j : Int), mv_I (n : Int), mv_R 71, mv_R 77]) (st' := [mv_I (M 77 1), mv_I so]) (M1 := M) rfl ?_
  rw [show M 77 1 = ro from by exact ht1]
  refine mv_go' 1 (pc' := if so = ro then 62 else 59) (ls' := [mv_R 0, mv_I 0, mv_I (i : Int), mv_I 3, mv_I (j : Int), mv_I (n : Int), mv_R 71, mv_R 77]) (st' := []) (M1 := M) rfl ?_
  refine mv_tt' (by omega) ?_
  refine mv_go' 3 (pc' := 67) (ls' := [mv_R 0, mv_I 0, mv_I (i : Int), mv_I 3, mv_I (j : Int), mv_I (n : Int), mv_R 71, mv_R 77]) (st' := [mv_I (n : Int), mv_I (i : Int), mv_R 71]) (M1 := M) rfl ?_
  have ha29 : 0 ≤ (n : Int) ∧ (n : Int) ≤ sz ∧ 0 ≤ (i : Int) ∧ (i : Int) ≤ sz - (n : Int) := by omega
  refine mv_callP (st2 := [mv_I 1]) rfl (Or.inl rfl) rfl rfl rfl (sp_hasRun_0_t hz1 (by omega) (by omega) ha29) (by first | decide | omega) ?_
  refine mv_go' 1 (pc' := if 1 = 0 then 85 else 73) (ls' := [mv_R 0, mv_I 0, mv_I (i : Int), mv_I 3, mv_I (j : Int), mv_I (n : Int), mv_R 71, mv_R 77]) (st' := []) (M1 := M) rfl ?_
  refine mv_ff' (by first | decide | omega) ?_
  refine mv_go' 3 (pc' := 79) (ls' := [mv_R 0, mv_I 0, mv_I (i : Int), mv_I 3, mv_I (j : Int), mv_I (n : Int), mv_R 71, mv_R 77]) (st' := [mv_I (n : Int), mv_I (j : Int), mv_R 77]) (M1 := M) rfl ?_
  have ha30 : 0 ≤ (n : Int) ∧ (n : Int) ≤ rz ∧ 0 ≤ (j : Int) ∧ (j : Int) ≤ rz - (n : Int) := by omega
  refine mv_callP (st2 := [mv_I 1]) rfl (Or.inl rfl) rfl rfl rfl (sp_hasRun_3_t hr1 (by omega) (by omega) ha30) (by first | decide | omega) ?_
  refine mv_go' 1 (pc' := if 1 = 0 then 85 else 88) (ls' := [mv_R 0, mv_I 0, mv_I (i : Int), mv_I 3, mv_I (j : Int), mv_I (n : Int), mv_R 71, mv_R 77]) (st' := []) (M1 := M) rfl ?_
  refine mv_ff' (by first | decide | omega) ?_
  refine mv_go' 8 (pc' := if 0 ≤ (i : Int) ∧ 0 ≤ (j : Int) ∧ 0 ≤ (n : Int) ∧ (i : Int) + (n : Int) ≤ 40 ∧ (j : Int) + (n : Int) ≤ 40 then 106 else mv_bad) (ls' := [mv_R 0, mv_I 0, mv_I (i : Int), mv_I 3, mv_I (j : Int), mv_I (n : Int), mv_R 71, mv_R 77]) (st' := []) (M1 := (mv_st M 78 ((mv_cp (M 72) (M 78) i j n)))) rfl ?_
  refine mv_tt' (by omega) ?_
  refine mv_go' 1 (pc' := 108) (ls' := [mv_R 0, mv_I 0, mv_I (i : Int), mv_I 3, mv_I (j : Int), mv_I (n : Int), mv_R 71, mv_R 77]) (st' := [mv_I (n : Int)]) (M1 := (mv_st M 78 ((mv_cp (M 72) (M 78) i j n)))) rfl ?_
  exact mv_Ru.val (mv_ret (fun n => rfl) rfl) (congrArg mv_I (by first | with_reducible rfl | (unfold sp_cpr; repeat (first | omega | split))))
theorem sp_ccpb_0_3 {M : mv_M} {i j n : Int} {so sz ro rz : Int} (hs1 : M 71 1 = so) (hz1 : M 71 2 = sz) (ht1 : M 77 1 = ro) (hr1 : M 77 2 = rz) (z1 : 0 ≤ sz ∧ sz ≤ 40) (z2 : 0 ≤ rz ∧ rz ≤ 40) (hes : (0 : Nat) = 3 → so = ro ∧ sz = rz)
    (hg : ¬ sp_cpg so sz ro rz i j n) : mv_Ru 20 94 0 [mv_R 0, mv_I 0, mv_I i, mv_I 3, mv_I j, mv_I n, mv_U, mv_U] [] M (mv_I (sp_cpr so ro)) (fun M1 => M1 = M) := by
  skip
  have hg : ¬ ((so ≠ -1 ∧ ro ≠ -1 ∧ so = ro) ∧ (0 ≤ n ∧ n ≤ sz ∧ 0 ≤ i ∧ i ≤ sz - n) ∧ (n ≤ rz ∧ 0 ≤ j ∧ j ≤ rz - n)) := hg
  refine mv_go' 2 (pc' := 2) (ls' := [mv_R 0, mv_I 0, mv_I i, mv_I 3, mv_I j, mv_I n, mv_U, mv_U]) (st' := [mv_I 0, mv_R 0]) (M1 := M) rfl ?_
  refine mv_callP (st2 := [mv_R 71]) rfl (Or.inl rfl) rfl rfl rfl (sp_sheetAt_0) (by first | decide | omega) ?_
  refine mv_go' 3 (pc' := 9) (ls' := [mv_R 0, mv_I 0, mv_I i, mv_I 3, mv_I j, mv_I n, mv_R 71, mv_U]) (st' := [mv_I 3, mv_R 0]) (M1 := M) rfl ?_
  refine mv_callP (st2 := [mv_R 77]) rfl (Or.inl rfl) rfl rfl rfl (sp_sheetAt_3) (by first | decide | omega) ?_
  refine mv_go' 6 (pc' := 29) (ls' := [mv_R 0, mv_I 0, mv_I i, mv_I 3, mv_I j, mv_I n, mv_R 71, mv_R 77]) (st' := [mv_R 71]) (M1 := M) rfl ?_
  by_cases ha31 : so = -1
  · refine mv_callP (st2 := [mv_I 1]) rfl (Or.inl rfl) rfl rfl rfl (sp_isMiss_0_t (hs1.trans ha31)) (by first | decide | omega) ?_
    refine mv_go' 1 (pc' := if 1 = 0 then 35 else 43) (ls' := [mv_R 0, mv_I 0, mv_I i, mv_I 3, mv_I j, mv_I n, mv_R 71, mv_R 77]) (st' := []) (M1 := M) rfl ?_
    refine mv_ff' (by first | decide | omega) ?_
    refine mv_go' 1 (pc' := 45) (ls' := [mv_R 0, mv_I 0, mv_I i, mv_I 3, mv_I j, mv_I n, mv_R 71, mv_R 77]) (st' := [mv_I (-11)]) (M1 := M) rfl ?_
    exact mv_Ru.val (mv_ret (fun n => rfl) rfl) (congrArg mv_I (by first | with_reducible rfl | (unfold sp_cpr; repeat (first | omega | split))))
  · refine mv_callP (st2 := [mv_I 0]) rfl (Or.inl rfl) rfl rfl rfl (sp_isMiss_0_f (fun q => ha31 (hs1.symm.trans q))) (by first | decide | omega) ?_
    refine mv_go' 1 (pc' := if 0 = 0 then 35 else 43) (ls' := [mv_R 0, mv_I 0, mv_I i, mv_I 3, mv_I j, mv_I n, mv_R 71, mv_R 77]) (st' := []) (M1 := M) rfl ?_
    refine mv_tt' (by first | decide | omega) ?_
    refine mv_go' 1 (pc' := 37) (ls' := [mv_R 0, mv_I 0, mv_I i, mv_I 3, mv_I j, mv_I n, mv_R 71, mv_R 77]) (st' := [mv_R 77]) (M1 := M) rfl ?_
    by_cases ha32 : ro = -1
    · refine mv_callP (st2 := [mv_I 1]) rfl (Or.inl rfl) rfl rfl rfl (sp_isMiss_3_t (ht1.trans ha32)) (by first | decide | omega) ?_
      refine mv_go' 1 (pc' := if 1 = 0 then 46 else 43) (ls' := [mv_R 0, mv_I 0, mv_I i, mv_I 3, mv_I j, mv_I n, mv_R 71, mv_R 77]) (st' := []) (M1 := M) rfl ?_
      refine mv_ff' (by first | decide | omega) ?_
      refine mv_go' 1 (pc' := 45) (ls' := [mv_R 0, mv_I 0, mv_I i, mv_I 3, mv_I j, mv_I n, mv_R 71, mv_R 77]) (st' := [mv_I (-11)]) (M1 := M) rfl ?_
      exact mv_Ru.val (mv_ret (fun n => rfl) rfl) (congrArg mv_I (by first | with_reducible rfl | (unfold sp_cpr; repeat (first | omega | split))))
    · refine mv_callP (st2 := [mv_I 0]) rfl (Or.inl rfl) rfl rfl rfl (sp_isMiss_3_f (fun q => ha32 (ht1.symm.trans q))) (by first | decide | omega) ?_
      refine mv_go' 1 (pc' := if 0 = 0 then 46 else 43) (ls' := [mv_R 0, mv_I 0, mv_I i, mv_I 3, mv_I j, mv_I n, mv_R 71, mv_R 77]) (st' := []) (M1 := M) rfl ?_
      refine mv_tt' (by first | decide | omega) ?_
      refine mv_go' 2 (pc' := 51) (ls' := [mv_R 0, mv_I 0, mv_I i, mv_I 3, mv_I j, mv_I n, mv_R 71, mv_R 77]) (st' := [mv_I (M 71 1)]) (M1 := M) rfl ?_
      rw [show M 71 1 = so from by exact hs1]
      refine mv_go' 2 (pc' := 56) (ls' := [mv_R 0, mv_I 0, mv_I i, mv_I 3, mv_I j, mv_I n, mv_R 71, mv_R 77]) (st' := [mv_I (M 77 1), mv_I so]) (M1 := M) rfl ?_
      rw [show M 77 1 = ro from by exact ht1]
      refine mv_go' 1 (pc' := if so = ro then 62 else 59) (ls' := [mv_R 0, mv_I 0, mv_I i, mv_I 3, mv_I j, mv_I n, mv_R 71, mv_R 77]) (st' := []) (M1 := M) rfl ?_
      refine mv_sp' (fun ha33 => ?_) (fun ha33 => ?_)
      · refine mv_go' 3 (pc' := 67) (ls' := [mv_R 0, mv_I 0, mv_I i, mv_I 3, mv_I j, mv_I n, mv_R 71, mv_R 77]) (st' := [mv_I n, mv_I i, mv_R 71]) (M1 := M) rfl ?_
        by_cases ha34 : 0 ≤ n ∧ n ≤ sz ∧ 0 ≤ i ∧ i ≤ sz - n
        · refine mv_callP (st2 := [mv_I 1]) rfl (Or.inl rfl) rfl rfl rfl (sp_hasRun_0_t hz1 (by omega) (by omega) ha34) (by first | decide | omega) ?_
          refine mv_go' 1 (pc' := if 1 = 0 then 85 else 73) (ls' := [mv_R 0, mv_I 0, mv_I i, mv_I 3, mv_I j, mv_I n, mv_R 71, mv_R 77]) (st' := []) (M1 := M) rfl ?_
          refine mv_ff' (by first | decide | omega) ?_
          refine mv_go' 3 (pc' := 79) (ls' := [mv_R 0, mv_I 0, mv_I i, mv_I 3, mv_I j, mv_I n, mv_R 71, mv_R 77]) (st' := [mv_I n, mv_I j, mv_R 77]) (M1 := M) rfl ?_
          have ha35 : ¬ (0 ≤ n ∧ n ≤ rz ∧ 0 ≤ j ∧ j ≤ rz - n) := by omega
          refine mv_callP (st2 := [mv_I 0]) rfl (Or.inl rfl) rfl rfl rfl (sp_hasRun_3_f hr1 (by omega) (by omega) ha35) (by first | decide | omega) ?_
          refine mv_go' 1 (pc' := if 0 = 0 then 85 else 88) (ls' := [mv_R 0, mv_I 0, mv_I i, mv_I 3, mv_I j, mv_I n, mv_R 71, mv_R 77]) (st' := []) (M1 := M) rfl ?_
          refine mv_tt' (by first | decide | omega) ?_
          refine mv_go' 1 (pc' := 87) (ls' := [mv_R 0, mv_I 0, mv_I i, mv_I 3, mv_I j, mv_I n, mv_R 71, mv_R 77]) (st' := [mv_I (-12)]) (M1 := M) rfl ?_
          exact mv_Ru.val (mv_ret (fun n => rfl) rfl) (congrArg mv_I (by first | with_reducible rfl | (unfold sp_cpr; repeat (first | omega | split))))
        · refine mv_callP (st2 := [mv_I 0]) rfl (Or.inl rfl) rfl rfl rfl (sp_hasRun_0_f hz1 (by omega) (by omega) ha34) (by first | decide | omega) ?_
          refine mv_go' 1 (pc' := if 0 = 0 then 85 else 73) (ls' := [mv_R 0, mv_I 0, mv_I i, mv_I 3, mv_I j, mv_I n, mv_R 71, mv_R 77]) (st' := []) (M1 := M) rfl ?_
          refine mv_tt' (by first | decide | omega) ?_
          refine mv_go' 1 (pc' := 87) (ls' := [mv_R 0, mv_I 0, mv_I i, mv_I 3, mv_I j, mv_I n, mv_R 71, mv_R 77]) (st' := [mv_I (-12)]) (M1 := M) rfl ?_
          exact mv_Ru.val (mv_ret (fun n => rfl) rfl) (congrArg mv_I (by first | with_reducible rfl | (unfold sp_cpr; repeat (first | omega | split))))
      · refine mv_go' 1 (pc' := 61) (ls' := [mv_R 0, mv_I 0, mv_I i, mv_I 3, mv_I j, mv_I n, mv_R 71, mv_R 77]) (st' := [mv_I (-13)]) (M1 := M) rfl ?_
        exact mv_Ru.val (mv_ret (fun n => rfl) rfl) (congrArg mv_I (by first | with_reducible rfl | (unfold sp_cpr; repeat (first | omega | split))))
theorem sp_ccpg_1_0 {M : mv_M} {i j n : Nat} {so sz ro rz : Int} (hs1 : M 73 1 = so) (hz1 : M 73 2 = sz) (ht1 : M 71 1 = ro) (hr1 : M 71 2 = rz) (z1 : 0 ≤ sz ∧ sz ≤ 40) (z2 : 0 ≤ rz ∧ rz ≤ 40) (hes : (1 : Nat) = 0 → so = ro ∧ sz = rz)
    (hg : sp_cpg so sz ro rz i j n) : mv_Ru 20 94 0 [mv_R 0, mv_I 1, mv_I (i : Int), mv_I 0, mv_I (j : Int), mv_I (n : Int), mv_U, mv_U] [] M (mv_I (n : Int)) (fun M1 => M1 = mv_st M 72 (mv_cp (M 74) (M 72) i j n)) := by
  obtain ⟨⟨g1, g2, g3⟩, g4, g5⟩ := hg
  skip
  refine mv_go' 2 (pc' := 2) (ls' := [mv_R 0, mv_I 1, mv_I (i : Int), mv_I 0, mv_I (j : Int), mv_I (n : Int), mv_U, mv_U]) (st' := [mv_I 1, mv_R 0]) (M1 := M) rfl ?_
  refine mv_callP (st2 := [mv_R 73]) rfl (Or.inl rfl) rfl rfl rfl (sp_sheetAt_1) (by first | decide | omega) ?_
  refine mv_go' 3 (pc' := 9) (ls' := [mv_R 0, mv_I 1, mv_I (i : Int), mv_I 0, mv_I (j : Int), mv_I (n : Int), mv_R 73, mv_U]) (st' := [mv_I 0, mv_R 0]) (M1 := M) rfl ?_
  refine mv_callP (st2 := [mv_R 71]) rfl (Or.inl rfl) rfl rfl rfl (sp_sheetAt_0) (by first | decide | omega) ?_
  refine mv_go' 6 (pc' := 29) (ls' := [mv_R 0, mv_I 1, mv_I (i : Int), mv_I 0, mv_I (j : Int), mv_I (n : Int), mv_R 73, mv_R 71]) (st' := [mv_R 73]) (M1 := M) rfl ?_
  have ha36 : ¬ (so = -1) := by omega
  refine mv_callP (st2 := [mv_I 0]) rfl (Or.inl rfl) rfl rfl rfl (sp_isMiss_1_f (fun q => ha36 (hs1.symm.trans q))) (by first | decide | omega) ?_
  refine mv_go' 1 (pc' := if 0 = 0 then 35 else 43) (ls' := [mv_R 0, mv_I 1, mv_I (i : Int), mv_I 0, mv_I (j : Int), mv_I (n : Int), mv_R 73, mv_R 71]) (st' := []) (M1 := M) rfl ?_
  refine mv_tt' (by first | decide | omega) ?_
  refine mv_go' 1 (pc' := 37) (ls' := [mv_R 0, mv_I 1, mv_I (i : Int), mv_I 0, mv_I (j : Int), mv_I (n : Int), mv_R 73, mv_R 71]) (st' := [mv_R 71]) (M1 := M) rfl ?_
  have ha37 : ¬ (ro = -1) := by omega
  refine mv_callP (st2 := [mv_I 0]) rfl (Or.inl rfl) rfl rfl rfl (sp_isMiss_0_f (fun q => ha37 (ht1.symm.trans q))) (by first | decide | omega) ?_
  refine mv_go' 1 (pc' := if 0 = 0 then 46 else 43) (ls' := [mv_R 0, mv_I 1, mv_I (i : Int), mv_I 0, mv_I (j : Int), mv_I (n : Int), mv_R 73, mv_R 71]) (st' := []) (M1 := M) rfl ?_
  refine mv_tt' (by first | decide | omega) ?_
  refine mv_go' 2 (pc' := 51) (ls' := [mv_R 0, mv_I 1, mv_I (i : Int), mv_I 0, mv_I (j : Int), mv_I (n : Int), mv_R 73, mv_R 71]) (st' := [mv_I (M 73 1)]) (M1 := M) rfl ?_
  rw [show M 73 1 = so from by exact hs1]
  refine mv_go' 2 (pc' := 56) (ls' := [mv_R 0, mv_I 1, mv_I (i : Int), mv_I 0, mv_I (j : Int), mv_I (n : Int), mv_R 73, mv_R 71]) (st' := [mv_I (M 71 1), mv_I so]) (M1 := M) rfl ?_
  rw [show M 71 1 = ro from by exact ht1]
  refine mv_go' 1 (pc' := if so = ro then 62 else 59) (ls' := [mv_R 0, mv_I 1, mv_I (i : Int), mv_I 0, mv_I (j : Int), mv_I (n : Int), mv_R 73, mv_R 71]) (st' := []) (M1 := M) rfl ?_
  refine mv_tt' (by omega) ?_
  refine mv_go' 3 (pc' := 67) (ls' := [mv_R 0, mv_I 1, mv_I (i : Int), mv_I 0, mv_I (j : Int), mv_I (n : Int), mv_R 73, mv_R 71]) (st' := [mv_I (n : Int), mv_I (i : Int), mv_R 73]) (M1 := M) rfl ?_
  have ha38 : 0 ≤ (n : Int) ∧ (n : Int) ≤ sz ∧ 0 ≤ (i : Int) ∧ (i : Int) ≤ sz - (n : Int) := by omega
  refine mv_callP (st2 := [mv_I 1]) rfl (Or.inl rfl) rfl rfl rfl (sp_hasRun_1_t hz1 (by omega) (by omega) ha38) (by first | decide | omega) ?_
  refine mv_go' 1 (pc' := if 1 = 0 then 85 else 73) (ls' := [mv_R 0, mv_I 1, mv_I (i : Int), mv_I 0, mv_I (j : Int), mv_I (n : Int), mv_R 73, mv_R 71]) (st' := []) (M1 := M) rfl ?_
  refine mv_ff' (by first | decide | omega) ?_
  refine mv_go' 3 (pc' := 79) (ls' := [mv_R 0, mv_I 1, mv_I (i : Int), mv_I 0, mv_I (j : Int), mv_I (n : Int), mv_R 73, mv_R 71]) (st' := [mv_I (n : Int), mv_I (j : Int), mv_R 71]) (M1 := M) rfl ?_
  have ha39 : 0 ≤ (n : Int) ∧ (n : Int) ≤ rz ∧ 0 ≤ (j : Int) ∧ (j : Int) ≤ rz - (n : Int) := by omega
  refine mv_callP (st2 := [mv_I 1]) rfl (Or.inl rfl) rfl rfl rfl (sp_hasRun_0_t hr1 (by omega) (by omega) ha39) (by first | decide | omega) ?_
  refine mv_go' 1 (pc' := if 1 = 0 then 85 else 88) (ls' := [mv_R 0, mv_I 1, mv_I (i : Int), mv_I 0, mv_I (j : Int), mv_I (n : Int), mv_R 73, mv_R 71]) (st' := []) (M1 := M) rfl ?_
  refine mv_ff' (by first | decide | omega) ?_
  refine mv_go' 8 (pc' := if 0 ≤ (i : Int) ∧ 0 ≤ (j : Int) ∧ 0 ≤ (n : Int) ∧ (i : Int) + (n : Int) ≤ 40 ∧ (j : Int) + (n : Int) ≤ 40 then 106 else mv_bad) (ls' := [mv_R 0, mv_I 1, mv_I (i : Int), mv_I 0, mv_I (j : Int), mv_I (n : Int), mv_R 73, mv_R 71]) (st' := []) (M1 := (mv_st M 72 ((mv_cp (M 74) (M 72) i j n)))) rfl ?_
  refine mv_tt' (by omega) ?_
  refine mv_go' 1 (pc' := 108) (ls' := [mv_R 0, mv_I 1, mv_I (i : Int), mv_I 0, mv_I (j : Int), mv_I (n : Int), mv_R 73, mv_R 71]) (st' := [mv_I (n : Int)]) (M1 := (mv_st M 72 ((mv_cp (M 74) (M 72) i j n)))) rfl ?_
  exact mv_Ru.val (mv_ret (fun n => rfl) rfl) (congrArg mv_I (by first | with_reducible rfl | (unfold sp_cpr; repeat (first | omega | split))))
theorem sp_ccpb_1_0 {M : mv_M} {i j n : Int} {so sz ro rz : Int} (hs1 : M 73 1 = so) (hz1 : M 73 2 = sz) (ht1 : M 71 1 = ro) (hr1 : M 71 2 = rz) (z1 : 0 ≤ sz ∧ sz ≤ 40) (z2 : 0 ≤ rz ∧ rz ≤ 40) (hes : (1 : Nat) = 0 → so = ro ∧ sz = rz)
    (hg : ¬ sp_cpg so sz ro rz i j n) : mv_Ru 20 94 0 [mv_R 0, mv_I 1, mv_I i, mv_I 0, mv_I j, mv_I n, mv_U, mv_U] [] M (mv_I (sp_cpr so ro)) (fun M1 => M1 = M) := by
  skip
  have hg : ¬ ((so ≠ -1 ∧ ro ≠ -1 ∧ so = ro) ∧ (0 ≤ n ∧ n ≤ sz ∧ 0 ≤ i ∧ i ≤ sz - n) ∧ (n ≤ rz ∧ 0 ≤ j ∧ j ≤ rz - n)) := hg
  refine mv_go' 2 (pc' := 2) (ls' := [mv_R 0, mv_I 1, mv_I i, mv_I 0, mv_I j, mv_I n, mv_U, mv_U]) (st' := [mv_I 1, mv_R 0]) (M1 := M) rfl ?_
  refine mv_callP (st2 := [mv_R 73]) rfl (Or.inl rfl) rfl rfl rfl (sp_sheetAt_1) (by first | decide | omega) ?_
  refine mv_go' 3 (pc' := 9) (ls' := [mv_R 0, mv_I 1, mv_I i, mv_I 0, mv_I j, mv_I n, mv_R 73, mv_U]) (st' := [mv_I 0, mv_R 0]) (M1 := M) rfl ?_
  refine mv_callP (st2 := [mv_R 71]) rfl (Or.inl rfl) rfl rfl rfl (sp_sheetAt_0) (by first | decide | omega) ?_
  refine mv_go' 6 (pc' := 29) (ls' := [mv_R 0, mv_I 1, mv_I i, mv_I 0, mv_I j, mv_I n, mv_R 73, mv_R 71]) (st' := [mv_R 73]) (M1 := M) rfl ?_
  by_cases ha40 : so = -1
  · refine mv_callP (st2 := [mv_I 1]) rfl (Or.inl rfl) rfl rfl rfl (sp_isMiss_1_t (hs1.trans ha40)) (by first | decide | omega) ?_
    refine mv_go' 1 (pc' := if 1 = 0 then 35 else 43) (ls' := [mv_R 0, mv_I 1, mv_I i, mv_I 0, mv_I j, mv_I n, mv_R 73, mv_R 71]) (st' := []) (M1 := M) rfl ?_
    refine mv_ff' (by first | decide | omega) ?_
    refine mv_go' 1 (pc' := 45) (ls' := [mv_R 0, mv_I 1, mv_I i, mv_I 0, mv_I j, mv_I n, mv_R 73, mv_R 71]) (st' := [mv_I (-11)]) (M1 := M) rfl ?_
    exact mv_Ru.val (mv_ret (fun n => rfl) rfl) (congrArg mv_I (by first | with_reducible rfl | (unfold sp_cpr; repeat (first | omega | split))))
  · refine mv_callP (st2 := [mv_I 0]) rfl (Or.inl rfl) rfl rfl rfl (sp_isMiss_1_f (fun q => ha40 (hs1.symm.trans q))) (by first | decide | omega) ?_
    refine mv_go' 1 (pc' := if 0 = 0 then 35 else 43) (ls' := [mv_R 0, mv_I 1, mv_I i, mv_I 0, mv_I j, mv_I n, mv_R 73, mv_R 71]) (st' := []) (M1 := M) rfl ?_
    refine mv_tt' (by first | decide | omega) ?_
    refine mv_go' 1 (pc' := 37) (ls' := [mv_R 0, mv_I 1, mv_I i, mv_I 0, mv_I j, mv_I n, mv_R 73, mv_R 71]) (st' := [mv_R 71]) (M1 := M) rfl ?_
    by_cases ha41 : ro = -1
    · refine mv_callP (st2 := [mv_I 1]) rfl (Or.inl rfl) rfl rfl rfl (sp_isMiss_0_t (ht1.trans ha41)) (by first | decide | omega) ?_
      refine mv_go' 1 (pc' := if 1 = 0 then 46 else 43) (ls' := [mv_R 0, mv_I 1, mv_I i, mv_I 0, mv_I j, mv_I n, mv_R 73, mv_R 71]) (st' := []) (M1 := M) rfl ?_
      refine mv_ff' (by first | decide | omega) ?_
      refine mv_go' 1 (pc' := 45) (ls' := [mv_R 0, mv_I 1, mv_I i, mv_I 0, mv_I j, mv_I n, mv_R 73, mv_R 71]) (st' := [mv_I (-11)]) (M1 := M) rfl ?_
      exact mv_Ru.val (mv_ret (fun n => rfl) rfl) (congrArg mv_I (by first | with_reducible rfl | (unfold sp_cpr; repeat (first | omega | split))))
    · refine mv_callP (st2 := [mv_I 0]) rfl (Or.inl rfl) rfl rfl rfl (sp_isMiss_0_f (fun q => ha41 (ht1.symm.trans q))) (by first | decide | omega) ?_
      refine mv_go' 1 (pc' := if 0 = 0 then 46 else 43) (ls' := [mv_R 0, mv_I 1, mv_I i, mv_I 0, mv_I j, mv_I n, mv_R 73, mv_R 71]) (st' := []) (M1 := M) rfl ?_
      refine mv_tt' (by first | decide | omega) ?_
      refine mv_go' 2 (pc' := 51) (ls' := [mv_R 0, mv_I 1, mv_I i, mv_I 0, mv_I j, mv_I n, mv_R 73, mv_R 71]) (st' := [mv_I (M 73 1)]) (M1 := M) rfl ?_
      rw [show M 73 1 = so from by exact hs1]
      refine mv_go' 2 (pc' := 56) (ls' := [mv_R 0, mv_I 1, mv_I i, mv_I 0, mv_I j, mv_I n, mv_R 73, mv_R 71]) (st' := [mv_I (M 71 1), mv_I so]) (M1 := M) rfl ?_
      rw [show M 71 1 = ro from by exact ht1]
      refine mv_go' 1 (pc' := if so = ro then 62 else 59) (ls' := [mv_R 0, mv_I 1, mv_I i, mv_I 0, mv_I j, mv_I n, mv_R 73, mv_R 71]) (st' := []) (M1 := M) rfl ?_
      refine mv_sp' (fun ha42 => ?_) (fun ha42 => ?_)
      · refine mv_go' 3 (pc' := 67) (ls' := [mv_R 0, mv_I 1, mv_I i, mv_I 0, mv_I j, mv_I n, mv_R 73, mv_R 71]) (st' := [mv_I n, mv_I i, mv_R 73]) (M1 := M) rfl ?_
        by_cases ha43 : 0 ≤ n ∧ n ≤ sz ∧ 0 ≤ i ∧ i ≤ sz - n
        · refine mv_callP (st2 := [mv_I 1]) rfl (Or.inl rfl) rfl rfl rfl (sp_hasRun_1_t hz1 (by omega) (by omega) ha43) (by first | decide | omega) ?_
          refine mv_go' 1 (pc' := if 1 = 0 then 85 else 73) (ls' := [mv_R 0, mv_I 1, mv_I i, mv_I 0, mv_I j, mv_I n, mv_R 73, mv_R 71]) (st' := []) (M1 := M) rfl ?_
          refine mv_ff' (by first | decide | omega) ?_
          refine mv_go' 3 (pc' := 79) (ls' := [mv_R 0, mv_I 1, mv_I i, mv_I 0, mv_I j, mv_I n, mv_R 73, mv_R 71]) (st' := [mv_I n, mv_I j, mv_R 71]) (M1 := M) rfl ?_
          have ha44 : ¬ (0 ≤ n ∧ n ≤ rz ∧ 0 ≤ j ∧ j ≤ rz - n) := by omega
          refine mv_callP (st2 := [mv_I 0]) rfl (Or.inl rfl) rfl rfl rfl (sp_hasRun_0_f hr1 (by omega) (by omega) ha44) (by first | decide | omega) ?_
          refine mv_go' 1 (pc' := if 0 = 0 then 85 else 88) (ls' := [mv_R 0, mv_I 1, mv_I i, mv_I 0, mv_I j, mv_I n, mv_R 73, mv_R 71]) (st' := []) (M1 := M) rfl ?_
          refine mv_tt' (by first | decide | omega) ?_
          refine mv_go' 1 (pc' := 87) (ls' := [mv_R 0, mv_I 1, mv_I i, mv_I 0, mv_I j, mv_I n, mv_R 73, mv_R 71]) (st' := [mv_I (-12)]) (M1 := M) rfl ?_
          exact mv_Ru.val (mv_ret (fun n => rfl) rfl) (congrArg mv_I (by first | with_reducible rfl | (unfold sp_cpr; repeat (first | omega | split))))
        · refine mv_callP (st2 := [mv_I 0]) rfl (Or.inl rfl) rfl rfl rfl (sp_hasRun_1_f hz1 (by omega) (by omega) ha43) (by first | decide | omega) ?_
          refine mv_go' 1 (pc' := if 0 = 0 then 85 else 73) (ls' := [mv_R 0, mv_I 1, mv_I i, mv_I 0, mv_I j, mv_I n, mv_R 73, mv_R 71]) (st' := []) (M1 := M) rfl ?_
          refine mv_tt' (by first | decide | omega) ?_
          refine mv_go' 1 (pc' := 87) (ls' := [mv_R 0, mv_I 1, mv_I i, mv_I 0, mv_I j, mv_I n, mv_R 73, mv_R 71]) (st' := [mv_I (-12)]) (M1 := M) rfl ?_
          exact mv_Ru.val (mv_ret (fun n => rfl) rfl) (congrArg mv_I (by first | with_reducible rfl | (unfold sp_cpr; repeat (first | omega | split))))
      · refine mv_go' 1 (pc' := 61) (ls' := [mv_R 0, mv_I 1, mv_I i, mv_I 0, mv_I j, mv_I n, mv_R 73, mv_R 71]) (st' := [mv_I (-13)]) (M1 := M) rfl ?_
        exact mv_Ru.val (mv_ret (fun n => rfl) rfl) (congrArg mv_I (by first | with_reducible rfl | (unfold sp_cpr; repeat (first | omega | split))))
theorem sp_ccpg_1_1 {M : mv_M} {i j n : Nat} {so sz ro rz : Int} (hs1 : M 73 1 = so) (hz1 : M 73 2 = sz) (ht1 : M 73 1 = ro) (hr1 : M 73 2 = rz) (z1 : 0 ≤ sz ∧ sz ≤ 40) (z2 : 0 ≤ rz ∧ rz ≤ 40) (hes : (1 : Nat) = 1 → so = ro ∧ sz = rz)
    (hg : sp_cpg so sz ro rz i j n) : mv_Ru 20 94 0 [mv_R 0, mv_I 1, mv_I (i : Int), mv_I 1, mv_I (j : Int), mv_I (n : Int), mv_U, mv_U] [] M (mv_I (n : Int)) (fun M1 => M1 = mv_st M 74 (mv_cp (M 74) (M 74) i j n)) := by
  obtain ⟨⟨g1, g2, g3⟩, g4, g5⟩ := hg
  obtain ⟨hes1, hes2⟩ := hes rfl
  refine mv_go' 2 (pc' := 2) (ls' := [mv_R 0, mv_I 1, mv_I (i : Int), mv_I 1, mv_I (j : Int), mv_I (n : Int), mv_U, mv_U]) (st' := [mv_I 1, mv_R 0]) (M1 := M) rfl ?_
  refine mv_callP (st2 := [mv_R 73]) rfl (Or.inl rfl) rfl rfl rfl (sp_sheetAt_1) (by first | decide | omega) ?_
  refine mv_go' 3 (pc' := 9) (ls' := [mv_R 0, mv_I 1, mv_I (i : Int), mv_I 1, mv_I (j : Int), mv_I (n : Int), mv_R 73, mv_U]) (st' := [mv_I 1, mv_R 0]) (M1 := M) rfl ?_
  refine mv_callP (st2 := [mv_R 73]) rfl (Or.inl rfl) rfl rfl rfl (sp_sheetAt_1) (by first | decide | omega) ?_
  refine mv_go' 6 (pc' := 29) (ls' := [mv_R 0, mv_I 1, mv_I (i : Int), mv_I 1, mv_I (j : Int), mv_I (n : Int), mv_R 73, mv_R 73]) (st' := [mv_R 73]) (M1 := M) rfl ?_
  have ha45 : ¬ (ro = -1) := by omega
  refine mv_callP (st2 := [mv_I 0]) rfl (Or.inl rfl) rfl rfl rfl (sp_isMiss_1_f (fun q => ha45 (ht1.symm.trans q))) (by first | decide | omega) ?_
  refine mv_go' 1 (pc' := if 0 = 0 then 35 else 43) (ls' := [mv_R 0, mv_I 1, mv_I (i : Int), mv_I 1, mv_I (j : Int), mv_I (n : Int), mv_R 73, mv_R 73]) (st' := []) (M1 := M) rfl ?_
  refine mv_tt' (by first | decide | omega) ?_
  refine mv_go' 1 (pc' := 37) (ls' := [mv_R 0, mv_I 1, mv_I (i : Int), mv_I 1, mv_I (j : Int), mv_I (n : Int), mv_R 73, mv_R 73]) (st' := [mv_R 73]) (M1 := M) rfl ?_
  have ha46 : ¬ (ro = -1) := by omega
  refine mv_callP (st2 := [mv_I 0]) rfl (Or.inl rfl) rfl rfl rfl (sp_isMiss_1_f (fun q => ha46 (ht1.symm.trans q))) (by first | decide | omega) ?_
  refine mv_go' 1 (pc' := if 0 = 0 then 46 else 43) (ls' := [mv_R 0, mv_I 1, mv_I (i : Int), mv_I 1, mv_I (j : Int), mv_I (n : Int), mv_R 73, mv_R 73]) (st' := []) (M1 := M) rfl ?_
  refine mv_tt' (by first | decide | omega) ?_
  refine mv_go' 2 (pc' := 51) (ls' := [mv_R 0, mv_I 1, mv_I (i : Int), mv_I 1, mv_I (j : Int), mv_I (n : Int), mv_R 73, mv_R 73]) (st' := [mv_I (M 73 1)]) (M1 := M) rfl ?_
  rw [show M 73 1 = ro from by exact ht1]
  refine mv_go' 2 (pc' := 56) (ls' := [mv_R 0, mv_I 1, mv_I (i : Int), mv_I 1, mv_I (j : Int), mv_I (n : Int), mv_R 73, mv_R 73]) (st' := [mv_I (M 73 1), mv_I ro]) (M1 := M) rfl ?_
  rw [show M 73 1 = ro from by exact ht1]
  refine mv_go' 1 (pc' := if ro = ro then 62 else 59) (ls' := [mv_R 0, mv_I 1, mv_I (i : Int), mv_I 1, mv_I (j : Int), mv_I (n : Int), mv_R 73, mv_R 73]) (st' := []) (M1 := M) rfl ?_
  refine mv_tt' (by first | decide | omega) ?_
  refine mv_go' 3 (pc' := 67) (ls' := [mv_R 0, mv_I 1, mv_I (i : Int), mv_I 1, mv_I (j : Int), mv_I (n : Int), mv_R 73, mv_R 73]) (st' := [mv_I (n : Int), mv_I (i : Int), mv_R 73]) (M1 := M) rfl ?_
  have ha47 : 0 ≤ (n : Int) ∧ (n : Int) ≤ rz ∧ 0 ≤ (i : Int) ∧ (i : Int) ≤ rz - (n : Int) := by omega
  refine mv_callP (st2 := [mv_I 1]) rfl (Or.inl rfl) rfl rfl rfl (sp_hasRun_1_t hr1 (by omega) (by omega) ha47) (by first | decide | omega) ?_
  refine mv_go' 1 (pc' := if 1 = 0 then 85 else 73) (ls' := [mv_R 0, mv_I 1, mv_I (i : Int), mv_I 1, mv_I (j : Int), mv_I (n : Int), mv_R 73, mv_R 73]) (st' := []) (M1 := M) rfl ?_
  refine mv_ff' (by first | decide | omega) ?_
  refine mv_go' 3 (pc' := 79) (ls' := [mv_R 0, mv_I 1, mv_I (i : Int), mv_I 1, mv_I (j : Int), mv_I (n : Int), mv_R 73, mv_R 73]) (st' := [mv_I (n : Int), mv_I (j : Int), mv_R 73]) (M1 := M) rfl ?_
  have ha48 : 0 ≤ (n : Int) ∧ (n : Int) ≤ rz ∧ 0 ≤ (j : Int) ∧ (j : Int) ≤ rz - (n : Int) := by omega
  refine mv_callP (st2 := [mv_I 1]) rfl (Or.inl rfl) rfl rfl rfl (sp_hasRun_1_t hr1 (by omega) (by omega) ha48) (by first | decide | omega) ?_
  refine mv_go' 1 (pc' := if 1 = 0 then 85 else 88) (ls' := [mv_R 0, mv_I 1, mv_I (i : Int), mv_I 1, mv_I (j : Int), mv_I (n : Int), mv_R 73, mv_R 73]) (st' := []) (M1 := M) rfl ?_
  refine mv_ff' (by first | decide | omega) ?_
  refine mv_go' 8 (pc' := if 0 ≤ (i : Int) ∧ 0 ≤ (j : Int) ∧ 0 ≤ (n : Int) ∧ (i : Int) + (n : Int) ≤ 40 ∧ (j : Int) + (n : Int) ≤ 40 then 106 else mv_bad) (ls' := [mv_R 0, mv_I 1, mv_I (i : Int), mv_I 1, mv_I (j : Int), mv_I (n : Int), mv_R 73, mv_R 73]) (st' := []) (M1 := (mv_st M 74 ((mv_cp (M 74) (M 74) i j n)))) rfl ?_
  refine mv_tt' (by omega) ?_
  refine mv_go' 1 (pc' := 108) (ls' := [mv_R 0, mv_I 1, mv_I (i : Int), mv_I 1, mv_I (j : Int), mv_I (n : Int), mv_R 73, mv_R 73]) (st' := [mv_I (n : Int)]) (M1 := (mv_st M 74 ((mv_cp (M 74) (M 74) i j n)))) rfl ?_
  exact mv_Ru.val (mv_ret (fun n => rfl) rfl) (congrArg mv_I (by first | with_reducible rfl | (unfold sp_cpr; repeat (first | omega | split))))
theorem sp_ccpb_1_1 {M : mv_M} {i j n : Int} {so sz ro rz : Int} (hs1 : M 73 1 = so) (hz1 : M 73 2 = sz) (ht1 : M 73 1 = ro) (hr1 : M 73 2 = rz) (z1 : 0 ≤ sz ∧ sz ≤ 40) (z2 : 0 ≤ rz ∧ rz ≤ 40) (hes : (1 : Nat) = 1 → so = ro ∧ sz = rz)
    (hg : ¬ sp_cpg so sz ro rz i j n) : mv_Ru 20 94 0 [mv_R 0, mv_I 1, mv_I i, mv_I 1, mv_I j, mv_I n, mv_U, mv_U] [] M (mv_I (sp_cpr so ro)) (fun M1 => M1 = M) := by
  obtain ⟨hes1, hes2⟩ := hes rfl
  have hg : ¬ ((so ≠ -1 ∧ ro ≠ -1 ∧ so = ro) ∧ (0 ≤ n ∧ n ≤ sz ∧ 0 ≤ i ∧ i ≤ sz - n) ∧ (n ≤ rz ∧ 0 ≤ j ∧ j ≤ rz - n)) := hg
  refine mv_go' 2 (pc' := 2) (ls' := [mv_R 0, mv_I 1, mv_I i, mv_I 1, mv_I j, mv_I n, mv_U, mv_U]) (st' := [mv_I 1, mv_R 0]) (M1 := M) rfl ?_
  refine mv_callP (st2 := [mv_R 73]) rfl (Or.inl rfl) rfl rfl rfl (sp_sheetAt_1) (by first | decide | omega) ?_
  refine mv_go' 3 (pc' := 9) (ls' := [mv_R 0, mv_I 1, mv_I i, mv_I 1, mv_I j, mv_I n, mv_R 73, mv_U]) (st' := [mv_I 1, mv_R 0]) (M1 := M) rfl ?_
  refine mv_callP (st2 := [mv_R 73]) rfl (Or.inl rfl) rfl rfl rfl (sp_sheetAt_1) (by first | decide | omega) ?_
  refine mv_go' 6 (pc' := 29) (ls' := [mv_R 0, mv_I 1, mv_I i, mv_I 1, mv_I j, mv_I n, mv_R 73, mv_R 73]) (st' := [mv_R 73]) (M1 := M) rfl ?_
  by_cases ha49 : ro = -1
  · refine mv_callP (st2 := [mv_I 1]) rfl (Or.inl rfl) rfl rfl rfl (sp_isMiss_1_t (ht1.trans ha49)) (by first | decide | omega) ?_
    refine mv_go' 1 (pc' := if 1 = 0 then 35 else 43) (ls' := [mv_R 0, mv_I 1, mv_I i, mv_I 1, mv_I j, mv_I n, mv_R 73, mv_R 73]) (st' := []) (M1 := M) rfl ?_
    refine mv_ff' (by first | decide | omega) ?_
    refine mv_go' 1 (pc' := 45) (ls' := [mv_R 0, mv_I 1, mv_I i, mv_I 1, mv_I j, mv_I n, mv_R 73, mv_R 73]) (st' := [mv_I (-11)]) (M1 := M) rfl ?_
    exact mv_Ru.val (mv_ret (fun n => rfl) rfl) (congrArg mv_I (by first | with_reducible rfl | (unfold sp_cpr; repeat (first | omega | split))))
  · refine mv_callP (st2 := [mv_I 0]) rfl (Or.inl rfl) rfl rfl rfl (sp_isMiss_1_f (fun q => ha49 (ht1.symm.trans q))) (by first | decide | omega) ?_
    refine mv_go' 1 (pc' := if 0 = 0 then 35 else 43) (ls' := [mv_R 0, mv_I 1, mv_I i, mv_I 1, mv_I j, mv_I n, mv_R 73, mv_R 73]) (st' := []) (M1 := M) rfl ?_
    refine mv_tt' (by first | decide | omega) ?_
    refine mv_go' 1 (pc' := 37) (ls' := [mv_R 0, mv_I 1, mv_I i, mv_I 1, mv_I j, mv_I n, mv_R 73, mv_R 73]) (st' := [mv_R 73]) (M1 := M) rfl ?_
    have ha50 : ¬ (ro = -1) := by omega
    refine mv_callP (st2 := [mv_I 0]) rfl (Or.inl rfl) rfl rfl rfl (sp_isMiss_1_f (fun q => ha50 (ht1.symm.trans q))) (by first | decide | omega) ?_
    refine mv_go' 1 (pc' := if 0 = 0 then 46 else 43) (ls' := [mv_R 0, mv_I 1, mv_I i, mv_I 1, mv_I j, mv_I n, mv_R 73, mv_R 73]) (st' := []) (M1 := M) rfl ?_
    refine mv_tt' (by first | decide | omega) ?_
    refine mv_go' 2 (pc' := 51) (ls' := [mv_R 0, mv_I 1, mv_I i, mv_I 1, mv_I j, mv_I n, mv_R 73, mv_R 73]) (st' := [mv_I (M 73 1)]) (M1 := M) rfl ?_
    rw [show M 73 1 = ro from by exact ht1]
    refine mv_go' 2 (pc' := 56) (ls' := [mv_R 0, mv_I 1, mv_I i, mv_I 1, mv_I j, mv_I n, mv_R 73, mv_R 73]) (st' := [mv_I (M 73 1), mv_I ro]) (M1 := M) rfl ?_
    rw [show M 73 1 = ro from by exact ht1]
    refine mv_go' 1 (pc' := if ro = ro then 62 else 59) (ls' := [mv_R 0, mv_I 1, mv_I i, mv_I 1, mv_I j, mv_I n, mv_R 73, mv_R 73]) (st' := []) (M1 := M) rfl ?_
    refine mv_tt' (by first | decide | omega) ?_
    refine mv_go' 3 (pc' := 67) (ls' := [mv_R 0, mv_I 1, mv_I i, mv_I 1, mv_I j, mv_I n, mv_R 73, mv_R 73]) (st' := [mv_I n, mv_I i, mv_R 73]) (M1 := M) rfl ?_
    by_cases ha51 : 0 ≤ n ∧ n ≤ rz ∧ 0 ≤ i ∧ i ≤ rz - n
    · refine mv_callP (st2 := [mv_I 1]) rfl (Or.inl rfl) rfl rfl rfl (sp_hasRun_1_t hr1 (by omega) (by omega) ha51) (by first | decide | omega) ?_
      refine mv_go' 1 (pc' := if 1 = 0 then 85 else 73) (ls' := [mv_R 0, mv_I 1, mv_I i, mv_I 1, mv_I j, mv_I n, mv_R 73, mv_R 73]) (st' := []) (M1 := M) rfl ?_
      refine mv_ff' (by first | decide | omega) ?_
      refine mv_go' 3 (pc' := 79) (ls' := [mv_R 0, mv_I 1, mv_I i, mv_I 1, mv_I j, mv_I n, mv_R 73, mv_R 73]) (st' := [mv_I n, mv_I j, mv_R 73]) (M1 := M) rfl ?_
      have ha52 : ¬ (0 ≤ n ∧ n ≤ rz ∧ 0 ≤ j ∧ j ≤ rz - n) := by omega
      refine mv_callP (st2 := [mv_I 0]) rfl (Or.inl rfl) rfl rfl rfl (sp_hasRun_1_f hr1 (by omega) (by omega) ha52) (by first | decide | omega) ?_
      refine mv_go' 1 (pc' := if 0 = 0 then 85 else 88) (ls' := [mv_R 0, mv_I 1, mv_I i, mv_I 1, mv_I j, mv_I n, mv_R 73, mv_R 73]) (st' := []) (M1 := M) rfl ?_
      refine mv_tt' (by first | decide | omega) ?_
      refine mv_go' 1 (pc' := 87) (ls' := [mv_R 0, mv_I 1, mv_I i, mv_I 1, mv_I j, mv_I n, mv_R 73, mv_R 73]) (st' := [mv_I (-12)]) (M1 := M) rfl ?_
      exact mv_Ru.val (mv_ret (fun n => rfl) rfl) (congrArg mv_I (by first | with_reducible rfl | (unfold sp_cpr; repeat (first | omega | split))))
    · refine mv_callP (st2 := [mv_I 0]) rfl (Or.inl rfl) rfl rfl rfl (sp_hasRun_1_f hr1 (by omega) (by omega) ha51) (by first | decide | omega) ?_
      refine mv_go' 1 (pc' := if 0 = 0 then 85 else 73) (ls' := [mv_R 0, mv_I 1, mv_I i, mv_I 1, mv_I j, mv_I n, mv_R 73, mv_R 73]) (st' := []) (M1 := M) rfl ?_
      refine mv_tt' (by first | decide | omega) ?_
      refine mv_go' 1 (pc' := 87) (ls' := [mv_R 0, mv_I 1, mv_I i, mv_I 1, mv_I j, mv_I n, mv_R 73, mv_R 73]) (st' := [mv_I (-12)]) (M1 := M) rfl ?_
      exact mv_Ru.val (mv_ret (fun n => rfl) rfl) (congrArg mv_I (by first | with_reducible rfl | (unfold sp_cpr; repeat (first | omega | split))))
theorem sp_ccpg_1_2 {M : mv_M} {i j n : Nat} {so sz ro rz : Int} (hs1 : M 73 1 = so) (hz1 : M 73 2 = sz) (ht1 : M 75 1 = ro) (hr1 : M 75 2 = rz) (z1 : 0 ≤ sz ∧ sz ≤ 40) (z2 : 0 ≤ rz ∧ rz ≤ 40) (hes : (1 : Nat) = 2 → so = ro ∧ sz = rz)
    (hg : sp_cpg so sz ro rz i j n) : mv_Ru 20 94 0 [mv_R 0, mv_I 1, mv_I (i : Int), mv_I 2, mv_I (j : Int), mv_I (n : Int), mv_U, mv_U] [] M (mv_I (n : Int)) (fun M1 => M1 = mv_st M 76 (mv_cp (M 74) (M 76) i j n)) := by
  obtain ⟨⟨g1, g2, g3⟩, g4, g5⟩ := hg
  skip
  refine mv_go' 2 (pc' := 2) (ls' := [mv_R 0, mv_I 1, mv_I (i : Int), mv_I 2, mv_I (j : Int), mv_I (n : Int), mv_U, mv_U]) (st' := [mv_I 1, mv_R 0]) (M1 := M) rfl ?_
  refine mv_callP (st2 := [mv_R 73]) rfl (Or.inl rfl) rfl rfl rfl (sp_sheetAt_1) (by first | decide | omega) ?_
  refine mv_go' 3 (pc' := 9) (ls' := [mv_R 0, mv_I 1, mv_I (i : Int), mv_I 2, mv_I (j : Int), mv_I (n : Int), mv_R 73, mv_U]) (st' := [mv_I 2, mv_R 0]) (M1 := M) rfl ?_
  refine mv_callP (st2 := [mv_R 75]) rfl (Or.inl rfl) rfl rfl rfl (sp_sheetAt_2) (by first | decide | omega) ?_
  refine mv_go' 6 (pc' := 29) (ls' := [mv_R 0, mv_I 1, mv_I (i : Int), mv_I 2, mv_I (j : Int), mv_I (n : Int), mv_R 73, mv_R 75]) (st' := [mv_R 73]) (M1 := M) rfl ?_
  have ha53 : ¬ (so = -1) := by omega
  refine mv_callP (st2 := [mv_I 0]) rfl (Or.inl rfl) rfl rfl rfl (sp_isMiss_1_f (fun q => ha53 (hs1.symm.trans q))) (by first | decide | omega) ?_
  refine mv_go' 1 (pc' := if 0 = 0 then 35 else 43) (ls' := [mv_R 0, mv_I 1, mv_I (i : Int), mv_I 2, mv_I (j : Int), mv_I (n : Int), mv_R 73, mv_R 75]) (st' := []) (M1 := M) rfl ?_
  refine mv_tt' (by first | decide | omega) ?_
  refine mv_go' 1 (pc' := 37) (ls' := [mv_R 0, mv_I 1, mv_I (i : Int), mv_I 2, mv_I (j : Int), mv_I (n : Int), mv_R 73, mv_R 75]) (st' := [mv_R 75]) (M1 := M) rfl ?_
  have ha54 : ¬ (ro = -1) := by omega
  refine mv_callP (st2 := [mv_I 0]) rfl (Or.inl rfl) rfl rfl rfl (sp_isMiss_2_f (fun q => ha54 (ht1.symm.trans q))) (by first | decide | omega) ?_
  refine mv_go' 1 (pc' := if 0 = 0 then 46 else 43) (ls' := [mv_R 0, mv_I 1, mv_I (i : Int), mv_I 2, mv_I (j : Int), mv_I (n : Int), mv_R 73, mv_R 75]) (st' := []) (M1 := M) rfl ?_
  refine mv_tt' (by first | decide | omega) ?_
  refine mv_go' 2 (pc' := 51) (ls' := [mv_R 0, mv_I 1, mv_I (i : Int), mv_I 2, mv_I (j : Int), mv_I (n : Int), mv_R 73, mv_R 75]) (st' := [mv_I (M 73 1)]) (M1 := M) rfl ?_
  rw [show M 73 1 = so from by exact hs1]
  refine mv_go' 2 (pc' := 56) (ls' := [mv_R 0, mv_I 1, mv_I (i : Int), mv_I 2, mv_I (j : Int), mv_I (n : Int), mv_R 73, mv_R 75]) (st' := [mv_I (M 75 1), mv_I so]) (M1 := M) rfl ?_
  rw [show M 75 1 = ro from by exact ht1]
  refine mv_go' 1 (pc' := if so = ro then 62 else 59) (ls' := [mv_R 0, mv_I 1, mv_I (i : Int), mv_I 2, mv_I (j : Int), mv_I (n : Int), mv_R 73, mv_R 75]) (st' := []) (M1 := M) rfl ?_
  refine mv_tt' (by omega) ?_
  refine mv_go' 3 (pc' := 67) (ls' := [mv_R 0, mv_I 1, mv_I (i : Int), mv_I 2, mv_I (j : Int), mv_I (n : Int), mv_R 73, mv_R 75]) (st' := [mv_I (n : Int), mv_I (i : Int), mv_R 73]) (M1 := M) rfl ?_
  have ha55 : 0 ≤ (n : Int) ∧ (n : Int) ≤ sz ∧ 0 ≤ (i : Int) ∧ (i : Int) ≤ sz - (n : Int) := by omega
  refine mv_callP (st2 := [mv_I 1]) rfl (Or.inl rfl) rfl rfl rfl (sp_hasRun_1_t hz1 (by omega) (by omega) ha55) (by first | decide | omega) ?_
  refine mv_go' 1 (pc' := if 1 = 0 then 85 else 73) (ls' := [mv_R 0, mv_I 1, mv_I (i : Int), mv_I 2, mv_I (j : Int), mv_I (n : Int), mv_R 73, mv_R 75]) (st' := []) (M1 := M) rfl ?_
  refine mv_ff' (by first | decide | omega) ?_
  refine mv_go' 3 (pc' := 79) (ls' := [mv_R 0, mv_I 1, mv_I (i : Int), mv_I 2, mv_I (j : Int), mv_I (n : Int), mv_R 73, mv_R 75]) (st' := [mv_I (n : Int), mv_I (j : Int), mv_R 75]) (M1 := M) rfl ?_
  have ha56 : 0 ≤ (n : Int) ∧ (n : Int) ≤ rz ∧ 0 ≤ (j : Int) ∧ (j : Int) ≤ rz - (n : Int) := by omega
  refine mv_callP (st2 := [mv_I 1]) rfl (Or.inl rfl) rfl rfl rfl (sp_hasRun_2_t hr1 (by omega) (by omega) ha56) (by first | decide | omega) ?_
  refine mv_go' 1 (pc' := if 1 = 0 then 85 else 88) (ls' := [mv_R 0, mv_I 1, mv_I (i : Int), mv_I 2, mv_I (j : Int), mv_I (n : Int), mv_R 73, mv_R 75]) (st' := []) (M1 := M) rfl ?_
  refine mv_ff' (by first | decide | omega) ?_
  refine mv_go' 8 (pc' := if 0 ≤ (i : Int) ∧ 0 ≤ (j : Int) ∧ 0 ≤ (n : Int) ∧ (i : Int) + (n : Int) ≤ 40 ∧ (j : Int) + (n : Int) ≤ 40 then 106 else mv_bad) (ls' := [mv_R 0, mv_I 1, mv_I (i : Int), mv_I 2, mv_I (j : Int), mv_I (n : Int), mv_R 73, mv_R 75]) (st' := []) (M1 := (mv_st M 76 ((mv_cp (M 74) (M 76) i j n)))) rfl ?_
  refine mv_tt' (by omega) ?_
  refine mv_go' 1 (pc' := 108) (ls' := [mv_R 0, mv_I 1, mv_I (i : Int), mv_I 2, mv_I (j : Int), mv_I (n : Int), mv_R 73, mv_R 75]) (st' := [mv_I (n : Int)]) (M1 := (mv_st M 76 ((mv_cp (M 74) (M 76) i j n)))) rfl ?_
  exact mv_Ru.val (mv_ret (fun n => rfl) rfl) (congrArg mv_I (by first | with_reducible rfl | (unfold sp_cpr; repeat (first | omega | split))))
theorem sp_ccpb_1_2 {M : mv_M} {i j n : Int} {so sz ro rz : Int} (hs1 : M 73 1 = so) (hz1 : M 73 2 = sz) (ht1 : M 75 1 = ro) (hr1 : M 75 2 = rz) (z1 : 0 ≤ sz ∧ sz ≤ 40) (z2 : 0 ≤ rz ∧ rz ≤ 40) (hes : (1 : Nat) = 2 → so = ro ∧ sz = rz)
    (hg : ¬ sp_cpg so sz ro rz i j n) : mv_Ru 20 94 0 [mv_R 0, mv_I 1, mv_I i, mv_I 2, mv_I j, mv_I n, mv_U, mv_U] [] M (mv_I (sp_cpr so ro)) (fun M1 => M1 = M) := by
  skip
  have hg : ¬ ((so ≠ -1 ∧ ro ≠ -1 ∧ so = ro) ∧ (0 ≤ n ∧ n ≤ sz ∧ 0 ≤ i ∧ i ≤ sz - n) ∧ (n ≤ rz ∧ 0 ≤ j ∧ j ≤ rz - n)) := hg
  refine mv_go' 2 (pc' := 2) (ls' := [mv_R 0, mv_I 1, mv_I i, mv_I 2, mv_I j, mv_I n, mv_U, mv_U]) (st' := [mv_I 1, mv_R 0]) (M1 := M) rfl ?_
  refine mv_callP (st2 := [mv_R 73]) rfl (Or.inl rfl) rfl rfl rfl (sp_sheetAt_1) (by first | decide | omega) ?_
  refine mv_go' 3 (pc' := 9) (ls' := [mv_R 0, mv_I 1, mv_I i, mv_I 2, mv_I j, mv_I n, mv_R 73, mv_U]) (st' := [mv_I 2, mv_R 0]) (M1 := M) rfl ?_
  refine mv_callP (st2 := [mv_R 75]) rfl (Or.inl rfl) rfl rfl rfl (sp_sheetAt_2) (by first | decide | omega) ?_
  refine mv_go' 6 (pc' := 29) (ls' := [mv_R 0, mv_I 1, mv_I i, mv_I 2, mv_I j, mv_I n, mv_R 73, mv_R 75]) (st' := [mv_R 73]) (M1 := M) rfl ?_
  by_cases ha57 : so = -1
  · refine mv_callP (st2 := [mv_I 1]) rfl (Or.inl rfl) rfl rfl rfl (sp_isMiss_1_t (hs1.trans ha57)) (by first | decide | omega) ?_
    refine mv_go' 1 (pc' := if 1 = 0 then 35 else 43) (ls' := [mv_R 0, mv_I 1, mv_I i, mv_I 2, mv_I j, mv_I n, mv_R 73, mv_R 75]) (st' := []) (M1 := M) rfl ?_
    refine mv_ff' (by first | decide | omega) ?_
    refine mv_go' 1 (pc' := 45) (ls' := [mv_R 0, mv_I 1, mv_I i, mv_I 2, mv_I j, mv_I n, mv_R 73, mv_R 75]) (st' := [mv_I (-11)]) (M1 := M) rfl ?_
    exact mv_Ru.val (mv_ret (fun n => rfl) rfl) (congrArg mv_I (by first | with_reducible rfl | (unfold sp_cpr; repeat (first | omega | split))))
  · refine mv_callP (st2 := [mv_I 0]) rfl (Or.inl rfl) rfl rfl rfl (sp_isMiss_1_f (fun q => ha57 (hs1.symm.trans q))) (by first | decide | omega) ?_
    refine mv_go' 1 (pc' := if 0 = 0 then 35 else 43) (ls' := [mv_R 0, mv_I 1, mv_I i, mv_I 2, mv_I j, mv_I n, mv_R 73, mv_R 75]) (st' := []) (M1 := M) rfl ?_
    refine mv_tt' (by first | decide | omega) ?_
    refine mv_go' 1 (pc' := 37) (ls' := [mv_R 0, mv_I 1, mv_I i, mv_I 2, mv_I j, mv_I n, mv_R 73, mv_R 75]) (st' := [mv_R 75]) (M1 := M) rfl ?_
    by_cases ha58 : ro = -1
    · refine mv_callP (st2 := [mv_I 1]) rfl (Or.inl rfl) rfl rfl rfl (sp_isMiss_2_t (ht1.trans ha58)) (by first | decide | omega) ?_
      refine mv_go' 1 (pc' := if 1 = 0 then 46 else 43) (ls' := [mv_R 0, mv_I 1, mv_I i, mv_I 2, mv_I j, mv_I n, mv_R 73, mv_R 75]) (st' := []) (M1 := M) rfl ?_
      refine mv_ff' (by first | decide | omega) ?_
      refine mv_go' 1 (pc' := 45) (ls' := [mv_R 0, mv_I 1, mv_I i, mv_I 2, mv_I j, mv_I n, mv_R 73, mv_R 75]) (st' := [mv_I (-11)]) (M1 := M) rfl ?_
      exact mv_Ru.val (mv_ret (fun n => rfl) rfl) (congrArg mv_I (by first | with_reducible rfl | (unfold sp_cpr; repeat (first | omega | split))))
    · refine mv_callP (st2 := [mv_I 0]) rfl (Or.inl rfl) rfl rfl rfl (sp_isMiss_2_f (fun q => ha58 (ht1.symm.trans q))) (by first | decide | omega) ?_
      refine mv_go' 1 (pc' := if 0 = 0 then 46 else 43) (ls' := [mv_R 0, mv_I 1, mv_I i, mv_I 2, mv_I j, mv_I n, mv_R 73, mv_R 75]) (st' := []) (M1 := M) rfl ?_
      refine mv_tt' (by first | decide | omega) ?_
      refine mv_go' 2 (pc' := 51) (ls' := [mv_R 0, mv_I 1, mv_I i, mv_I 2, mv_I j, mv_I n, mv_R 73, mv_R 75]) (st' := [mv_I (M 73 1)]) (M1 := M) rfl ?_
      rw [show M 73 1 = so from by exact hs1]
      refine mv_go' 2 (pc' := 56) (ls' := [mv_R 0, mv_I 1, mv_I i, mv_I 2, mv_I j, mv_I n, mv_R 73, mv_R 75]) (st' := [mv_I (M 75 1), mv_I so]) (M1 := M) rfl ?_
      rw [show M 75 1 = ro from by exact ht1]
      refine mv_go' 1 (pc' := if so = ro then 62 else 59) (ls' := [mv_R 0, mv_I 1, mv_I i, mv_I 2, mv_I j, mv_I n, mv_R 73, mv_R 75]) (st' := []) (M1 := M) rfl ?_
      refine mv_sp' (fun ha59 => ?_) (fun ha59 => ?_)
      · refine mv_go' 3 (pc' := 67) (ls' := [mv_R 0, mv_I 1, mv_I i, mv_I 2, mv_I j, mv_I n, mv_R 73, mv_R 75]) (st' := [mv_I n, mv_I i, mv_R 73]) (M1 := M) rfl ?_
        by_cases ha60 : 0 ≤ n ∧ n ≤ sz ∧ 0 ≤ i ∧ i ≤ sz - n
        · refine mv_callP (st2 := [mv_I 1]) rfl (Or.inl rfl) rfl rfl rfl (sp_hasRun_1_t hz1 (by omega) (by omega) ha60) (by first | decide | omega) ?_
          refine mv_go' 1 (pc' := if 1 = 0 then 85 else 73) (ls' := [mv_R 0, mv_I 1, mv_I i, mv_I 2, mv_I j, mv_I n, mv_R 73, mv_R 75]) (st' := []) (M1 := M) rfl ?_
          refine mv_ff' (by first | decide | omega) ?_
          refine mv_go' 3 (pc' := 79) (ls' := [mv_R 0, mv_I 1, mv_I i, mv_I 2, mv_I j, mv_I n, mv_R 73, mv_R 75]) (st' := [mv_I n, mv_I j, mv_R 75]) (M1 := M) rfl ?_
          have ha61 : ¬ (0 ≤ n ∧ n ≤ rz ∧ 0 ≤ j ∧ j ≤ rz - n) := by omega
          refine mv_callP (st2 := [mv_I 0]) rfl (Or.inl rfl) rfl rfl rfl (sp_hasRun_2_f hr1 (by omega) (by omega) ha61) (by first | decide | omega) ?_
          refine mv_go' 1 (pc' := if 0 = 0 then 85 else 88) (ls' := [mv_R 0, mv_I 1, mv_I i, mv_I 2, mv_I j, mv_I n, mv_R 73, mv_R 75]) (st' := []) (M1 := M) rfl ?_
          refine mv_tt' (by first | decide | omega) ?_
          refine mv_go' 1 (pc' := 87) (ls' := [mv_R 0, mv_I 1, mv_I i, mv_I 2, mv_I j, mv_I n, mv_R 73, mv_R 75]) (st' := [mv_I (-12)]) (M1 := M) rfl ?_
          exact mv_Ru.val (mv_ret (fun n => rfl) rfl) (congrArg mv_I (by first | with_reducible rfl | (unfold sp_cpr; repeat (first | omega | split))))
        · refine mv_callP (st2 := [mv_I 0]) rfl (Or.inl rfl) rfl rfl rfl (sp_hasRun_1_f hz1 (by omega) (by omega) ha60) (by first | decide | omega) ?_
          refine mv_go' 1 (pc' := if 0 = 0 then 85 else 73) (ls' := [mv_R 0, mv_I 1, mv_I i, mv_I 2, mv_I j, mv_I n, mv_R 73, mv_R 75]) (st' := []) (M1 := M) rfl ?_
          refine mv_tt' (by first | decide | omega) ?_
          refine mv_go' 1 (pc' := 87) (ls' := [mv_R 0, mv_I 1, mv_I i, mv_I 2, mv_I j, mv_I n, mv_R 73, mv_R 75]) (st' := [mv_I (-12)]) (M1 := M) rfl ?_
          exact mv_Ru.val (mv_ret (fun n => rfl) rfl) (congrArg mv_I (by first | with_reducible rfl | (unfold sp_cpr; repeat (first | omega | split))))
      · refine mv_go' 1 (pc' := 61) (ls' := [mv_R 0, mv_I 1, mv_I i, mv_I 2, mv_I j, mv_I n, mv_R 73, mv_R 75]) (st' := [mv_I (-13)]) (M1 := M) rfl ?_
        exact mv_Ru.val (mv_ret (fun n => rfl) rfl) (congrArg mv_I (by first | with_reducible rfl | (unfold sp_cpr; repeat (first | omega | split))))
theorem sp_ccpg_1_3 {M : mv_M} {i j n : Nat} {so sz ro rz : Int} (hs1 : M 73 1 = so) (hz1 : M 73 2 = sz) (ht1 : M 77 1 = ro) (hr1 : M 77 2 = rz) (z1 : 0 ≤ sz ∧ sz ≤ 40) (z2 : 0 ≤ rz ∧ rz ≤ 40) (hes : (1 : Nat) = 3 → so = ro ∧ sz = rz)
    (hg : sp_cpg so sz ro rz i j n) : mv_Ru 20 94 0 [mv_R 0, mv_I 1, mv_I (i : Int), mv_I 3, mv_I (j : Int), mv_I (n : Int), mv_U, mv_U] [] M (mv_I (n : Int)) (fun M1 => M1 = mv_st M 78 (mv_cp (M 74) (M 78) i j n)) := by
  obtain ⟨⟨g1, g2, g3⟩, g4, g5⟩ := hg
  skip
  refine mv_go' 2 (pc' := 2) (ls' := [mv_R 0, mv_I 1, mv_I (i : Int), mv_I 3, mv_I (j : Int), mv_I (n : Int), mv_U, mv_U]) (st' := [mv_I 1, mv_R 0]) (M1 := M) rfl ?_
  refine mv_callP (st2 := [mv_R 73]) rfl (Or.inl rfl) rfl rfl rfl (sp_sheetAt_1) (by first | decide | omega) ?_
  refine mv_go' 3 (pc' := 9) (ls' := [mv_R 0, mv_I 1, mv_I (i : Int), mv_I 3, mv_I (j : Int), mv_I (n : Int), mv_R 73, mv_U]) (st' := [mv_I 3, mv_R 0]) (M1 := M) rfl ?_
  refine mv_callP (st2 := [mv_R 77]) rfl (Or.inl rfl) rfl rfl rfl (sp_sheetAt_3) (by first | decide | omega) ?_
  refine mv_go' 6 (pc' := 29) (ls' := [mv_R 0, mv_I 1, mv_I (i : Int), mv_I 3, mv_I (j : Int), mv_I (n : Int), mv_R 73, mv_R 77]) (st' := [mv_R 73]) (M1 := M) rfl ?_
  have ha62 : ¬ (so = -1) := by omega
  refine mv_callP (st2 := [mv_I 0]) rfl (Or.inl rfl) rfl rfl rfl (sp_isMiss_1_f (fun q => ha62 (hs1.symm.trans q))) (by first | decide | omega) ?_
  refine mv_go' 1 (pc' := if 0 = 0 then 35 else 43) (ls' := [mv_R 0, mv_I 1, mv_I (i : Int), mv_I 3, mv_I (j : Int), mv_I (n : Int), mv_R 73, mv_R 77]) (st' := []) (M1 := M) rfl ?_
  refine mv_tt' (by first | decide | omega) ?_
  refine mv_go' 1 (pc' := 37) (ls' := [mv_R 0, mv_I 1, mv_I (i : Int), mv_I 3, mv_I (j : Int), mv_I (n : Int), mv_R 73, mv_R 77]) (st' := [mv_R 77]) (M1 := M) rfl ?_
  have ha63 : ¬ (ro = -1) := by omega
  refine mv_callP (st2 := [mv_I 0]) rfl (Or.inl rfl) rfl rfl rfl (sp_isMiss_3_f (fun q => ha63 (ht1.symm.trans q))) (by first | decide | omega) ?_
  refine mv_go' 1 (pc' := if 0 = 0 then 46 else 43) (ls' := [mv_R 0, mv_I 1, mv_I (i : Int), mv_I 3, mv_I (j : Int), mv_I (n : Int), mv_R 73, mv_R 77]) (st' := []) (M1 := M) rfl ?_
  refine mv_tt' (by first | decide | omega) ?_
  refine mv_go' 2 (pc' := 51) (ls' := [mv_R 0, mv_I 1, mv_I (i : Int), mv_I 3, mv_I (j : Int), mv_I (n : Int), mv_R 73, mv_R 77]) (st' := [mv_I (M 73 1)]) (M1 := M) rfl ?_
  rw [show M 73 1 = so from by exact hs1]
  refine mv_go' 2 (pc' := 56) (ls' := [mv_R 0, mv_I 1, mv_I (i : Int), mv_I 3, mv_I (j : Int), mv_I (n : Int), mv_R 73, mv_R 77]) (st' := [mv_I (M 77 1), mv_I so]) (M1 := M) rfl ?_
  rw [show M 77 1 = ro from by exact ht1]
  refine mv_go' 1 (pc' := if so = ro then 62 else 59) (ls' := [mv_R 0, mv_I 1, mv_I (i : Int), mv_I 3, mv_I (j : Int), mv_I (n : Int), mv_R 73, mv_R 77]) (st' := []) (M1 := M) rfl ?_
  refine mv_tt' (by omega) ?_
  refine mv_go' 3 (pc' := 67) (ls' := [mv_R 0, mv_I 1, mv_I (i : Int), mv_I 3, mv_I (j : Int), mv_I (n : Int), mv_R 73, mv_R 77]) (st' := [mv_I (n : Int), mv_I (i : Int), mv_R 73]) (M1 := M) rfl ?_
  have ha64 : 0 ≤ (n : Int) ∧ (n : Int) ≤ sz ∧ 0 ≤ (i : Int) ∧ (i : Int) ≤ sz - (n : Int) := by omega
  refine mv_callP (st2 := [mv_I 1]) rfl (Or.inl rfl) rfl rfl rfl (sp_hasRun_1_t hz1 (by omega) (by omega) ha64) (by first | decide | omega) ?_
  refine mv_go' 1 (pc' := if 1 = 0 then 85 else 73) (ls' := [mv_R 0, mv_I 1, mv_I (i : Int), mv_I 3, mv_I (j : Int), mv_I (n : Int), mv_R 73, mv_R 77]) (st' := []) (M1 := M) rfl ?_
  refine mv_ff' (by first | decide | omega) ?_
  refine mv_go' 3 (pc' := 79) (ls' := [mv_R 0, mv_I 1, mv_I (i : Int), mv_I 3, mv_I (j : Int), mv_I (n : Int), mv_R 73, mv_R 77]) (st' := [mv_I (n : Int), mv_I (j : Int), mv_R 77]) (M1 := M) rfl ?_
  have ha65 : 0 ≤ (n : Int) ∧ (n : Int) ≤ rz ∧ 0 ≤ (j : Int) ∧ (j : Int) ≤ rz - (n : Int) := by omega
  refine mv_callP (st2 := [mv_I 1]) rfl (Or.inl rfl) rfl rfl rfl (sp_hasRun_3_t hr1 (by omega) (by omega) ha65) (by first | decide | omega) ?_
  refine mv_go' 1 (pc' := if 1 = 0 then 85 else 88) (ls' := [mv_R 0, mv_I 1, mv_I (i : Int), mv_I 3, mv_I (j : Int), mv_I (n : Int), mv_R 73, mv_R 77]) (st' := []) (M1 := M) rfl ?_
  refine mv_ff' (by first | decide | omega) ?_
  refine mv_go' 8 (pc' := if 0 ≤ (i : Int) ∧ 0 ≤ (j : Int) ∧ 0 ≤ (n : Int) ∧ (i : Int) + (n : Int) ≤ 40 ∧ (j : Int) + (n : Int) ≤ 40 then 106 else mv_bad) (ls' := [mv_R 0, mv_I 1, mv_I (i : Int), mv_I 3, mv_I (j : Int), mv_I (n : Int), mv_R 73, mv_R 77]) (st' := []) (M1 := (mv_st M 78 ((mv_cp (M 74) (M 78) i j n)))) rfl ?_
  refine mv_tt' (by omega) ?_
  refine mv_go' 1 (pc' := 108) (ls' := [mv_R 0, mv_I 1, mv_I (i : Int), mv_I 3, mv_I (j : Int), mv_I (n : Int), mv_R 73, mv_R 77]) (st' := [mv_I (n : Int)]) (M1 := (mv_st M 78 ((mv_cp (M 74) (M 78) i j n)))) rfl ?_
  exact mv_Ru.val (mv_ret (fun n => rfl) rfl) (congrArg mv_I (by first | with_reducible rfl | (unfold sp_cpr; repeat (first | omega | split))))
theorem sp_ccpb_1_3 {M : mv_M} {i j n : Int} {so sz ro rz : Int} (hs1 : M 73 1 = so) (hz1 : M 73 2 = sz) (ht1 : M 77 1 = ro) (hr1 : M 77 2 = rz) (z1 : 0 ≤ sz ∧ sz ≤ 40) (z2 : 0 ≤ rz ∧ rz ≤ 40) (hes : (1 : Nat) = 3 → so = ro ∧ sz = rz)
    (hg : ¬ sp_cpg so sz ro rz i j n) : mv_Ru 20 94 0 [mv_R 0, mv_I 1, mv_I i, mv_I 3, mv_I j, mv_I n, mv_U, mv_U] [] M (mv_I (sp_cpr so ro)) (fun M1 => M1 = M) := by
  skip
  have hg : ¬ ((so ≠ -1 ∧ ro ≠ -1 ∧ so = ro) ∧ (0 ≤ n ∧ n ≤ sz ∧ 0 ≤ i ∧ i ≤ sz - n) ∧ (n ≤ rz ∧ 0 ≤ j ∧ j ≤ rz - n)) := hg
  refine mv_go' 2 (pc' := 2) (ls' := [mv_R 0, mv_I 1, mv_I i, mv_I 3, mv_I j, mv_I n, mv_U, mv_U]) (st' := [mv_I 1, mv_R 0]) (M1 := M) rfl ?_
  refine mv_callP (st2 := [mv_R 73]) rfl (Or.inl rfl) rfl rfl rfl (sp_sheetAt_1) (by first | decide | omega) ?_
  refine mv_go' 3 (pc' := 9) (ls' := [mv_R 0, mv_I 1, mv_I i, mv_I 3, mv_I j, mv_I n, mv_R 73, mv_U]) (st' := [mv_I 3, mv_R 0]) (M1 := M) rfl ?_
  refine mv_callP (st2 := [mv_R 77]) rfl (Or.inl rfl) rfl rfl rfl (sp_sheetAt_3) (by first | decide | omega) ?_
  refine mv_go' 6 (pc' := 29) (ls' := [mv_R 0, mv_I 1, mv_I i, mv_I 3, mv_I j, mv_I n, mv_R 73, mv_R 77]) (st' := [mv_R 73]) (M1 := M) rfl ?_
  by_cases ha66 : so = -1
  · refine mv_callP (st2 := [mv_I 1]) rfl (Or.inl rfl) rfl rfl rfl (sp_isMiss_1_t (hs1.trans ha66)) (by first | decide | omega) ?_
    refine mv_go' 1 (pc' := if 1 = 0 then 35 else 43) (ls' := [mv_R 0, mv_I 1, mv_I i, mv_I 3, mv_I j, mv_I n, mv_R 73, mv_R 77]) (st' := []) (M1 := M) rfl ?_
    refine mv_ff' (by first | decide | omega) ?_
    refine mv_go' 1 (pc' := 45) (ls' := [mv_R 0, mv_I 1, mv_I i, mv_I 3, mv_I j, mv_I n, mv_R 73, mv_R 77]) (st' := [mv_I (-11)]) (M1 := M) rfl ?_
    exact mv_Ru.val (mv_ret (fun n => rfl) rfl) (congrArg mv_I (by first | with_reducible rfl | (unfold sp_cpr; repeat (first | omega | split))))
  · refine mv_callP (st2 := [mv_I 0]) rfl (Or.inl rfl) rfl rfl rfl (sp_isMiss_1_f (fun q => ha66 (hs1.symm.trans q))) (by first | decide | omega) ?_
    refine mv_go' 1 (pc' := if 0 = 0 then 35 else 43) (ls' := [mv_R 0, mv_I 1, mv_I i, mv_I 3, mv_I j, mv_I n, mv_R 73, mv_R 77]) (st' := []) (M1 := M) rfl ?_
    refine mv_tt' (by first | decide | omega) ?_
    refine mv_go' 1 (pc' := 37) (ls' := [mv_R 0, mv_I 1, mv_I i, mv_I 3, mv_I j, mv_I n, mv_R 73, mv_R 77]) (st' := [mv_R 77]) (M1 := M) rfl ?_
    by_cases ha67 : ro = -1
    · refine mv_callP (st2 := [mv_I 1]) rfl (Or.inl rfl) rfl rfl rfl (sp_isMiss_3_t (ht1.trans ha67)) (by first | decide | omega) ?_
      refine mv_go' 1 (pc' := if 1 = 0 then 46 else 43) (ls' := [mv_R 0, mv_I 1, mv_I i, mv_I 3, mv_I j, mv_I n, mv_R 73, mv_R 77]) (st' := []) (M1 := M) rfl ?_
      refine mv_ff' (by first | decide | omega) ?_
      refine mv_go' 1 (pc' := 45) (ls' := [mv_R 0, mv_I 1, mv_I i, mv_I 3, mv_I j, mv_I n, mv_R 73, mv_R 77]) (st' := [mv_I (-11)]) (M1 := M) rfl ?_
      exact mv_Ru.val (mv_ret (fun n => rfl) rfl) (congrArg mv_I (by first | with_reducible rfl | (unfold sp_cpr; repeat (first | omega | split))))
    · refine mv_callP (st2 := [mv_I 0]) rfl (Or.inl rfl) rfl rfl rfl (sp_isMiss_3_f (fun q => ha67 (ht1.symm.trans q))) (by first | decide | omega) ?_
      refine mv_go' 1 (pc' := if 0 = 0 then 46 else 43) (ls' := [mv_R 0, mv_I 1, mv_I i, mv_I 3, mv_I j, mv_I n, mv_R 73, mv_R 77]) (st' := []) (M1 := M) rfl ?_
      refine mv_tt' (by first | decide | omega) ?_
      refine mv_go' 2 (pc' := 51) (ls' := [mv_R 0, mv_I 1, mv_I i, mv_I 3, mv_I j, mv_I n, mv_R 73, mv_R 77]) (st' := [mv_I (M 73 1)]) (M1 := M) rfl ?_
      rw [show M 73 1 = so from by exact hs1]
      refine mv_go' 2 (pc' := 56) (ls' := [mv_R 0, mv_I 1, mv_I i, mv_I 3, mv_I j, mv_I n, mv_R 73, mv_R 77]) (st' := [mv_I (M 77 1), mv_I so]) (M1 := M) rfl ?_
      rw [show M 77 1 = ro from by exact ht1]
      refine mv_go' 1 (pc' := if so = ro then 62 else 59) (ls' := [mv_R 0, mv_I 1, mv_I i, mv_I 3, mv_I j, mv_I n, mv_R 73, mv_R 77]) (st' := []) (M1 := M) rfl ?_
      refine mv_sp' (fun ha68 => ?_) (fun ha68 => ?_)
      · refine mv_go' 3 (pc' := 67) (ls' := [mv_R 0, mv_I 1, mv_I i, mv_I 3, mv_I j, mv_I n, mv_R 73, mv_R 77]) (st' := [mv_I n, mv_I i, mv_R 73]) (M1 := M) rfl ?_
        by_cases ha69 : 0 ≤ n ∧ n ≤ sz ∧ 0 ≤ i ∧ i ≤ sz - n
        · refine mv_callP (st2 := [mv_I 1]) rfl (Or.inl rfl) rfl rfl rfl (sp_hasRun_1_t hz1 (by omega) (by omega) ha69) (by first | decide | omega) ?_
          refine mv_go' 1 (pc' := if 1 = 0 then 85 else 73) (ls' := [mv_R 0, mv_I 1, mv_I i, mv_I 3, mv_I j, mv_I n, mv_R 73, mv_R 77]) (st' := []) (M1 := M) rfl ?_
          refine mv_ff' (by first | decide | omega) ?_
          refine mv_go' 3 (pc' := 79) (ls' := [mv_R 0, mv_I 1, mv_I i, mv_I 3, mv_I j, mv_I n, mv_R 73, mv_R 77]) (st' := [mv_I n, mv_I j, mv_R 77]) (M1 := M) rfl ?_
          have ha70 : ¬ (0 ≤ n ∧ n ≤ rz ∧ 0 ≤ j ∧ j ≤ rz - n) := by omega
          refine mv_callP (st2 := [mv_I 0]) rfl (Or.inl rfl) rfl rfl rfl (sp_hasRun_3_f hr1 (by omega) (by omega) ha70) (by first | decide | omega) ?_
          refine mv_go' 1 (pc' := if 0 = 0 then 85 else 88) (ls' := [mv_R 0, mv_I 1, mv_I i, mv_I 3, mv_I j, mv_I n, mv_R 73, mv_R 77]) (st' := []) (M1 := M) rfl ?_
          refine mv_tt' (by first | decide | omega) ?_
          refine mv_go' 1 (pc' := 87) (ls' := [mv_R 0, mv_I 1, mv_I i, mv_I 3, mv_I j, mv_I n, mv_R 73, mv_R 77]) (st' := [mv_I (-12)]) (M1 := M) rfl ?_
          exact mv_Ru.val (mv_ret (fun n => rfl) rfl) (congrArg mv_I (by first | with_reducible rfl | (unfold sp_cpr; repeat (first | omega | split))))
        · refine mv_callP (st2 := [mv_I 0]) rfl (Or.inl rfl) rfl rfl rfl (sp_hasRun_1_f hz1 (by omega) (by omega) ha69) (by first | decide | omega) ?_
          refine mv_go' 1 (pc' := if 0 = 0 then 85 else 73) (ls' := [mv_R 0, mv_I 1, mv_I i, mv_I 3, mv_I j, mv_I n, mv_R 73, mv_R 77]) (st' := []) (M1 := M) rfl ?_
          refine mv_tt' (by first | decide | omega) ?_
          refine mv_go' 1 (pc' := 87) (ls' := [mv_R 0, mv_I 1, mv_I i, mv_I 3, mv_I j, mv_I n, mv_R 73, mv_R 77]) (st' := [mv_I (-12)]) (M1 := M) rfl ?_
          exact mv_Ru.val (mv_ret (fun n => rfl) rfl) (congrArg mv_I (by first | with_reducible rfl | (unfold sp_cpr; repeat (first | omega | split))))
      · refine mv_go' 1 (pc' := 61) (ls' := [mv_R 0, mv_I 1, mv_I i, mv_I 3, mv_I j, mv_I n, mv_R 73, mv_R 77]) (st' := [mv_I (-13)]) (M1 := M) rfl ?_
        exact mv_Ru.val (mv_ret (fun n => rfl) rfl) (congrArg mv_I (by first | with_reducible rfl | (unfold sp_cpr; repeat (first | omega | split))))
theorem sp_ccpg_2_0 {M : mv_M} {i j n : Nat} {so sz ro rz : Int} (hs1 : M 75 1 = so) (hz1 : M 75 2 = sz) (ht1 : M 71 1 = ro) (hr1 : M 71 2 = rz) (z1 : 0 ≤ sz ∧ sz ≤ 40) (z2 : 0 ≤ rz ∧ rz ≤ 40) (hes : (2 : Nat) = 0 → so = ro ∧ sz = rz)
    (hg : sp_cpg so sz ro rz i j n) : mv_Ru 20 94 0 [mv_R 0, mv_I 2, mv_I (i : Int), mv_I 0, mv_I (j : Int), mv_I (n : Int), mv_U, mv_U] [] M (mv_I (n : Int)) (fun M1 => M1 = mv_st M 72 (mv_cp (M 76) (M 72) i j n)) := by
  obtain ⟨⟨g1, g2, g3⟩, g4, g5⟩ := hg
  skip
  refine mv_go' 2 (pc' := 2) (ls' := [mv_R 0, mv_I 2, mv_I (i : Int), mv_I 0, mv_I (j : Int), mv_I (n : Int), mv_U, mv_U]) (st' := [mv_I 2, mv_R 0]) (M1 := M) rfl ?_
  refine mv_callP (st2 := [mv_R 75]) rfl (Or.inl rfl) rfl rfl rfl (sp_sheetAt_2) (by first | decide | omega) ?_
  refine mv_go' 3 (pc' := 9) (ls' := [mv_R 0, mv_I 2, mv_I (i : Int), mv_I 0, mv_I (j : Int), mv_I (n : Int), mv_R 75, mv_U]) (st' := [mv_I 0, mv_R 0]) (M1 := M) rfl ?_
  refine mv_callP (st2 := [mv_R 71]) rfl (Or.inl rfl) rfl rfl rfl (sp_sheetAt_0) (by first | decide | omega) ?_
  refine mv_go' 6 (pc' := 29) (ls' := [mv_R 0, mv_I 2, mv_I (i : Int), mv_I 0, mv_I (j : Int), mv_I (n : Int), mv_R 75, mv_R 71]) (st' := [mv_R 75]) (M1 := M) rfl ?_
  have ha71 : ¬ (so = -1) := by omega
  refine mv_callP (st2 := [mv_I 0]) rfl (Or.inl rfl) rfl rfl rfl (sp_isMiss_2_f (fun q => ha71 (hs1.symm.trans q))) (by first | decide | omega) ?_
  refine mv_go' 1 (pc' := if 0 = 0 then 35 else 43) (ls' := [mv_R 0, mv_I 2, mv_I (i : Int), mv_I 0, mv_I (j : Int), mv_I (n : Int), mv_R 75, mv_R 71]) (st' := []) (M1 := M) rfl ?_
  refine mv_tt' (by first | decide | omega) ?_
  refine mv_go' 1 (pc' := 37) (ls' := [mv_R 0, mv_I 2, mv_I (i : Int), mv_I 0, mv_I (j : Int), mv_I (n : Int), mv_R 75, mv_R 71]) (st' := [mv_R 71]) (M1 := M) rfl ?_
  have ha72 : ¬ (ro = -1) := by omega
  refine mv_callP (st2 := [mv_I 0]) rfl (Or.inl rfl) rfl rfl rfl (sp_isMiss_0_f (fun q => ha72 (ht1.symm.trans q))) (by first | decide | omega) ?_
  refine mv_go' 1 (pc' := if 0 = 0 then 46 else 43) (ls' := [mv_R 0, mv_I 2, mv_I (i : Int), mv_I 0, mv_I (j : Int), mv_I (n : Int), mv_R 75, mv_R 71]) (st' := []) (M1 := M) rfl ?_
  refine mv_tt' (by first | decide | omega) ?_
  refine mv_go' 2 (pc' := 51) (ls' := [mv_R 0, mv_I 2, mv_I (i : Int), mv_I 0, mv_I (j : Int), mv_I (n : Int), mv_R 75, mv_R 71]) (st' := [mv_I (M 75 1)]) (M1 := M) rfl ?_
  rw [show M 75 1 = so from by exact hs1]
  refine mv_go' 2 (pc' := 56) (ls' := [mv_R 0, mv_I 2, mv_I (i : Int), mv_I 0, mv_I (j : Int), mv_I (n : Int), mv_R 75, mv_R 71]) (st' := [mv_I (M 71 1), mv_I so]) (M1 := M) rfl ?_
  rw [show M 71 1 = ro from by exact ht1]
  refine mv_go' 1 (pc' := if so = ro then 62 else 59) (ls' := [mv_R 0, mv_I 2, mv_I (i : Int), mv_I 0, mv_I (j : Int), mv_I (n : Int), mv_R 75, mv_R 71]) (st' := []) (M1 := M) rfl ?_
  refine mv_tt' (by omega) ?_
  refine mv_go' 3 (pc' := 67) (ls' := [mv_R 0, mv_I 2, mv_I (i : Int), mv_I 0, mv_I (j : Int), mv_I (n : Int), mv_R 75, mv_R 71]) (st' := [mv_I (n : Int), mv_I (i : Int), mv_R 75]) (M1 := M) rfl ?_
  have ha73 : 0 ≤ (n : Int) ∧ (n : Int) ≤ sz ∧ 0 ≤ (i : Int) ∧ (i : Int) ≤ sz - (n : Int) := by omega
  refine mv_callP (st2 := [mv_I 1]) rfl (Or.inl rfl) rfl rfl rfl (sp_hasRun_2_t hz1 (by omega) (by omega) ha73) (by first | decide | omega) ?_
  refine mv_go' 1 (pc' := if 1 = 0 then 85 else 73) (ls' := [mv_R 0, mv_I 2, mv_I (i : Int), mv_I 0, mv_I (j : Int), mv_I (n : Int), mv_R 75, mv_R 71]) (st' := []) (M1 := M) rfl ?_
  refine mv_ff' (by first | decide | omega) ?_
  refine mv_go' 3 (pc' := 79) (ls' := [mv_R 0, mv_I 2, mv_I (i : Int), mv_I 0, mv_I (j : Int), mv_I (n : Int), mv_R 75, mv_R 71]) (st' := [mv_I (n : Int), mv_I (j : Int), mv_R 71]) (M1 := M) rfl ?_
  have ha74 : 0 ≤ (n : Int) ∧ (n : Int) ≤ rz ∧ 0 ≤ (j : Int) ∧ (j : Int) ≤ rz - (n : Int) := by omega
  refine mv_callP (st2 := [mv_I 1]) rfl (Or.inl rfl) rfl rfl rfl (sp_hasRun_0_t hr1 (by omega) (by omega) ha74) (by first | decide | omega) ?_
  refine mv_go' 1 (pc' := if 1 = 0 then 85 else 88) (ls' := [mv_R 0, mv_I 2, mv_I (i : Int), mv_I 0, mv_I (j : Int), mv_I (n : Int), mv_R 75, mv_R 71]) (st' := []) (M1 := M) rfl ?_
  refine mv_ff' (by first | decide | omega) ?_
  refine mv_go' 8 (pc' := if 0 ≤ (i : Int) ∧ 0 ≤ (j : Int) ∧ 0 ≤ (n : Int) ∧ (i : Int) + (n : Int) ≤ 40 ∧ (j : Int) + (n : Int) ≤ 40 then 106 else mv_bad) (ls' := [mv_R 0, mv_I 2, mv_I (i : Int), mv_I 0, mv_I (j : Int), mv_I (n : Int), mv_R 75, mv_R 71]) (st' := []) (M1 := (mv_st M 72 ((mv_cp (M 76) (M 72) i j n)))) rfl ?_
  refine mv_tt' (by omega) ?_
  refine mv_go' 1 (pc' := 108) (ls' := [mv_R 0, mv_I 2, mv_I (i : Int), mv_I 0, mv_I (j : Int), mv_I (n : Int), mv_R 75, mv_R 71]) (st' := [mv_I (n : Int)]) (M1 := (mv_st M 72 ((mv_cp (M 76) (M 72) i j n)))) rfl ?_
  exact mv_Ru.val (mv_ret (fun n => rfl) rfl) (congrArg mv_I (by first | with_reducible rfl | (unfold sp_cpr; repeat (first | omega | split))))
theorem sp_ccpb_2_0 {M : mv_M} {i j n : Int} {so sz ro rz : Int} (hs1 : M 75 1 = so) (hz1 : M 75 2 = sz) (ht1 : M 71 1 = ro) (hr1 : M 71 2 = rz) (z1 : 0 ≤ sz ∧ sz ≤ 40) (z2 : 0 ≤ rz ∧ rz ≤ 40) (hes : (2 : Nat) = 0 → so = ro ∧ sz = rz)
    (hg : ¬ sp_cpg so sz ro rz i j n) : mv_Ru 20 94 0 [mv_R 0, mv_I 2, mv_I i, mv_I 0, mv_I j, mv_I n, mv_U, mv_U] [] M (mv_I (sp_cpr so ro)) (fun M1 => M1 = M) := by
  skip
  have hg : ¬ ((so ≠ -1 ∧ ro ≠ -1 ∧ so = ro) ∧ (0 ≤ n ∧ n ≤ sz ∧ 0 ≤ i ∧ i ≤ sz - n) ∧ (n ≤ rz ∧ 0 ≤ j ∧ j ≤ rz - n)) := hg
  refine mv_go' 2 (pc' := 2) (ls' := [mv_R 0, mv_I 2, mv_I i, mv_I 0, mv_I j, mv_I n, mv_U, mv_U]) (st' := [mv_I 2, mv_R 0]) (M1 := M) rfl ?_
  refine mv_callP (st2 := [mv_R 75]) rfl (Or.inl rfl) rfl rfl rfl (sp_sheetAt_2) (by first | decide | omega) ?_
  refine mv_go' 3 (pc' := 9) (ls' := [mv_R 0, mv_I 2, mv_I i, mv_I 0, mv_I j, mv_I n, mv_R 75, mv_U]) (st' := [mv_I 0, mv_R 0]) (M1 := M) rfl ?_
  refine mv_callP (st2 := [mv_R 71]) rfl (Or.inl rfl) rfl rfl rfl (sp_sheetAt_0) (by first | decide | omega) ?_
  refine mv_go' 6 (pc' := 29) (ls' := [mv_R 0, mv_I 2, mv_I i, mv_I 0, mv_I j, mv_I n, mv_R 75, mv_R 71]) (st' := [mv_R 75]) (M1 := M) rfl ?_
  by_cases ha75 : so = -1
  · refine mv_callP (st2 := [mv_I 1]) rfl (Or.inl rfl) rfl rfl rfl (sp_isMiss_2_t (hs1.trans ha75)) (by first | decide | omega) ?_
    refine mv_go' 1 (pc' := if 1 = 0 then 35 else 43) (ls' := [mv_R 0, mv_I 2, mv_I i, mv_I 0, mv_I j, mv_I n, mv_R 75, mv_R 71]) (st' := []) (M1 := M) rfl ?_
    refine mv_ff' (by first | decide | omega) ?_
    refine mv_go' 1 (pc' := 45) (ls' := [mv_R 0, mv_I 2, mv_I i, mv_I 0, mv_I j, mv_I n, mv_R 75, mv_R 71]) (st' := [mv_I (-11)]) (M1 := M) rfl ?_
    exact mv_Ru.val (mv_ret (fun n => rfl) rfl) (congrArg mv_I (by first | with_reducible rfl | (unfold sp_cpr; repeat (first | omega | split))))
  · refine mv_callP (st2 := [mv_I 0]) rfl (Or.inl rfl) rfl rfl rfl (sp_isMiss_2_f (fun q => ha75 (hs1.symm.trans q))) (by first | decide | omega) ?_
    refine mv_go' 1 (pc' := if 0 = 0 then 35 else 43) (ls' := [mv_R 0, mv_I 2, mv_I i, mv_I 0, mv_I j, mv_I n, mv_R 75, mv_R 71]) (st' := []) (M1 := M) rfl ?_
    refine mv_tt' (by first | decide | omega) ?_
    refine mv_go' 1 (pc' := 37) (ls' := [mv_R 0, mv_I 2, mv_I i, mv_I 0, mv_I j, mv_I n, mv_R 75, mv_R 71]) (st' := [mv_R 71]) (M1 := M) rfl ?_
    by_cases ha76 : ro = -1
    · refine mv_callP (st2 := [mv_I 1]) rfl (Or.inl rfl) rfl rfl rfl (sp_isMiss_0_t (ht1.trans ha76)) (by first | decide | omega) ?_
      refine mv_go' 1 (pc' := if 1 = 0 then 46 else 43) (ls' := [mv_R 0, mv_I 2, mv_I i, mv_I 0, mv_I j, mv_I n, mv_R 75, mv_R 71]) (st' := []) (M1 := M) rfl ?_
      refine mv_ff' (by first | decide | omega) ?_
      refine mv_go' 1 (pc' := 45) (ls' := [mv_R 0, mv_I 2, mv_I i, mv_I 0, mv_I j, mv_I n, mv_R 75, mv_R 71]) (st' := [mv_I (-11)]) (M1 := M) rfl ?_
      exact mv_Ru.val (mv_ret (fun n => rfl) rfl) (congrArg mv_I (by first | with_reducible rfl | (unfold sp_cpr; repeat (first | omega | split))))
    · refine mv_callP (st2 := [mv_I 0]) rfl (Or.inl rfl) rfl rfl rfl (sp_isMiss_0_f (fun q => ha76 (ht1.symm.trans q))) (by first | decide | omega) ?_
      refine mv_go' 1 (pc' := if 0 = 0 then 46 else 43) (ls' := [mv_R 0, mv_I 2, mv_I i, mv_I 0, mv_I j, mv_I n, mv_R 75, mv_R 71]) (st' := []) (M1 := M) rfl ?_
      refine mv_tt' (by first | decide | omega) ?_
      refine mv_go' 2 (pc' := 51) (ls' := [mv_R 0, mv_I 2, mv_I i, mv_I 0, mv_I j, mv_I n, mv_R 75, mv_R 71]) (st' := [mv_I (M 75 1)]) (M1 := M) rfl ?_
      rw [show M 75 1 = so from by exact hs1]
      refine mv_go' 2 (pc' := 56) (ls' := [mv_R 0, mv_I 2, mv_I i, mv_I 0, mv_I j, mv_I n, mv_R 75, mv_R 71]) (st' := [mv_I (M 71 1), mv_I so]) (M1 := M) rfl ?_
      rw [show M 71 1 = ro from by exact ht1]
      refine mv_go' 1 (pc' := if so = ro then 62 else 59) (ls' := [mv_R 0, mv_I 2, mv_I i, mv_I 0, mv_I j, mv_I n, mv_R 75, mv_R 71]) (st' := []) (M1 := M) rfl ?_
      refine mv_sp' (fun ha77 => ?_) (fun ha77 => ?_)
      · refine mv_go' 3 (pc' := 67) (ls' := [mv_R 0, mv_I 2, mv_I i, mv_I 0, mv_I j, mv_I n, mv_R 75, mv_R 71]) (st' := [mv_I n, mv_I i, mv_R 75]) (M1 := M) rfl ?_
        by_cases ha78 : 0 ≤ n ∧ n ≤ sz ∧ 0 ≤ i ∧ i ≤ sz - n
        · refine mv_callP (st2 := [mv_I 1]) rfl (Or.inl rfl) rfl rfl rfl (sp_hasRun_2_t hz1 (by omega) (by omega) ha78) (by first | decide | omega) ?_
          refine mv_go' 1 (pc' := if 1 = 0 then 85 else 73) (ls' := [mv_R 0, mv_I 2, mv_I i, mv_I 0, mv_I j, mv_I n, mv_R 75, mv_R 71]) (st' := []) (M1 := M) rfl ?_
          refine mv_ff' (by first | decide | omega) ?_
          refine mv_go' 3 (pc' := 79) (ls' := [mv_R 0, mv_I 2, mv_I i, mv_I 0, mv_I j, mv_I n, mv_R 75, mv_R 71]) (st' := [mv_I n, mv_I j, mv_R 71]) (M1 := M) rfl ?_
          have ha79 : ¬ (0 ≤ n ∧ n ≤ rz ∧ 0 ≤ j ∧ j ≤ rz - n) := by omega
          refine mv_callP (st2 := [mv_I 0]) rfl (Or.inl rfl) rfl rfl rfl (sp_hasRun_0_f hr1 (by omega) (by omega) ha79) (by first | decide | omega) ?_
          refine mv_go' 1 (pc' := if 0 = 0 then 85 else 88) (ls' := [mv_R 0, mv_I 2, mv_I i, mv_I 0, mv_I j, mv_I n, mv_R 75, mv_R 71]) (st' := []) (M1 := M) rfl ?_
          refine mv_tt' (by first | decide | omega) ?_
          refine mv_go' 1 (pc' := 87) (ls' := [mv_R 0, mv_I 2, mv_I i, mv_I 0, mv_I j, mv_I n, mv_R 75, mv_R 71]) (st' := [mv_I (-12)]) (M1 := M) rfl ?_
          exact mv_Ru.val (mv_ret (fun n => rfl) rfl) (congrArg mv_I (by first | with_reducible rfl | (unfold sp_cpr; repeat (first | omega | split))))
        · refine mv_callP (st2 := [mv_I 0]) rfl (Or.inl rfl) rfl rfl rfl (sp_hasRun_2_f hz1 (by omega) (by omega) ha78) (by first | decide | omega) ?_
          refine mv_go' 1 (pc' := if 0 = 0 then 85 else 73) (ls' := [mv_R 0, mv_I 2, mv_I i, mv_I 0, mv_I j, mv_I n, mv_R 75, mv_R 71]) (st' := []) (M1 := M) rfl ?_
          refine mv_tt' (by first | decide | omega) ?_
          refine mv_go' 1 (pc' := 87) (ls' := [mv_R 0, mv_I 2, mv_I i, mv_I 0, mv_I j, mv_I n, mv_R 75, mv_R 71]) (st' := [mv_I (-12)]) (M1 := M) rfl ?_
          exact mv_Ru.val (mv_ret (fun n => rfl) rfl) (congrArg mv_I (by first | with_reducible rfl | (unfold sp_cpr; repeat (first | omega | split))))
      · refine mv_go' 1 (pc' := 61) (ls' := [mv_R 0, mv_I 2, mv_I i, mv_I 0, mv_I j, mv_I n, mv_R 75, mv_R 71]) (st' := [mv_I (-13)]) (M1 := M) rfl ?_
        exact mv_Ru.val (mv_ret (fun n => rfl) rfl) (congrArg mv_I (by first | with_reducible rfl | (unfold sp_cpr; repeat (first | omega | split))))
theorem sp_ccpg_2_1 {M : mv_M} {i j n : Nat} {so sz ro rz : Int} (hs1 : M 75 1 = so) (hz1 : M 75 2 = sz) (ht1 : M 73 1 = ro) (hr1 : M 73 2 = rz) (z1 : 0 ≤ sz ∧ sz ≤ 40) (z2 : 0 ≤ rz ∧ rz ≤ 40) (hes : (2 : Nat) = 1 → so = ro ∧ sz = rz)
    (hg : sp_cpg so sz ro rz i j n) : mv_Ru 20 94 0 [mv_R 0, mv_I 2, mv_I (i : Int), mv_I 1, mv_I (j : Int), mv_I (n : Int), mv_U, mv_U] [] M (mv_I (n : Int)) (fun M1 => M1 = mv_st M 74 (mv_cp (M 76) (M 74) i j n)) := by
  obtain ⟨⟨g1, g2, g3⟩, g4, g5⟩ := hg
  skip
  refine mv_go' 2 (pc' := 2) (ls' := [mv_R 0, mv_I 2, mv_I (i : Int), mv_I 1, mv_I (j : Int), mv_I (n : Int), mv_U, mv_U]) (st' := [mv_I 2, mv_R 0]) (M1 := M) rfl ?_
  refine mv_callP (st2 := [mv_R 75]) rfl (Or.inl rfl) rfl rfl rfl (sp_sheetAt_2) (by first | decide | omega) ?_
  refine mv_go' 3 (pc' := 9) (ls' := [mv_R 0, mv_I 2, mv_I (i : Int), mv_I 1, mv_I (j : Int), mv_I (n : Int), mv_R 75, mv_U]) (st' := [mv_I 1, mv_R 0]) (M1 := M) rfl ?_
  refine mv_callP (st2 := [mv_R 73]) rfl (Or.inl rfl) rfl rfl rfl (sp_sheetAt_1) (by first | decide | omega) ?_
  refine mv_go' 6 (pc' := 29) (ls' := [mv_R 0, mv_I 2, mv_I (i : Int), mv_I 1, mv_I (j : Int), mv_I (n : Int), mv_R 75, mv_R 73]) (st' := [mv_R 75]) (M1 := M) rfl ?_
  have ha80 : ¬ (so = -1) := by omega
  refine mv_callP (st2 := [mv_I 0]) rfl (Or.inl rfl) rfl rfl rfl (sp_isMiss_2_f (fun q => ha80 (hs1.symm.trans q))) (by first | decide | omega) ?_
  refine mv_go' 1 (pc' := if 0 = 0 then 35 else 43) (ls' := [mv_R 0, mv_I 2, mv_I (i : Int), mv_I 1, mv_I (j : Int), mv_I (n : Int), mv_R 75, mv_R 73]) (st' := []) (M1 := M) rfl ?_
  refine mv_tt' (by first | decide | omega) ?_
  refine mv_go' 1 (pc' := 37) (ls' := [mv_R 0, mv_I 2, mv_I (i : Int), mv_I 1, mv_I (j : Int), mv_I (n : Int), mv_R 75, mv_R 73]) (st' := [mv_R 73]) (M1 := M) rfl ?_
  have ha81 : ¬ (ro = -1) := by omega
  refine mv_callP (st2 := [mv_I 0]) rfl (Or.inl rfl) rfl rfl rfl (sp_isMiss_1_f (fun q => ha81 (ht1.symm.trans q))) (by first | decide | omega) ?_
  refine mv_go' 1 (pc' := if 0 = 0 then 46 else 43) (ls' := [mv_R 0, mv_I 2, mv_I (i : Int), mv_I 1, mv_I (j : Int), mv_I (n : Int), mv_R 75, mv_R 73]) (st' := []) (M1 := M) rfl ?_
  refine mv_tt' (by first | decide | omega) ?_
  refine mv_go' 2 (pc' := 51) (ls' := [mv_R 0, mv_I 2, mv_I (i : Int), mv_I 1, mv_I (j : Int), mv_I (n : Int), mv_R 75, mv_R 73]) (st' := [mv_I (M 75 1)]) (M1 := M) rfl ?_
  rw [show M 75 1 = so from by exact hs1]
  refine mv_go' 2 (pc' := 56) (ls' := [mv_R 0, mv_I 2, mv_I (i : Int), mv_I 1, mv_I (j : Int), mv_I (n : Int), mv_R 75, mv_R 73]) (st' := [mv_I (M 73 1), mv_I so]) (M1 := M) rfl ?_
  rw [show M 73 1 = ro from by exact ht1]
  refine mv_go' 1 (pc' := if so = ro then 62 else 59) (ls' := [mv_R 0, mv_I 2, mv_I (i : Int), mv_I 1, mv_I (j : Int), mv_I (n : Int), mv_R 75, mv_R 73]) (st' := []) (M1 := M) rfl ?_
  refine mv_tt' (by omega) ?_
  refine mv_go' 3 (pc' := 67) (ls' := [mv_R 0, mv_I 2, mv_I (i : Int), mv_I 1, mv_I (j : Int), mv_I (n : Int), mv_R 75, mv_R 73]) (st' := [mv_I (n : Int), mv_I (i : Int), mv_R 75]) (M1 := M) rfl ?_
  have ha82 : 0 ≤ (n : Int) ∧ (n : Int) ≤ sz ∧ 0 ≤ (i : Int) ∧ (i : Int) ≤ sz - (n : Int) := by omega
  refine mv_callP (st2 := [mv_I 1]) rfl (Or.inl rfl) rfl rfl rfl (sp_hasRun_2_t hz1 (by omega) (by omega) ha82) (by first | decide | omega) ?_
  refine mv_go' 1 (pc' := if 1 = 0 then 85 else 73) (ls' := [mv_R 0, mv_I 2, mv_I (i : Int), mv_I 1, mv_I (j : Int), mv_I (n : Int), mv_R 75, mv_R 73]) (st' := []) (M1 := M) rfl ?_
  refine mv_ff' (by first | decide | omega) ?_
  refine mv_go' 3 (pc' := 79) (ls' := [mv_R 0, mv_I 2, mv_I (i : Int), mv_I 1, mv_I (j : Int), mv_I (n : Int), mv_R 75, mv_R 73]) (st' := [mv_I (n : Int), mv_I (j : Int), mv_R 73]) (M1 := M) rfl ?_
  have ha83 : 0 ≤ (n : Int) ∧ (n : Int) ≤ rz ∧ 0 ≤ (j : Int) ∧ (j : Int) ≤ rz - (n : Int) := by omega
  refine mv_callP (st2 := [mv_I 1]) rfl (Or.inl rfl) rfl rfl rfl (sp_hasRun_1_t hr1 (by omega) (by omega) ha83) (by first | decide | omega) ?_
  refine mv_go' 1 (pc' := if 1 = 0 then 85 else 88) (ls' := [mv_R 0, mv_I 2, mv_I (i : Int), mv_I 1, mv_I (j : Int), mv_I (n : Int), mv_R 75, mv_R 73]) (st' := []) (M1 := M) rfl ?_
  refine mv_ff' (by first | decide | omega) ?_
  refine mv_go' 8 (pc' := if 0 ≤ (i : Int) ∧ 0 ≤ (j : Int) ∧ 0 ≤ (n : Int) ∧ (i : Int) + (n : Int) ≤ 40 ∧ (j : Int) + (n : Int) ≤ 40 then 106 else mv_bad) (ls' := [mv_R 0, mv_I 2, mv_I (i : Int), mv_I 1, mv_I (j : Int), mv_I (n : Int), mv_R 75, mv_R 73]) (st' := []) (M1 := (mv_st M 74 ((mv_cp (M 76) (M 74) i j n)))) rfl ?_
  refine mv_tt' (by omega) ?_
  refine mv_go' 1 (pc' := 108) (ls' := [mv_R 0, mv_I 2, mv_I (i : Int), mv_I 1, mv_I (j : Int), mv_I (n : Int), mv_R 75, mv_R 73]) (st' := [mv_I (n : Int)]) (M1 := (mv_st M 74 ((mv_cp (M 76) (M 74) i j n)))) rfl ?_
  exact mv_Ru.val (mv_ret (fun n => rfl) rfl) (congrArg mv_I (by first | with_reducible rfl | (unfold sp_cpr; repeat (first | omega | split))))
theorem sp_ccpb_2_1 {M : mv_M} {i j n : Int} {so sz ro rz : Int} (hs1 : M 75 1 = so) (hz1 : M 75 2 = sz) (ht1 : M 73 1 = ro) (hr1 : M 73 2 = rz) (z1 : 0 ≤ sz ∧ sz ≤ 40) (z2 : 0 ≤ rz ∧ rz ≤ 40) (hes : (2 : Nat) = 1 → so = ro ∧ sz = rz)
    (hg : ¬ sp_cpg so sz ro rz i j n) : mv_Ru 20 94 0 [mv_R 0, mv_I 2, mv_I i, mv_I 1, mv_I j, mv_I n, mv_U, mv_U] [] M (mv_I (sp_cpr so ro)) (fun M1 => M1 = M) := by
  skip
  have hg : ¬ ((so ≠ -1 ∧ ro ≠ -1 ∧ so = ro) ∧ (0 ≤ n ∧ n ≤ sz ∧ 0 ≤ i ∧ i ≤ sz - n) ∧ (n ≤ rz ∧ 0 ≤ j ∧ j ≤ rz - n)) := hg
  refine mv_go' 2 (pc' := 2) (ls' := [mv_R 0, mv_I 2, mv_I i, mv_I 1, mv_I j, mv_I n, mv_U, mv_U]) (st' := [mv_I 2, mv_R 0]) (M1 := M) rfl ?_
  refine mv_callP (st2 := [mv_R 75]) rfl (Or.inl rfl) rfl rfl rfl (sp_sheetAt_2) (by first | decide | omega) ?_
  refine mv_go' 3 (pc' := 9) (ls' := [mv_R 0, mv_I 2, mv_I i, mv_I 1, mv_I j, mv_I n, mv_R 75, mv_U]) (st' := [mv_I 1, mv_R 0]) (M1 := M) rfl ?_
  refine mv_callP (st2 := [mv_R 73]) rfl (Or.inl rfl) rfl rfl rfl (sp_sheetAt_1) (by first | decide | omega) ?_
  refine mv_go' 6 (pc' := 29) (ls' := [mv_R 0, mv_I 2, mv_I i, mv_I 1, mv_I j, mv_I n, mv_R 75, mv_R 73]) (st' := [mv_R 75]) (M1 := M) rfl ?_
  by_cases ha84 : so = -1
  · refine mv_callP (st2 := [mv_I 1]) rfl (Or.inl rfl) rfl rfl rfl (sp_isMiss_2_t (hs1.trans ha84)) (by first | decide | omega) ?_
    refine mv_go' 1 (pc' := if 1 = 0 then 35 else 43) (ls' := [mv_R 0, mv_I 2, mv_I i, mv_I 1, mv_I j, mv_I n, mv_R 75, mv_R 73]) (st' := []) (M1 := M) rfl ?_
    refine mv_ff' (by first | decide | omega) ?_
    refine mv_go' 1 (pc' := 45) (ls' := [mv_R 0, mv_I 2, mv_I i, mv_I 1, mv_I j, mv_I n, mv_R 75, mv_R 73]) (st' := [mv_I (-11)]) (M1 := M) rfl ?_
    exact mv_Ru.val (mv_ret (fun n => rfl) rfl) (congrArg mv_I (by first | with_reducible rfl | (unfold sp_cpr; repeat (first | omega | split))))
  · refine mv_callP (st2 := [mv_I 0]) rfl (Or.inl rfl) rfl rfl rfl (sp_isMiss_2_f (fun q => ha84 (hs1.symm.trans q))) (by first | decide | omega) ?_
    refine mv_go' 1 (pc' := if 0 = 0 then 35 else 43) (ls' := [mv_R 0, mv_I 2, mv_I i, mv_I 1, mv_I j, mv_I n, mv_R 75, mv_R 73]) (st' := []) (M1 := M) rfl ?_
    refine mv_tt' (by first | decide | omega) ?_
    refine mv_go' 1 (pc' := 37) (ls' := [mv_R 0, mv_I 2, mv_I i, mv_I 1, mv_I j, mv_I n, mv_R 75, mv_R 73]) (st' := [mv_R 73]) (M1 := M) rfl ?_
    by_cases ha85 : ro = -1
    · refine mv_callP (st2 := [mv_I 1]) rfl (Or.inl rfl) rfl rfl rfl (sp_isMiss_1_t (ht1.trans ha85)) (by first | decide | omega) ?_
      refine mv_go' 1 (pc' := if 1 = 0 then 46 else 43) (ls' := [mv_R 0, mv_I 2, mv_I i, mv_I 1, mv_I j, mv_I n, mv_R 75, mv_R 73]) (st' := []) (M1 := M) rfl ?_
      refine mv_ff' (by first | decide | omega) ?_
      refine mv_go' 1 (pc' := 45) (ls' := [mv_R 0, mv_I 2, mv_I i, mv_I 1, mv_I j, mv_I n, mv_R 75, mv_R 73]) (st' := [mv_I (-11)]) (M1 := M) rfl ?_
      exact mv_Ru.val (mv_ret (fun n => rfl) rfl) (congrArg mv_I (by first | with_reducible rfl | (unfold sp_cpr; repeat (first | omega | split))))
    · refine mv_callP (st2 := [mv_I 0]) rfl (Or.inl rfl) rfl rfl rfl (sp_isMiss_1_f (fun q => ha85 (ht1.symm.trans q))) (by first | decide | omega) ?_
      refine mv_go' 1 (pc' := if 0 = 0 then 46 else 43) (ls' := [mv_R 0, mv_I 2, mv_I i, mv_I 1, mv_I j, mv_I n, mv_R 75, mv_R 73]) (st' := []) (M1 := M) rfl ?_
      refine mv_tt' (by first | decide | omega) ?_
      refine mv_go' 2 (pc' := 51) (ls' := [mv_R 0, mv_I 2, mv_I i, mv_I 1, mv_I j, mv_I n, mv_R 75, mv_R 73]) (st' := [mv_I (M 75 1)]) (M1 := M) rfl ?_
      rw [show M 75 1 = so from by exact hs1]
      refine mv_go' 2 (pc' := 56) (ls' := [mv_R 0, mv_I 2, mv_I i, mv_I 1, mv_I j, mv_I n, mv_R 75, mv_R 73]) (st' := [mv_I (M 73 1), mv_I so]) (M1 := M) rfl ?_
      rw [show M 73 1 = ro from by exact ht1]
      refine mv_go' 1 (pc' := if so = ro then 62 else 59) (ls' := [mv_R 0, mv_I 2, mv_I i, mv_I 1, mv_I j, mv_I n, mv_R 75, mv_R 73]) (st' := []) (M1 := M) rfl ?_
      refine mv_sp' (fun ha86 => ?_) (fun ha86 => ?_)
      · refine mv_go' 3 (pc' := 67) (ls' := [mv_R 0, mv_I 2, mv_I i, mv_I 1, mv_I j, mv_I n, mv_R 75, mv_R 73]) (st' := [mv_I n, mv_I i, mv_R 75]) (M1 := M) rfl ?_
        by_cases ha87 : 0 ≤ n ∧ n ≤ sz ∧ 0 ≤ i ∧ i ≤ sz - n
        · refine mv_callP (st2 := [mv_I 1]) rfl (Or.inl rfl) rfl rfl rfl (sp_hasRun_2_t hz1 (by omega) (by omega) ha87) (by first | decide | omega) ?_
          refine mv_go' 1 (pc' := if 1 = 0 then 85 else 73) (ls' := [mv_R 0, mv_I 2, mv_I i, mv_I 1, mv_I j, mv_I n, mv_R 75, mv_R 73]) (st' := []) (M1 := M) rfl ?_
          refine mv_ff' (by first | decide | omega) ?_
          refine mv_go' 3 (pc' := 79) (ls' := [mv_R 0, mv_I 2, mv_I i, mv_I 1, mv_I j, mv_I n, mv_R 75, mv_R 73]) (st' := [mv_I n, mv_I j, mv_R 73]) (M1 := M) rfl ?_
          have ha88 : ¬ (0 ≤ n ∧ n ≤ rz ∧ 0 ≤ j ∧ j ≤ rz - n) := by omega
          refine mv_callP (st2 := [mv_I 0]) rfl (Or.inl rfl) rfl rfl rfl (sp_hasRun_1_f hr1 (by omega) (by omega) ha88) (by first | decide | omega) ?_
          refine mv_go' 1 (pc' := if 0 = 0 then 85 else 88) (ls' := [mv_R 0, mv_I 2, mv_I i, mv_I 1, mv_I j, mv_I n, mv_R 75, mv_R 73]) (st' := []) (M1 := M) rfl ?_
          refine mv_tt' (by first | decide | omega) ?_
          refine mv_go' 1 (pc' := 87) (ls' := [mv_R 0, mv_I 2, mv_I i, mv_I 1, mv_I j, mv_I n, mv_R 75, mv_R 73]) (st' := [mv_I (-12)]) (M1 := M) rfl ?_
          exact mv_Ru.val (mv_ret (fun n => rfl) rfl) (congrArg mv_I (by first | with_reducible rfl | (unfold sp_cpr; repeat (first | omega | split))))
        · refine mv_callP (st2 := [mv_I 0]) rfl (Or.inl rfl) rfl rfl rfl (sp_hasRun_2_f hz1 (by omega) (by omega) ha87) (by first | decide | omega) ?_
          refine mv_go' 1 (pc' := if 0 = 0 then 85 else 73) (ls' := [mv_R 0, mv_I 2, mv_I i, mv_I 1, mv_I j, mv_I n, mv_R 75, mv_R 73]) (st' := []) (M1 := M) rfl ?_
          refine mv_tt' (by first | decide | omega) ?_
          refine mv_go' 1 (pc' := 87) (ls' := [mv_R 0, mv_I 2, mv_I i, mv_I 1, mv_I j, mv_I n, mv_R 75, mv_R 73]) (st' := [mv_I (-12)]) (M1 := M) rfl ?_
          exact mv_Ru.val (mv_ret (fun n => rfl) rfl) (congrArg mv_I (by first | with_reducible rfl | (unfold sp_cpr; repeat (first | omega | split))))
      · refine mv_go' 1 (pc' := 61) (ls' := [mv_R 0, mv_I 2, mv_I i, mv_I 1, mv_I j, mv_I n, mv_R 75, mv_R 73]) (st' := [mv_I (-13)]) (M1 := M) rfl ?_
        exact mv_Ru.val (mv_ret (fun n => rfl) rfl) (congrArg mv_I (by first | with_reducible rfl | (unfold sp_cpr; repeat (first | omega | split))))
theorem sp_ccpg_2_2 {M : mv_M} {i j n : Nat} {so sz ro rz : Int} (hs1 : M 75 1 = so) (hz1 : M 75 2 = sz) (ht1 : M 75 1 = ro) (hr1 : M 75 2 = rz) (z1 : 0 ≤ sz ∧ sz ≤ 40) (z2 : 0 ≤ rz ∧ rz ≤ 40) (hes : (2 : Nat) = 2 → so = ro ∧ sz = rz)
    (hg : sp_cpg so sz ro rz i j n) : mv_Ru 20 94 0 [mv_R 0, mv_I 2, mv_I (i : Int), mv_I 2, mv_I (j : Int), mv_I (n : Int), mv_U, mv_U] [] M (mv_I (n : Int)) (fun M1 => M1 = mv_st M 76 (mv_cp (M 76) (M 76) i j n)) := by
  obtain ⟨⟨g1, g2, g3⟩, g4, g5⟩ := hg
  obtain ⟨hes1, hes2⟩ := hes rfl
  refine mv_go' 2 (pc' := 2) (ls' := [mv_R 0, mv_I 2, mv_I (i : Int), mv_I 2, mv_I (j : Int), mv_I (n : Int), mv_U, mv_U]) (st' := [mv_I 2, mv_R 0]) (M1 := M) rfl ?_
  refine mv_callP (st2 := [mv_R 75]) rfl (Or.inl rfl) rfl rfl rfl (sp_sheetAt_2) (by first | decide | omega) ?_
  refine mv_go' 3 (pc' := 9) (ls' := [mv_R 0, mv_I 2, mv_I (i : Int), mv_I 2, mv_I (j : Int), mv_I (n : Int), mv_R 75, mv_U]) (st' := [mv_I 2, mv_R 0]) (M1 := M) rfl ?_
  refine mv_callP (st2 := [mv_R 75]) rfl (Or.inl rfl) rfl rfl rfl (sp_sheetAt_2) (by first | decide | omega) ?_
  refine mv_go' 6 (pc' := 29) (ls' := [mv_R 0, mv_I 2, mv_I (i : Int), mv_I 2, mv_I (j : Int), mv_I (n : Int), mv_R 75, mv_R 75]) (st' := [mv_R 75]) (M1 := M) rfl ?_
  have ha89 : ¬ (ro = -1) := by omega
  refine mv_callP (st2 := [mv_I 0]) rfl (Or.inl rfl) rfl rfl rfl (sp_isMiss_2_f (fun q => ha89 (ht1.symm.trans q))) (by first | decide | omega) ?_
  refine mv_go' 1 (pc' := if 0 = 0 then 35 else 43) (ls' := [mv_R 0, mv_I 2, mv_I (i : Int), mv_I 2, mv_I (j : Int), mv_I (n : Int), mv_R 75, mv_R 75]) (st' := []) (M1 := M) rfl ?_
  refine mv_tt' (by first | decide | omega) ?_
  refine mv_go' 1 (pc' := 37) (ls' := [mv_R 0, mv_I 2, mv_I (i : Int), mv_I 2, mv_I (j : Int), mv_I (n : Int), mv_R 75, mv_R 75]) (st' := [mv_R 75]) (M1 := M) rfl ?_
  have ha90 : ¬ (ro = -1) := by omega
  refine mv_callP (st2 := [mv_I 0]) rfl (Or.inl rfl) rfl rfl rfl (sp_isMiss_2_f (fun q => ha90 (ht1.symm.trans q))) (by first | decide | omega) ?_
  refine mv_go' 1 (pc' := if 0 = 0 then 46 else 43) (ls' := [mv_R 0, mv_I 2, mv_I (i : Int), mv_I 2, mv_I (j : Int), mv_I (n : Int), mv_R 75, mv_R 75]) (st' := []) (M1 := M) rfl ?_
  refine mv_tt' (by first | decide | omega) ?_
  refine mv_go' 2 (pc' := 51) (ls' := [mv_R 0, mv_I 2, mv_I (i : Int), mv_I 2, mv_I (j : Int), mv_I (n : Int), mv_R 75, mv_R 75]) (st' := [mv_I (M 75 1)]) (M1 := M) rfl ?_
  rw [show M 75 1 = ro from by exact ht1]
  refine mv_go' 2 (pc' := 56) (ls' := [mv_R 0, mv_I 2, mv_I (i : Int), mv_I 2, mv_I (j : Int), mv_I (n : Int), mv_R 75, mv_R 75]) (st' := [mv_I (M 75 1), mv_I ro]) (M1 := M) rfl ?_
  rw [show M 75 1 = ro from by exact ht1]
  refine mv_go' 1 (pc' := if ro = ro then 62 else 59) (ls' := [mv_R 0, mv_I 2, mv_I (i : Int), mv_I 2, mv_I (j : Int), mv_I (n : Int), mv_R 75, mv_R 75]) (st' := []) (M1 := M) rfl ?_
  refine mv_tt' (by first | decide | omega) ?_
  refine mv_go' 3 (pc' := 67) (ls' := [mv_R 0, mv_I 2, mv_I (i : Int), mv_I 2, mv_I (j : Int), mv_I (n : Int), mv_R 75, mv_R 75]) (st' := [mv_I (n : Int), mv_I (i : Int), mv_R 75]) (M1 := M) rfl ?_
  have ha91 : 0 ≤ (n : Int) ∧ (n : Int) ≤ rz ∧ 0 ≤ (i : Int) ∧ (i : Int) ≤ rz - (n : Int) := by omega
  refine mv_callP (st2 := [mv_I 1]) rfl (Or.inl rfl) rfl rfl rfl (sp_hasRun_2_t hr1 (by omega) (by omega) ha91) (by first | decide | omega) ?_
  refine mv_go' 1 (pc' := if 1 = 0 then 85 else 73) (ls' := [mv_R 0, mv_I 2, mv_I (i : Int), mv_I 2, mv_I (j : Int), mv_I (n : Int), mv_R 75, mv_R 75]) (st' := []) (M1 := M) rfl ?_
  refine mv_ff' (by first | decide | omega) ?_
  refine mv_go' 3 (pc' := 79) (ls' := [mv_R 0, mv_I 2, mv_I (i : Int), mv_I 2, mv_I (j : Int), mv_I (n : Int), mv_R 75, mv_R 75]) (st' := [mv_I (n : Int), mv_I (j : Int), mv_R 75]) (M1 := M) rfl ?_
  have ha92 : 0 ≤ (n : Int) ∧ (n : Int) ≤ rz ∧ 0 ≤ (j : Int) ∧ (j : Int) ≤ rz - (n : Int) := by omega
  refine mv_callP (st2 := [mv_I 1]) rfl (Or.inl rfl) rfl rfl rfl (sp_hasRun_2_t hr1 (by omega) (by omega) ha92) (by first | decide | omega) ?_
  refine mv_go' 1 (pc' := if 1 = 0 then 85 else 88) (ls' := [mv_R 0, mv_I 2, mv_I (i : Int), mv_I 2, mv_I (j : Int), mv_I (n : Int), mv_R 75, mv_R 75]) (st' := []) (M1 := M) rfl ?_
  refine mv_ff' (by first | decide | omega) ?_
  refine mv_go' 8 (pc' := if 0 ≤ (i : Int) ∧ 0 ≤ (j : Int) ∧ 0 ≤ (n : Int) ∧ (i : Int) + (n : Int) ≤ 40 ∧ (j : Int) + (n : Int) ≤ 40 then 106 else mv_bad) (ls' := [mv_R 0, mv_I 2, mv_I (i : Int), mv_I 2, mv_I (j : Int), mv_I (n : Int), mv_R 75, mv_R 75]) (st' := []) (M1 := (mv_st M 76 ((mv_cp (M 76) (M 76) i j n)))) rfl ?_
  refine mv_tt' (by omega) ?_
  refine mv_go' 1 (pc' := 108) (ls' := [mv_R 0, mv_I 2, mv_I (i : Int), mv_I 2, mv_I (j : Int), mv_I (n : Int), mv_R 75, mv_R 75]) (st' := [mv_I (n : Int)]) (M1 := (mv_st M 76 ((mv_cp (M 76) (M 76) i j n)))) rfl ?_
  exact mv_Ru.val (mv_ret (fun n => rfl) rfl) (congrArg mv_I (by first | with_reducible rfl | (unfold sp_cpr; repeat (first | omega | split))))
theorem sp_ccpb_2_2 {M : mv_M} {i j n : Int} {so sz ro rz : Int} (hs1 : M 75 1 = so) (hz1 : M 75 2 = sz) (ht1 : M 75 1 = ro) (hr1 : M 75 2 = rz) (z1 : 0 ≤ sz ∧ sz ≤ 40) (z2 : 0 ≤ rz ∧ rz ≤ 40) (hes : (2 : Nat) = 2 → so = ro ∧ sz = rz)
    (hg : ¬ sp_cpg so sz ro rz i j n) : mv_Ru 20 94 0 [mv_R 0, mv_I 2, mv_I i, mv_I 2, mv_I j, mv_I n, mv_U, mv_U] [] M (mv_I (sp_cpr so ro)) (fun M1 => M1 = M) := by
  obtain ⟨hes1, hes2⟩ := hes rfl
  have hg : ¬ ((so ≠ -1 ∧ ro ≠ -1 ∧ so = ro) ∧ (0 ≤ n ∧ n ≤ sz ∧ 0 ≤ i ∧ i ≤ sz - n) ∧ (n ≤ rz ∧ 0 ≤ j ∧ j ≤ rz - n)) := hg
  refine mv_go' 2 (pc' := 2) (ls' := [mv_R 0, mv_I 2, mv_I i, mv_I 2, mv_I j, mv_I n, mv_U, mv_U]) (st' := [mv_I 2, mv_R 0]) (M1 := M) rfl ?_
  refine mv_callP (st2 := [mv_R 75]) rfl (Or.inl rfl) rfl rfl rfl (sp_sheetAt_2) (by first | decide | omega) ?_
  refine mv_go' 3 (pc' := 9) (ls' := [mv_R 0, mv_I 2, mv_I i, mv_I 2, mv_I j, mv_I n, mv_R 75, mv_U]) (st' := [mv_I 2, mv_R 0]) (M1 := M) rfl ?_
  refine mv_callP (st2 := [mv_R 75]) rfl (Or.inl rfl) rfl rfl rfl (sp_sheetAt_2) (by first | decide | omega) ?_
  refine mv_go' 6 (pc' := 29) (ls' := [mv_R 0, mv_I 2, mv_I i, mv_I 2, mv_I j, mv_I n, mv_R 75, mv_R 75]) (st' := [mv_R 75]) (M1 := M) rfl ?_
  by_cases ha93 : ro = -1
  · refine mv_callP (st2 := [mv_I 1]) rfl (Or.inl rfl) rfl rfl rfl (sp_isMiss_2_t (ht1.trans ha93)) (by first | decide | omega) ?_
    refine mv_go' 1 (pc' := if 1 = 0 then 35 else 43) (ls' := [mv_R 0, mv_I 2, mv_I i, mv_I 2, mv_I j, mv_I n, mv_R 75, mv_R 75]) (st' := []) (M1 := M) rfl ?_
    refine mv_ff' (by first | decide | omega) ?_
    refine mv_go' 1 (pc' := 45) (ls' := [mv_R 0, mv_I 2, mv_I i, mv_I 2, mv_I j, mv_I n, mv_R 75, mv_R 75]) (st' := [mv_I (-11)]) (M1 := M) rfl ?_
    exact mv_Ru.val (mv_ret (fun n => rfl) rfl) (congrArg mv_I (by first | with_reducible rfl | (unfold sp_cpr; repeat (first | omega | split))))
  · refine mv_callP (st2 := [mv_I 0]) rfl (Or.inl rfl) rfl rfl rfl (sp_isMiss_2_f (fun q => ha93 (ht1.symm.trans q))) (by first | decide | omega) ?_
    refine mv_go' 1 (pc' := if 0 = 0 then 35 else 43) (ls' := [mv_R 0, mv_I 2, mv_I i, mv_I 2, mv_I j, mv_I n, mv_R 75, mv_R 75]) (st' := []) (M1 := M) rfl ?_
    refine mv_tt' (by first | decide | omega) ?_
    refine mv_go' 1 (pc' := 37) (ls' := [mv_R 0, mv_I 2, mv_I i, mv_I 2, mv_I j, mv_I n, mv_R 75, mv_R 75]) (st' := [mv_R 75]) (M1 := M) rfl ?_
    have ha94 : ¬ (ro = -1) := by omega
    refine mv_callP (st2 := [mv_I 0]) rfl (Or.inl rfl) rfl rfl rfl (sp_isMiss_2_f (fun q => ha94 (ht1.symm.trans q))) (by first | decide | omega) ?_
    refine mv_go' 1 (pc' := if 0 = 0 then 46 else 43) (ls' := [mv_R 0, mv_I 2, mv_I i, mv_I 2, mv_I j, mv_I n, mv_R 75, mv_R 75]) (st' := []) (M1 := M) rfl ?_
    refine mv_tt' (by first | decide | omega) ?_
    refine mv_go' 2 (pc' := 51) (ls' := [mv_R 0, mv_I 2, mv_I i, mv_I 2, mv_I j, mv_I n, mv_R 75, mv_R 75]) (st' := [mv_I (M 75 1)]) (M1 := M) rfl ?_
    rw [show M 75 1 = ro from by exact ht1]
    refine mv_go' 2 (pc' := 56) (ls' := [mv_R 0, mv_I 2, mv_I i, mv_I 2, mv_I j, mv_I n, mv_R 75, mv_R 75]) (st' := [mv_I (M 75 1), mv_I ro]) (M1 := M) rfl ?_
    rw [show M 75 1 = ro from by exact ht1]
    refine mv_go' 1 (pc' := if ro = ro then 62 else 59) (ls' := [mv_R 0, mv_I 2, mv_I i, mv_I 2, mv_I j, mv_I n, mv_R 75, mv_R 75]) (st' := []) (M1 := M) rfl ?_
    refine mv_tt' (by first | decide | omega) ?_
    refine mv_go' 3 (pc' := 67) (ls' := [mv_R 0, mv_I 2, mv_I i, mv_I 2, mv_I j, mv_I n, mv_R 75, mv_R 75]) (st' := [mv_I n, mv_I i, mv_R 75]) (M1 := M) rfl ?_
    by_cases ha95 : 0 ≤ n ∧ n ≤ rz ∧ 0 ≤ i ∧ i ≤ rz - n
    · refine mv_callP (st2 := [mv_I 1]) rfl (Or.inl rfl) rfl rfl rfl (sp_hasRun_2_t hr1 (by omega) (by omega) ha95) (by first | decide | omega) ?_
      refine mv_go' 1 (pc' := if 1 = 0 then 85 else 73) (ls' := [mv_R 0, mv_I 2, mv_I i, mv_I 2, mv_I j, mv_I n, mv_R 75, mv_R 75]) (st' := []) (M1 := M) rfl ?_
      refine mv_ff' (by first | decide | omega) ?_
      refine mv_go' 3 (pc' := 79) (ls' := [mv_R 0, mv_I 2, mv_I i, mv_I 2, mv_I j, mv_I n, mv_R 75, mv_R 75]) (st' := [mv_I n, mv_I j, mv_R 75]) (M1 := M) rfl ?_
      have ha96 : ¬ (0 ≤ n ∧ n ≤ rz ∧ 0 ≤ j ∧ j ≤ rz - n) := by omega
      refine mv_callP (st2 := [mv_I 0]) rfl (Or.inl rfl) rfl rfl rfl (sp_hasRun_2_f hr1 (by omega) (by omega) ha96) (by first | decide | omega) ?_
      refine mv_go' 1 (pc' := if 0 = 0 then 85 else 88) (ls' := [mv_R 0, mv_I 2, mv_I i, mv_I 2, mv_I j, mv_I n, mv_R 75, mv_R 75]) (st' := []) (M1 := M) rfl ?_
      refine mv_tt' (by first | decide | omega) ?_
      refine mv_go' 1 (pc' := 87) (ls' := [mv_R 0, mv_I 2, mv_I i, mv_I 2, mv_I j, mv_I n, mv_R 75, mv_R 75]) (st' := [mv_I (-12)]) (M1 := M) rfl ?_
      exact mv_Ru.val (mv_ret (fun n => rfl) rfl) (congrArg mv_I (by first | with_reducible rfl | (unfold sp_cpr; repeat (first | omega | split))))
    · refine mv_callP (st2 := [mv_I 0]) rfl (Or.inl rfl) rfl rfl rfl (sp_hasRun_2_f hr1 (by omega) (by omega) ha95) (by first | decide | omega) ?_
      refine mv_go' 1 (pc' := if 0 = 0 then 85 else 73) (ls' := [mv_R 0, mv_I 2, mv_I i, mv_I 2, mv_I j, mv_I n, mv_R 75, mv_R 75]) (st' := []) (M1 := M) rfl ?_
      refine mv_tt' (by first | decide | omega) ?_
      refine mv_go' 1 (pc' := 87) (ls' := [mv_R 0, mv_I 2, mv_I i, mv_I 2, mv_I j, mv_I n, mv_R 75, mv_R 75]) (st' := [mv_I (-12)]) (M1 := M) rfl ?_
      exact mv_Ru.val (mv_ret (fun n => rfl) rfl) (congrArg mv_I (by first | with_reducible rfl | (unfold sp_cpr; repeat (first | omega | split))))
theorem sp_ccpg_2_3 {M : mv_M} {i j n : Nat} {so sz ro rz : Int} (hs1 : M 75 1 = so) (hz1 : M 75 2 = sz) (ht1 : M 77 1 = ro) (hr1 : M 77 2 = rz) (z1 : 0 ≤ sz ∧ sz ≤ 40) (z2 : 0 ≤ rz ∧ rz ≤ 40) (hes : (2 : Nat) = 3 → so = ro ∧ sz = rz)
    (hg : sp_cpg so sz ro rz i j n) : mv_Ru 20 94 0 [mv_R 0, mv_I 2, mv_I (i : Int), mv_I 3, mv_I (j : Int), mv_I (n : Int), mv_U, mv_U] [] M (mv_I (n : Int)) (fun M1 => M1 = mv_st M 78 (mv_cp (M 76) (M 78) i j n)) := by
  obtain ⟨⟨g1, g2, g3⟩, g4, g5⟩ := hg
  skip
  refine mv_go' 2 (pc' := 2) (ls' := [mv_R 0, mv_I 2, mv_I (i : Int), mv_I 3, mv_I (j : Int), mv_I (n : Int), mv_U, mv_U]) (st' := [mv_I 2, mv_R 0]) (M1 := M) rfl ?_
  refine mv_callP (st2 := [mv_R 75]) rfl (Or.inl rfl) rfl rfl rfl (sp_sheetAt_2) (by first | decide | omega) ?_
  refine mv_go' 3 (pc' := 9) (ls' := [mv_R 0, mv_I 2, mv_I (i : Int), mv_I 3, mv_I (j : Int), mv_I (n : Int), mv_R 75, mv_U]) (st' := [mv_I 3, mv_R 0]) (M1 := M) rfl ?_
  refine mv_callP (st2 := [mv_R 77]) rfl (Or.inl rfl) rfl rfl rfl (sp_sheetAt_3) (by first | decide | omega) ?_
  refine mv_go' 6 (pc' := 29) (ls' := [mv_R 0, mv_I 2, mv_I (i : Int), mv_I 3, mv_I (j : Int), mv_I (n : Int), mv_R 75, mv_R 77]) (st' := [mv_R 75]) (M1 := M) rfl ?_
  have ha97 : ¬ (so = -1) := by omega
  refine mv_callP (st2 := [mv_I 0]) rfl (Or.inl rfl) rfl rfl rfl (sp_isMiss_2_f (fun q => ha97 (hs1.symm.trans q))) (by first | decide | omega) ?_
  refine mv_go' 1 (pc' := if 0 = 0 then 35 else 43) (ls' := [mv_R 0, mv_I 2, mv_I (i : Int), mv_I 3, mv_I (j : Int), mv_I (n : Int), mv_R 75, mv_R 77]) (st' := []) (M1 := M) rfl ?_
  refine mv_tt' (by first | decide | omega) ?_
  refine mv_go' 1 (pc' := 37) (ls' := [mv_R 0, mv_I 2, mv_I (i : Int), mv_I 3, mv_I (j : Int), mv_I (n : Int), mv_R 75, mv_R 77]) (st' := [mv_R 77]) (M1 := M) rfl ?_
  have ha98 : ¬ (ro = -1) := by omega
  refine mv_callP (st2 := [mv_I 0]) rfl (Or.inl rfl) rfl rfl rfl (sp_isMiss_3_f (fun q => ha98 (ht1.symm.trans q))) (by first | decide | omega) ?_
  refine mv_go' 1 (pc' := if 0 = 0 then 46 else 43) (ls' := [mv_R 0, mv_I 2, mv_I (i : Int), mv_I 3, mv_I (j : Int), mv_I (n : Int), mv_R 75, mv_R 77]) (st' := []) (M1 := M) rfl ?_
  refine mv_tt' (by first | decide | omega) ?_
  refine mv_go' 2 (pc' := 51) (ls' := [mv_R 0, mv_I 2, mv_I (i : Int), mv_I 3, mv_I (j : Int), mv_I (n : Int), mv_R 75, mv_R 77]) (st' := [mv_I (M 75 1)]) (M1 := M) rfl ?_
  rw [show M 75 1 = so from by exact hs1]
  refine mv_go' 2 (pc' := 56) (ls' := [mv_R 0, mv_I 2, mv_I (i : Int), mv_I 3, mv_I (j : Int), mv_I (n : Int), mv_R 75, mv_R 77]) (st' := [mv_I (M 77 1), mv_I so]) (M1 := M) rfl ?_
  rw [show M 77 1 = ro from by exact ht1]
  refine mv_go' 1 (pc' := if so = ro then 62 else 59) (ls' := [mv_R 0, mv_I 2, mv_I (i : Int), mv_I 3, mv_I (j : Int), mv_I (n : Int), mv_R 75, mv_R 77]) (st' := []) (M1 := M) rfl ?_
  refine mv_tt' (by omega) ?_
  refine mv_go' 3 (pc' := 67) (ls' := [mv_R 0, mv_I 2, mv_I (i : Int), mv_I 3, mv_I (j : Int), mv_I (n : Int), mv_R 75, mv_R 77]) (st' := [mv_I (n : Int), mv_I (i : Int), mv_R 75]) (M1 := M) rfl ?_
  have ha99 : 0 ≤ (n : Int) ∧ (n : Int) ≤ sz ∧ 0 ≤ (i : Int) ∧ (i : Int) ≤ sz - (n : Int) := by omega
  refine mv_callP (st2 := [mv_I 1]) rfl (Or.inl rfl) rfl rfl rfl (sp_hasRun_2_t hz1 (by omega) (by omega) ha99) (by first | decide | omega) ?_
  refine mv_go' 1 (pc' := if 1 = 0 then 85 else 73) (ls' := [mv_R 0, mv_I 2, mv_I (i : Int), mv_I 3, mv_I (j : Int), mv_I (n : Int), mv_R 75, mv_R 77]) (st' := []) (M1 := M) rfl ?_
  refine mv_ff' (by first | decide | omega) ?_
  refine mv_go' 3 (pc' := 79) (ls' := [mv_R 0, mv_I 2, mv_I (i : Int), mv_I 3, mv_I (j : Int), mv_I (n : Int), mv_R 75, mv_R 77]) (st' := [mv_I (n : Int), mv_I (j : Int), mv_R 77]) (M1 := M) rfl ?_
  have ha100 : 0 ≤ (n : Int) ∧ (n : Int) ≤ rz ∧ 0 ≤ (j : Int) ∧ (j : Int) ≤ rz - (n : Int) := by omega
  refine mv_callP (st2 := [mv_I 1]) rfl (Or.inl rfl) rfl rfl rfl (sp_hasRun_3_t hr1 (by omega) (by omega) ha100) (by first | decide | omega) ?_
  refine mv_go' 1 (pc' := if 1 = 0 then 85 else 88) (ls' := [mv_R 0, mv_I 2, mv_I (i : Int), mv_I 3, mv_I (j : Int), mv_I (n : Int), mv_R 75, mv_R 77]) (st' := []) (M1 := M) rfl ?_
  refine mv_ff' (by first | decide | omega) ?_
  refine mv_go' 8 (pc' := if 0 ≤ (i : Int) ∧ 0 ≤ (j : Int) ∧ 0 ≤ (n : Int) ∧ (i : Int) + (n : Int) ≤ 40 ∧ (j : Int) + (n : Int) ≤ 40 then 106 else mv_bad) (ls' := [mv_R 0, mv_I 2, mv_I (i : Int), mv_I 3, mv_I (j : Int), mv_I (n : Int), mv_R 75, mv_R 77]) (st' := []) (M1 := (mv_st M 78 ((mv_cp (M 76) (M 78) i j n)))) rfl ?_
  refine mv_tt' (by omega) ?_
  refine mv_go' 1 (pc' := 108) (ls' := [mv_R 0, mv_I 2, mv_I (i : Int), mv_I 3, mv_I (j : Int), mv_I (n : Int), mv_R 75, mv_R 77]) (st' := [mv_I (n : Int)]) (M1 := (mv_st M 78 ((mv_cp (M 76) (M 78) i j n)))) rfl ?_
  exact mv_Ru.val (mv_ret (fun n => rfl) rfl) (congrArg mv_I (by first | with_reducible rfl | (unfold sp_cpr; repeat (first | omega | split))))
theorem sp_ccpb_2_3 {M : mv_M} {i j n : Int} {so sz ro rz : Int} (hs1 : M 75 1 = so) (hz1 : M 75 2 = sz) (ht1 : M 77 1 = ro) (hr1 : M 77 2 = rz) (z1 : 0 ≤ sz ∧ sz ≤ 40) (z2 : 0 ≤ rz ∧ rz ≤ 40) (hes : (2 : Nat) = 3 → so = ro ∧ sz = rz)
    (hg : ¬ sp_cpg so sz ro rz i j n) : mv_Ru 20 94 0 [mv_R 0, mv_I 2, mv_I i, mv_I 3, mv_I j, mv_I n, mv_U, mv_U] [] M (mv_I (sp_cpr so ro)) (fun M1 => M1 = M) := by
  skip
  have hg : ¬ ((so ≠ -1 ∧ ro ≠ -1 ∧ so = ro) ∧ (0 ≤ n ∧ n ≤ sz ∧ 0 ≤ i ∧ i ≤ sz - n) ∧ (n ≤ rz ∧ 0 ≤ j ∧ j ≤ rz - n)) := hg
  refine mv_go' 2 (pc' := 2) (ls' := [mv_R 0, mv_I 2, mv_I i, mv_I 3, mv_I j, mv_I n, mv_U, mv_U]) (st' := [mv_I 2, mv_R 0]) (M1 := M) rfl ?_
  refine mv_callP (st2 := [mv_R 75]) rfl (Or.inl rfl) rfl rfl rfl (sp_sheetAt_2) (by first | decide | omega) ?_
  refine mv_go' 3 (pc' := 9) (ls' := [mv_R 0, mv_I 2, mv_I i, mv_I 3, mv_I j, mv_I n, mv_R 75, mv_U]) (st' := [mv_I 3, mv_R 0]) (M1 := M) rfl ?_
  refine mv_callP (st2 := [mv_R 77]) rfl (Or.inl rfl) rfl rfl rfl (sp_sheetAt_3) (by first | decide | omega) ?_
  refine mv_go' 6 (pc' := 29) (ls' := [mv_R 0, mv_I 2, mv_I i, mv_I 3, mv_I j, mv_I n, mv_R 75, mv_R 77]) (st' := [mv_R 75]) (M1 := M) rfl ?_
  by_cases ha101 : so = -1
  · refine mv_callP (st2 := [mv_I 1]) rfl (Or.inl rfl) rfl rfl rfl (sp_isMiss_2_t (hs1.trans ha101)) (by first | decide | omega) ?_
    refine mv_go' 1 (pc' := if 1 = 0 then 35 else 43) (ls' := [mv_R 0, mv_I 2, mv_I i, mv_I 3, mv_I j, mv_I n, mv_R 75, mv_R 77]) (st' := []) (M1 := M) rfl ?_
    refine mv_ff' (by first | decide | omega) ?_
    refine mv_go' 1 (pc' := 45) (ls' := [mv_R 0, mv_I 2, mv_I i, mv_I 3, mv_I j, mv_I n, mv_R 75, mv_R 77]) (st' := [mv_I (-11)]) (M1 := M) rfl ?_
    exact mv_Ru.val (mv_ret (fun n => rfl) rfl) (congrArg mv_I (by first | with_reducible rfl | (unfold sp_cpr; repeat (first | omega | split))))
  · refine mv_callP (st2 := [mv_I 0]) rfl (Or.inl rfl) rfl rfl rfl (sp_isMiss_2_f (fun q => ha101 (hs1.symm.trans q))) (by first | decide | omega) ?_
    refine mv_go' 1 (pc' := if 0 = 0 then 35 else 43) (ls' := [mv_R 0, mv_I 2, mv_I i, mv_I 3, mv_I j, mv_I n, mv_R 75, mv_R 77]) (st' := []) (M1 := M) rfl ?_
    refine mv_tt' (by first | decide | omega) ?_
    refine mv_go' 1 (pc' := 37) (ls' := [mv_R 0, mv_I 2, mv_I i, mv_I 3, mv_I j, mv_I n, mv_R 75, mv_R 77]) (st' := [mv_R 77]) (M1 := M) rfl ?_
    by_cases ha102 : ro = -1
    · refine mv_callP (st2 := [mv_I 1]) rfl (Or.inl rfl) rfl rfl rfl (sp_isMiss_3_t (ht1.trans ha102)) (by first | decide | omega) ?_
      refine mv_go' 1 (pc' := if 1 = 0 then 46 else 43) (ls' := [mv_R 0, mv_I 2, mv_I i, mv_I 3, mv_I j, mv_I n, mv_R 75, mv_R 77]) (st' := []) (M1 := M) rfl ?_
      refine mv_ff' (by first | decide | omega) ?_
      refine mv_go' 1 (pc' := 45) (ls' := [mv_R 0, mv_I 2, mv_I i, mv_I 3, mv_I j, mv_I n, mv_R 75, mv_R 77]) (st' := [mv_I (-11)]) (M1 := M) rfl ?_
      exact mv_Ru.val (mv_ret (fun n => rfl) rfl) (congrArg mv_I (by first | with_reducible rfl | (unfold sp_cpr; repeat (first | omega | split))))
    · refine mv_callP (st2 := [mv_I 0]) rfl (Or.inl rfl) rfl rfl rfl (sp_isMiss_3_f (fun q => ha102 (ht1.symm.trans q))) (by first | decide | omega) ?_
      refine mv_go' 1 (pc' := if 0 = 0 then 46 else 43) (ls' := [mv_R 0, mv_I 2, mv_I i, mv_I 3, mv_I j, mv_I n, mv_R 75, mv_R 77]) (st' := []) (M1 := M) rfl ?_
      refine mv_tt' (by first | decide | omega) ?_
      refine mv_go' 2 (pc' := 51) (ls' := [mv_R 0, mv_I 2, mv_I i, mv_I 3, mv_I j, mv_I n, mv_R 75, mv_R 77]) (st' := [mv_I (M 75 1)]) (M1 := M) rfl ?_
      rw [show M 75 1 = so from by exact hs1]
      refine mv_go' 2 (pc' := 56) (ls' := [mv_R 0, mv_I 2, mv_I i, mv_I 3, mv_I j, mv_I n, mv_R 75, mv_R 77]) (st' := [mv_I (M 77 1), mv_I so]) (M1 := M) rfl ?_
      rw [show M 77 1 = ro from by exact ht1]
      refine mv_go' 1 (pc' := if so = ro then 62 else 59) (ls' := [mv_R 0, mv_I 2, mv_I i, mv_I 3, mv_I j, mv_I n, mv_R 75, mv_R 77]) (st' := []) (M1 := M) rfl ?_
      refine mv_sp' (fun ha103 => ?_) (fun ha103 => ?_)
      · refine mv_go' 3 (pc' := 67) (ls' := [mv_R 0, mv_I 2, mv_I i, mv_I 3, mv_I j, mv_I n, mv_R 75, mv_R 77]) (st' := [mv_I n, mv_I i, mv_R 75]) (M1 := M) rfl ?_
        by_cases ha104 : 0 ≤ n ∧ n ≤ sz ∧ 0 ≤ i ∧ i ≤ sz - n
        · refine mv_callP (st2 := [mv_I 1]) rfl (Or.inl rfl) rfl rfl rfl (sp_hasRun_2_t hz1 (by omega) (by omega) ha104) (by first | decide | omega) ?_
          refine mv_go' 1 (pc' := if 1 = 0 then 85 else 73) (ls' := [mv_R 0, mv_I 2, mv_I i, mv_I 3, mv_I j, mv_I n, mv_R 75, mv_R 77]) (st' := []) (M1 := M) rfl ?_
          refine mv_ff' (by first | decide | omega) ?_
          refine mv_go' 3 (pc' := 79) (ls' := [mv_R 0, mv_I 2, mv_I i, mv_I 3, mv_I j, mv_I n, mv_R 75, mv_R 77]) (st' := [mv_I n, mv_I j, mv_R 77]) (M1 := M) rfl ?_
          have ha105 : ¬ (0 ≤ n ∧ n ≤ rz ∧ 0 ≤ j ∧ j ≤ rz - n) := by omega
          refine mv_callP (st2 := [mv_I 0]) rfl (Or.inl rfl) rfl rfl rfl (sp_hasRun_3_f hr1 (by omega) (by omega) ha105) (by first | decide | omega) ?_
          refine mv_go' 1 (pc' := if 0 = 0 then 85 else 88) (ls' := [mv_R 0, mv_I 2, mv_I i, mv_I 3, mv_I j, mv_I n, mv_R 75, mv_R 77]) (st' := []) (M1 := M) rfl ?_
          refine mv_tt' (by first | decide | omega) ?_
          refine mv_go' 1 (pc' := 87) (ls' := [mv_R 0, mv_I 2, mv_I i, mv_I 3, mv_I j, mv_I n, mv_R 75, mv_R 77]) (st' := [mv_I (-12)]) (M1 := M) rfl ?_
          exact mv_Ru.val (mv_ret (fun n => rfl) rfl) (congrArg mv_I (by first | with_reducible rfl | (unfold sp_cpr; repeat (first | omega | split))))
        · refine mv_callP (st2 := [mv_I 0]) rfl (Or.inl rfl) rfl rfl rfl (sp_hasRun_2_f hz1 (by omega) (by omega) ha104) (by first | decide | omega) ?_
          refine mv_go' 1 (pc' := if 0 = 0 then 85 else 73) (ls' := [mv_R 0, mv_I 2, mv_I i, mv_I 3, mv_I j, mv_I n, mv_R 75, mv_R 77]) (st' := []) (M1 := M) rfl ?_
          refine mv_tt' (by first | decide | omega) ?_
          refine mv_go' 1 (pc' := 87) (ls' := [mv_R 0, mv_I 2, mv_I i, mv_I 3, mv_I j, mv_I n, mv_R 75, mv_R 77]) (st' := [mv_I (-12)]) (M1 := M) rfl ?_
          exact mv_Ru.val (mv_ret (fun n => rfl) rfl) (congrArg mv_I (by first | with_reducible rfl | (unfold sp_cpr; repeat (first | omega | split))))
      · refine mv_go' 1 (pc' := 61) (ls' := [mv_R 0, mv_I 2, mv_I i, mv_I 3, mv_I j, mv_I n, mv_R 75, mv_R 77]) (st' := [mv_I (-13)]) (M1 := M) rfl ?_
        exact mv_Ru.val (mv_ret (fun n => rfl) rfl) (congrArg mv_I (by first | with_reducible rfl | (unfold sp_cpr; repeat (first | omega | split))))
theorem sp_ccpg_3_0 {M : mv_M} {i j n : Nat} {so sz ro rz : Int} (hs1 : M 77 1 = so) (hz1 : M 77 2 = sz) (ht1 : M 71 1 = ro) (hr1 : M 71 2 = rz) (z1 : 0 ≤ sz ∧ sz ≤ 40) (z2 : 0 ≤ rz ∧ rz ≤ 40) (hes : (3 : Nat) = 0 → so = ro ∧ sz = rz)
    (hg : sp_cpg so sz ro rz i j n) : mv_Ru 20 94 0 [mv_R 0, mv_I 3, mv_I (i : Int), mv_I 0, mv_I (j : Int), mv_I (n : Int), mv_U, mv_U] [] M (mv_I (n : Int)) (fun M1 => M1 = mv_st M 72 (mv_cp (M 78) (M 72) i j n)) := by
  obtain ⟨⟨g1, g2, g3⟩, g4, g5⟩ := hg
  skip
  refine mv_go' 2 (pc' := 2) (ls' := [mv_R 0, mv_I 3, mv_I (i : Int), mv_I 0, mv_I (j : Int), mv_I (n : Int), mv_U, mv_U]) (st' := [mv_I 3, mv_R 0]) (M1 := M) rfl ?_
  refine mv_callP (st2 := [mv_R 77]) rfl (Or.inl rfl) rfl rfl rfl (sp_sheetAt_3) (by first | decide | omega) ?_
  refine mv_go' 3 (pc' := 9) (ls' := [mv_R 0, mv_I 3, mv_I (i : Int), mv_I 0, mv_I (j : Int), mv_I (n : Int), mv_R 77, mv_U]) (st' := [mv_I 0, mv_R 0]) (M1 := M) rfl ?_
  refine mv_callP (st2 := [mv_R 71]) rfl (Or.inl rfl) rfl rfl rfl (sp_sheetAt_0) (by first | decide | omega) ?_
  refine mv_go' 6 (pc' := 29) (ls' := [mv_R 0, mv_I 3, mv_I (i : Int), mv_I 0, mv_I (j : Int), mv_I (n : Int), mv_R 77, mv_R 71]) (st' := [mv_R 77]) (M1 := M) rfl ?_
  have ha106 : ¬ (so = -1) := by omega
  refine mv_callP (st2 := [mv_I 0]) rfl (Or.inl rfl) rfl rfl rfl (sp_isMiss_3_f (fun q => ha106 (hs1.symm.trans q))) (by first | decide | omega) ?_
  refine mv_go' 1 (pc' := if 0 = 0 then 35 else 43) (ls' := [mv_R 0, mv_I 3, mv_I (i : Int), mv_I 0, mv_I (j : Int), mv_I (n : Int), mv_R 77, mv_R 71]) (st' := []) (M1 := M) rfl ?_
  refine mv_tt' (by first | decide | omega) ?_
  refine mv_go' 1 (pc' := 37) (ls' := [mv_R 0, mv_I 3, mv_I (i : Int), mv_I 0, mv_I (j : Int), mv_I (n : Int), mv_R 77, mv_R 71]) (st' := [mv_R 71]) (M1 := M) rfl ?_
  have ha107 : ¬ (ro = -1) := by omega
  refine mv_callP (st2 := [mv_I 0]) rfl (Or.inl rfl) rfl rfl rfl (sp_isMiss_0_f (fun q => ha107 (ht1.symm.trans q))) (by first | decide | omega) ?_
  refine mv_go' 1 (pc' := if 0 = 0 then 46 else 43) (ls' := [mv_R 0, mv_I 3, mv_I (i : Int), mv_I 0, mv_I (j : Int), mv_I (n : Int), mv_R 77, mv_R 71]) (st' := []) (M1 := M) rfl ?_
  refine mv_tt' (by first | decide | omega) ?_
  refine mv_go' 2 (pc' := 51) (ls' := [mv_R 0, mv_I 3, mv_I (i : Int), mv_I 0, mv_I (j : Int), mv_I (n : Int), mv_R 77, mv_R 71]) (st' := [mv_I (M 77 1)]) (M1 := M) rfl ?_
  rw [show M 77 1 = so from by exact hs1]
  refine mv_go' 2 (pc' := 56) (ls' := [mv_R 0, mv_I 3, mv_I (i : Int), mv_I 0, mv_I (j : Int), mv_I (n : Int), mv_R 77, mv_R 71]) (st' := [mv_I (M 71 1), mv_I so]) (M1 := M) rfl ?_
  rw [show M 71 1 = ro from by exact ht1]
  refine mv_go' 1 (pc' := if so = ro then 62 else 59) (ls' := [mv_R 0, mv_I 3, mv_I (i : Int), mv_I 0, mv_I (j : Int), mv_I (n : Int), mv_R 77, mv_R 71]) (st' := []) (M1 := M) rfl ?_
  refine mv_tt' (by omega) ?_
  refine mv_go' 3 (pc' := 67) (ls' := [mv_R 0, mv_I 3, mv_I (i : Int), mv_I 0, mv_I (j : Int), mv_I (n : Int), mv_R 77, mv_R 71]) (st' := [mv_I (n : Int), mv_I (i : Int), mv_R 77]) (M1 := M) rfl ?_
  have ha108 : 0 ≤ (n : Int) ∧ (n : Int) ≤ sz ∧ 0 ≤ (i : Int) ∧ (i : Int) ≤ sz - (n : Int) := by omega
  refine mv_callP (st2 := [mv_I 1]) rfl (Or.inl rfl) rfl rfl rfl (sp_hasRun_3_t hz1 (by omega) (by omega) ha108) (by first | decide | omega) ?_
  refine mv_go' 1 (pc' := if 1 = 0 then 85 else 73) (ls' := [mv_R 0, mv_I 3, mv_I (i : Int), mv_I 0, mv_I (j : Int), mv_I (n : Int), mv_R 77, mv_R 71]) (st' := []) (M1 := M) rfl ?_
  refine mv_ff' (by first | decide | omega) ?_
  refine mv_go' 3 (pc' := 79) (ls' := [mv_R 0, mv_I 3, mv_I (i : Int), mv_I 0, mv_I (j : Int), mv_I (n : Int), mv_R 77, mv_R 71]) (st' := [mv_I (n : Int), mv_I (j : Int), mv_R 71]) (M1 := M) rfl ?_
  have ha109 : 0 ≤ (n : Int) ∧ (n : Int) ≤ rz ∧ 0 ≤ (j : Int) ∧ (j : Int) ≤ rz - (n : Int) := by omega
  refine mv_callP (st2 := [mv_I 1]) rfl (Or.inl rfl) rfl rfl rfl (sp_hasRun_0_t hr1 (by omega) (by omega) ha109) (by first | decide | omega) ?_
  refine mv_go' 1 (pc' := if 1 = 0 then 85 else 88) (ls' := [mv_R 0, mv_I 3, mv_I (i : Int), mv_I 0, mv_I (j : Int), mv_I (n : Int), mv_R 77, mv_R 71]) (st' := []) (M1 := M) rfl ?_
  refine mv_ff' (by first | decide | omega) ?_
  refine mv_go' 8 (pc' := if 0 ≤ (i : Int) ∧ 0 ≤ (j : Int) ∧ 0 ≤ (n : Int) ∧ (i : Int) + (n : Int) ≤ 40 ∧ (j : Int) + (n : Int) ≤ 40 then 106 else mv_bad) (ls' := [mv_R 0, mv_I 3, mv_I (i : Int), mv_I 0, mv_I (j : Int), mv_I (n : Int), mv_R 77, mv_R 71]) (st' := []) (M1 := (mv_st M 72 ((mv_cp (M 78) (M 72) i j n)))) rfl ?_
  refine mv_tt' (by omega) ?_
  refine mv_go' 1 (pc' := 108) (ls' := [mv_R 0, mv_I 3, mv_I (i : Int), mv_I 0, mv_I (j : Int), mv_I (n : Int), mv_R 77, mv_R 71]) (st' := [mv_I (n : Int)]) (M1 := (mv_st M 72 ((mv_cp (M 78) (M 72) i j n)))) rfl ?_
  exact mv_Ru.val (mv_ret (fun n => rfl) rfl) (congrArg mv_I (by first | with_reducible rfl | (unfold sp_cpr; repeat (first | omega | split))))
theorem sp_ccpb_3_0 {M : mv_M} {i j n : Int} {so sz ro rz : Int} (hs1 : M 77 1 = so) (hz1 : M 77 2 = sz) (ht1 : M 71 1 = ro) (hr1 : M 71 2 = rz) (z1 : 0 ≤ sz ∧ sz ≤ 40) (z2 : 0 ≤ rz ∧ rz ≤ 40) (hes : (3 : Nat) = 0 → so = ro ∧ sz = rz)
    (hg : ¬ sp_cpg so sz ro rz i j n) : mv_Ru 20 94 0 [mv_R 0, mv_I 3, mv_I i, mv_I 0, mv_I j, mv_I n, mv_U, mv_U] [] M (mv_I (sp_cpr so ro)) (fun M1 => M1 = M) := by
  skip
  have hg : ¬ ((so ≠ -1 ∧ ro ≠ -1 ∧ so = ro) ∧ (0 ≤ n ∧ n ≤ sz ∧ 0 ≤ i ∧ i ≤ sz - n) ∧ (n ≤ rz ∧ 0 ≤ j ∧ j ≤ rz - n)) := hg
  refine mv_go' 2 (pc' := 2) (ls' := [mv_R 0, mv_I 3, mv_I i, mv_I 0, mv_I j, mv_I n, mv_U, mv_U]) (st' := [mv_I 3, mv_R 0]) (M1 := M) rfl ?_
  refine mv_callP (st2 := [mv_R 77]) rfl (Or.inl rfl) rfl rfl rfl (sp_sheetAt_3) (by first | decide | omega) ?_
  refine mv_go' 3 (pc' := 9) (ls' := [mv_R 0, mv_I 3, mv_I i, mv_I 0, mv_I j, mv_I n, mv_R 77, mv_U]) (st' := [mv_I 0, mv_R 0]) (M1 := M) rfl ?_
  refine mv_callP (st2 := [mv_R 71]) rfl (Or.inl rfl) rfl rfl rfl (sp_sheetAt_0) (by first | decide | omega) ?_
  refine mv_go' 6 (pc' := 29) (ls' := [mv_R 0, mv_I 3, mv_I i, mv_I 0, mv_I j, mv_I n, mv_R 77, mv_R 71]) (st' := [mv_R 77]) (M1 := M) rfl ?_
  by_cases ha110 : so = -1
  · refine mv_callP (st2 := [mv_I 1]) rfl (Or.inl rfl) rfl rfl rfl (sp_isMiss_3_t (hs1.trans ha110)) (by first | decide | omega) ?_
    refine mv_go' 1 (pc' := if 1 = 0 then 35 else 43) (ls' := [mv_R 0, mv_I 3, mv_I i, mv_I 0, mv_I j, mv_I n, mv_R 77, mv_R 71]) (st' := []) (M1 := M) rfl ?_
    refine mv_ff' (by first | decide | omega) ?_
    refine mv_go' 1 (pc' := 45) (ls' := [mv_R 0, mv_I 3, mv_I i, mv_I 0, mv_I j, mv_I n, mv_R 77, mv_R 71]) (st' := [mv_I (-11)]) (M1 := M) rfl ?_
    exact mv_Ru.val (mv_ret (fun n => rfl) rfl) (congrArg mv_I (by first | with_reducible rfl | (unfold sp_cpr; repeat (first | omega | split))))
  · refine mv_callP (st2 := [mv_I 0]) rfl (Or.inl rfl) rfl rfl rfl (sp_isMiss_3_f (fun q => ha110 (hs1.symm.trans q))) (by first | decide | omega) ?_
    refine mv_go' 1 (pc' := if 0 = 0 then 35 else 43) (ls' := [mv_R 0, mv_I 3, mv_I i, mv_I 0, mv_I j, mv_I n, mv_R 77, mv_R 71]) (st' := []) (M1 := M) rfl ?_
    refine mv_tt' (by first | decide | omega) ?_
    refine mv_go' 1 (pc' := 37) (ls' := [mv_R 0, mv_I 3, mv_I i, mv_I 0, mv_I j, mv_I n, mv_R 77, mv_R 71]) (st' := [mv_R 71]) (M1 := M) rfl ?_
    by_cases ha111 : ro = -1
    · refine mv_callP (st2 := [mv_I 1]) rfl (Or.inl rfl) rfl rfl rfl (sp_isMiss_0_t (ht1.trans ha111)) (by first | decide | omega) ?_
      refine mv_go' 1 (pc' := if 1 = 0 then 46 else 43) (ls' := [mv_R 0, mv_I 3, mv_I i, mv_I 0, mv_I j, mv_I n, mv_R 77, mv_R 71]) (st' := []) (M1 := M) rfl ?_
      refine mv_ff' (by first | decide | omega) ?_
      refine mv_go' 1 (pc' := 45) (ls' := [mv_R 0, mv_I 3, mv_I i, mv_I 0, mv_I j, mv_I n, mv_R 77, mv_R 71]) (st' := [mv_I (-11)]) (M1 := M) rfl ?_
      exact mv_Ru.val (mv_ret (fun n => rfl) rfl) (congrArg mv_I (by first | with_reducible rfl | (unfold sp_cpr; repeat (first | omega | split))))
    · refine mv_callP (st2 := [mv_I 0]) rfl (Or.inl rfl) rfl rfl rfl (sp_isMiss_0_f (fun q => ha111 (ht1.symm.trans q))) (by first | decide | omega) ?_
      refine mv_go' 1 (pc' := if 0 = 0 then 46 else 43) (ls' := [mv_R 0, mv_I 3, mv_I i, mv_I 0, mv_I j, mv_I n, mv_R 77, mv_R 71]) (st' := []) (M1 := M) rfl ?_
      refine mv_tt' (by first | decide | omega) ?_
      refine mv_go' 2 (pc' := 51) (ls' := [mv_R 0, mv_I 3, mv_I i, mv_I 0, mv_I j, mv_I n, mv_R 77, mv_R 71]) (st' := [mv_I (M 77 1)]) (M1 := M) rfl ?_
      rw [show M 77 1 = so from by exact hs1]
      refine mv_go' 2 (pc' := 56) (ls' := [mv_R 0, mv_I 3, mv_I i, mv_I 0, mv_I j, mv_I n, mv_R 77, mv_R 71]) (st' := [mv_I (M 71 1), mv_I so]) (M1 := M) rfl ?_
      rw [show M 71 1 = ro from by exact ht1]
      refine mv_go' 1 (pc' := if so = ro then 62 else 59) (ls' := [mv_R 0, mv_I 3, mv_I i, mv_I 0, mv_I j, mv_I n, mv_R 77, mv_R 71]) (st' := []) (M1 := M) rfl ?_
      refine mv_sp' (fun ha112 => ?_) (fun ha112 => ?_)
      · refine mv_go' 3 (pc' := 67) (ls' := [mv_R 0, mv_I 3, mv_I i, mv_I 0, mv_I j, mv_I n, mv_R 77, mv_R 71]) (st' := [mv_I n, mv_I i, mv_R 77]) (M1 := M) rfl ?_
        by_cases ha113 : 0 ≤ n ∧ n ≤ sz ∧ 0 ≤ i ∧ i ≤ sz - n
        · refine mv_callP (st2 := [mv_I 1]) rfl (Or.inl rfl) rfl rfl rfl (sp_hasRun_3_t hz1 (by omega) (by omega) ha113) (by first | decide | omega) ?_
          refine mv_go' 1 (pc' := if 1 = 0 then 85 else 73) (ls' := [mv_R 0, mv_I 3, mv_I i, mv_I 0, mv_I j, mv_I n, mv_R 77, mv_R 71]) (st' := []) (M1 := M) rfl ?_
          refine mv_ff' (by first | decide | omega) ?_
          refine mv_go' 3 (pc' := 79) (ls' := [mv_R 0, mv_I 3, mv_I i, mv_I 0, mv_I j, mv_I n, mv_R 77, mv_R 71]) (st' := [mv_I n, mv_I j, mv_R 71]) (M1 := M) rfl ?_
          have ha114 : ¬ (0 ≤ n ∧ n ≤ rz ∧ 0 ≤ j ∧ j ≤ rz - n) := by omega
          refine mv_callP (st2 := [mv_I 0]) rfl (Or.inl rfl) rfl rfl rfl (sp_hasRun_0_f hr1 (by omega) (by omega) ha114) (by first | decide | omega) ?_
          refine mv_go' 1 (pc' := if 0 = 0 then 85 else 88) (ls' := [mv_R 0, mv_I 3, mv_I i, mv_I 0, mv_I j, mv_I n, mv_R 77, mv_R 71]) (st' := []) (M1 := M) rfl ?_
          refine mv_tt' (by first | decide | omega) ?_
          refine mv_go' 1 (pc' := 87) (ls' := [mv_R 0, mv_I 3, mv_I i, mv_I 0, mv_I j, mv_I n, mv_R 77, mv_R 71]) (st' := [mv_I (-12)]) (M1 := M) rfl ?_
          exact mv_Ru.val (mv_ret (fun n => rfl) rfl) (congrArg mv_I (by first | with_reducible rfl | (unfold sp_cpr; repeat (first | omega | split))))
        · refine mv_callP (st2 := [mv_I 0]) rfl (Or.inl rfl) rfl rfl rfl (sp_hasRun_3_f hz1 (by omega) (by omega) ha113) (by first | decide | omega) ?_
          refine mv_go' 1 (pc' := if 0 = 0 then 85 else 73) (ls' := [mv_R 0, mv_I 3, mv_I i, mv_I 0, mv_I j, mv_I n, mv_R 77, mv_R 71]) (st' := []) (M1 := M) rfl ?_
          refine mv_tt' (by first | decide | omega) ?_
          refine mv_go' 1 (pc' := 87) (ls' := [mv_R 0, mv_I 3, mv_I i, mv_I 0, mv_I j, mv_I n, mv_R 77, mv_R 71]) (st' := [mv_I (-12)]) (M1 := M) rfl ?_
          exact mv_Ru.val (mv_ret (fun n => rfl) rfl) (congrArg mv_I (by first | with_reducible rfl | (unfold sp_cpr; repeat (first | omega | split))))
      · refine mv_go' 1 (pc' := 61) (ls' := [mv_R 0, mv_I 3, mv_I i, mv_I 0, mv_I j, mv_I n, mv_R 77, mv_R 71]) (st' := [mv_I (-13)]) (M1 := M) rfl ?_
        exact mv_Ru.val (mv_ret (fun n => rfl) rfl) (congrArg mv_I (by first | with_reducible rfl | (unfold sp_cpr; repeat (first | omega | split))))
theorem sp_ccpg_3_1 {M : mv_M} {i j n : Nat} {so sz ro rz : Int} (hs1 : M 77 1 = so) (hz1 : M 77 2 = sz) (ht1 : M 73 1 = ro) (hr1 : M 73 2 = rz) (z1 : 0 ≤ sz ∧ sz ≤ 40) (z2 : 0 ≤ rz ∧ rz ≤ 40) (hes : (3 : Nat) = 1 → so = ro ∧ sz = rz)
    (hg : sp_cpg so sz ro rz i j n) : mv_Ru 20 94 0 [mv_R 0, mv_I 3, mv_I (i : Int), mv_I 1, mv_I (j : Int), mv_I (n : Int), mv_U, mv_U] [] M (mv_I (n : Int)) (fun M1 => M1 = mv_st M 74 (mv_cp (M 78) (M 74) i j n)) := by
  obtain ⟨⟨g1, g2, g3⟩, g4, g5⟩ := hg
  skip
  refine mv_go' 2 (pc' := 2) (ls' := [mv_R 0, mv_I 3, mv_I (i : Int), mv_I 1, mv_I (j : Int), mv_I (n : Int), mv_U, mv_U]) (st' := [mv_I 3, mv_R 0]) (M1 := M) rfl ?_
  refine mv_callP (st2 := [mv_R 77]) rfl (Or.inl rfl) rfl rfl rfl (sp_sheetAt_3) (by first | decide | omega) ?_
  refine mv_go' 3 (pc' := 9) (ls' := [mv_R 0, mv_I 3, mv_I (i : Int), mv_I 1, mv_I (j : Int), mv_I (n : Int), mv_R 77, mv_U]) (st' := [mv_I 1, mv_R 0]) (M1 := M) rfl ?_
  refine mv_callP (st2 := [mv_R 73]) rfl (Or.inl rfl) rfl rfl rfl (sp_sheetAt_1) (by first | decide | omega) ?_
  refine mv_go' 6 (pc' := 29) (ls' := [mv_R 0, mv_I 3, mv_I (i : Int), mv_I 1, mv_I (j : Int), mv_I (n : Int), mv_R 77, mv_R 73]) (st' := [mv_R 77]) (M1 := M) rfl ?_
  have ha115 : ¬ (so = -1) := by omega
  refine mv_callP (st2 := [mv_I 0]) rfl (Or.inl rfl) rfl rfl rfl (sp_isMiss_3_f (fun q => ha115 (hs1.symm.trans q))) (by first | decide | omega) ?_
  refine mv_go' 1 (pc' := if 0 = 0 then 35 else 43) (ls' := [mv_R 0, mv_I 3, mv_I (i : Int), mv_I 1, mv_I (j : Int), mv_I (n : Int), mv_R 77, mv_R 73]) (st' := []) (M1 := M) rfl ?_
  refine mv_tt' (by first | decide | omega) ?_
  refine mv_go' 1 (pc' := 37) (ls' := [mv_R 0, mv_I 3, mv_I (i : Int), mv_I 1, mv_I (j : Int), mv_I (n : Int), mv_R 77, mv_R 73]) (st' := [mv_R 73]) (M1 := M) rfl ?_
  have ha116 : ¬ (ro = -1) := by omega
  refine mv_callP (st2 := [mv_I 0]) rfl (Or.inl rfl) rfl rfl rfl (sp_isMiss_1_f (fun q => ha116 (ht1.symm.trans q))) (by first | decide | omega) ?_
  refine mv_go' 1 (pc' := if 0 = 0 then 46 else 43) (ls' := [mv_R 0, mv_I 3, mv_I (i : Int), mv_I 1, mv_I (j : Int), mv_I (n : Int), mv_R 77, mv_R 73]) (st' := []) (M1 := M) rfl ?_
  refine mv_tt' (by first | decide | omega) ?_
  refine mv_go' 2 (pc' := 51) (ls' := [mv_R 0, mv_I 3, mv_I (i : Int), mv_I 1, mv_I (j : Int), mv_I (n : Int), mv_R 77, mv_R 73]) (st' := [mv_I (M 77 1)]) (M1 := M) rfl ?_
  rw [show M 77 1 = so from by exact hs1]
  refine mv_go' 2 (pc' := 56) (ls' := [mv_R 0, mv_I 3, mv_I (i : Int), mv_I 1, mv_I (j : Int), mv_I (n : Int), mv_R 77, mv_R 73]) (st' := [mv_I (M 73 1), mv_I so]) (M1 := M) rfl ?_
  rw [show M 73 1 = ro from by exact ht1]
  refine mv_go' 1 (pc' := if so = ro then 62 else 59) (ls' := [mv_R 0, mv_I 3, mv_I (i : Int), mv_I 1, mv_I (j : Int), mv_I (n : Int), mv_R 77, mv_R 73]) (st' := []) (M1 := M) rfl ?_
  refine mv_tt' (by omega) ?_
  refine mv_go' 3 (pc' := 67) (ls' := [mv_R 0, mv_I 3, mv_I (i : Int), mv_I 1, mv_I (j : Int), mv_I (n : Int), mv_R 77, mv_R 73]) (st' := [mv_I (n : Int), mv_I (i : Int), mv_R 77]) (M1 := M) rfl ?_
  have ha117 : 0 ≤ (n : Int) ∧ (n : Int) ≤ sz ∧ 0 ≤ (i : Int) ∧ (i : Int) ≤ sz - (n : Int) := by omega
  refine mv_callP (st2 := [mv_I 1]) rfl (Or.inl rfl) rfl rfl rfl (sp_hasRun_3_t hz1 (by omega) (by omega) ha117) (by first | decide | omega) ?_
  refine mv_go' 1 (pc' := if 1 = 0 then 85 else 73) (ls' := [mv_R 0, mv_I 3, mv_I (i : Int), mv_I 1, mv_I (j : Int), mv_I (n : Int), mv_R 77, mv_R 73]) (st' := []) (M1 := M) rfl ?_
  refine mv_ff' (by first | decide | omega) ?_
  refine mv_go' 3 (pc' := 79) (ls' := [mv_R 0, mv_I 3, mv_I (i : Int), mv_I 1, mv_I (j : Int), mv_I (n : Int), mv_R 77, mv_R 73]) (st' := [mv_I (n : Int), mv_I (j : Int), mv_R 73]) (M1 := M) rfl ?_
  have ha118 : 0 ≤ (n : Int) ∧ (n : Int) ≤ rz ∧ 0 ≤ (j : Int) ∧ (j : Int) ≤ rz - (n : Int) := by omega
  refine mv_callP (st2 := [mv_I 1]) rfl (Or.inl rfl) rfl rfl rfl (sp_hasRun_1_t hr1 (by omega) (by omega) ha118) (by first | decide | omega) ?_
  refine mv_go' 1 (pc' := if 1 = 0 then 85 else 88) (ls' := [mv_R 0, mv_I 3, mv_I (i : Int), mv_I 1, mv_I (j : Int), mv_I (n : Int), mv_R 77, mv_R 73]) (st' := []) (M1 := M) rfl ?_
  refine mv_ff' (by first | decide | omega) ?_
  refine mv_go' 8 (pc' := if 0 ≤ (i : Int) ∧ 0 ≤ (j : Int) ∧ 0 ≤ (n : Int) ∧ (i : Int) + (n : Int) ≤ 40 ∧ (j : Int) + (n : Int) ≤ 40 then 106 else mv_bad) (ls' := [mv_R 0, mv_I 3, mv_I (i : Int), mv_I 1, mv_I (j : Int), mv_I (n : Int), mv_R 77, mv_R 73]) (st' := []) (M1 := (mv_st M 74 ((mv_cp (M 78) (M 74) i j n)))) rfl ?_
  refine mv_tt' (by omega) ?_
  refine mv_go' 1 (pc' := 108) (ls' := [mv_R 0, mv_I 3, mv_I (i : Int), mv_I 1, mv_I (j : Int), mv_I (n : Int), mv_R 77, mv_R 73]) (st' := [mv_I (n : Int)]) (M1 := (mv_st M 74 ((mv_cp (M 78) (M 74) i j n)))) rfl ?_
  exact mv_Ru.val (mv_ret (fun n => rfl) rfl) (congrArg mv_I (by first | with_reducible rfl | (unfold sp_cpr; repeat (first | omega | split))))
theorem sp_ccpb_3_1 {M : mv_M} {i j n : Int} {so sz ro rz : Int} (hs1 : M 77 1 = so) (hz1 : M 77 2 = sz) (ht1 : M 73 1 = ro) (hr1 : M 73 2 = rz) (z1 : 0 ≤ sz ∧ sz ≤ 40) (z2 : 0 ≤ rz ∧ rz ≤ 40) (hes : (3 : Nat) = 1 → so = ro ∧ sz = rz)
    (hg : ¬ sp_cpg so sz ro rz i j n) : mv_Ru 20 94 0 [mv_R 0, mv_I 3, mv_I i, mv_I 1, mv_I j, mv_I n, mv_U, mv_U] [] M (mv_I (sp_cpr so ro)) (fun M1 => M1 = M) := by
  skip
  have hg : ¬ ((so ≠ -1 ∧ ro ≠ -1 ∧ so = ro) ∧ (0 ≤ n ∧ n ≤ sz ∧ 0 ≤ i ∧ i ≤ sz - n) ∧ (n ≤ rz ∧ 0 ≤ j ∧ j ≤ rz - n)) := hg
  refine mv_go' 2 (pc' := 2) (ls' := [mv_R 0, mv_I 3, mv_I i, mv_I 1, mv_I j, mv_I n, mv_U, mv_U]) (st' := [mv_I 3, mv_R 0]) (M1 := M) rfl ?_
  refine mv_callP (st2 := [mv_R 77]) rfl (Or.inl rfl) rfl rfl rfl (sp_sheetAt_3) (by first | decide | omega) ?_
  refine mv_go' 3 (pc' := 9) (ls' := [mv_R 0, mv_I 3, mv_I i, mv_I 1, mv_I j, mv_I n, mv_R 77, mv_U]) (st' := [mv_I 1, mv_R 0]) (M1 := M) rfl ?_
  refine mv_callP (st2 := [mv_R 73]) rfl (Or.inl rfl) rfl rfl rfl (sp_sheetAt_1) (by first | decide | omega) ?_
  refine mv_go' 6 (pc' := 29) (ls' := [mv_R 0, mv_I 3, mv_I i, mv_I 1, mv_I j, mv_I n, mv_R 77, mv_R 73]) (st' := [mv_R 77]) (M1 := M) rfl ?_
  by_cases ha119 : so = -1
  · refine mv_callP (st2 := [mv_I 1]) rfl (Or.inl rfl) rfl rfl rfl (sp_isMiss_3_t (hs1.trans ha119)) (by first | decide | omega) ?_
    refine mv_go' 1 (pc' := if 1 = 0 then 35 else 43) (ls' := [mv_R 0, mv_I 3, mv_I i, mv_I 1, mv_I j, mv_I n, mv_R 77, mv_R 73]) (st' := []) (M1 := M) rfl ?_
    refine mv_ff' (by first | decide | omega) ?_
    refine mv_go' 1 (pc' := 45) (ls' := [mv_R 0, mv_I 3, mv_I i, mv_I 1, mv_I j, mv_I n, mv_R 77, mv_R 73]) (st' := [mv_I (-11)]) (M1 := M) rfl ?_
    exact mv_Ru.val (mv_ret (fun n => rfl) rfl) (congrArg mv_I (by first | with_reducible rfl | (unfold sp_cpr; repeat (first | omega | split))))
  · refine mv_callP (st2 := [mv_I 0]) rfl (Or.inl rfl) rfl rfl rfl (sp_isMiss_3_f (fun q => ha119 (hs1.symm.trans q))) (by first | decide | omega) ?_
    refine mv_go' 1 (pc' := if 0 = 0 then 35 else 43) (ls' := [mv_R 0, mv_I 3, mv_I i, mv_I 1, mv_I j, mv_I n, mv_R 77, mv_R 73]) (st' := []) (M1 := M) rfl ?_
    refine mv_tt' (by first | decide | omega) ?_
    refine mv_go' 1 (pc' := 37) (ls' := [mv_R 0, mv_I 3, mv_I i, mv_I 1, mv_I j, mv_I n, mv_R 77, mv_R 73]) (st' := [mv_R 73]) (M1 := M) rfl ?_
    by_cases ha120 : ro = -1
    · refine mv_callP (st2 := [mv_I 1]) rfl (Or.inl rfl) rfl rfl rfl (sp_isMiss_1_t (ht1.trans ha120)) (by first | decide | omega) ?_
      refine mv_go' 1 (pc' := if 1 = 0 then 46 else 43) (ls' := [mv_R 0, mv_I 3, mv_I i, mv_I 1, mv_I j, mv_I n, mv_R 77, mv_R 73]) (st' := []) (M1 := M) rfl ?_
      refine mv_ff' (by first | decide | omega) ?_
      refine mv_go' 1 (pc' := 45) (ls' := [mv_R 0, mv_I 3, mv_I i, mv_I 1, mv_I j, mv_I n, mv_R 77, mv_R 73]) (st' := [mv_I (-11)]) (M1 := M) rfl ?_
      exact mv_Ru.val (mv_ret (fun n => rfl) rfl) (congrArg mv_I (by first | with_reducible rfl | (unfold sp_cpr; repeat (first | omega | split))))
    · refine mv_callP (st2 := [mv_I 0]) rfl (Or.inl rfl) rfl rfl rfl (sp_isMiss_1_f (fun q => ha120 (ht1.symm.trans q))) (by first | decide | omega) ?_
      refine mv_go' 1 (pc' := if 0 = 0 then 46 else 43) (ls' := [mv_R 0, mv_I 3, mv_I i, mv_I 1, mv_I j, mv_I n, mv_R 77, mv_R 73]) (st' := []) (M1 := M) rfl ?_
      refine mv_tt' (by first | decide | omega) ?_
      refine mv_go' 2 (pc' := 51) (ls' := [mv_R 0, mv_I 3, mv_I i, mv_I 1, mv_I j, mv_I n, mv_R 77, mv_R 73]) (st' := [mv_I (M 77 1)]) (M1 := M) rfl ?_
      rw [show M 77 1 = so from by exact hs1]
      refine mv_go' 2 (pc' := 56) (ls' := [mv_R 0, mv_I 3, mv_I i, mv_I 1, mv_I j, mv_I n, mv_R 77, mv_R 73]) (st' := [mv_I (M 73 1), mv_I so]) (M1 := M) rfl ?_
      rw [show M 73 1 = ro from by exact ht1]
      refine mv_go' 1 (pc' := if so = ro then 62 else 59) (ls' := [mv_R 0, mv_I 3, mv_I i, mv_I 1, mv_I j, mv_I n, mv_R 77, mv_R 73]) (st' := []) (M1 := M) rfl ?_
      refine mv_sp' (fun ha121 => ?_) (fun ha121 => ?_)
      · refine mv_go' 3 (pc' := 67) (ls' := [mv_R 0, mv_I 3, mv_I i, mv_I 1, mv_I j, mv_I n, mv_R 77, mv_R 73]) (st' := [mv_I n, mv_I i, mv_R 77]) (M1 := M) rfl ?_
        by_cases ha122 : 0 ≤ n ∧ n ≤ sz ∧ 0 ≤ i ∧ i ≤ sz - n
        · refine mv_callP (st2 := [mv_I 1]) rfl (Or.inl rfl) rfl rfl rfl (sp_hasRun_3_t hz1 (by omega) (by omega) ha122) (by first | decide | omega) ?_
          refine mv_go' 1 (pc' := if 1 = 0 then 85 else 73) (ls' := [mv_R 0, mv_I 3, mv_I i, mv_I 1, mv_I j, mv_I n, mv_R 77, mv_R 73]) (st' := []) (M1 := M) rfl ?_
          refine mv_ff' (by first | decide | omega) ?_
          refine mv_go' 3 (pc' := 79) (ls' := [mv_R 0, mv_I 3, mv_I i, mv_I 1, mv_I j, mv_I n, mv_R 77, mv_R 73]) (st' := [mv_I n, mv_I j, mv_R 73]) (M1 := M) rfl ?_
          have ha123 : ¬ (0 ≤ n ∧ n ≤ rz ∧ 0 ≤ j ∧ j ≤ rz - n) := by omega
          refine mv_callP (st2 := [mv_I 0]) rfl (Or.inl rfl) rfl rfl rfl (sp_hasRun_1_f hr1 (by omega) (by omega) ha123) (by first | decide | omega) ?_
          refine mv_go' 1 (pc' := if 0 = 0 then 85 else 88) (ls' := [mv_R 0, mv_I 3, mv_I i, mv_I 1, mv_I j, mv_I n, mv_R 77, mv_R 73]) (st' := []) (M1 := M) rfl ?_
          refine mv_tt' (by first | decide | omega) ?_
          refine mv_go' 1 (pc' := 87) (ls' := [mv_R 0, mv_I 3, mv_I i, mv_I 1, mv_I j, mv_I n, mv_R 77, mv_R 73]) (st' := [mv_I (-12)]) (M1 := M) rfl ?_
          exact mv_Ru.val (mv_ret (fun n => rfl) rfl) (congrArg mv_I (by first | with_reducible rfl | (unfold sp_cpr; repeat (first | omega | split))))
        · refine mv_callP (st2 := [mv_I 0]) rfl (Or.inl rfl) rfl rfl rfl (sp_hasRun_3_f hz1 (by omega) (by omega) ha122) (by first | decide | omega) ?_
          refine mv_go' 1 (pc' := if 0 = 0 then 85 else 73) (ls' := [mv_R 0, mv_I 3, mv_I i, mv_I 1, mv_I j, mv_I n, mv_R 77, mv_R 73]) (st' := []) (M1 := M) rfl ?_
          refine mv_tt' (by first | decide | omega) ?_
          refine mv_go' 1 (pc' := 87) (ls' := [mv_R 0, mv_I 3, mv_I i, mv_I 1, mv_I j, mv_I n, mv_R 77, mv_R 73]) (st' := [mv_I (-12)]) (M1 := M) rfl ?_
          exact mv_Ru.val (mv_ret (fun n => rfl) rfl) (congrArg mv_I (by first | with_reducible rfl | (unfold sp_cpr; repeat (first | omega | split))))
      · refine mv_go' 1 (pc' := 61) (ls' := [mv_R 0, mv_I 3, mv_I i, mv_I 1, mv_I j, mv_I n, mv_R 77, mv_R 73]) (st' := [mv_I (-13)]) (M1 := M) rfl ?_
        exact mv_Ru.val (mv_ret (fun n => rfl) rfl) (congrArg mv_I (by first | with_reducible rfl | (unfold sp_cpr; repeat (first | omega | split))))
theorem sp_ccpg_3_2 {M : mv_M} {i j n : Nat} {so sz ro rz : Int} (hs1 : M 77 1 = so) (hz1 : M 77 2 = sz) (ht1 : M 75 1 = ro) (hr1 : M 75 2 = rz) (z1 : 0 ≤ sz ∧ sz ≤ 40) (z2 : 0 ≤ rz ∧ rz ≤ 40) (hes : (3 : Nat) = 2 → so = ro ∧ sz = rz)
    (hg : sp_cpg so sz ro rz i j n) : mv_Ru 20 94 0 [mv_R 0, mv_I 3, mv_I (i : Int), mv_I 2, mv_I (j : Int), mv_I (n : Int), mv_U, mv_U] [] M (mv_I (n : Int)) (fun M1 => M1 = mv_st M 76 (mv_cp (M 78) (M 76) i j n)) := by
  obtain ⟨⟨g1, g2, g3⟩, g4, g5⟩ := hg
  skip
  refine mv_go' 2 (pc' := 2) (ls' := [mv_R 0, mv_I 3, mv_I (i : Int), mv_I 2, mv_I (j : Int), mv_I (n : Int), mv_U, mv_U]) (st' := [mv_I 3, mv_R 0]) (M1 := M) rfl ?_
  refine mv_callP (st2 := [mv_R 77]) rfl (Or.inl rfl) rfl rfl rfl (sp_sheetAt_3) (by first | decide | omega) ?_
  refine mv_go' 3 (pc' := 9) (ls' := [mv_R 0, mv_I 3, mv_I (i : Int), mv_I 2, mv_I (j : Int), mv_I (n : Int), mv_R 77, mv_U]) (st' := [mv_I 2, mv_R 0]) (M1 := M) rfl ?_
  refine mv_callP (st2 := [mv_R 75]) rfl (Or.inl rfl) rfl rfl rfl (sp_sheetAt_2) (by first | decide | omega) ?_
  refine mv_go' 6 (pc' := 29) (ls' := [mv_R 0, mv_I 3, mv_I (i : Int), mv_I 2, mv_I (j : Int), mv_I (n : Int), mv_R 77, mv_R 75]) (st' := [mv_R 77]) (M1 := M) rfl ?_
  have ha124 : ¬ (so = -1) := by omega
  refine mv_callP (st2 := [mv_I 0]) rfl (Or.inl rfl) rfl rfl rfl (sp_isMiss_3_f (fun q => ha124 (hs1.symm.trans q))) (by first | decide | omega) ?_
  refine mv_go' 1 (pc' := if 0 = 0 then 35 else 43) (ls' := [mv_R 0, mv_I 3, mv_I (i : Int), mv_I 2, mv_I (j : Int), mv_I (n : Int), mv_R 77, mv_R 75]) (st' := []) (M1 := M) rfl ?_
  refine mv_tt' (by first | decide | omega) ?_
  refine mv_go' 1 (pc' := 37) (ls' := [mv_R 0, mv_I 3, mv_I (i : Int), mv_I 2, mv_I (j : Int), mv_I (n : Int), mv_R 77, mv_R 75]) (st' := [mv_R 75]) (M1 := M) rfl ?_
  have ha125 : ¬ (ro = -1) := by omega
  refine mv_callP (st2 := [mv_I 0]) rfl (Or.inl rfl) rfl rfl rfl (sp_isMiss_2_f (fun q => ha125 (ht1.symm.trans q))) (by first | decide | omega) ?_
  refine mv_go' 1 (pc' := if 0 = 0 then 46 else 43) (ls' := [mv_R 0, mv_I 3, mv_I (i : Int), mv_I 2, mv_I (j : Int), mv_I (n : Int), mv_R 77, mv_R 75]) (st' := []) (M1 := M) rfl ?_
  refine mv_tt' (by first | decide | omega) ?_
  refine mv_go' 2 (pc' := 51) (ls' := [mv_R 0, mv_I 3, mv_I (i : Int), mv_I 2, mv_I (j : Int), mv_I (n : Int), mv_R 77, mv_R 75]) (st' := [mv_I (M 77 1)]) (M1 := M) rfl ?_
  rw [show M 77 1 = so from by exact hs1]
  refine mv_go' 2 (pc' := 56) (ls' := [mv_R 0, mv_I 3, mv_I (i : Int), mv_I 2, mv_I (j : Int), mv_I (n : Int), mv_R 77, mv_R 75]) (st' := [mv_I (M 75 1), mv_I so]) (M1 := M) rfl ?_
  rw [show M 75 1 = ro from by exact ht1]
  refine mv_go' 1 (pc' := if so = ro then 62 else 59) (ls' := [mv_R 0, mv_I 3, mv_I (i : Int), mv_I 2, mv_I (j : Int), mv_I (n : Int), mv_R 77, mv_R 75]) (st' := []) (M1 := M) rfl ?_
  refine mv_tt' (by omega) ?_
  refine mv_go' 3 (pc' := 67) (ls' := [mv_R 0, mv_I 3, mv_I (i : Int), mv_I 2, mv_I (j : Int), mv_I (n : Int), mv_R 77, mv_R 75]) (st' := [mv_I (n : Int), mv_I (i : Int), mv_R 77]) (M1 := M) rfl ?_
  have ha126 : 0 ≤ (n : Int) ∧ (n : Int) ≤ sz ∧ 0 ≤ (i : Int) ∧ (i : Int) ≤ sz - (n : Int) := by omega
  refine mv_callP (st2 := [mv_I 1]) rfl (Or.inl rfl) rfl rfl rfl (sp_hasRun_3_t hz1 (by omega) (by omega) ha126) (by first | decide | omega) ?_
  refine mv_go' 1 (pc' := if 1 = 0 then 85 else 73) (ls' := [mv_R 0, mv_I 3, mv_I (i : Int), mv_I 2, mv_I (j : Int), mv_I (n : Int), mv_R 77, mv_R 75]) (st' := []) (M1 := M) rfl ?_
  refine mv_ff' (by first | decide | omega) ?_
  refine mv_go' 3 (pc' := 79) (ls' := [mv_R 0, mv_I 3, mv_I (i : Int), mv_I 2, mv_I (j : Int), mv_I (n : Int), mv_R 77, mv_R 75]) (st' := [mv_I (n : Int), mv_I (j : Int), mv_R 75]) (M1 := M) rfl ?_
  have ha127 : 0 ≤ (n : Int) ∧ (n : Int) ≤ rz ∧ 0 ≤ (j : Int) ∧ (j : Int) ≤ rz - (n : Int) := by omega
  refine mv_callP (st2 := [mv_I 1]) rfl (Or.inl rfl) rfl rfl rfl (sp_hasRun_2_t hr1 (by omega) (by omega) ha127) (by first | decide | omega) ?_
  refine mv_go' 1 (pc' := if 1 = 0 then 85 else 88) (ls' := [mv_R 0, mv_I 3, mv_I (i : Int), mv_I 2, mv_I (j : Int), mv_I (n : Int), mv_R 77, mv_R 75]) (st' := []) (M1 := M) rfl ?_
  refine mv_ff' (by first | decide | omega) ?_
  refine mv_go' 8 (pc' := if 0 ≤ (i : Int) ∧ 0 ≤ (j : Int) ∧ 0 ≤ (n : Int) ∧ (i : Int) + (n : Int) ≤ 40 ∧ (j : Int) + (n : Int) ≤ 40 then 106 else mv_bad) (ls' := [mv_R 0, mv_I 3, mv_I (i : Int), mv_I 2, mv_I (j : Int), mv_I (n : Int), mv_R 77, mv_R 75]) (st' := []) (M1 := (mv_st M 76 ((mv_cp (M 78) (M 76) i j n)))) rfl ?_
  refine mv_tt' (by omega) ?_
  refine mv_go' 1 (pc' := 108) (ls' := [mv_R 0, mv_I 3, mv_I (i : Int), mv_I 2, mv_I (j : Int), mv_I (n : Int), mv_R 77, mv_R 75]) (st' := [mv_I (n : Int)]) (M1 := (mv_st M 76 ((mv_cp (M 78) (M 76) i j n)))) rfl ?_
  exact mv_Ru.val (mv_ret (fun n => rfl) rfl) (congrArg mv_I (by first | with_reducible rfl | (unfold sp_cpr; repeat (first | omega | split))))
theorem sp_ccpb_3_2 {M : mv_M} {i j n : Int} {so sz ro rz : Int} (hs1 : M 77 1 = so) (hz1 : M 77 2 = sz) (ht1 : M 75 1 = ro) (hr1 : M 75 2 = rz) (z1 : 0 ≤ sz ∧ sz ≤ 40) (z2 : 0 ≤ rz ∧ rz ≤ 40) (hes : (3 : Nat) = 2 → so = ro ∧ sz = rz)
    (hg : ¬ sp_cpg so sz ro rz i j n) : mv_Ru 20 94 0 [mv_R 0, mv_I 3, mv_I i, mv_I 2, mv_I j, mv_I n, mv_U, mv_U] [] M (mv_I (sp_cpr so ro)) (fun M1 => M1 = M) := by
  skip
  have hg : ¬ ((so ≠ -1 ∧ ro ≠ -1 ∧ so = ro) ∧ (0 ≤ n ∧ n ≤ sz ∧ 0 ≤ i ∧ i ≤ sz - n) ∧ (n ≤ rz ∧ 0 ≤ j ∧ j ≤ rz - n)) := hg
  refine mv_go' 2 (pc' := 2) (ls' := [mv_R 0, mv_I 3, mv_I i, mv_I 2, mv_I j, mv_I n, mv_U, mv_U]) (st' := [mv_I 3, mv_R 0]) (M1 := M) rfl ?_
  refine mv_callP (st2 := [mv_R 77]) rfl (Or.inl rfl) rfl rfl rfl (sp_sheetAt_3) (by first | decide | omega) ?_
  refine mv_go' 3 (pc' := 9) (ls' := [mv_R 0, mv_I 3, mv_I i, mv_I 2, mv_I j, mv_I n, mv_R 77, mv_U]) (st' := [mv_I 2, mv_R 0]) (M1 := M) rfl ?_
  refine mv_callP (st2 := [mv_R 75]) rfl (Or.inl rfl) rfl rfl rfl (sp_sheetAt_2) (by first | decide | omega) ?_
  refine mv_go' 6 (pc' := 29) (ls' := [mv_R 0, mv_I 3, mv_I i, mv_I 2, mv_I j, mv_I n, mv_R 77, mv_R 75]) (st' := [mv_R 77]) (M1 := M) rfl ?_
  by_cases ha128 : so = -1
  · refine mv_callP (st2 := [mv_I 1]) rfl (Or.inl rfl) rfl rfl rfl (sp_isMiss_3_t (hs1.trans ha128)) (by first | decide | omega) ?_
    refine mv_go' 1 (pc' := if 1 = 0 then 35 else 43) (ls' := [mv_R 0, mv_I 3, mv_I i, mv_I 2, mv_I j, mv_I n, mv_R 77, mv_R 75]) (st' := []) (M1 := M) rfl ?_
    refine mv_ff' (by first | decide | omega) ?_
    refine mv_go' 1 (pc' := 45) (ls' := [mv_R 0, mv_I 3, mv_I i, mv_I 2, mv_I j, mv_I n, mv_R 77, mv_R 75]) (st' := [mv_I (-11)]) (M1 := M) rfl ?_
    exact mv_Ru.val (mv_ret (fun n => rfl) rfl) (congrArg mv_I (by first | with_reducible rfl | (unfold sp_cpr; repeat (first | omega | split))))
  · refine mv_callP (st2 := [mv_I 0]) rfl (Or.inl rfl) rfl rfl rfl (sp_isMiss_3_f (fun q => ha128 (hs1.symm.trans q))) (by first | decide | omega) ?_
    refine mv_go' 1 (pc' := if 0 = 0 then 35 else 43) (ls' := [mv_R 0, mv_I 3, mv_I i, mv_I 2, mv_I j, mv_I n, mv_R 77, mv_R 75]) (st' := []) (M1 := M) rfl ?_
    refine mv_tt' (by first | decide | omega) ?_
    refine mv_go' 1 (pc' := 37) (ls' := [mv_R 0, mv_I 3, mv_I i, mv_I 2, mv_I j, mv_I n, mv_R 77, mv_R 75]) (st' := [mv_R 75]) (M1 := M) rfl ?_
    by_cases ha129 : ro = -1
    · refine mv_callP (st2 := [mv_I 1]) rfl (Or.inl rfl) rfl rfl rfl (sp_isMiss_2_t (ht1.trans ha129)) (by first | decide | omega) ?_
      refine mv_go' 1 (pc' := if 1 = 0 then 46 else 43) (ls' := [mv_R 0, mv_I 3, mv_I i, mv_I 2, mv_I j, mv_I n, mv_R 77, mv_R 75]) (st' := []) (M1 := M) rfl ?_
      refine mv_ff' (by first | decide | omega) ?_
      refine mv_go' 1 (pc' := 45) (ls' := [mv_R 0, mv_I 3, mv_I i, mv_I 2, mv_I j, mv_I n, mv_R 77, mv_R 75]) (st' := [mv_I (-11)]) (M1 := M) rfl ?_
      exact mv_Ru.val (mv_ret (fun n => rfl) rfl) (congrArg mv_I (by first | with_reducible rfl | (unfold sp_cpr; repeat (first | omega | split))))
    · refine mv_callP (st2 := [mv_I 0]) rfl (Or.inl rfl) rfl rfl rfl (sp_isMiss_2_f (fun q => ha129 (ht1.symm.trans q))) (by first | decide | omega) ?_
      refine mv_go' 1 (pc' := if 0 = 0 then 46 else 43) (ls' := [mv_R 0, mv_I 3, mv_I i, mv_I 2, mv_I j, mv_I n, mv_R 77, mv_R 75]) (st' := []) (M1 := M) rfl ?_
      refine mv_tt' (by first | decide | omega) ?_
      refine mv_go' 2 (pc' := 51) (ls' := [mv_R 0, mv_I 3, mv_I i, mv_I 2, mv_I j, mv_I n, mv_R 77, mv_R 75]) (st' := [mv_I (M 77 1)]) (M1 := M) rfl ?_
      rw [show M 77 1 = so from by exact hs1]
      refine mv_go' 2 (pc' := 56) (ls' := [mv_R 0, mv_I 3, mv_I i, mv_I 2, mv_I j, mv_I n, mv_R 77, mv_R 75]) (st' := [mv_I (M 75 1), mv_I so]) (M1 := M) rfl ?_
      rw [show M 75 1 = ro from by exact ht1]
      refine mv_go' 1 (pc' := if so = ro then 62 else 59) (ls' := [mv_R 0, mv_I 3, mv_I i, mv_I 2, mv_I j, mv_I n, mv_R 77, mv_R 75]) (st' := []) (M1 := M) rfl ?_
      refine mv_sp' (fun ha130 => ?_) (fun ha130 => ?_)
      · refine mv_go' 3 (pc' := 67) (ls' := [mv_R 0, mv_I 3, mv_I i, mv_I 2, mv_I j, mv_I n, mv_R 77, mv_R 75]) (st' := [mv_I n, mv_I i, mv_R 77]) (M1 := M) rfl ?_
        by_cases ha131 : 0 ≤ n ∧ n ≤ sz ∧ 0 ≤ i ∧ i ≤ sz - n
        · refine mv_callP (st2 := [mv_I 1]) rfl (Or.inl rfl) rfl rfl rfl (sp_hasRun_3_t hz1 (by omega) (by omega) ha131) (by first | decide | omega) ?_
          refine mv_go' 1 (pc' := if 1 = 0 then 85 else 73) (ls' := [mv_R 0, mv_I 3, mv_I i, mv_I 2, mv_I j, mv_I n, mv_R 77, mv_R 75]) (st' := []) (M1 := M) rfl ?_
          refine mv_ff' (by first | decide | omega) ?_
          refine mv_go' 3 (pc' := 79) (ls' := [mv_R 0, mv_I 3, mv_I i, mv_I 2, mv_I j, mv_I n, mv_R 77, mv_R 75]) (st' := [mv_I n, mv_I j, mv_R 75]) (M1 := M) rfl ?_
          have ha132 : ¬ (0 ≤ n ∧ n ≤ rz ∧ 0 ≤ j ∧ j ≤ rz - n) := by omega
          refine mv_callP (st2 := [mv_I 0]) rfl (Or.inl rfl) rfl rfl rfl (sp_hasRun_2_f hr1 (by omega) (by omega) ha132) (by first | decide | omega) ?_
          refine mv_go' 1 (pc' := if 0 = 0 then 85 else 88) (ls' := [mv_R 0, mv_I 3, mv_I i, mv_I 2, mv_I j, mv_I n, mv_R 77, mv_R 75]) (st' := []) (M1 := M) rfl ?_
          refine mv_tt' (by first | decide | omega) ?_
          refine mv_go' 1 (pc' := 87) (ls' := [mv_R 0, mv_I 3, mv_I i, mv_I 2, mv_I j, mv_I n, mv_R 77, mv_R 75]) (st' := [mv_I (-12)]) (M1 := M) rfl ?_
          exact mv_Ru.val (mv_ret (fun n => rfl) rfl) (congrArg mv_I (by first | with_reducible rfl | (unfold sp_cpr; repeat (first | omega | split))))
        · refine mv_callP (st2 := [mv_I 0]) rfl (Or.inl rfl) rfl rfl rfl (sp_hasRun_3_f hz1 (by omega) (by omega) ha131) (by first | decide | omega) ?_
          refine mv_go' 1 (pc' := if 0 = 0 then 85 else 73) (ls' := [mv_R 0, mv_I 3, mv_I i, mv_I 2, mv_I j, mv_I n, mv_R 77, mv_R 75]) (st' := []) (M1 := M) rfl ?_
          refine mv_tt' (by first | decide | omega) ?_
          refine mv_go' 1 (pc' := 87) (ls' := [mv_R 0, mv_I 3, mv_I i, mv_I 2, mv_I j, mv_I n, mv_R 77, mv_R 75]) (st' := [mv_I (-12)]) (M1 := M) rfl ?_
          exact mv_Ru.val (mv_ret (fun n => rfl) rfl) (congrArg mv_I (by first | with_reducible rfl | (unfold sp_cpr; repeat (first | omega | split))))
      · refine mv_go' 1 (pc' := 61) (ls' := [mv_R 0, mv_I 3, mv_I i, mv_I 2, mv_I j, mv_I n, mv_R 77, mv_R 75]) (st' := [mv_I (-13)]) (M1 := M) rfl ?_
        exact mv_Ru.val (mv_ret (fun n => rfl) rfl) (congrArg mv_I (by first | with_reducible rfl | (unfold sp_cpr; repeat (first | omega | split))))
theorem sp_ccpg_3_3 {M : mv_M} {i j n : Nat} {so sz ro rz : Int} (hs1 : M 77 1 = so) (hz1 : M 77 2 = sz) (ht1 : M 77 1 = ro) (hr1 : M 77 2 = rz) (z1 : 0 ≤ sz ∧ sz ≤ 40) (z2 : 0 ≤ rz ∧ rz ≤ 40) (hes : (3 : Nat) = 3 → so = ro ∧ sz = rz)
    (hg : sp_cpg so sz ro rz i j n) : mv_Ru 20 94 0 [mv_R 0, mv_I 3, mv_I (i : Int), mv_I 3, mv_I (j : Int), mv_I (n : Int), mv_U, mv_U] [] M (mv_I (n : Int)) (fun M1 => M1 = mv_st M 78 (mv_cp (M 78) (M 78) i j n)) := by
  obtain ⟨⟨g1, g2, g3⟩, g4, g5⟩ := hg
  obtain ⟨hes1, hes2⟩ := hes rfl
  refine mv_go' 2 (pc' := 2) (ls' := [mv_R 0, mv_I 3, mv_I (i : Int), mv_I 3, mv_I (j : Int), mv_I (n : Int), mv_U, mv_U]) (st' := [mv_I 3, mv_R 0]) (M1 := M) rfl ?_
  refine mv_callP (st2 := [mv_R 77]) rfl (Or.inl rfl) rfl rfl rfl (sp_sheetAt_3) (by first | decide | omega) ?_
  refine mv_go' 3 (pc' := 9) (ls' := [mv_R 0, mv_I 3, mv_I (i : Int), mv_I 3, mv_I (j : Int), mv_I (n : Int), mv_R 77, mv_U]) (st' := [mv_I 3, mv_R 0]) (M1 := M) rfl ?_
  refine mv_callP (st2 := [mv_R 77]) rfl (Or.inl rfl) rfl rfl rfl (sp_sheetAt_3) (by first | decide | omega) ?_
  refine mv_go' 6 (pc' := 29) (ls' := [mv_R 0, mv_I 3, mv_I (i : Int), mv_I 3, mv_I (j : Int), mv_I (n : Int), mv_R 77, mv_R 77]) (st' := [mv_R 77]) (M1 := M) rfl ?_
  have ha133 : ¬ (ro = -1) := by omega
  refine mv_callP (st2 := [mv_I 0]) rfl (Or.inl rfl) rfl rfl rfl (sp_isMiss_3_f (fun q => ha133 (ht1.symm.trans q))) (by first | decide | omega) ?_
  refine mv_go' 1 (pc' := if 0 = 0 then 35 else 43) (ls' := [mv_R 0, mv_I 3, mv_I (i : Int), mv_I 3, mv_I (j : Int), mv_I (n : Int), mv_R 77, mv_R 77]) (st' := []) (M1 := M) rfl ?_
  refine mv_tt' (by first | decide | omega) ?_
  refine mv_go' 1 (pc' := 37) (ls' := [mv_R 0, mv_I 3, mv_I (i : Int), mv_I 3, mv_I (j : Int), mv_I (n : Int), mv_R 77, mv_R 77]) (st' := [mv_R 77]) (M1 := M) rfl ?_
  have ha134 : ¬ (ro = -1) := by omega
  refine mv_callP (st2 := [mv_I 0]) rfl (Or.inl rfl) rfl rfl rfl (sp_isMiss_3_f (fun q => ha134 (ht1.symm.trans q))) (by first | decide | omega) ?_
  refine mv_go' 1 (pc' := if 0 = 0 then 46 else 43) (ls' := [mv_R 0, mv_I 3, mv_I (i : Int), mv_I 3, mv_I (j : Int), mv_I (n : Int), mv_R 77, mv_R 77]) (st' := []) (M1 := M) rfl ?_
  refine mv_tt' (by first | decide | omega) ?_
  refine mv_go' 2 (pc' := 51) (ls' := [mv_R 0, mv_I 3, mv_I (i : Int), mv_I 3, mv_I (j : Int), mv_I (n : Int), mv_R 77, mv_R 77]) (st' := [mv_I (M 77 1)]) (M1 := M) rfl ?_
  rw [show M 77 1 = ro from by exact ht1]
  refine mv_go' 2 (pc' := 56) (ls' := [mv_R 0, mv_I 3, mv_I (i : Int), mv_I 3, mv_I (j : Int), mv_I (n : Int), mv_R 77, mv_R 77]) (st' := [mv_I (M 77 1), mv_I ro]) (M1 := M) rfl ?_
  rw [show M 77 1 = ro from by exact ht1]
  refine mv_go' 1 (pc' := if ro = ro then 62 else 59) (ls' := [mv_R 0, mv_I 3, mv_I (i : Int), mv_I 3, mv_I (j : Int), mv_I (n : Int), mv_R 77, mv_R 77]) (st' := []) (M1 := M) rfl ?_
  refine mv_tt' (by first | decide | omega) ?_
  refine mv_go' 3 (pc' := 67) (ls' := [mv_R 0, mv_I 3, mv_I (i : Int), mv_I 3, mv_I (j : Int), mv_I (n : Int), mv_R 77, mv_R 77]) (st' := [mv_I (n : Int), mv_I (i : Int), mv_R 77]) (M1 := M) rfl ?_
  have ha135 : 0 ≤ (n : Int) ∧ (n : Int) ≤ rz ∧ 0 ≤ (i : Int) ∧ (i : Int) ≤ rz - (n : Int) := by omega
  refine mv_callP (st2 := [mv_I 1]) rfl (Or.inl rfl) rfl rfl rfl (sp_hasRun_3_t hr1 (by omega) (by omega) ha135) (by first | decide | omega) ?_
  refine mv_go' 1 (pc' := if 1 = 0 then 85 else 73) (ls' := [mv_R 0, mv_I 3, mv_I (i : Int), mv_I 3, mv_I (j : Int), mv_I (n : Int), mv_R 77, mv_R 77]) (st' := []) (M1 := M) rfl ?_
  refine mv_ff' (by first | decide | omega) ?_
  refine mv_go' 3 (pc' := 79) (ls' := [mv_R 0, mv_I 3, mv_I (i : Int), mv_I 3, mv_I (j : Int), mv_I (n : Int), mv_R 77, mv_R 77]) (st' := [mv_I (n : Int), mv_I (j : Int), mv_R 77]) (M1 := M) rfl ?_
  have ha136 : 0 ≤ (n : Int) ∧ (n : Int) ≤ rz ∧ 0 ≤ (j : Int) ∧ (j : Int) ≤ rz - (n : Int) := by omega
  refine mv_callP (st2 := [mv_I 1]) rfl (Or.inl rfl) rfl rfl rfl (sp_hasRun_3_t hr1 (by omega) (by omega) ha136) (by first | decide | omega) ?_
  refine mv_go' 1 (pc' := if 1 = 0 then 85 else 88) (ls' := [mv_R 0, mv_I 3, mv_I (i : Int), mv_I 3, mv_I (j : Int), mv_I (n : Int), mv_R 77, mv_R 77]) (st' := []) (M1 := M) rfl ?_
  refine mv_ff' (by first | decide | omega) ?_
  refine mv_go' 8 (pc' := if 0 ≤ (i : Int) ∧ 0 ≤ (j : Int) ∧ 0 ≤ (n : Int) ∧ (i : Int) + (n : Int) ≤ 40 ∧ (j : Int) + (n : Int) ≤ 40 then 106 else mv_bad) (ls' := [mv_R 0, mv_I 3, mv_I (i : Int), mv_I 3, mv_I (j : Int), mv_I (n : Int), mv_R 77, mv_R 77]) (st' := []) (M1 := (mv_st M 78 ((mv_cp (M 78) (M 78) i j n)))) rfl ?_
  refine mv_tt' (by omega) ?_
  refine mv_go' 1 (pc' := 108) (ls' := [mv_R 0, mv_I 3, mv_I (i : Int), mv_I 3, mv_I (j : Int), mv_I (n : Int), mv_R 77, mv_R 77]) (st' := [mv_I (n : Int)]) (M1 := (mv_st M 78 ((mv_cp (M 78) (M 78) i j n)))) rfl ?_
  exact mv_Ru.val (mv_ret (fun n => rfl) rfl) (congrArg mv_I (by first | with_reducible rfl | (unfold sp_cpr; repeat (first | omega | split))))
theorem sp_ccpb_3_3 {M : mv_M} {i j n : Int} {so sz ro rz : Int} (hs1 : M 77 1 = so) (hz1 : M 77 2 = sz) (ht1 : M 77 1 = ro) (hr1 : M 77 2 = rz) (z1 : 0 ≤ sz ∧ sz ≤ 40) (z2 : 0 ≤ rz ∧ rz ≤ 40) (hes : (3 : Nat) = 3 → so = ro ∧ sz = rz)
    (hg : ¬ sp_cpg so sz ro rz i j n) : mv_Ru 20 94 0 [mv_R 0, mv_I 3, mv_I i, mv_I 3, mv_I j, mv_I n, mv_U, mv_U] [] M (mv_I (sp_cpr so ro)) (fun M1 => M1 = M) := by
  obtain ⟨hes1, hes2⟩ := hes rfl
  have hg : ¬ ((so ≠ -1 ∧ ro ≠ -1 ∧ so = ro) ∧ (0 ≤ n ∧ n ≤ sz ∧ 0 ≤ i ∧ i ≤ sz - n) ∧ (n ≤ rz ∧ 0 ≤ j ∧ j ≤ rz - n)) := hg
  refine mv_go' 2 (pc' := 2) (ls' := [mv_R 0, mv_I 3, mv_I i, mv_I 3, mv_I j, mv_I n, mv_U, mv_U]) (st' := [mv_I 3, mv_R 0]) (M1 := M) rfl ?_
  refine mv_callP (st2 := [mv_R 77]) rfl (Or.inl rfl) rfl rfl rfl (sp_sheetAt_3) (by first | decide | omega) ?_
  refine mv_go' 3 (pc' := 9) (ls' := [mv_R 0, mv_I 3, mv_I i, mv_I 3, mv_I j, mv_I n, mv_R 77, mv_U]) (st' := [mv_I 3, mv_R 0]) (M1 := M) rfl ?_
  refine mv_callP (st2 := [mv_R 77]) rfl (Or.inl rfl) rfl rfl rfl (sp_sheetAt_3) (by first | decide | omega) ?_
  refine mv_go' 6 (pc' := 29) (ls' := [mv_R 0, mv_I 3, mv_I i, mv_I 3, mv_I j, mv_I n, mv_R 77, mv_R 77]) (st' := [mv_R 77]) (M1 := M) rfl ?_
  by_cases ha137 : ro = -1
  · refine mv_callP (st2 := [mv_I 1]) rfl (Or.inl rfl) rfl rfl rfl (sp_isMiss_3_t (ht1.trans ha137)) (by first | decide | omega) ?_
    refine mv_go' 1 (pc' := if 1 = 0 then 35 else 43) (ls' := [mv_R 0, mv_I 3, mv_I i, mv_I 3, mv_I j, mv_I n, mv_R 77, mv_R 77]) (st' := []) (M1 := M) rfl ?_
    refine mv_ff' (by first | decide | omega) ?_
    refine mv_go' 1 (pc' := 45) (ls' := [mv_R 0, mv_I 3, mv_I i, mv_I 3, mv_I j, mv_I n, mv_R 77, mv_R 77]) (st' := [mv_I (-11)]) (M1 := M) rfl ?_
    exact mv_Ru.val (mv_ret (fun n => rfl) rfl) (congrArg mv_I (by first | with_reducible rfl | (unfold sp_cpr; repeat (first | omega | split))))
  · refine mv_callP (st2 := [mv_I 0]) rfl (Or.inl rfl) rfl rfl rfl (sp_isMiss_3_f (fun q => ha137 (ht1.symm.trans q))) (by first | decide | omega) ?_
    refine mv_go' 1 (pc' := if 0 = 0 then 35 else 43) (ls' := [mv_R 0, mv_I 3, mv_I i, mv_I 3, mv_I j, mv_I n, mv_R 77, mv_R 77]) (st' := []) (M1 := M) rfl ?_
    refine mv_tt' (by first | decide | omega) ?_
    refine mv_go' 1 (pc' := 37) (ls' := [mv_R 0, mv_I 3, mv_I i, mv_I 3, mv_I j, mv_I n, mv_R 77, mv_R 77]) (st' := [mv_R 77]) (M1 := M) rfl ?_
    have ha138 : ¬ (ro = -1) := by omega
    refine mv_callP (st2 := [mv_I 0]) rfl (Or.inl rfl) rfl rfl rfl (sp_isMiss_3_f (fun q => ha138 (ht1.symm.trans q))) (by first | decide | omega) ?_
    refine mv_go' 1 (pc' := if 0 = 0 then 46 else 43) (ls' := [mv_R 0, mv_I 3, mv_I i, mv_I 3, mv_I j, mv_I n, mv_R 77, mv_R 77]) (st' := []) (M1 := M) rfl ?_
    refine mv_tt' (by first | decide | omega) ?_
    refine mv_go' 2 (pc' := 51) (ls' := [mv_R 0, mv_I 3, mv_I i, mv_I 3, mv_I j, mv_I n, mv_R 77, mv_R 77]) (st' := [mv_I (M 77 1)]) (M1 := M) rfl ?_
    rw [show M 77 1 = ro from by exact ht1]
    refine mv_go' 2 (pc' := 56) (ls' := [mv_R 0, mv_I 3, mv_I i, mv_I 3, mv_I j, mv_I n, mv_R 77, mv_R 77]) (st' := [mv_I (M 77 1), mv_I ro]) (M1 := M) rfl ?_
    rw [show M 77 1 = ro from by exact ht1]
    refine mv_go' 1 (pc' := if ro = ro then 62 else 59) (ls' := [mv_R 0, mv_I 3, mv_I i, mv_I 3, mv_I j, mv_I n, mv_R 77, mv_R 77]) (st' := []) (M1 := M) rfl ?_
    refine mv_tt' (by first | decide | omega) ?_
    refine mv_go' 3 (pc' := 67) (ls' := [mv_R 0, mv_I 3, mv_I i, mv_I 3, mv_I j, mv_I n, mv_R 77, mv_R 77]) (st' := [mv_I n, mv_I i, mv_R 77]) (M1 := M) rfl ?_
    by_cases ha139 : 0 ≤ n ∧ n ≤ rz ∧ 0 ≤ i ∧ i ≤ rz - n
    · refine mv_callP (st2 := [mv_I 1]) rfl (Or.inl rfl) rfl rfl rfl (sp_hasRun_3_t hr1 (by omega) (by omega) ha139) (by first | decide | omega) ?_
      refine mv_go' 1 (pc' := if 1 = 0 then 85 else 73) (ls' := [mv_R 0, mv_I 3, mv_I i, mv_I 3, mv_I j, mv_I n, mv_R 77, mv_R 77]) (st' := []) (M1 := M) rfl ?_
      refine mv_ff' (by first | decide | omega) ?_
      refine mv_go' 3 (pc' := 79) (ls' := [mv_R 0, mv_I 3, mv_I i, mv_I 3, mv_I j, mv_I n, mv_R 77, mv_R 77]) (st' := [mv_I n, mv_I j, mv_R 77]) (M1 := M) rfl ?_
      have ha140 : ¬ (0 ≤ n ∧ n ≤ rz ∧ 0 ≤ j ∧ j ≤ rz - n) := by omega
      refine mv_callP (st2 := [mv_I 0]) rfl (Or.inl rfl) rfl rfl rfl (sp_hasRun_3_f hr1 (by omega) (by omega) ha140) (by first | decide | omega) ?_
      refine mv_go' 1 (pc' := if 0 = 0 then 85 else 88) (ls' := [mv_R 0, mv_I 3, mv_I i, mv_I 3, mv_I j, mv_I n, mv_R 77, mv_R 77]) (st' := []) (M1 := M) rfl ?_
      refine mv_tt' (by first | decide | omega) ?_
      refine mv_go' 1 (pc' := 87) (ls' := [mv_R 0, mv_I 3, mv_I i, mv_I 3, mv_I j, mv_I n, mv_R 77, mv_R 77]) (st' := [mv_I (-12)]) (M1 := M) rfl ?_
      exact mv_Ru.val (mv_ret (fun n => rfl) rfl) (congrArg mv_I (by first | with_reducible rfl | (unfold sp_cpr; repeat (first | omega | split))))
    · refine mv_callP (st2 := [mv_I 0]) rfl (Or.inl rfl) rfl rfl rfl (sp_hasRun_3_f hr1 (by omega) (by omega) ha139) (by first | decide | omega) ?_
      refine mv_go' 1 (pc' := if 0 = 0 then 85 else 73) (ls' := [mv_R 0, mv_I 3, mv_I i, mv_I 3, mv_I j, mv_I n, mv_R 77, mv_R 77]) (st' := []) (M1 := M) rfl ?_
      refine mv_tt' (by first | decide | omega) ?_
      refine mv_go' 1 (pc' := 87) (ls' := [mv_R 0, mv_I 3, mv_I i, mv_I 3, mv_I j, mv_I n, mv_R 77, mv_R 77]) (st' := [mv_I (-12)]) (M1 := M) rfl ?_
      exact mv_Ru.val (mv_ret (fun n => rfl) rfl) (congrArg mv_I (by first | with_reducible rfl | (unfold sp_cpr; repeat (first | omega | split))))
theorem sp_mcpb {S O : Nat} {M : mv_M} {i j n : Int} {so sz ro rz : Int} (hS : S < 4) (hO : O < 4) (hI : sp_Inv M) (hs2 : M 117 S = so) (hz2 : M 118 S = sz) (ht2 : M 117 O = ro) (hr2 : M 118 O = rz) (z1 : 0 ≤ sz ∧ sz ≤ 40) (z2 : 0 ≤ rz ∧ rz ≤ 40)
    (hg : ¬ sp_cpg so sz ro rz i j n) : mv_W 20 189 0 [mv_R 100, mv_I (S : Int), mv_I i, mv_I (O : Int), mv_I j, mv_I n, mv_U, mv_U, mv_U, mv_U] [] M (fun w M2 => w = mv_I (sp_cpr so ro) ∧ sp_Inv M2) := by
  have hg : ¬ ((so ≠ -1 ∧ ro ≠ -1 ∧ so = ro) ∧ (0 ≤ n ∧ n ≤ sz ∧ 0 ≤ i ∧ i ≤ sz - n) ∧ (n ≤ rz ∧ 0 ≤ j ∧ j ≤ rz - n)) := hg
  refine mv_goW 3 (pc' := 3) (ls' := [mv_R 100, mv_I (S : Int), mv_I i, mv_I (O : Int), mv_I j, mv_I n, mv_U, mv_U, mv_U, mv_U]) (st' := [mv_I 3, mv_I 0, mv_I (S : Int)]) (M1 := M) rfl ?_
  have ha141 : (0 : Int) ≤ (S : Int) ∧ (S : Int) ≤ (3 : Int) := by omega
  refine mv_callPW (st2 := [mv_I 1]) rfl (Or.inr rfl) rfl rfl rfl (sp_min_t ha141) (by first | decide | omega) ?_
  refine mv_goW 1 (pc' := if 1 = 0 then 18 else 9) (ls' := [mv_R 100, mv_I (S : Int), mv_I i, mv_I (O : Int), mv_I j, mv_I n, mv_U, mv_U, mv_U, mv_U]) (st' := []) (M1 := M) rfl ?_
  refine mv_ffW (by first | decide | omega) ?_
  refine mv_goW 3 (pc' := 12) (ls' := [mv_R 100, mv_I (S : Int), mv_I i, mv_I (O : Int), mv_I j, mv_I n, mv_U, mv_U, mv_U, mv_U]) (st' := [mv_I 3, mv_I 0, mv_I (O : Int)]) (M1 := M) rfl ?_
  have ha142 : (0 : Int) ≤ (O : Int) ∧ (O : Int) ≤ (3 : Int) := by omega
  refine mv_callPW (st2 := [mv_I 1]) rfl (Or.inr rfl) rfl rfl rfl (sp_min_t ha142) (by first | decide | omega) ?_
  refine mv_goW 1 (pc' := if 1 = 0 then 18 else 21) (ls' := [mv_R 100, mv_I (S : Int), mv_I i, mv_I (O : Int), mv_I j, mv_I n, mv_U, mv_U, mv_U, mv_U]) (st' := []) (M1 := M) rfl ?_
  refine mv_ffW (by first | decide | omega) ?_
  refine mv_goW 4 (pc' := if 0 ≤ (S : Int) ∧ (S : Int) < 4 then 27 else mv_bad) (ls' := [mv_R 100, mv_I (S : Int), mv_I i, mv_I (O : Int), mv_I j, mv_I n, mv_U, mv_U, mv_U, mv_U]) (st' := [mv_I (M 117 S)]) (M1 := M) rfl ?_
  refine mv_ttW (by omega) ?_
  rw [show M 117 S = so from by exact hs2]
  refine mv_goW 2 (pc' := if so = (-1) then 41 else 31) (ls' := [mv_R 100, mv_I (S : Int), mv_I i, mv_I (O : Int), mv_I j, mv_I n, mv_U, mv_U, mv_U, mv_U]) (st' := []) (M1 := M) rfl ?_
  refine mv_spW (fun ha143 => ?_) (fun ha143 => ?_)
  · refine mv_goW 1 (pc' := 43) (ls' := [mv_R 100, mv_I (S : Int), mv_I i, mv_I (O : Int), mv_I j, mv_I n, mv_U, mv_U, mv_U, mv_U]) (st' := [mv_I (-11)]) (M1 := M) rfl ?_
    exact mv_retW (fun n => rfl) ⟨congrArg mv_I (by first | with_reducible rfl | (unfold sp_cpr; repeat (first | omega | split))), hI⟩
  · refine mv_goW 4 (pc' := if 0 ≤ (O : Int) ∧ (O : Int) < 4 then 37 else mv_bad) (ls' := [mv_R 100, mv_I (S : Int), mv_I i, mv_I (O : Int), mv_I j, mv_I n, mv_U, mv_U, mv_U, mv_U]) (st' := [mv_I (M 117 O)]) (M1 := M) rfl ?_
    refine mv_ttW (by omega) ?_
    rw [show M 117 O = ro from by exact ht2]
    refine mv_goW 2 (pc' := if ro = (-1) then 41 else 44) (ls' := [mv_R 100, mv_I (S : Int), mv_I i, mv_I (O : Int), mv_I j, mv_I n, mv_U, mv_U, mv_U, mv_U]) (st' := []) (M1 := M) rfl ?_
    refine mv_spW (fun ha144 => ?_) (fun ha144 => ?_)
    · refine mv_goW 1 (pc' := 43) (ls' := [mv_R 100, mv_I (S : Int), mv_I i, mv_I (O : Int), mv_I j, mv_I n, mv_U, mv_U, mv_U, mv_U]) (st' := [mv_I (-11)]) (M1 := M) rfl ?_
      exact mv_retW (fun n => rfl) ⟨congrArg mv_I (by first | with_reducible rfl | (unfold sp_cpr; repeat (first | omega | split))), hI⟩
    · refine mv_goW 4 (pc' := if 0 ≤ (S : Int) ∧ (S : Int) < 4 then 50 else mv_bad) (ls' := [mv_R 100, mv_I (S : Int), mv_I i, mv_I (O : Int), mv_I j, mv_I n, mv_U, mv_U, mv_U, mv_U]) (st' := [mv_I (M 117 S)]) (M1 := M) rfl ?_
      refine mv_ttW (by omega) ?_
      rw [show M 117 S = so from by exact hs2]
      refine mv_goW 4 (pc' := if 0 ≤ (O : Int) ∧ (O : Int) < 4 then 56 else mv_bad) (ls' := [mv_R 100, mv_I (S : Int), mv_I i, mv_I (O : Int), mv_I j, mv_I n, mv_U, mv_U, mv_U, mv_U]) (st' := [mv_I (M 117 O), mv_I so]) (M1 := M) rfl ?_
      refine mv_ttW (by omega) ?_
      rw [show M 117 O = ro from by exact ht2]
      refine mv_goW 1 (pc' := if so = ro then 62 else 59) (ls' := [mv_R 100, mv_I (S : Int), mv_I i, mv_I (O : Int), mv_I j, mv_I n, mv_U, mv_U, mv_U, mv_U]) (st' := []) (M1 := M) rfl ?_
      refine mv_spW (fun ha145 => ?_) (fun ha145 => ?_)
      · refine mv_goW 2 (pc' := if n < 0 then 124 else 67) (ls' := [mv_R 100, mv_I (S : Int), mv_I i, mv_I (O : Int), mv_I j, mv_I n, mv_U, mv_U, mv_U, mv_U]) (st' := []) (M1 := M) rfl ?_
        refine mv_spW (fun ha146 => ?_) (fun ha146 => ?_)
        · refine mv_goW 1 (pc' := 126) (ls' := [mv_R 100, mv_I (S : Int), mv_I i, mv_I (O : Int), mv_I j, mv_I n, mv_U, mv_U, mv_U, mv_U]) (st' := [mv_I (-12)]) (M1 := M) rfl ?_
          exact mv_retW (fun n => rfl) ⟨congrArg mv_I (by first | with_reducible rfl | (unfold sp_cpr; repeat (first | omega | split))), hI⟩
        · refine mv_goW 2 (pc' := if i < 0 then 124 else 71) (ls' := [mv_R 100, mv_I (S : Int), mv_I i, mv_I (O : Int), mv_I j, mv_I n, mv_U, mv_U, mv_U, mv_U]) (st' := []) (M1 := M) rfl ?_
          refine mv_spW (fun ha147 => ?_) (fun ha147 => ?_)
          · refine mv_goW 1 (pc' := 126) (ls' := [mv_R 100, mv_I (S : Int), mv_I i, mv_I (O : Int), mv_I j, mv_I n, mv_U, mv_U, mv_U, mv_U]) (st' := [mv_I (-12)]) (M1 := M) rfl ?_
            exact mv_retW (fun n => rfl) ⟨congrArg mv_I (by first | with_reducible rfl | (unfold sp_cpr; repeat (first | omega | split))), hI⟩
          · refine mv_goW 2 (pc' := if j < 0 then 124 else 76) (ls' := [mv_R 100, mv_I (S : Int), mv_I i, mv_I (O : Int), mv_I j, mv_I n, mv_U, mv_U, mv_U, mv_U]) (st' := []) (M1 := M) rfl ?_
            refine mv_spW (fun ha148 => ?_) (fun ha148 => ?_)
            · refine mv_goW 1 (pc' := 126) (ls' := [mv_R 100, mv_I (S : Int), mv_I i, mv_I (O : Int), mv_I j, mv_I n, mv_U, mv_U, mv_U, mv_U]) (st' := [mv_I (-12)]) (M1 := M) rfl ?_
              exact mv_retW (fun n => rfl) ⟨congrArg mv_I (by first | with_reducible rfl | (unfold sp_cpr; repeat (first | omega | split))), hI⟩
            · refine mv_goW 5 (pc' := if 0 ≤ (S : Int) ∧ (S : Int) < 4 then 83 else mv_bad) (ls' := [mv_R 100, mv_I (S : Int), mv_I i, mv_I (O : Int), mv_I j, mv_I n, mv_U, mv_U, mv_U, mv_U]) (st' := [mv_I (M 118 S), mv_I i]) (M1 := M) rfl ?_
              refine mv_ttW (by omega) ?_
              rw [show M 118 S = sz from by exact hz2]
              refine mv_goW 1 (pc' := if sz < i then 124 else 86) (ls' := [mv_R 100, mv_I (S : Int), mv_I i, mv_I (O : Int), mv_I j, mv_I n, mv_U, mv_U, mv_U, mv_U]) (st' := []) (M1 := M) rfl ?_
              refine mv_spW (fun ha149 => ?_) (fun ha149 => ?_)
              · refine mv_goW 1 (pc' := 126) (ls' := [mv_R 100, mv_I (S : Int), mv_I i, mv_I (O : Int), mv_I j, mv_I n, mv_U, mv_U, mv_U, mv_U]) (st' := [mv_I (-12)]) (M1 := M) rfl ?_
                exact mv_retW (fun n => rfl) ⟨congrArg mv_I (by first | with_reducible rfl | (unfold sp_cpr; repeat (first | omega | split))), hI⟩
              · refine mv_goW 5 (pc' := if 0 ≤ (O : Int) ∧ (O : Int) < 4 then 94 else mv_bad) (ls' := [mv_R 100, mv_I (S : Int), mv_I i, mv_I (O : Int), mv_I j, mv_I n, mv_U, mv_U, mv_U, mv_U]) (st' := [mv_I (M 118 O), mv_I j]) (M1 := M) rfl ?_
                refine mv_ttW (by omega) ?_
                rw [show M 118 O = rz from by exact hr2]
                refine mv_goW 1 (pc' := if rz < j then 124 else 97) (ls' := [mv_R 100, mv_I (S : Int), mv_I i, mv_I (O : Int), mv_I j, mv_I n, mv_U, mv_U, mv_U, mv_U]) (st' := []) (M1 := M) rfl ?_
                refine mv_spW (fun ha150 => ?_) (fun ha150 => ?_)
                · refine mv_goW 1 (pc' := 126) (ls' := [mv_R 100, mv_I (S : Int), mv_I i, mv_I (O : Int), mv_I j, mv_I n, mv_U, mv_U, mv_U, mv_U]) (st' := [mv_I (-12)]) (M1 := M) rfl ?_
                  exact mv_retW (fun n => rfl) ⟨congrArg mv_I (by first | with_reducible rfl | (unfold sp_cpr; repeat (first | omega | split))), hI⟩
                · refine mv_goW 5 (pc' := if 0 ≤ (S : Int) ∧ (S : Int) < 4 then 105 else mv_bad) (ls' := [mv_R 100, mv_I (S : Int), mv_I i, mv_I (O : Int), mv_I j, mv_I n, mv_U, mv_U, mv_U, mv_U]) (st' := [mv_I (M 118 S), mv_I n]) (M1 := M) rfl ?_
                  refine mv_ttW (by omega) ?_
                  rw [show M 118 S = sz from by exact hz2]
                  refine mv_goW 3 (pc' := if (mv_w (sz - i)) < n then 124 else 110) (ls' := [mv_R 100, mv_I (S : Int), mv_I i, mv_I (O : Int), mv_I j, mv_I n, mv_U, mv_U, mv_U, mv_U]) (st' := []) (M1 := M) rfl ?_
                  rw [show mv_w (sz - i) = sz - i from mv_w_id (by omega) (by omega)]
                  refine mv_spW (fun ha151 => ?_) (fun ha151 => ?_)
                  · refine mv_goW 1 (pc' := 126) (ls' := [mv_R 100, mv_I (S : Int), mv_I i, mv_I (O : Int), mv_I j, mv_I n, mv_U, mv_U, mv_U, mv_U]) (st' := [mv_I (-12)]) (M1 := M) rfl ?_
                    exact mv_retW (fun n => rfl) ⟨congrArg mv_I (by first | with_reducible rfl | (unfold sp_cpr; repeat (first | omega | split))), hI⟩
                  · refine mv_goW 5 (pc' := if 0 ≤ (O : Int) ∧ (O : Int) < 4 then 118 else mv_bad) (ls' := [mv_R 100, mv_I (S : Int), mv_I i, mv_I (O : Int), mv_I j, mv_I n, mv_U, mv_U, mv_U, mv_U]) (st' := [mv_I (M 118 O), mv_I n]) (M1 := M) rfl ?_
                    refine mv_ttW (by omega) ?_
                    rw [show M 118 O = rz from by exact hr2]
                    refine mv_goW 3 (pc' := if (mv_w (rz - j)) < n then 124 else 127) (ls' := [mv_R 100, mv_I (S : Int), mv_I i, mv_I (O : Int), mv_I j, mv_I n, mv_U, mv_U, mv_U, mv_U]) (st' := []) (M1 := M) rfl ?_
                    rw [show mv_w (rz - j) = rz - j from mv_w_id (by omega) (by omega)]
                    refine mv_ttW (by omega) ?_
                    refine mv_goW 1 (pc' := 126) (ls' := [mv_R 100, mv_I (S : Int), mv_I i, mv_I (O : Int), mv_I j, mv_I n, mv_U, mv_U, mv_U, mv_U]) (st' := [mv_I (-12)]) (M1 := M) rfl ?_
                    exact mv_retW (fun n => rfl) ⟨congrArg mv_I (by first | with_reducible rfl | (unfold sp_cpr; repeat (first | omega | split))), hI⟩
      · refine mv_goW 1 (pc' := 61) (ls' := [mv_R 100, mv_I (S : Int), mv_I i, mv_I (O : Int), mv_I j, mv_I n, mv_U, mv_U, mv_U, mv_U]) (st' := [mv_I (-13)]) (M1 := M) rfl ?_
        exact mv_retW (fun n => rfl) ⟨congrArg mv_I (by first | with_reducible rfl | (unfold sp_cpr; repeat (first | omega | split))), hI⟩
theorem sp_mcpg {S O : Nat} {M : mv_M} {i j n : Nat} {so sz ro rz : Int} (hS : S < 4) (hO : O < 4) (hs2 : M 117 S = so) (hz2 : M 118 S = sz) (ht2 : M 117 O = ro) (hr2 : M 118 O = rz) (z1 : 0 ≤ sz ∧ sz ≤ 40) (z2 : 0 ≤ rz ∧ rz ≤ 40)
    (hg : sp_cpg so sz ro rz i j n) : mv_W 20 189 0 [mv_R 100, mv_I (S : Int), mv_I (i : Int), mv_I (O : Int), mv_I (j : Int), mv_I (n : Int), mv_U, mv_U, mv_U, mv_U] [] M (fun w M2 => w = mv_I (n : Int) ∧ mv_ag [119] M M2 ∧ M2 119 = mv_cp (M 119) (M 119) (40 * S + i) (40 * O + j) n) := by
  obtain ⟨⟨g1, g2, g3⟩, g4, g5⟩ := hg
  refine mv_goW 3 (pc' := 3) (ls' := [mv_R 100, mv_I (S : Int), mv_I (i : Int), mv_I (O : Int), mv_I (j : Int), mv_I (n : Int), mv_U, mv_U, mv_U, mv_U]) (st' := [mv_I 3, mv_I 0, mv_I (S : Int)]) (M1 := M) rfl ?_
  have ha152 : (0 : Int) ≤ (S : Int) ∧ (S : Int) ≤ (3 : Int) := by omega
  refine mv_callPW (st2 := [mv_I 1]) rfl (Or.inr rfl) rfl rfl rfl (sp_min_t ha152) (by first | decide | omega) ?_
  refine mv_goW 1 (pc' := if 1 = 0 then 18 else 9) (ls' := [mv_R 100, mv_I (S : Int), mv_I (i : Int), mv_I (O : Int), mv_I (j : Int), mv_I (n : Int), mv_U, mv_U, mv_U, mv_U]) (st' := []) (M1 := M) rfl ?_
  refine mv_ffW (by first | decide | omega) ?_
  refine mv_goW 3 (pc' := 12) (ls' := [mv_R 100, mv_I (S : Int), mv_I (i : Int), mv_I (O : Int), mv_I (j : Int), mv_I (n : Int), mv_U, mv_U, mv_U, mv_U]) (st' := [mv_I 3, mv_I 0, mv_I (O : Int)]) (M1 := M) rfl ?_
  have ha153 : (0 : Int) ≤ (O : Int) ∧ (O : Int) ≤ (3 : Int) := by omega
  refine mv_callPW (st2 := [mv_I 1]) rfl (Or.inr rfl) rfl rfl rfl (sp_min_t ha153) (by first | decide | omega) ?_
  refine mv_goW 1 (pc' := if 1 = 0 then 18 else 21) (ls' := [mv_R 100, mv_I (S : Int), mv_I (i : Int), mv_I (O : Int), mv_I (j : Int), mv_I (n : Int), mv_U, mv_U, mv_U, mv_U]) (st' := []) (M1 := M) rfl ?_
  refine mv_ffW (by first | decide | omega) ?_
  refine mv_goW 4 (pc' := if 0 ≤ (S : Int) ∧ (S : Int) < 4 then 27 else mv_bad) (ls' := [mv_R 100, mv_I (S : Int), mv_I (i : Int), mv_I (O : Int), mv_I (j : Int), mv_I (n : Int), mv_U, mv_U, mv_U, mv_U]) (st' := [mv_I (M 117 S)]) (M1 := M) rfl ?_
  refine mv_ttW (by omega) ?_
  rw [show M 117 S = so from by exact hs2]
  refine mv_goW 2 (pc' := if so = (-1) then 41 else 31) (ls' := [mv_R 100, mv_I (S : Int), mv_I (i : Int), mv_I (O : Int), mv_I (j : Int), mv_I (n : Int), mv_U, mv_U, mv_U, mv_U]) (st' := []) (M1 := M) rfl ?_
  refine mv_ffW (by omega) ?_
  refine mv_goW 4 (pc' := if 0 ≤ (O : Int) ∧ (O : Int) < 4 then 37 else mv_bad) (ls' := [mv_R 100, mv_I (S : Int), mv_I (i : Int), mv_I (O : Int), mv_I (j : Int), mv_I (n : Int), mv_U, mv_U, mv_U, mv_U]) (st' := [mv_I (M 117 O)]) (M1 := M) rfl ?_
  refine mv_ttW (by omega) ?_
  rw [show M 117 O = ro from by exact ht2]
  refine mv_goW 2 (pc' := if ro = (-1) then 41 else 44) (ls' := [mv_R 100, mv_I (S : Int), mv_I (i : Int), mv_I (O : Int), mv_I (j : Int), mv_I (n : Int), mv_U, mv_U, mv_U, mv_U]) (st' := []) (M1 := M) rfl ?_
  refine mv_ffW (by omega) ?_
  refine mv_goW 4 (pc' := if 0 ≤ (S : Int) ∧ (S : Int) < 4 then 50 else mv_bad) (ls' := [mv_R 100, mv_I (S : Int), mv_I (i : Int), mv_I (O : Int), mv_I (j : Int), mv_I (n : Int), mv_U, mv_U, mv_U, mv_U]) (st' := [mv_I (M 117 S)]) (M1 := M) rfl ?_
  refine mv_ttW (by omega) ?_
  rw [show M 117 S = so from by exact hs2]
  refine mv_goW 4 (pc' := if 0 ≤ (O : Int) ∧ (O : Int) < 4 then 56 else mv_bad) (ls' := [mv_R 100, mv_I (S : Int), mv_I (i : Int), mv_I (O : Int), mv_I (j : Int), mv_I (n : Int), mv_U, mv_U, mv_U, mv_U]) (st' := [mv_I (M 117 O), mv_I so]) (M1 := M) rfl ?_
  refine mv_ttW (by omega) ?_
  rw [show M 117 O = ro from by exact ht2]
  refine mv_goW 1 (pc' := if so = ro then 62 else 59) (ls' := [mv_R 100, mv_I (S : Int), mv_I (i : Int), mv_I (O : Int), mv_I (j : Int), mv_I (n : Int), mv_U, mv_U, mv_U, mv_U]) (st' := []) (M1 := M) rfl ?_
  refine mv_ttW (by omega) ?_
  refine mv_goW 2 (pc' := if (n : Int) < 0 then 124 else 67) (ls' := [mv_R 100, mv_I (S : Int), mv_I (i : Int), mv_I (O : Int), mv_I (j : Int), mv_I (n : Int), mv_U, mv_U, mv_U, mv_U]) (st' := []) (M1 := M) rfl ?_
  refine mv_ffW (by omega) ?_
  refine mv_goW 2 (pc' := if (i : Int) < 0 then 124 else 71) (ls' := [mv_R 100, mv_I (S : Int), mv_I (i : Int), mv_I (O : Int), mv_I (j : Int), mv_I (n : Int), mv_U, mv_U, mv_U, mv_U]) (st' := []) (M1 := M) rfl ?_
  refine mv_ffW (by omega) ?_
  refine mv_goW 2 (pc' := if (j : Int) < 0 then 124 else 76) (ls' := [mv_R 100, mv_I (S : Int), mv_I (i : Int), mv_I (O : Int), mv_I (j : Int), mv_I (n : Int), mv_U, mv_U, mv_U, mv_U]) (st' := []) (M1 := M) rfl ?_
  refine mv_ffW (by omega) ?_
  refine mv_goW 5 (pc' := if 0 ≤ (S : Int) ∧ (S : Int) < 4 then 83 else mv_bad) (ls' := [mv_R 100, mv_I (S : Int), mv_I (i : Int), mv_I (O : Int), mv_I (j : Int), mv_I (n : Int), mv_U, mv_U, mv_U, mv_U]) (st' := [mv_I (M 118 S), mv_I (i : Int)]) (M1 := M) rfl ?_
  refine mv_ttW (by omega) ?_
  rw [show M 118 S = sz from by exact hz2]
  refine mv_goW 1 (pc' := if sz < (i : Int) then 124 else 86) (ls' := [mv_R 100, mv_I (S : Int), mv_I (i : Int), mv_I (O : Int), mv_I (j : Int), mv_I (n : Int), mv_U, mv_U, mv_U, mv_U]) (st' := []) (M1 := M) rfl ?_
  refine mv_ffW (by omega) ?_
  refine mv_goW 5 (pc' := if 0 ≤ (O : Int) ∧ (O : Int) < 4 then 94 else mv_bad) (ls' := [mv_R 100, mv_I (S : Int), mv_I (i : Int), mv_I (O : Int), mv_I (j : Int), mv_I (n : Int), mv_U, mv_U, mv_U, mv_U]) (st' := [mv_I (M 118 O), mv_I (j : Int)]) (M1 := M) rfl ?_
  refine mv_ttW (by omega) ?_
  rw [show M 118 O = rz from by exact hr2]
  refine mv_goW 1 (pc' := if rz < (j : Int) then 124 else 97) (ls' := [mv_R 100, mv_I (S : Int), mv_I (i : Int), mv_I (O : Int), mv_I (j : Int), mv_I (n : Int), mv_U, mv_U, mv_U, mv_U]) (st' := []) (M1 := M) rfl ?_
  refine mv_ffW (by omega) ?_
  refine mv_goW 5 (pc' := if 0 ≤ (S : Int) ∧ (S : Int) < 4 then 105 else mv_bad) (ls' := [mv_R 100, mv_I (S : Int), mv_I (i : Int), mv_I (O : Int), mv_I (j : Int), mv_I (n : Int), mv_U, mv_U, mv_U, mv_U]) (st' := [mv_I (M 118 S), mv_I (n : Int)]) (M1 := M) rfl ?_
  refine mv_ttW (by omega) ?_
  rw [show M 118 S = sz from by exact hz2]
  refine mv_goW 3 (pc' := if (mv_w (sz - (i : Int))) < (n : Int) then 124 else 110) (ls' := [mv_R 100, mv_I (S : Int), mv_I (i : Int), mv_I (O : Int), mv_I (j : Int), mv_I (n : Int), mv_U, mv_U, mv_U, mv_U]) (st' := []) (M1 := M) rfl ?_
  rw [show mv_w (sz - (i : Int)) = sz - (i : Int) from mv_w_id (by omega) (by omega)]
  refine mv_ffW (by omega) ?_
  refine mv_goW 5 (pc' := if 0 ≤ (O : Int) ∧ (O : Int) < 4 then 118 else mv_bad) (ls' := [mv_R 100, mv_I (S : Int), mv_I (i : Int), mv_I (O : Int), mv_I (j : Int), mv_I (n : Int), mv_U, mv_U, mv_U, mv_U]) (st' := [mv_I (M 118 O), mv_I (n : Int)]) (M1 := M) rfl ?_
  refine mv_ttW (by omega) ?_
  rw [show M 118 O = rz from by exact hr2]
  refine mv_goW 3 (pc' := if (mv_w (rz - (j : Int))) < (n : Int) then 124 else 127) (ls' := [mv_R 100, mv_I (S : Int), mv_I (i : Int), mv_I (O : Int), mv_I (j : Int), mv_I (n : Int), mv_U, mv_U, mv_U, mv_U]) (st' := []) (M1 := M) rfl ?_
  rw [show mv_w (rz - (j : Int)) = rz - (j : Int) from mv_w_id (by omega) (by omega)]
  refine mv_ffW (by omega) ?_
  refine mv_goW 14 (pc' := 147) (ls' := [mv_R 100, mv_I (S : Int), mv_I (i : Int), mv_I (O : Int), mv_I (j : Int), mv_I (n : Int), mv_I (mv_w ((mv_w (40 * (S : Int))) + (i : Int))), mv_I (mv_w ((mv_w (40 * (O : Int))) + (j : Int))), mv_I 0, mv_U]) (st' := []) (M1 := M) rfl ?_
  rw [show mv_w (40 * (S : Int)) = 40 * (S : Int) from mv_w_id (by omega) (by omega)]
  rw [show mv_w ((40 * (S : Int)) + (i : Int)) = (40 * (S : Int)) + (i : Int) from mv_w_id (by omega) (by omega)]
  rw [show mv_w (40 * (O : Int)) = 40 * (O : Int) from mv_w_id (by omega) (by omega)]
  rw [show mv_w ((40 * (O : Int)) + (j : Int)) = (40 * (O : Int)) + (j : Int) from mv_w_id (by omega) (by omega)]
  rw [show (40 * (S : Int)) + (i : Int) = ((40 * S + i : Nat) : Int) from by omega]
  rw [show (40 * (O : Int)) + (j : Int) = ((40 * O + j : Nat) : Int) from by omega]
  refine mv_eqsW (ls2 := [mv_R 100, mv_I (S : Int), mv_I (i : Int), mv_I (O : Int), mv_I (j : Int), mv_I (n : Int), mv_I ((40 * S + i : Nat) : Int), mv_I ((40 * O + j : Nat) : Int), mv_I ((0 : Nat) : Int), mv_U]) (by rw [show ((40 * S + i : Nat) : Int) = ((40 * S + i : Nat) : Int) from by omega, show ((40 * O + j : Nat) : Int) = ((40 * O + j : Nat) : Int) from by omega]; rfl) rfl rfl ?_
  have eq1 : M 119 = mv_cp (M 119) (M 119) (40 * S + i) (40 * O + j) 0 := by rw [sp_cp_0]
  have eq2 : M 119 = mv_cp (M 119) (M 119) (40 * S + i + n) (40 * O + j + n) 0 := by rw [sp_cp_0]
  by_cases hdir : 40 * S + i < 40 * O + j
  · refine sp_mcpd (f := M 119) (by omega) (by omega) hdir n 0 M mv_U (by omega) rfl rfl rfl rfl rfl eq2 (fun M2 l9 q1 q2 => ?_)
    exact mv_goW 1 (pc' := 203) (ls' := [mv_R 100, mv_I (S : Int), mv_I (i : Int), mv_I (O : Int), mv_I (j : Int), mv_I (n : Int), mv_I ((40 * S + i : Nat) : Int), mv_I ((40 * O + j : Nat) : Int), mv_I (n : Int), l9]) (st' := [mv_I (n : Int)]) (M1 := M2) rfl (mv_retW (fun n => rfl) ⟨rfl, q1, q2⟩)
  · refine sp_mcpu (f := M 119) (by omega) (by omega) (by omega) n 0 M mv_U (by omega) rfl rfl rfl rfl rfl eq1 (fun M2 l9 q1 q2 => ?_)
    exact mv_goW 1 (pc' := 203) (ls' := [mv_R 100, mv_I (S : Int), mv_I (i : Int), mv_I (O : Int), mv_I (j : Int), mv_I (n : Int), mv_I ((40 * S + i : Nat) : Int), mv_I ((40 * O + j : Nat) : Int), mv_I (n : Int), l9]) (st' := [mv_I (n : Int)]) (M1 := M2) rfl (mv_retW (fun n => rfl) ⟨rfl, q1, q2⟩)
theorem sp_k33_0_0 (a b c : Int) : sp_call 94 189 [mv_I 0, mv_I a, mv_I 0, mv_I b, mv_I c] [mv_I 0, mv_I a, mv_I 0, mv_I b, mv_I c] := by
  refine sp_mkW (lc := [mv_R 0, mv_I 0, mv_I a, mv_I 0, mv_I b, mv_I c, mv_U, mv_U]) (lm := [mv_R 100, mv_I 0, mv_I a, mv_I 0, mv_I b, mv_I c, mv_U, mv_U, mv_U, mv_U]) rfl rfl (fun M hI => ?_)
  have hI2 := hI
  obtain ⟨V, P, n, B, K, t, h⟩ := hI2
  obtain ⟨so, sz, ⟨hs1, hs2, so0, so1⟩, ⟨hz1, hz2, sz0, sz1⟩, _⟩ := sp_sh_get h 0 (by decide)
  obtain ⟨ro, rz, ⟨ht1, ht2, ro0, ro1⟩, ⟨hr1, hr2, rz0, rz1⟩, _⟩ := sp_sh_get h 0 (by decide)
  by_cases hg : sp_cpg so sz ro rz a b c
  · have hg2 := hg
    obtain ⟨_, g4, g5⟩ := hg2
    obtain ⟨i, rfl⟩ : ∃ x : Nat, a = (x : Int) := ⟨a.toNat, by omega⟩
    obtain ⟨j, rfl⟩ : ∃ x : Nat, b = (x : Int) := ⟨b.toNat, by omega⟩
    obtain ⟨m, rfl⟩ : ∃ x : Nat, c = (x : Int) := ⟨c.toNat, by omega⟩
    obtain ⟨M1, r1, q1⟩ := sp_ccpg_0_0 hs1 hz1 ht1 hr1 ⟨sz0, sz1⟩ ⟨rz0, rz1⟩ (fun q => ⟨hs2.symm.trans (by first | exact ht2 | exact absurd q (by decide)), hz2.symm.trans (by first | exact hr2 | exact absurd q (by decide))⟩) hg
    refine ⟨_, M1, r1, _, rfl, ?_⟩
    subst q1
    exact (sp_mcpg (S := 0) (O := 0) (M := mv_st M 72 (mv_cp (M 72) (M 72) i j m)) (by decide) (by decide) hs2 hz2 ht2 hr2 ⟨sz0, sz1⟩ ⟨rz0, rz1⟩ hg).imp (fun v M2 q => ⟨q.1, sp_cpy_end (S := 0) (O := 0) (by decide) (by decide) h (by omega) (by omega) q.2.1 q.2.2⟩)
  · obtain ⟨M1, r1, q1⟩ := sp_ccpb_0_0 hs1 hz1 ht1 hr1 ⟨sz0, sz1⟩ ⟨rz0, rz1⟩ (fun q => ⟨hs2.symm.trans (by first | exact ht2 | exact absurd q (by decide)), hz2.symm.trans (by first | exact hr2 | exact absurd q (by decide))⟩) hg
    refine ⟨_, M1, r1, _, rfl, ?_⟩
    subst q1
    exact sp_mcpb (S := 0) (O := 0) (by decide) (by decide) hI hs2 hz2 ht2 hr2 ⟨sz0, sz1⟩ ⟨rz0, rz1⟩ hg
theorem sp_k33_0_1 (a b c : Int) : sp_call 94 189 [mv_I 0, mv_I a, mv_I 1, mv_I b, mv_I c] [mv_I 0, mv_I a, mv_I 1, mv_I b, mv_I c] := by
  refine sp_mkW (lc := [mv_R 0, mv_I 0, mv_I a, mv_I 1, mv_I b, mv_I c, mv_U, mv_U]) (lm := [mv_R 100, mv_I 0, mv_I a, mv_I 1, mv_I b, mv_I c, mv_U, mv_U, mv_U, mv_U]) rfl rfl (fun M hI => ?_)
  have hI2 := hI
  obtain ⟨V, P, n, B, K, t, h⟩ := hI2
  obtain ⟨so, sz, ⟨hs1, hs2, so0, so1⟩, ⟨hz1, hz2, sz0, sz1⟩, _⟩ := sp_sh_get h 0 (by decide)
  obtain ⟨ro, rz, ⟨ht1, ht2, ro0, ro1⟩, ⟨hr1, hr2, rz0, rz1⟩, _⟩ := sp_sh_get h 1 (by decide)
  by_cases hg : sp_cpg so sz ro rz a b c
  · have hg2 := hg
    obtain ⟨_, g4, g5⟩ := hg2
    obtain ⟨i, rfl⟩ : ∃ x : Nat, a = (x : Int) := ⟨a.toNat, by omega⟩
    obtain ⟨j, rfl⟩ : ∃ x : Nat, b = (x : Int) := ⟨b.toNat, by omega⟩
    obtain ⟨m, rfl⟩ : ∃ x : Nat, c = (x : Int) := ⟨c.toNat, by omega⟩
    obtain ⟨M1, r1, q1⟩ := sp_ccpg_0_1 hs1 hz1 ht1 hr1 ⟨sz0, sz1⟩ ⟨rz0, rz1⟩ (fun q => ⟨hs2.symm.trans (by first | exact ht2 | exact absurd q (by decide)), hz2.symm.trans (by first | exact hr2 | exact absurd q (by decide))⟩) hg
    refine ⟨_, M1, r1, _, rfl, ?_⟩
    subst q1
    exact (sp_mcpg (S := 0) (O := 1) (M := mv_st M 74 (mv_cp (M 72) (M 74) i j m)) (by decide) (by decide) hs2 hz2 ht2 hr2 ⟨sz0, sz1⟩ ⟨rz0, rz1⟩ hg).imp (fun v M2 q => ⟨q.1, sp_cpy_end (S := 0) (O := 1) (by decide) (by decide) h (by omega) (by omega) q.2.1 q.2.2⟩)
  · obtain ⟨M1, r1, q1⟩ := sp_ccpb_0_1 hs1 hz1 ht1 hr1 ⟨sz0, sz1⟩ ⟨rz0, rz1⟩ (fun q => ⟨hs2.symm.trans (by first | exact ht2 | exact absurd q (by decide)), hz2.symm.trans (by first | exact hr2 | exact absurd q (by decide))⟩) hg
    refine ⟨_, M1, r1, _, rfl, ?_⟩
    subst q1
    exact sp_mcpb (S := 0) (O := 1) (by decide) (by decide) hI hs2 hz2 ht2 hr2 ⟨sz0, sz1⟩ ⟨rz0, rz1⟩ hg
theorem sp_k33_0_2 (a b c : Int) : sp_call 94 189 [mv_I 0, mv_I a, mv_I 2, mv_I b, mv_I c] [mv_I 0, mv_I a, mv_I 2, mv_I b, mv_I c] := by
  refine sp_mkW (lc := [mv_R 0, mv_I 0, mv_I a, mv_I 2, mv_I b, mv_I c, mv_U, mv_U]) (lm := [mv_R 100, mv_I 0, mv_I a, mv_I 2, mv_I b, mv_I c, mv_U, mv_U, mv_U, mv_U]) rfl rfl (fun M hI => ?_)
  have hI2 := hI
  obtain ⟨V, P, n, B, K, t, h⟩ := hI2
  obtain ⟨so, sz, ⟨hs1, hs2, so0, so1⟩, ⟨hz1, hz2, sz0, sz1⟩, _⟩ := sp_sh_get h 0 (by decide)
  obtain ⟨ro, rz, ⟨ht1, ht2, ro0, ro1⟩, ⟨hr1, hr2, rz0, rz1⟩, _⟩ := sp_sh_get h 2 (by decide)
  by_cases hg : sp_cpg so sz ro rz a b c
  · have hg2 := hg
    obtain ⟨_, g4, g5⟩ := hg2
    obtain ⟨i, rfl⟩ : ∃ x : Nat, a = (x : Int) := ⟨a.toNat, by omega⟩
    obtain ⟨j, rfl⟩ : ∃ x : Nat, b = (x : Int) := ⟨b.toNat, by omega⟩
    obtain ⟨m, rfl⟩ : ∃ x : Nat, c = (x : Int) := ⟨c.toNat, by omega⟩
    obtain ⟨M1, r1, q1⟩ := sp_ccpg_0_2 hs1 hz1 ht1 hr1 ⟨sz0, sz1⟩ ⟨rz0, rz1⟩ (fun q => ⟨hs2.symm.trans (by first | exact ht2 | exact absurd q (by decide)), hz2.symm.trans (by first | exact hr2 | exact absurd q (by decide))⟩) hg
    refine ⟨_, M1, r1, _, rfl, ?_⟩
    subst q1
    exact (sp_mcpg (S := 0) (O := 2) (M := mv_st M 76 (mv_cp (M 72) (M 76) i j m)) (by decide) (by decide) hs2 hz2 ht2 hr2 ⟨sz0, sz1⟩ ⟨rz0, rz1⟩ hg).imp (fun v M2 q => ⟨q.1, sp_cpy_end (S := 0) (O := 2) (by decide) (by decide) h (by omega) (by omega) q.2.1 q.2.2⟩)
  · obtain ⟨M1, r1, q1⟩ := sp_ccpb_0_2 hs1 hz1 ht1 hr1 ⟨sz0, sz1⟩ ⟨rz0, rz1⟩ (fun q => ⟨hs2.symm.trans (by first | exact ht2 | exact absurd q (by decide)), hz2.symm.trans (by first | exact hr2 | exact absurd q (by decide))⟩) hg
    refine ⟨_, M1, r1, _, rfl, ?_⟩
    subst q1
    exact sp_mcpb (S := 0) (O := 2) (by decide) (by decide) hI hs2 hz2 ht2 hr2 ⟨sz0, sz1⟩ ⟨rz0, rz1⟩ hg
theorem sp_k33_0_3 (a b c : Int) : sp_call 94 189 [mv_I 0, mv_I a, mv_I 3, mv_I b, mv_I c] [mv_I 0, mv_I a, mv_I 3, mv_I b, mv_I c] := by
  refine sp_mkW (lc := [mv_R 0, mv_I 0, mv_I a, mv_I 3, mv_I b, mv_I c, mv_U, mv_U]) (lm := [mv_R 100, mv_I 0, mv_I a, mv_I 3, mv_I b, mv_I c, mv_U, mv_U, mv_U, mv_U]) rfl rfl (fun M hI => ?_)
  have hI2 := hI
  obtain ⟨V, P, n, B, K, t, h⟩ := hI2
  obtain ⟨so, sz, ⟨hs1, hs2, so0, so1⟩, ⟨hz1, hz2, sz0, sz1⟩, _⟩ := sp_sh_get h 0 (by decide)
  obtain ⟨ro, rz, ⟨ht1, ht2, ro0, ro1⟩, ⟨hr1, hr2, rz0, rz1⟩, _⟩ := sp_sh_get h 3 (by decide)
  by_cases hg : sp_cpg so sz ro rz a b c
  · have hg2 := hg
    obtain ⟨_, g4, g5⟩ := hg2
    obtain ⟨i, rfl⟩ : ∃ x : Nat, a = (x : Int) := ⟨a.toNat, by omega⟩
    obtain ⟨j, rfl⟩ : ∃ x : Nat, b = (x : Int) := ⟨b.toNat, by omega⟩
    obtain ⟨m, rfl⟩ : ∃ x : Nat, c = (x : Int) := ⟨c.toNat, by omega⟩
    obtain ⟨M1, r1, q1⟩ := sp_ccpg_0_3 hs1 hz1 ht1 hr1 ⟨sz0, sz1⟩ ⟨rz0, rz1⟩ (fun q => ⟨hs2.symm.trans (by first | exact ht2 | exact absurd q (by decide)), hz2.symm.trans (by first | exact hr2 | exact absurd q (by decide))⟩) hg
    refine ⟨_, M1, r1, _, rfl, ?_⟩
    subst q1
    exact (sp_mcpg (S := 0) (O := 3) (M := mv_st M 78 (mv_cp (M 72) (M 78) i j m)) (by decide) (by decide) hs2 hz2 ht2 hr2 ⟨sz0, sz1⟩ ⟨rz0, rz1⟩ hg).imp (fun v M2 q => ⟨q.1, sp_cpy_end (S := 0) (O := 3) (by decide) (by decide) h (by omega) (by omega) q.2.1 q.2.2⟩)
  · obtain ⟨M1, r1, q1⟩ := sp_ccpb_0_3 hs1 hz1 ht1 hr1 ⟨sz0, sz1⟩ ⟨rz0, rz1⟩ (fun q => ⟨hs2.symm.trans (by first | exact ht2 | exact absurd q (by decide)), hz2.symm.trans (by first | exact hr2 | exact absurd q (by decide))⟩) hg
    refine ⟨_, M1, r1, _, rfl, ?_⟩
    subst q1
    exact sp_mcpb (S := 0) (O := 3) (by decide) (by decide) hI hs2 hz2 ht2 hr2 ⟨sz0, sz1⟩ ⟨rz0, rz1⟩ hg
theorem sp_k33_1_0 (a b c : Int) : sp_call 94 189 [mv_I 1, mv_I a, mv_I 0, mv_I b, mv_I c] [mv_I 1, mv_I a, mv_I 0, mv_I b, mv_I c] := by
  refine sp_mkW (lc := [mv_R 0, mv_I 1, mv_I a, mv_I 0, mv_I b, mv_I c, mv_U, mv_U]) (lm := [mv_R 100, mv_I 1, mv_I a, mv_I 0, mv_I b, mv_I c, mv_U, mv_U, mv_U, mv_U]) rfl rfl (fun M hI => ?_)
  have hI2 := hI
  obtain ⟨V, P, n, B, K, t, h⟩ := hI2
  obtain ⟨so, sz, ⟨hs1, hs2, so0, so1⟩, ⟨hz1, hz2, sz0, sz1⟩, _⟩ := sp_sh_get h 1 (by decide)
  obtain ⟨ro, rz, ⟨ht1, ht2, ro0, ro1⟩, ⟨hr1, hr2, rz0, rz1⟩, _⟩ := sp_sh_get h 0 (by decide)
  by_cases hg : sp_cpg so sz ro rz a b c
  · have hg2 := hg
    obtain ⟨_, g4, g5⟩ := hg2
    obtain ⟨i, rfl⟩ : ∃ x : Nat, a = (x : Int) := ⟨a.toNat, by omega⟩
    obtain ⟨j, rfl⟩ : ∃ x : Nat, b = (x : Int) := ⟨b.toNat, by omega⟩
    obtain ⟨m, rfl⟩ : ∃ x : Nat, c = (x : Int) := ⟨c.toNat, by omega⟩
    obtain ⟨M1, r1, q1⟩ := sp_ccpg_1_0 hs1 hz1 ht1 hr1 ⟨sz0, sz1⟩ ⟨rz0, rz1⟩ (fun q => ⟨hs2.symm.trans (by first | exact ht2 | exact absurd q (by decide)), hz2.symm.trans (by first | exact hr2 | exact absurd q (by decide))⟩) hg
    refine ⟨_, M1, r1, _, rfl, ?_⟩
    subst q1
    exact (sp_mcpg (S := 1) (O := 0) (M := mv_st M 72 (mv_cp (M 74) (M 72) i j m)) (by decide) (by decide) hs2 hz2 ht2 hr2 ⟨sz0, sz1⟩ ⟨rz0, rz1⟩ hg).imp (fun v M2 q => ⟨q.1, sp_cpy_end (S := 1) (O := 0) (by decide) (by decide) h (by omega) (by omega) q.2.1 q.2.2⟩)
  · obtain ⟨M1, r1, q1⟩ := sp_ccpb_1_0 hs1 hz1 ht1 hr1 ⟨sz0, sz1⟩ ⟨rz0, rz1⟩ (fun q => ⟨hs2.symm.trans (by first | exact ht2 | exact absurd q (by decide)), hz2.symm.trans (by first | exact hr2 | exact absurd q (by decide))⟩) hg
    refine ⟨_, M1, r1, _, rfl, ?_⟩
    subst q1
    exact sp_mcpb (S := 1) (O := 0) (by decide) (by decide) hI hs2 hz2 ht2 hr2 ⟨sz0, sz1⟩ ⟨rz0, rz1⟩ hg
theorem sp_k33_1_1 (a b c : Int) : sp_call 94 189 [mv_I 1, mv_I a, mv_I 1, mv_I b, mv_I c] [mv_I 1, mv_I a, mv_I 1, mv_I b, mv_I c] := by
  refine sp_mkW (lc := [mv_R 0, mv_I 1, mv_I a, mv_I 1, mv_I b, mv_I c, mv_U, mv_U]) (lm := [mv_R 100, mv_I 1, mv_I a, mv_I 1, mv_I b, mv_I c, mv_U, mv_U, mv_U, mv_U]) rfl rfl (fun M hI => ?_)
  have hI2 := hI
  obtain ⟨V, P, n, B, K, t, h⟩ := hI2
  obtain ⟨so, sz, ⟨hs1, hs2, so0, so1⟩, ⟨hz1, hz2, sz0, sz1⟩, _⟩ := sp_sh_get h 1 (by decide)
  obtain ⟨ro, rz, ⟨ht1, ht2, ro0, ro1⟩, ⟨hr1, hr2, rz0, rz1⟩, _⟩ := sp_sh_get h 1 (by decide)
  by_cases hg : sp_cpg so sz ro rz a b c
  · have hg2 := hg
    obtain ⟨_, g4, g5⟩ := hg2
    obtain ⟨i, rfl⟩ : ∃ x : Nat, a = (x : Int) := ⟨a.toNat, by omega⟩
    obtain ⟨j, rfl⟩ : ∃ x : Nat, b = (x : Int) := ⟨b.toNat, by omega⟩
    obtain ⟨m, rfl⟩ : ∃ x : Nat, c = (x : Int) := ⟨c.toNat, by omega⟩
    obtain ⟨M1, r1, q1⟩ := sp_ccpg_1_1 hs1 hz1 ht1 hr1 ⟨sz0, sz1⟩ ⟨rz0, rz1⟩ (fun q => ⟨hs2.symm.trans (by first | exact ht2 | exact absurd q (by decide)), hz2.symm.trans (by first | exact hr2 | exact absurd q (by decide))⟩) hg
    refine ⟨_, M1, r1, _, rfl, ?_⟩
    subst q1
    exact (sp_mcpg (S := 1) (O := 1) (M := mv_st M 74 (mv_cp (M 74) (M 74) i j m)) (by decide) (by decide) hs2 hz2 ht2 hr2 ⟨sz0, sz1⟩ ⟨rz0, rz1⟩ hg).imp (fun v M2 q => ⟨q.1, sp_cpy_end (S := 1) (O := 1) (by decide) (by decide) h (by omega) (by omega) q.2.1 q.2.2⟩)
  · obtain ⟨M1, r1, q1⟩ := sp_ccpb_1_1 hs1 hz1 ht1 hr1 ⟨sz0, sz1⟩ ⟨rz0, rz1⟩ (fun q => ⟨hs2.symm.trans (by first | exact ht2 | exact absurd q (by decide)), hz2.symm.trans (by first | exact hr2 | exact absurd q (by decide))⟩) hg
    refine ⟨_, M1, r1, _, rfl, ?_⟩
    subst q1
    exact sp_mcpb (S := 1) (O := 1) (by decide) (by decide) hI hs2 hz2 ht2 hr2 ⟨sz0, sz1⟩ ⟨rz0, rz1⟩ hg
theorem sp_k33_1_2 (a b c : Int) : sp_call 94 189 [mv_I 1, mv_I a, mv_I 2, mv_I b, mv_I c] [mv_I 1, mv_I a, mv_I 2, mv_I b, mv_I c] := by
  refine sp_mkW (lc := [mv_R 0, mv_I 1, mv_I a, mv_I 2, mv_I b, mv_I c, mv_U, mv_U]) (lm := [mv_R 100, mv_I 1, mv_I a, mv_I 2, mv_I b, mv_I c, mv_U, mv_U, mv_U, mv_U]) rfl rfl (fun M hI => ?_)
  have hI2 := hI
  obtain ⟨V, P, n, B, K, t, h⟩ := hI2
  obtain ⟨so, sz, ⟨hs1, hs2, so0, so1⟩, ⟨hz1, hz2, sz0, sz1⟩, _⟩ := sp_sh_get h 1 (by decide)
  obtain ⟨ro, rz, ⟨ht1, ht2, ro0, ro1⟩, ⟨hr1, hr2, rz0, rz1⟩, _⟩ := sp_sh_get h 2 (by decide)
  by_cases hg : sp_cpg so sz ro rz a b c
  · have hg2 := hg
    obtain ⟨_, g4, g5⟩ := hg2
    obtain ⟨i, rfl⟩ : ∃ x : Nat, a = (x : Int) := ⟨a.toNat, by omega⟩
    obtain ⟨j, rfl⟩ : ∃ x : Nat, b = (x : Int) := ⟨b.toNat, by omega⟩
    obtain ⟨m, rfl⟩ : ∃ x : Nat, c = (x : Int) := ⟨c.toNat, by omega⟩
    obtain ⟨M1, r1, q1⟩ := sp_ccpg_1_2 hs1 hz1 ht1 hr1 ⟨sz0, sz1⟩ ⟨rz0, rz1⟩ (fun q => ⟨hs2.symm.trans (by first | exact ht2 | exact absurd q (by decide)), hz2.symm.trans (by first | exact hr2 | exact absurd q (by decide))⟩) hg
    refine ⟨_, M1, r1, _, rfl, ?_⟩
    subst q1
    exact (sp_mcpg (S := 1) (O := 2) (M := mv_st M 76 (mv_cp (M 74) (M 76) i j m)) (by decide) (by decide) hs2 hz2 ht2 hr2 ⟨sz0, sz1⟩ ⟨rz0, rz1⟩ hg).imp (fun v M2 q => ⟨q.1, sp_cpy_end (S := 1) (O := 2) (by decide) (by decide) h (by omega) (by omega) q.2.1 q.2.2⟩)
  · obtain ⟨M1, r1, q1⟩ := sp_ccpb_1_2 hs1 hz1 ht1 hr1 ⟨sz0, sz1⟩ ⟨rz0, rz1⟩ (fun q => ⟨hs2.symm.trans (by first | exact ht2 | exact absurd q (by decide)), hz2.symm.trans (by first | exact hr2 | exact absurd q (by decide))⟩) hg
    refine ⟨_, M1, r1, _, rfl, ?_⟩
    subst q1
    exact sp_mcpb (S := 1) (O := 2) (by decide) (by decide) hI hs2 hz2 ht2 hr2 ⟨sz0, sz1⟩ ⟨rz0, rz1⟩ hg
theorem sp_k33_1_3 (a b c : Int) : sp_call 94 189 [mv_I 1, mv_I a, mv_I 3, mv_I b, mv_I c] [mv_I 1, mv_I a, mv_I 3, mv_I b, mv_I c] := by
  refine sp_mkW (lc := [mv_R 0, mv_I 1, mv_I a, mv_I 3, mv_I b, mv_I c, mv_U, mv_U]) (lm := [mv_R 100, mv_I 1, mv_I a, mv_I 3, mv_I b, mv_I c, mv_U, mv_U, mv_U, mv_U]) rfl rfl (fun M hI => ?_)
  have hI2 := hI
  obtain ⟨V, P, n, B, K, t, h⟩ := hI2
  obtain ⟨so, sz, ⟨hs1, hs2, so0, so1⟩, ⟨hz1, hz2, sz0, sz1⟩, _⟩ := sp_sh_get h 1 (by decide)
  obtain ⟨ro, rz, ⟨ht1, ht2, ro0, ro1⟩, ⟨hr1, hr2, rz0, rz1⟩, _⟩ := sp_sh_get h 3 (by decide)
  by_cases hg : sp_cpg so sz ro rz a b c
  · have hg2 := hg
    obtain ⟨_, g4, g5⟩ := hg2
    obtain ⟨i, rfl⟩ : ∃ x : Nat, a = (x : Int) := ⟨a.toNat, by omega⟩
    obtain ⟨j, rfl⟩ : ∃ x : Nat, b = (x : Int) := ⟨b.toNat, by omega⟩
    obtain ⟨m, rfl⟩ : ∃ x : Nat, c = (x : Int) := ⟨c.toNat, by omega⟩
    obtain ⟨M1, r1, q1⟩ := sp_ccpg_1_3 hs1 hz1 ht1 hr1 ⟨sz0, sz1⟩ ⟨rz0, rz1⟩ (fun q => ⟨hs2.symm.trans (by first | exact ht2 | exact absurd q (by decide)), hz2.symm.trans (by first | exact hr2 | exact absurd q (by decide))⟩) hg
    refine ⟨_, M1, r1, _, rfl, ?_⟩
    subst q1
    exact (sp_mcpg (S := 1) (O := 3) (M := mv_st M 78 (mv_cp (M 74) (M 78) i j m)) (by decide) (by decide) hs2 hz2 ht2 hr2 ⟨sz0, sz1⟩ ⟨rz0, rz1⟩ hg).imp (fun v M2 q => ⟨q.1, sp_cpy_end (S := 1) (O := 3) (by decide) (by decide) h (by omega) (by omega) q.2.1 q.2.2⟩)
  · obtain ⟨M1, r1, q1⟩ := sp_ccpb_1_3 hs1 hz1 ht1 hr1 ⟨sz0, sz1⟩ ⟨rz0, rz1⟩ (fun q => ⟨hs2.symm.trans (by first | exact ht2 | exact absurd q (by decide)), hz2.symm.trans (by first | exact hr2 | exact absurd q (by decide))⟩) hg
    refine ⟨_, M1, r1, _, rfl, ?_⟩
    subst q1
    exact sp_mcpb (S := 1) (O := 3) (by decide) (by decide) hI hs2 hz2 ht2 hr2 ⟨sz0, sz1⟩ ⟨rz0, rz1⟩ hg
theorem sp_k33_2_0 (a b c : Int) : sp_call 94 189 [mv_I 2, mv_I a, mv_I 0, mv_I b, mv_I c] [mv_I 2, mv_I a, mv_I 0, mv_I b, mv_I c] := by
  refine sp_mkW (lc := [mv_R 0, mv_I 2, mv_I a, mv_I 0, mv_I b, mv_I c, mv_U, mv_U]) (lm := [mv_R 100, mv_I 2, mv_I a, mv_I 0, mv_I b, mv_I c, mv_U, mv_U, mv_U, mv_U]) rfl rfl (fun M hI => ?_)
  have hI2 := hI
  obtain ⟨V, P, n, B, K, t, h⟩ := hI2
  obtain ⟨so, sz, ⟨hs1, hs2, so0, so1⟩, ⟨hz1, hz2, sz0, sz1⟩, _⟩ := sp_sh_get h 2 (by decide)
  obtain ⟨ro, rz, ⟨ht1, ht2, ro0, ro1⟩, ⟨hr1, hr2, rz0, rz1⟩, _⟩ := sp_sh_get h 0 (by decide)
  by_cases hg : sp_cpg so sz ro rz a b c
  · have hg2 := hg
    obtain ⟨_, g4, g5⟩ := hg2
    obtain ⟨i, rfl⟩ : ∃ x : Nat, a = (x : Int) := ⟨a.toNat, by omega⟩
    obtain ⟨j, rfl⟩ : ∃ x : Nat, b = (x : Int) := ⟨b.toNat, by omega⟩
    obtain ⟨m, rfl⟩ : ∃ x : Nat, c = (x : Int) := ⟨c.toNat, by omega⟩
    obtain ⟨M1, r1, q1⟩ := sp_ccpg_2_0 hs1 hz1 ht1 hr1 ⟨sz0, sz1⟩ ⟨rz0, rz1⟩ (fun q => ⟨hs2.symm.trans (by first | exact ht2 | exact absurd q (by decide)), hz2.symm.trans (by first | exact hr2 | exact absurd q (by decide))⟩) hg
    refine ⟨_, M1, r1, _, rfl, ?_⟩
    subst q1
    exact (sp_mcpg (S := 2) (O := 0) (M := mv_st M 72 (mv_cp (M 76) (M 72) i j m)) (by decide) (by decide) hs2 hz2 ht2 hr2 ⟨sz0, sz1⟩ ⟨rz0, rz1⟩ hg).imp (fun v M2 q => ⟨q.1, sp_cpy_end (S := 2) (O := 0) (by decide) (by decide) h (by omega) (by omega) q.2.1 q.2.2⟩)
  · obtain ⟨M1, r1, q1⟩ := sp_ccpb_2_0 hs1 hz1 ht1 hr1 ⟨sz0, sz1⟩ ⟨rz0, rz1⟩ (fun q => ⟨hs2.symm.trans (by first | exact ht2 | exact absurd q (by decide)), hz2.symm.trans (by first | exact hr2 | exact absurd q (by decide))⟩) hg
    refine ⟨_, M1, r1, _, rfl, ?_⟩
    subst q1
    exact sp_mcpb (S := 2) (O := 0) (by decide) (by decide) hI hs2 hz2 ht2 hr2 ⟨sz0, sz1⟩ ⟨rz0, rz1⟩ hg
theorem sp_k33_2_1 (a b c : Int) : sp_call 94 189 [mv_I 2, mv_I a, mv_I 1, mv_I b, mv_I c] [mv_I 2, mv_I a, mv_I 1, mv_I b, mv_I c] := by
  refine sp_mkW (lc := [mv_R 0, mv_I 2, mv_I a, mv_I 1, mv_I b, mv_I c, mv_U, mv_U]) (lm := [mv_R 100, mv_I 2, mv_I a, mv_I 1, mv_I b, mv_I c, mv_U, mv_U, mv_U, mv_U]) rfl rfl (fun M hI => ?_)
  have hI2 := hI
  obtain ⟨V, P, n, B, K, t, h⟩ := hI2
  obtain ⟨so, sz, ⟨hs1, hs2, so0, so1⟩, ⟨hz1, hz2, sz0, sz1⟩, _⟩ := sp_sh_get h 2 (by decide)
  obtain ⟨ro, rz, ⟨ht1, ht2, ro0, ro1⟩, ⟨hr1, hr2, rz0, rz1⟩, _⟩ := sp_sh_get h 1 (by decide)
  by_cases hg : sp_cpg so sz ro rz a b c
  · have hg2 := hg
    obtain ⟨_, g4, g5⟩ := hg2
    obtain ⟨i, rfl⟩ : ∃ x : Nat, a = (x : Int) := ⟨a.toNat, by omega⟩
    obtain ⟨j, rfl⟩ : ∃ x : Nat, b = (x : Int) := ⟨b.toNat, by omega⟩
    obtain ⟨m, rfl⟩ : ∃ x : Nat, c = (x : Int) := ⟨c.toNat, by omega⟩
    obtain ⟨M1, r1, q1⟩ := sp_ccpg_2_1 hs1 hz1 ht1 hr1 ⟨sz0, sz1⟩ ⟨rz0, rz1⟩ (fun q => ⟨hs2.symm.trans (by first | exact ht2 | exact absurd q (by decide)), hz2.symm.trans (by first | exact hr2 | exact absurd q (by decide))⟩) hg
    refine ⟨_, M1, r1, _, rfl, ?_⟩
    subst q1
    exact (sp_mcpg (S := 2) (O := 1) (M := mv_st M 74 (mv_cp (M 76) (M 74) i j m)) (by decide) (by decide) hs2 hz2 ht2 hr2 ⟨sz0, sz1⟩ ⟨rz0, rz1⟩ hg).imp (fun v M2 q => ⟨q.1, sp_cpy_end (S := 2) (O := 1) (by decide) (by decide) h (by omega) (by omega) q.2.1 q.2.2⟩)
  · obtain ⟨M1, r1, q1⟩ := sp_ccpb_2_1 hs1 hz1 ht1 hr1 ⟨sz0, sz1⟩ ⟨rz0, rz1⟩ (fun q => ⟨hs2.symm.trans (by first | exact ht2 | exact absurd q (by decide)), hz2.symm.trans (by first | exact hr2 | exact absurd q (by decide))⟩) hg
    refine ⟨_, M1, r1, _, rfl, ?_⟩
    subst q1
    exact sp_mcpb (S := 2) (O := 1) (by decide) (by decide) hI hs2 hz2 ht2 hr2 ⟨sz0, sz1⟩ ⟨rz0, rz1⟩ hg
theorem sp_k33_2_2 (a b c : Int) : sp_call 94 189 [mv_I 2, mv_I a, mv_I 2, mv_I b, mv_I c] [mv_I 2, mv_I a, mv_I 2, mv_I b, mv_I c] := by
  refine sp_mkW (lc := [mv_R 0, mv_I 2, mv_I a, mv_I 2, mv_I b, mv_I c, mv_U, mv_U]) (lm := [mv_R 100, mv_I 2, mv_I a, mv_I 2, mv_I b, mv_I c, mv_U, mv_U, mv_U, mv_U]) rfl rfl (fun M hI => ?_)
  have hI2 := hI
  obtain ⟨V, P, n, B, K, t, h⟩ := hI2
  obtain ⟨so, sz, ⟨hs1, hs2, so0, so1⟩, ⟨hz1, hz2, sz0, sz1⟩, _⟩ := sp_sh_get h 2 (by decide)
  obtain ⟨ro, rz, ⟨ht1, ht2, ro0, ro1⟩, ⟨hr1, hr2, rz0, rz1⟩, _⟩ := sp_sh_get h 2 (by decide)
  by_cases hg : sp_cpg so sz ro rz a b c
  · have hg2 := hg
    obtain ⟨_, g4, g5⟩ := hg2
    obtain ⟨i, rfl⟩ : ∃ x : Nat, a = (x : Int) := ⟨a.toNat, by omega⟩
    obtain ⟨j, rfl⟩ : ∃ x : Nat, b = (x : Int) := ⟨b.toNat, by omega⟩
    obtain ⟨m, rfl⟩ : ∃ x : Nat, c = (x : Int) := ⟨c.toNat, by omega⟩
    obtain ⟨M1, r1, q1⟩ := sp_ccpg_2_2 hs1 hz1 ht1 hr1 ⟨sz0, sz1⟩ ⟨rz0, rz1⟩ (fun q => ⟨hs2.symm.trans (by first | exact ht2 | exact absurd q (by decide)), hz2.symm.trans (by first | exact hr2 | exact absurd q (by decide))⟩) hg
    refine ⟨_, M1, r1, _, rfl, ?_⟩
    subst q1
    exact (sp_mcpg (S := 2) (O := 2) (M := mv_st M 76 (mv_cp (M 76) (M 76) i j m)) (by decide) (by decide) hs2 hz2 ht2 hr2 ⟨sz0, sz1⟩ ⟨rz0, rz1⟩ hg).imp (fun v M2 q => ⟨q.1, sp_cpy_end (S := 2) (O := 2) (by decide) (by decide) h (by omega) (by omega) q.2.1 q.2.2⟩)
  · obtain ⟨M1, r1, q1⟩ := sp_ccpb_2_2 hs1 hz1 ht1 hr1 ⟨sz0, sz1⟩ ⟨rz0, rz1⟩ (fun q => ⟨hs2.symm.trans (by first | exact ht2 | exact absurd q (by decide)), hz2.symm.trans (by first | exact hr2 | exact absurd q (by decide))⟩) hg
    refine ⟨_, M1, r1, _, rfl, ?_⟩
    subst q1
    exact sp_mcpb (S := 2) (O := 2) (by decide) (by decide) hI hs2 hz2 ht2 hr2 ⟨sz0, sz1⟩ ⟨rz0, rz1⟩ hg
theorem sp_k33_2_3 (a b c : Int) : sp_call 94 189 [mv_I 2, mv_I a, mv_I 3, mv_I b, mv_I c] [mv_I 2, mv_I a, mv_I 3, mv_I b, mv_I c] := by
  refine sp_mkW (lc := [mv_R 0, mv_I 2, mv_I a, mv_I 3, mv_I b, mv_I c, mv_U, mv_U]) (lm := [mv_R 100, mv_I 2, mv_I a, mv_I 3, mv_I b, mv_I c, mv_U, mv_U, mv_U, mv_U]) rfl rfl (fun M hI => ?_)
  have hI2 := hI
  obtain ⟨V, P, n, B, K, t, h⟩ := hI2
  obtain ⟨so, sz, ⟨hs1, hs2, so0, so1⟩, ⟨hz1, hz2, sz0, sz1⟩, _⟩ := sp_sh_get h 2 (by decide)
  obtain ⟨ro, rz, ⟨ht1, ht2, ro0, ro1⟩, ⟨hr1, hr2, rz0, rz1⟩, _⟩ := sp_sh_get h 3 (by decide)
  by_cases hg : sp_cpg so sz ro rz a b c
  · have hg2 := hg
    obtain ⟨_, g4, g5⟩ := hg2
    obtain ⟨i, rfl⟩ : ∃ x : Nat, a = (x : Int) := ⟨a.toNat, by omega⟩
    obtain ⟨j, rfl⟩ : ∃ x : Nat, b = (x : Int) := ⟨b.toNat, by omega⟩
    obtain ⟨m, rfl⟩ : ∃ x : Nat, c = (x : Int) := ⟨c.toNat, by omega⟩
    obtain ⟨M1, r1, q1⟩ := sp_ccpg_2_3 hs1 hz1 ht1 hr1 ⟨sz0, sz1⟩ ⟨rz0, rz1⟩ (fun q => ⟨hs2.symm.trans (by first | exact ht2 | exact absurd q (by decide)), hz2.symm.trans (by first | exact hr2 | exact absurd q (by decide))⟩) hg
    refine ⟨_, M1, r1, _, rfl, ?_⟩
    subst q1
    exact (sp_mcpg (S := 2) (O := 3) (M := mv_st M 78 (mv_cp (M 76) (M 78) i j m)) (by decide) (by decide) hs2 hz2 ht2 hr2 ⟨sz0, sz1⟩ ⟨rz0, rz1⟩ hg).imp (fun v M2 q => ⟨q.1, sp_cpy_end (S := 2) (O := 3) (by decide) (by decide) h (by omega) (by omega) q.2.1 q.2.2⟩)
  · obtain ⟨M1, r1, q1⟩ := sp_ccpb_2_3 hs1 hz1 ht1 hr1 ⟨sz0, sz1⟩ ⟨rz0, rz1⟩ (fun q => ⟨hs2.symm.trans (by first | exact ht2 | exact absurd q (by decide)), hz2.symm.trans (by first | exact hr2 | exact absurd q (by decide))⟩) hg
    refine ⟨_, M1, r1, _, rfl, ?_⟩
    subst q1
    exact sp_mcpb (S := 2) (O := 3) (by decide) (by decide) hI hs2 hz2 ht2 hr2 ⟨sz0, sz1⟩ ⟨rz0, rz1⟩ hg
theorem sp_k33_3_0 (a b c : Int) : sp_call 94 189 [mv_I 3, mv_I a, mv_I 0, mv_I b, mv_I c] [mv_I 3, mv_I a, mv_I 0, mv_I b, mv_I c] := by
  refine sp_mkW (lc := [mv_R 0, mv_I 3, mv_I a, mv_I 0, mv_I b, mv_I c, mv_U, mv_U]) (lm := [mv_R 100, mv_I 3, mv_I a, mv_I 0, mv_I b, mv_I c, mv_U, mv_U, mv_U, mv_U]) rfl rfl (fun M hI => ?_)
  have hI2 := hI
  obtain ⟨V, P, n, B, K, t, h⟩ := hI2
  obtain ⟨so, sz, ⟨hs1, hs2, so0, so1⟩, ⟨hz1, hz2, sz0, sz1⟩, _⟩ := sp_sh_get h 3 (by decide)
  obtain ⟨ro, rz, ⟨ht1, ht2, ro0, ro1⟩, ⟨hr1, hr2, rz0, rz1⟩, _⟩ := sp_sh_get h 0 (by decide)
  by_cases hg : sp_cpg so sz ro rz a b c
  · have hg2 := hg
    obtain ⟨_, g4, g5⟩ := hg2
    obtain ⟨i, rfl⟩ : ∃ x : Nat, a = (x : Int) := ⟨a.toNat, by omega⟩
    obtain ⟨j, rfl⟩ : ∃ x : Nat, b = (x : Int) := ⟨b.toNat, by omega⟩
    obtain ⟨m, rfl⟩ : ∃ x : Nat, c = (x : Int) := ⟨c.toNat, by omega⟩
    obtain ⟨M1, r1, q1⟩ := sp_ccpg_3_0 hs1 hz1 ht1 hr1 ⟨sz0, sz1⟩ ⟨rz0, rz1⟩ (fun q => ⟨hs2.symm.trans (by first | exact ht2 | exact absurd q (by decide)), hz2.symm.trans (by first | exact hr2 | exact absurd q (by decide))⟩) hg
    refine ⟨_, M1, r1, _, rfl, ?_⟩
    subst q1
    exact (sp_mcpg (S := 3) (O := 0) (M := mv_st M 72 (mv_cp (M 78) (M 72) i j m)) (by decide) (by decide) hs2 hz2 ht2 hr2 ⟨sz0, sz1⟩ ⟨rz0, rz1⟩ hg).imp (fun v M2 q => ⟨q.1, sp_cpy_end (S := 3) (O := 0) (by decide) (by decide) h (by omega) (by omega) q.2.1 q.2.2⟩)
  · obtain ⟨M1, r1, q1⟩ := sp_ccpb_3_0 hs1 hz1 ht1 hr1 ⟨sz0, sz1⟩ ⟨rz0, rz1⟩ (fun q => ⟨hs2.symm.trans (by first | exact ht2 | exact absurd q (by decide)), hz2.symm.trans (by first | exact hr2 | exact absurd q (by decide))⟩) hg
    refine ⟨_, M1, r1, _, rfl, ?_⟩
    subst q1
    exact sp_mcpb (S := 3) (O := 0) (by decide) (by decide) hI hs2 hz2 ht2 hr2 ⟨sz0, sz1⟩ ⟨rz0, rz1⟩ hg
theorem sp_k33_3_1 (a b c : Int) : sp_call 94 189 [mv_I 3, mv_I a, mv_I 1, mv_I b, mv_I c] [mv_I 3, mv_I a, mv_I 1, mv_I b, mv_I c] := by
  refine sp_mkW (lc := [mv_R 0, mv_I 3, mv_I a, mv_I 1, mv_I b, mv_I c, mv_U, mv_U]) (lm := [mv_R 100, mv_I 3, mv_I a, mv_I 1, mv_I b, mv_I c, mv_U, mv_U, mv_U, mv_U]) rfl rfl (fun M hI => ?_)
  have hI2 := hI
  obtain ⟨V, P, n, B, K, t, h⟩ := hI2
  obtain ⟨so, sz, ⟨hs1, hs2, so0, so1⟩, ⟨hz1, hz2, sz0, sz1⟩, _⟩ := sp_sh_get h 3 (by decide)
  obtain ⟨ro, rz, ⟨ht1, ht2, ro0, ro1⟩, ⟨hr1, hr2, rz0, rz1⟩, _⟩ := sp_sh_get h 1 (by decide)
  by_cases hg : sp_cpg so sz ro rz a b c
  · have hg2 := hg
    obtain ⟨_, g4, g5⟩ := hg2
    obtain ⟨i, rfl⟩ : ∃ x : Nat, a = (x : Int) := ⟨a.toNat, by omega⟩
    obtain ⟨j, rfl⟩ : ∃ x : Nat, b = (x : Int) := ⟨b.toNat, by omega⟩
    obtain ⟨m, rfl⟩ : ∃ x : Nat, c = (x : Int) := ⟨c.toNat, by omega⟩
    obtain ⟨M1, r1, q1⟩ := sp_ccpg_3_1 hs1 hz1 ht1 hr1 ⟨sz0, sz1⟩ ⟨rz0, rz1⟩ (fun q => ⟨hs2.symm.trans (by first | exact ht2 | exact absurd q (by decide)), hz2.symm.trans (by first | exact hr2 | exact absurd q (by decide))⟩) hg
    refine ⟨_, M1, r1, _, rfl, ?_⟩
    subst q1
    exact (sp_mcpg (S := 3) (O := 1) (M := mv_st M 74 (mv_cp (M 78) (M 74) i j m)) (by decide) (by decide) hs2 hz2 ht2 hr2 ⟨sz0, sz1⟩ ⟨rz0, rz1⟩ hg).imp (fun v M2 q => ⟨q.1, sp_cpy_end (S := 3) (O := 1) (by decide) (by decide) h (by omega) (by omega) q.2.1 q.2.2⟩)
  · obtain ⟨M1, r1, q1⟩ := sp_ccpb_3_1 hs1 hz1 ht1 hr1 ⟨sz0, sz1⟩ ⟨rz0, rz1⟩ (fun q => ⟨hs2.symm.trans (by first | exact ht2 | exact absurd q (by decide)), hz2.symm.trans (by first | exact hr2 | exact absurd q (by decide))⟩) hg
    refine ⟨_, M1, r1, _, rfl, ?_⟩
    subst q1
    exact sp_mcpb (S := 3) (O := 1) (by decide) (by decide) hI hs2 hz2 ht2 hr2 ⟨sz0, sz1⟩ ⟨rz0, rz1⟩ hg
theorem sp_k33_3_2 (a b c : Int) : sp_call 94 189 [mv_I 3, mv_I a, mv_I 2, mv_I b, mv_I c] [mv_I 3, mv_I a, mv_I 2, mv_I b, mv_I c] := by
  refine sp_mkW (lc := [mv_R 0, mv_I 3, mv_I a, mv_I 2, mv_I b, mv_I c, mv_U, mv_U]) (lm := [mv_R 100, mv_I 3, mv_I a, mv_I 2, mv_I b, mv_I c, mv_U, mv_U, mv_U, mv_U]) rfl rfl (fun M hI => ?_)
  have hI2 := hI
  obtain ⟨V, P, n, B, K, t, h⟩ := hI2
  obtain ⟨so, sz, ⟨hs1, hs2, so0, so1⟩, ⟨hz1, hz2, sz0, sz1⟩, _⟩ := sp_sh_get h 3 (by decide)
  obtain ⟨ro, rz, ⟨ht1, ht2, ro0, ro1⟩, ⟨hr1, hr2, rz0, rz1⟩, _⟩ := sp_sh_get h 2 (by decide)
  by_cases hg : sp_cpg so sz ro rz a b c
  · have hg2 := hg
    obtain ⟨_, g4, g5⟩ := hg2
    obtain ⟨i, rfl⟩ : ∃ x : Nat, a = (x : Int) := ⟨a.toNat, by omega⟩
    obtain ⟨j, rfl⟩ : ∃ x : Nat, b = (x : Int) := ⟨b.toNat, by omega⟩
    obtain ⟨m, rfl⟩ : ∃ x : Nat, c = (x : Int) := ⟨c.toNat, by omega⟩
    obtain ⟨M1, r1, q1⟩ := sp_ccpg_3_2 hs1 hz1 ht1 hr1 ⟨sz0, sz1⟩ ⟨rz0, rz1⟩ (fun q => ⟨hs2.symm.trans (by first | exact ht2 | exact absurd q (by decide)), hz2.symm.trans (by first | exact hr2 | exact absurd q (by decide))⟩) hg
    refine ⟨_, M1, r1, _, rfl, ?_⟩
    subst q1
    exact (sp_mcpg (S := 3) (O := 2) (M := mv_st M 76 (mv_cp (M 78) (M 76) i j m)) (by decide) (by decide) hs2 hz2 ht2 hr2 ⟨sz0, sz1⟩ ⟨rz0, rz1⟩ hg).imp (fun v M2 q => ⟨q.1, sp_cpy_end (S := 3) (O := 2) (by decide) (by decide) h (by omega) (by omega) q.2.1 q.2.2⟩)
  · obtain ⟨M1, r1, q1⟩ := sp_ccpb_3_2 hs1 hz1 ht1 hr1 ⟨sz0, sz1⟩ ⟨rz0, rz1⟩ (fun q => ⟨hs2.symm.trans (by first | exact ht2 | exact absurd q (by decide)), hz2.symm.trans (by first | exact hr2 | exact absurd q (by decide))⟩) hg
    refine ⟨_, M1, r1, _, rfl, ?_⟩
    subst q1
    exact sp_mcpb (S := 3) (O := 2) (by decide) (by decide) hI hs2 hz2 ht2 hr2 ⟨sz0, sz1⟩ ⟨rz0, rz1⟩ hg
theorem sp_k33_3_3 (a b c : Int) : sp_call 94 189 [mv_I 3, mv_I a, mv_I 3, mv_I b, mv_I c] [mv_I 3, mv_I a, mv_I 3, mv_I b, mv_I c] := by
  refine sp_mkW (lc := [mv_R 0, mv_I 3, mv_I a, mv_I 3, mv_I b, mv_I c, mv_U, mv_U]) (lm := [mv_R 100, mv_I 3, mv_I a, mv_I 3, mv_I b, mv_I c, mv_U, mv_U, mv_U, mv_U]) rfl rfl (fun M hI => ?_)
  have hI2 := hI
  obtain ⟨V, P, n, B, K, t, h⟩ := hI2
  obtain ⟨so, sz, ⟨hs1, hs2, so0, so1⟩, ⟨hz1, hz2, sz0, sz1⟩, _⟩ := sp_sh_get h 3 (by decide)
  obtain ⟨ro, rz, ⟨ht1, ht2, ro0, ro1⟩, ⟨hr1, hr2, rz0, rz1⟩, _⟩ := sp_sh_get h 3 (by decide)
  by_cases hg : sp_cpg so sz ro rz a b c
  · have hg2 := hg
    obtain ⟨_, g4, g5⟩ := hg2
    obtain ⟨i, rfl⟩ : ∃ x : Nat, a = (x : Int) := ⟨a.toNat, by omega⟩
    obtain ⟨j, rfl⟩ : ∃ x : Nat, b = (x : Int) := ⟨b.toNat, by omega⟩
    obtain ⟨m, rfl⟩ : ∃ x : Nat, c = (x : Int) := ⟨c.toNat, by omega⟩
    obtain ⟨M1, r1, q1⟩ := sp_ccpg_3_3 hs1 hz1 ht1 hr1 ⟨sz0, sz1⟩ ⟨rz0, rz1⟩ (fun q => ⟨hs2.symm.trans (by first | exact ht2 | exact absurd q (by decide)), hz2.symm.trans (by first | exact hr2 | exact absurd q (by decide))⟩) hg
    refine ⟨_, M1, r1, _, rfl, ?_⟩
    subst q1
    exact (sp_mcpg (S := 3) (O := 3) (M := mv_st M 78 (mv_cp (M 78) (M 78) i j m)) (by decide) (by decide) hs2 hz2 ht2 hr2 ⟨sz0, sz1⟩ ⟨rz0, rz1⟩ hg).imp (fun v M2 q => ⟨q.1, sp_cpy_end (S := 3) (O := 3) (by decide) (by decide) h (by omega) (by omega) q.2.1 q.2.2⟩)
  · obtain ⟨M1, r1, q1⟩ := sp_ccpb_3_3 hs1 hz1 ht1 hr1 ⟨sz0, sz1⟩ ⟨rz0, rz1⟩ (fun q => ⟨hs2.symm.trans (by first | exact ht2 | exact absurd q (by decide)), hz2.symm.trans (by first | exact hr2 | exact absurd q (by decide))⟩) hg
    refine ⟨_, M1, r1, _, rfl, ?_⟩
    subst q1
    exact sp_mcpb (S := 3) (O := 3) (by decide) (by decide) hI hs2 hz2 ht2 hr2 ⟨sz0, sz1⟩ ⟨rz0, rz1⟩ hg
theorem sp_k33_0_n (a o b c : Int) (ho : ¬ (0 ≤ o ∧ o ≤ 3)) : sp_call 94 189 [mv_I 0, mv_I a, mv_I o, mv_I b, mv_I c] [mv_I 0, mv_I a, mv_I o, mv_I b, mv_I c] := by
  refine sp_mkW (lc := [mv_R 0, mv_I 0, mv_I a, mv_I o, mv_I b, mv_I c, mv_U, mv_U]) (lm := [mv_R 100, mv_I 0, mv_I a, mv_I o, mv_I b, mv_I c, mv_U, mv_U, mv_U, mv_U]) rfl rfl (fun M hI => ?_)
  refine mv_goW 2 (pc' := 2) (ls' := [mv_R 0, mv_I 0, mv_I a, mv_I o, mv_I b, mv_I c, mv_U, mv_U]) (st' := [mv_I 0, mv_R 0]) (M1 := M) rfl ?_
  have ha154 : 0 ≤ (0 : Int) ∧ (0 : Int) ≤ 3 := by omega
  refine mv_callPW (st2 := [mv_R 71]) rfl (Or.inl rfl) rfl rfl rfl (sp_sheetAt_0) (by first | decide | omega) ?_
  refine mv_goW 3 (pc' := 9) (ls' := [mv_R 0, mv_I 0, mv_I a, mv_I o, mv_I b, mv_I c, mv_R 71, mv_U]) (st' := [mv_I o, mv_R 0]) (M1 := M) rfl ?_
  have ha155 : ¬ (0 ≤ o ∧ o ≤ 3) := by omega
  refine mv_callPW (st2 := [mv_N]) rfl (Or.inl rfl) rfl rfl rfl (sp_sheetAt_n ha155) (by first | decide | omega) ?_
  refine mv_goW 6 (pc' := 26) (ls' := [mv_R 0, mv_I 0, mv_I a, mv_I o, mv_I b, mv_I c, mv_R 71, mv_N]) (st' := [mv_I (-2)]) (M1 := M) rfl ?_
  refine mv_retW (fun n => rfl) ⟨_, rfl, ?_⟩
  refine mv_goW 3 (pc' := 3) (ls' := [mv_R 100, mv_I 0, mv_I a, mv_I o, mv_I b, mv_I c, mv_U, mv_U, mv_U, mv_U]) (st' := [mv_I 3, mv_I 0, mv_I 0]) (M1 := M) rfl ?_
  have ha156 : (0 : Int) ≤ (0 : Int) ∧ (0 : Int) ≤ (3 : Int) := by omega
  refine mv_callPW (st2 := [mv_I 1]) rfl (Or.inr rfl) rfl rfl rfl (sp_min_t ha156) (by first | decide | omega) ?_
  refine mv_goW 1 (pc' := if 1 = 0 then 18 else 9) (ls' := [mv_R 100, mv_I 0, mv_I a, mv_I o, mv_I b, mv_I c, mv_U, mv_U, mv_U, mv_U]) (st' := []) (M1 := M) rfl ?_
  refine mv_ffW (by first | decide | omega) ?_
  refine mv_goW 3 (pc' := 12) (ls' := [mv_R 100, mv_I 0, mv_I a, mv_I o, mv_I b, mv_I c, mv_U, mv_U, mv_U, mv_U]) (st' := [mv_I 3, mv_I 0, mv_I o]) (M1 := M) rfl ?_
  have ha157 : ¬ ((0 : Int) ≤ o ∧ o ≤ (3 : Int)) := by omega
  refine mv_callPW (st2 := [mv_I 0]) rfl (Or.inr rfl) rfl rfl rfl (sp_min_f ha157) (by first | decide | omega) ?_
  refine mv_goW 1 (pc' := if 0 = 0 then 18 else 21) (ls' := [mv_R 100, mv_I 0, mv_I a, mv_I o, mv_I b, mv_I c, mv_U, mv_U, mv_U, mv_U]) (st' := []) (M1 := M) rfl ?_
  refine mv_ttW (by first | decide | omega) ?_
  refine mv_goW 1 (pc' := 20) (ls' := [mv_R 100, mv_I 0, mv_I a, mv_I o, mv_I b, mv_I c, mv_U, mv_U, mv_U, mv_U]) (st' := [mv_I (-2)]) (M1 := M) rfl ?_
  exact mv_retW (fun n => rfl) ⟨congrArg mv_I (by first | with_reducible rfl | omega), hI⟩
theorem sp_k33_n_0 (s a b c : Int) (hs : ¬ (0 ≤ s ∧ s ≤ 3)) : sp_call 94 189 [mv_I s, mv_I a, mv_I 0, mv_I b, mv_I c] [mv_I s, mv_I a, mv_I 0, mv_I b, mv_I c] := by
  refine sp_mkW (lc := [mv_R 0, mv_I s, mv_I a, mv_I 0, mv_I b, mv_I c, mv_U, mv_U]) (lm := [mv_R 100, mv_I s, mv_I a, mv_I 0, mv_I b, mv_I c, mv_U, mv_U, mv_U, mv_U]) rfl rfl (fun M hI => ?_)
  refine mv_goW 2 (pc' := 2) (ls' := [mv_R 0, mv_I s, mv_I a, mv_I 0, mv_I b, mv_I c, mv_U, mv_U]) (st' := [mv_I s, mv_R 0]) (M1 := M) rfl ?_
  have ha158 : ¬ (0 ≤ s ∧ s ≤ 3) := by omega
  refine mv_callPW (st2 := [mv_N]) rfl (Or.inl rfl) rfl rfl rfl (sp_sheetAt_n ha158) (by first | decide | omega) ?_
  refine mv_goW 3 (pc' := 9) (ls' := [mv_R 0, mv_I s, mv_I a, mv_I 0, mv_I b, mv_I c, mv_N, mv_U]) (st' := [mv_I 0, mv_R 0]) (M1 := M) rfl ?_
  have ha159 : 0 ≤ (0 : Int) ∧ (0 : Int) ≤ 3 := by omega
  refine mv_callPW (st2 := [mv_R 71]) rfl (Or.inl rfl) rfl rfl rfl (sp_sheetAt_0) (by first | decide | omega) ?_
  refine mv_goW 4 (pc' := 26) (ls' := [mv_R 0, mv_I s, mv_I a, mv_I 0, mv_I b, mv_I c, mv_N, mv_R 71]) (st' := [mv_I (-2)]) (M1 := M) rfl ?_
  refine mv_retW (fun n => rfl) ⟨_, rfl, ?_⟩
  refine mv_goW 3 (pc' := 3) (ls' := [mv_R 100, mv_I s, mv_I a, mv_I 0, mv_I b, mv_I c, mv_U, mv_U, mv_U, mv_U]) (st' := [mv_I 3, mv_I 0, mv_I s]) (M1 := M) rfl ?_
  have ha160 : ¬ ((0 : Int) ≤ s ∧ s ≤ (3 : Int)) := by omega
  refine mv_callPW (st2 := [mv_I 0]) rfl (Or.inr rfl) rfl rfl rfl (sp_min_f ha160) (by first | decide | omega) ?_
  refine mv_goW 1 (pc' := if 0 = 0 then 18 else 9) (ls' := [mv_R 100, mv_I s, mv_I a, mv_I 0, mv_I b, mv_I c, mv_U, mv_U, mv_U, mv_U]) (st' := []) (M1 := M) rfl ?_
  refine mv_ttW (by first | decide | omega) ?_
  refine mv_goW 1 (pc' := 20) (ls' := [mv_R 100, mv_I s, mv_I a, mv_I 0, mv_I b, mv_I c, mv_U, mv_U, mv_U, mv_U]) (st' := [mv_I (-2)]) (M1 := M) rfl ?_
  exact mv_retW (fun n => rfl) ⟨congrArg mv_I (by first | with_reducible rfl | omega), hI⟩
theorem sp_k33_1_n (a o b c : Int) (ho : ¬ (0 ≤ o ∧ o ≤ 3)) : sp_call 94 189 [mv_I 1, mv_I a, mv_I o, mv_I b, mv_I c] [mv_I 1, mv_I a, mv_I o, mv_I b, mv_I c] := by
  refine sp_mkW (lc := [mv_R 0, mv_I 1, mv_I a, mv_I o, mv_I b, mv_I c, mv_U, mv_U]) (lm := [mv_R 100, mv_I 1, mv_I a, mv_I o, mv_I b, mv_I c, mv_U, mv_U, mv_U, mv_U]) rfl rfl (fun M hI => ?_)
  refine mv_goW 2 (pc' := 2) (ls' := [mv_R 0, mv_I 1, mv_I a, mv_I o, mv_I b, mv_I c, mv_U, mv_U]) (st' := [mv_I 1, mv_R 0]) (M1 := M) rfl ?_
  have ha161 : 0 ≤ (1 : Int) ∧ (1 : Int) ≤ 3 := by omega
  refine mv_callPW (st2 := [mv_R 73]) rfl (Or.inl rfl) rfl rfl rfl (sp_sheetAt_1) (by first | decide | omega) ?_
  refine mv_goW 3 (pc' := 9) (ls' := [mv_R 0, mv_I 1, mv_I a, mv_I o, mv_I b, mv_I c, mv_R 73, mv_U]) (st' := [mv_I o, mv_R 0]) (M1 := M) rfl ?_
  have ha162 : ¬ (0 ≤ o ∧ o ≤ 3) := by omega
  refine mv_callPW (st2 := [mv_N]) rfl (Or.inl rfl) rfl rfl rfl (sp_sheetAt_n ha162) (by first | decide | omega) ?_
  refine mv_goW 6 (pc' := 26) (ls' := [mv_R 0, mv_I 1, mv_I a, mv_I o, mv_I b, mv_I c, mv_R 73, mv_N]) (st' := [mv_I (-2)]) (M1 := M) rfl ?_
  refine mv_retW (fun n => rfl) ⟨_, rfl, ?_⟩
  refine mv_goW 3 (pc' := 3) (ls' := [mv_R 100, mv_I 1, mv_I a, mv_I o, mv_I b, mv_I c, mv_U, mv_U, mv_U, mv_U]) (st' := [mv_I 3, mv_I 0, mv_I 1]) (M1 := M) rfl ?_
  have ha163 : (0 : Int) ≤ (1 : Int) ∧ (1 : Int) ≤ (3 : Int) := by omega
  refine mv_callPW (st2 := [mv_I 1]) rfl (Or.inr rfl) rfl rfl rfl (sp_min_t ha163) (by first | decide | omega) ?_
  refine mv_goW 1 (pc' := if 1 = 0 then 18 else 9) (ls' := [mv_R 100, mv_I 1, mv_I a, mv_I o, mv_I b, mv_I c, mv_U, mv_U, mv_U, mv_U]) (st' := []) (M1 := M) rfl ?_
  refine mv_ffW (by first | decide | omega) ?_
  refine mv_goW 3 (pc' := 12) (ls' := [mv_R 100, mv_I 1, mv_I a, mv_I o, mv_I b, mv_I c, mv_U, mv_U, mv_U, mv_U]) (st' := [mv_I 3, mv_I 0, mv_I o]) (M1 := M) rfl ?_
  have ha164 : ¬ ((0 : Int) ≤ o ∧ o ≤ (3 : Int)) := by omega
  refine mv_callPW (st2 := [mv_I 0]) rfl (Or.inr rfl) rfl rfl rfl (sp_min_f ha164) (by first | decide | omega) ?_
  refine mv_goW 1 (pc' := if 0 = 0 then 18 else 21) (ls' := [mv_R 100, mv_I 1, mv_I a, mv_I o, mv_I b, mv_I c, mv_U, mv_U, mv_U, mv_U]) (st' := []) (M1 := M) rfl ?_
  refine mv_ttW (by first | decide | omega) ?_
  refine mv_goW 1 (pc' := 20) (ls' := [mv_R 100, mv_I 1, mv_I a, mv_I o, mv_I b, mv_I c, mv_U, mv_U, mv_U, mv_U]) (st' := [mv_I (-2)]) (M1 := M) rfl ?_
  exact mv_retW (fun n => rfl) ⟨congrArg mv_I (by first | with_reducible rfl | omega), hI⟩
theorem sp_k33_n_1 (s a b c : Int) (hs : ¬ (0 ≤ s ∧ s ≤ 3)) : sp_call 94 189 [mv_I s, mv_I a, mv_I 1, mv_I b, mv_I c] [mv_I s, mv_I a, mv_I 1, mv_I b, mv_I c] := by
  refine sp_mkW (lc := [mv_R 0, mv_I s, mv_I a, mv_I 1, mv_I b, mv_I c, mv_U, mv_U]) (lm := [mv_R 100, mv_I s, mv_I a, mv_I 1, mv_I b, mv_I c, mv_U, mv_U, mv_U, mv_U]) rfl rfl (fun M hI => ?_)
  refine mv_goW 2 (pc' := 2) (ls' := [mv_R 0, mv_I s, mv_I a, mv_I 1, mv_I b, mv_I c, mv_U, mv_U]) (st' := [mv_I s, mv_R 0]) (M1 := M) rfl ?_
  have ha165 : ¬ (0 ≤ s ∧ s ≤ 3) := by omega
  refine mv_callPW (st2 := [mv_N]) rfl (Or.inl rfl) rfl rfl rfl (sp_sheetAt_n ha165) (by first | decide | omega) ?_
  refine mv_goW 3 (pc' := 9) (ls' := [mv_R 0, mv_I s, mv_I a, mv_I 1, mv_I b, mv_I c, mv_N, mv_U]) (st' := [mv_I 1, mv_R 0]) (M1 := M) rfl ?_
  have ha166 : 0 ≤ (1 : Int) ∧ (1 : Int) ≤ 3 := by omega
  refine mv_callPW (st2 := [mv_R 73]) rfl (Or.inl rfl) rfl rfl rfl (sp_sheetAt_1) (by first | decide | omega) ?_
  refine mv_goW 4 (pc' := 26) (ls' := [mv_R 0, mv_I s, mv_I a, mv_I 1, mv_I b, mv_I c, mv_N, mv_R 73]) (st' := [mv_I (-2)]) (M1 := M) rfl ?_
  refine mv_retW (fun n => rfl) ⟨_, rfl, ?_⟩
  refine mv_goW 3 (pc' := 3) (ls' := [mv_R 100, mv_I s, mv_I a, mv_I 1, mv_I b, mv_I c, mv_U, mv_U, mv_U, mv_U]) (st' := [mv_I 3, mv_I 0, mv_I s]) (M1 := M) rfl ?_
  have ha167 : ¬ ((0 : Int) ≤ s ∧ s ≤ (3 : Int)) := by omega
  refine mv_callPW (st2 := [mv_I 0]) rfl (Or.inr rfl) rfl rfl rfl (sp_min_f ha167) (by first | decide | omega) ?_
  refine mv_goW 1 (pc' := if 0 = 0 then 18 else 9) (ls' := [mv_R 100, mv_I s, mv_I a, mv_I 1, mv_I b, mv_I c, mv_U, mv_U, mv_U, mv_U]) (st' := []) (M1 := M) rfl ?_
  refine mv_ttW (by first | decide | omega) ?_
  refine mv_goW 1 (pc' := 20) (ls' := [mv_R 100, mv_I s, mv_I a, mv_I 1, mv_I b, mv_I c, mv_U, mv_U, mv_U, mv_U]) (st' := [mv_I (-2)]) (M1 := M) rfl ?_
  exact mv_retW (fun n => rfl) ⟨congrArg mv_I (by first | with_reducible rfl | omega), hI⟩
theorem sp_k33_2_n (a o b c : Int) (ho : ¬ (0 ≤ o ∧ o ≤ 3)) : sp_call 94 189 [mv_I 2, mv_I a, mv_I o, mv_I b, mv_I c] [mv_I 2, mv_I a, mv_I o, mv_I b, mv_I c] := by
  refine sp_mkW (lc := [mv_R 0, mv_I 2, mv_I a, mv_I o, mv_I b, mv_I c, mv_U, mv_U]) (lm := [mv_R 100, mv_I 2, mv_I a, mv_I o, mv_I b, mv_I c, mv_U, mv_U, mv_U, mv_U]) rfl rfl (fun M hI => ?_)
  refine mv_goW 2 (pc' := 2) (ls' := [mv_R 0, mv_I 2, mv_I a, mv_I o, mv_I b, mv_I c, mv_U, mv_U]) (st' := [mv_I 2, mv_R 0]) (M1 := M) rfl ?_
  have ha168 : 0 ≤ (2 : Int) ∧ (2 : Int) ≤ 3 := by omega
  refine mv_callPW (st2 := [mv_R 75]) rfl (Or.inl rfl) rfl rfl rfl (sp_sheetAt_2) (by first | decide | omega) ?_
  refine mv_goW 3 (pc' := 9) (ls' := [mv_R 0, mv_I 2, mv_I a, mv_I o, mv_I b, mv_I c, mv_R 75, mv_U]) (st' := [mv_I o, mv_R 0]) (M1 := M) rfl ?_
  have ha169 : ¬ (0 ≤ o ∧ o ≤ 3) := by omega
  refine mv_callPW (st2 := [mv_N]) rfl (Or.inl rfl) rfl rfl rfl (sp_sheetAt_n ha169) (by first | decide | omega) ?_
  refine mv_goW 6 (pc' := 26) (ls' := [mv_R 0, mv_I 2, mv_I a, mv_I o, mv_I b, mv_I c, mv_R 75, mv_N]) (st' := [mv_I (-2)]) (M1 := M) rfl ?_
  refine mv_retW (fun n => rfl) ⟨_, rfl, ?_⟩
  refine mv_goW 3 (pc' := 3) (ls' := [mv_R 100, mv_I 2, mv_I a, mv_I o, mv_I b, mv_I c, mv_U, mv_U, mv_U, mv_U]) (st' := [mv_I 3, mv_I 0, mv_I 2]) (M1 := M) rfl ?_
  have ha170 : (0 : Int) ≤ (2 : Int) ∧ (2 : Int) ≤ (3 : Int) := by omega
  refine mv_callPW (st2 := [mv_I 1]) rfl (Or.inr rfl) rfl rfl rfl (sp_min_t ha170) (by first | decide | omega) ?_
  refine mv_goW 1 (pc' := if 1 = 0 then 18 else 9) (ls' := [mv_R 100, mv_I 2, mv_I a, mv_I o, mv_I b, mv_I c, mv_U, mv_U, mv_U, mv_U]) (st' := []) (M1 := M) rfl ?_
  refine mv_ffW (by first | decide | omega) ?_
  refine mv_goW 3 (pc' := 12) (ls' := [mv_R 100, mv_I 2, mv_I a, mv_I o, mv_I b, mv_I c, mv_U, mv_U, mv_U, mv_U]) (st' := [mv_I 3, mv_I 0, mv_I o]) (M1 := M) rfl ?_
  have ha171 : ¬ ((0 : Int) ≤ o ∧ o ≤ (3 : Int)) := by omega
  refine mv_callPW (st2 := [mv_I 0]) rfl (Or.inr rfl) rfl rfl rfl (sp_min_f ha171) (by first | decide | omega) ?_
  refine mv_goW 1 (pc' := if 0 = 0 then 18 else 21) (ls' := [mv_R 100, mv_I 2, mv_I a, mv_I o, mv_I b, mv_I c, mv_U, mv_U, mv_U, mv_U]) (st' := []) (M1 := M) rfl ?_
  refine mv_ttW (by first | decide | omega) ?_
  refine mv_goW 1 (pc' := 20) (ls' := [mv_R 100, mv_I 2, mv_I a, mv_I o, mv_I b, mv_I c, mv_U, mv_U, mv_U, mv_U]) (st' := [mv_I (-2)]) (M1 := M) rfl ?_
  exact mv_retW (fun n => rfl) ⟨congrArg mv_I (by first | with_reducible rfl | omega), hI⟩
theorem sp_k33_n_2 (s a b c : Int) (hs : ¬ (0 ≤ s ∧ s ≤ 3)) : sp_call 94 189 [mv_I s, mv_I a, mv_I 2, mv_I b, mv_I c] [mv_I s, mv_I a, mv_I 2, mv_I b, mv_I c] := by
  refine sp_mkW (lc := [mv_R 0, mv_I s, mv_I a, mv_I 2, mv_I b, mv_I c, mv_U, mv_U]) (lm := [mv_R 100, mv_I s, mv_I a, mv_I 2, mv_I b, mv_I c, mv_U, mv_U, mv_U, mv_U]) rfl rfl (fun M hI => ?_)
  refine mv_goW 2 (pc' := 2) (ls' := [mv_R 0, mv_I s, mv_I a, mv_I 2, mv_I b, mv_I c, mv_U, mv_U]) (st' := [mv_I s, mv_R 0]) (M1 := M) rfl ?_
  have ha172 : ¬ (0 ≤ s ∧ s ≤ 3) := by omega
  refine mv_callPW (st2 := [mv_N]) rfl (Or.inl rfl) rfl rfl rfl (sp_sheetAt_n ha172) (by first | decide | omega) ?_
  refine mv_goW 3 (pc' := 9) (ls' := [mv_R 0, mv_I s, mv_I a, mv_I 2, mv_I b, mv_I c, mv_N, mv_U]) (st' := [mv_I 2, mv_R 0]) (M1 := M) rfl ?_
  have ha173 : 0 ≤ (2 : Int) ∧ (2 : Int) ≤ 3 := by omega
  refine mv_callPW (st2 := [mv_R 75]) rfl (Or.inl rfl) rfl rfl rfl (sp_sheetAt_2) (by first | decide | omega) ?_
  refine mv_goW 4 (pc' := 26) (ls' := [mv_R 0, mv_I s, mv_I a, mv_I 2, mv_I b, mv_I c, mv_N, mv_R 75]) (st' := [mv_I (-2)]) (M1 := M) rfl ?_
  refine mv_retW (fun n => rfl) ⟨_, rfl, ?_⟩
  refine mv_goW 3 (pc' := 3) (ls' := [mv_R 100, mv_I s, mv_I a, mv_I 2, mv_I b, mv_I c, mv_U, mv_U, mv_U, mv_U]) (st' := [mv_I 3, mv_I 0, mv_I s]) (M1 := M) rfl ?_
  have ha174 : ¬ ((0 : Int) ≤ s ∧ s ≤ (3 : Int)) := by omega
  refine mv_callPW (st2 := [mv_I 0]) rfl (Or.inr rfl) rfl rfl rfl (sp_min_f ha174) (by first | decide | omega) ?_
  refine mv_goW 1 (pc' := if 0 = 0 then 18 else 9) (ls' := [mv_R 100, mv_I s, mv_I a, mv_I 2, mv_I b, mv_I c, mv_U, mv_U, mv_U, mv_U]) (st' := []) (M1 := M) rfl ?_
  refine mv_ttW (by first | decide | omega) ?_
  refine mv_goW 1 (pc' := 20) (ls' := [mv_R 100, mv_I s, mv_I a, mv_I 2, mv_I b, mv_I c, mv_U, mv_U, mv_U, mv_U]) (st' := [mv_I (-2)]) (M1 := M) rfl ?_
  exact mv_retW (fun n => rfl) ⟨congrArg mv_I (by first | with_reducible rfl | omega), hI⟩
theorem sp_k33_3_n (a o b c : Int) (ho : ¬ (0 ≤ o ∧ o ≤ 3)) : sp_call 94 189 [mv_I 3, mv_I a, mv_I o, mv_I b, mv_I c] [mv_I 3, mv_I a, mv_I o, mv_I b, mv_I c] := by
  refine sp_mkW (lc := [mv_R 0, mv_I 3, mv_I a, mv_I o, mv_I b, mv_I c, mv_U, mv_U]) (lm := [mv_R 100, mv_I 3, mv_I a, mv_I o, mv_I b, mv_I c, mv_U, mv_U, mv_U, mv_U]) rfl rfl (fun M hI => ?_)
  refine mv_goW 2 (pc' := 2) (ls' := [mv_R 0, mv_I 3, mv_I a, mv_I o, mv_I b, mv_I c, mv_U, mv_U]) (st' := [mv_I 3, mv_R 0]) (M1 := M) rfl ?_
  have ha175 : 0 ≤ (3 : Int) ∧ (3 : Int) ≤ 3 := by omega
  refine mv_callPW (st2 := [mv_R 77]) rfl (Or.inl rfl) rfl rfl rfl (sp_sheetAt_3) (by first | decide | omega) ?_
  refine mv_goW 3 (pc' := 9) (ls' := [mv_R 0, mv_I 3, mv_I a, mv_I o, mv_I b, mv_I c, mv_R 77, mv_U]) (st' := [mv_I o, mv_R 0]) (M1 := M) rfl ?_
  have ha176 : ¬ (0 ≤ o ∧ o ≤ 3) := by omega
  refine mv_callPW (st2 := [mv_N]) rfl (Or.inl rfl) rfl rfl rfl (sp_sheetAt_n ha176) (by first | decide | omega) ?_
  refine mv_goW 6 (pc' := 26) (ls' := [mv_R 0, mv_I 3, mv_I a, mv_I o, mv_I b, mv_I c, mv_R 77, mv_N]) (st' := [mv_I (-2)]) (M1 := M) rfl ?_
  refine mv_retW (fun n => rfl) ⟨_, rfl, ?_⟩
  refine mv_goW 3 (pc' := 3) (ls' := [mv_R 100, mv_I 3, mv_I a, mv_I o, mv_I b, mv_I c, mv_U, mv_U, mv_U, mv_U]) (st' := [mv_I 3, mv_I 0, mv_I 3]) (M1 := M) rfl ?_
  have ha177 : (0 : Int) ≤ (3 : Int) ∧ (3 : Int) ≤ (3 : Int) := by omega
  refine mv_callPW (st2 := [mv_I 1]) rfl (Or.inr rfl) rfl rfl rfl (sp_min_t ha177) (by first | decide | omega) ?_
  refine mv_goW 1 (pc' := if 1 = 0 then 18 else 9) (ls' := [mv_R 100, mv_I 3, mv_I a, mv_I o, mv_I b, mv_I c, mv_U, mv_U, mv_U, mv_U]) (st' := []) (M1 := M) rfl ?_
  refine mv_ffW (by first | decide | omega) ?_
  refine mv_goW 3 (pc' := 12) (ls' := [mv_R 100, mv_I 3, mv_I a, mv_I o, mv_I b, mv_I c, mv_U, mv_U, mv_U, mv_U]) (st' := [mv_I 3, mv_I 0, mv_I o]) (M1 := M) rfl ?_
  have ha178 : ¬ ((0 : Int) ≤ o ∧ o ≤ (3 : Int)) := by omega
  refine mv_callPW (st2 := [mv_I 0]) rfl (Or.inr rfl) rfl rfl rfl (sp_min_f ha178) (by first | decide | omega) ?_
  refine mv_goW 1 (pc' := if 0 = 0 then 18 else 21) (ls' := [mv_R 100, mv_I 3, mv_I a, mv_I o, mv_I b, mv_I c, mv_U, mv_U, mv_U, mv_U]) (st' := []) (M1 := M) rfl ?_
  refine mv_ttW (by first | decide | omega) ?_
  refine mv_goW 1 (pc' := 20) (ls' := [mv_R 100, mv_I 3, mv_I a, mv_I o, mv_I b, mv_I c, mv_U, mv_U, mv_U, mv_U]) (st' := [mv_I (-2)]) (M1 := M) rfl ?_
  exact mv_retW (fun n => rfl) ⟨congrArg mv_I (by first | with_reducible rfl | omega), hI⟩
theorem sp_k33_n_3 (s a b c : Int) (hs : ¬ (0 ≤ s ∧ s ≤ 3)) : sp_call 94 189 [mv_I s, mv_I a, mv_I 3, mv_I b, mv_I c] [mv_I s, mv_I a, mv_I 3, mv_I b, mv_I c] := by
  refine sp_mkW (lc := [mv_R 0, mv_I s, mv_I a, mv_I 3, mv_I b, mv_I c, mv_U, mv_U]) (lm := [mv_R 100, mv_I s, mv_I a, mv_I 3, mv_I b, mv_I c, mv_U, mv_U, mv_U, mv_U]) rfl rfl (fun M hI => ?_)
  refine mv_goW 2 (pc' := 2) (ls' := [mv_R 0, mv_I s, mv_I a, mv_I 3, mv_I b, mv_I c, mv_U, mv_U]) (st' := [mv_I s, mv_R 0]) (M1 := M) rfl ?_
  have ha179 : ¬ (0 ≤ s ∧ s ≤ 3) := by omega
  refine mv_callPW (st2 := [mv_N]) rfl (Or.inl rfl) rfl rfl rfl (sp_sheetAt_n ha179) (by first | decide | omega) ?_
  refine mv_goW 3 (pc' := 9) (ls' := [mv_R 0, mv_I s, mv_I a, mv_I 3, mv_I b, mv_I c, mv_N, mv_U]) (st' := [mv_I 3, mv_R 0]) (M1 := M) rfl ?_
  have ha180 : 0 ≤ (3 : Int) ∧ (3 : Int) ≤ 3 := by omega
  refine mv_callPW (st2 := [mv_R 77]) rfl (Or.inl rfl) rfl rfl rfl (sp_sheetAt_3) (by first | decide | omega) ?_
  refine mv_goW 4 (pc' := 26) (ls' := [mv_R 0, mv_I s, mv_I a, mv_I 3, mv_I b, mv_I c, mv_N, mv_R 77]) (st' := [mv_I (-2)]) (M1 := M) rfl ?_
  refine mv_retW (fun n => rfl) ⟨_, rfl, ?_⟩
  refine mv_goW 3 (pc' := 3) (ls' := [mv_R 100, mv_I s, mv_I a, mv_I 3, mv_I b, mv_I c, mv_U, mv_U, mv_U, mv_U]) (st' := [mv_I 3, mv_I 0, mv_I s]) (M1 := M) rfl ?_
  have ha181 : ¬ ((0 : Int) ≤ s ∧ s ≤ (3 : Int)) := by omega
  refine mv_callPW (st2 := [mv_I 0]) rfl (Or.inr rfl) rfl rfl rfl (sp_min_f ha181) (by first | decide | omega) ?_
  refine mv_goW 1 (pc' := if 0 = 0 then 18 else 9) (ls' := [mv_R 100, mv_I s, mv_I a, mv_I 3, mv_I b, mv_I c, mv_U, mv_U, mv_U, mv_U]) (st' := []) (M1 := M) rfl ?_
  refine mv_ttW (by first | decide | omega) ?_
  refine mv_goW 1 (pc' := 20) (ls' := [mv_R 100, mv_I s, mv_I a, mv_I 3, mv_I b, mv_I c, mv_U, mv_U, mv_U, mv_U]) (st' := [mv_I (-2)]) (M1 := M) rfl ?_
  exact mv_retW (fun n => rfl) ⟨congrArg mv_I (by first | with_reducible rfl | omega), hI⟩
theorem sp_k33_n_n (s a o b c : Int) (hs : ¬ (0 ≤ s ∧ s ≤ 3)) (ho : ¬ (0 ≤ o ∧ o ≤ 3)) : sp_call 94 189 [mv_I s, mv_I a, mv_I o, mv_I b, mv_I c] [mv_I s, mv_I a, mv_I o, mv_I b, mv_I c] := by
  refine sp_mkW (lc := [mv_R 0, mv_I s, mv_I a, mv_I o, mv_I b, mv_I c, mv_U, mv_U]) (lm := [mv_R 100, mv_I s, mv_I a, mv_I o, mv_I b, mv_I c, mv_U, mv_U, mv_U, mv_U]) rfl rfl (fun M hI => ?_)
  refine mv_goW 2 (pc' := 2) (ls' := [mv_R 0, mv_I s, mv_I a, mv_I o, mv_I b, mv_I c, mv_U, mv_U]) (st' := [mv_I s, mv_R 0]) (M1 := M) rfl ?_
  refine mv_callPW (st2 := [mv_N]) rfl (Or.inl rfl) rfl rfl rfl (sp_sheetAt_n (by omega)) (by first | decide | omega) ?_
  refine mv_goW 3 (pc' := 9) (ls' := [mv_R 0, mv_I s, mv_I a, mv_I o, mv_I b, mv_I c, mv_N, mv_U]) (st' := [mv_I o, mv_R 0]) (M1 := M) rfl ?_
  refine mv_callPW (st2 := [mv_N]) rfl (Or.inl rfl) rfl rfl rfl (sp_sheetAt_n (by omega)) (by first | decide | omega) ?_
  refine mv_goW 4 (pc' := 26) (ls' := [mv_R 0, mv_I s, mv_I a, mv_I o, mv_I b, mv_I c, mv_N, mv_N]) (st' := [mv_I (-2)]) (M1 := M) rfl ?_
  refine mv_retW (fun n => rfl) ⟨_, rfl, ?_⟩
  refine mv_goW 3 (pc' := 3) (ls' := [mv_R 100, mv_I s, mv_I a, mv_I o, mv_I b, mv_I c, mv_U, mv_U, mv_U, mv_U]) (st' := [mv_I 3, mv_I 0, mv_I s]) (M1 := M) rfl ?_
  have ha182 : ¬ ((0 : Int) ≤ s ∧ s ≤ (3 : Int)) := by omega
  refine mv_callPW (st2 := [mv_I 0]) rfl (Or.inr rfl) rfl rfl rfl (sp_min_f ha182) (by first | decide | omega) ?_
  refine mv_goW 1 (pc' := if 0 = 0 then 18 else 9) (ls' := [mv_R 100, mv_I s, mv_I a, mv_I o, mv_I b, mv_I c, mv_U, mv_U, mv_U, mv_U]) (st' := []) (M1 := M) rfl ?_
  refine mv_ttW (by first | decide | omega) ?_
  refine mv_goW 1 (pc' := 20) (ls' := [mv_R 100, mv_I s, mv_I a, mv_I o, mv_I b, mv_I c, mv_U, mv_U, mv_U, mv_U]) (st' := [mv_I (-2)]) (M1 := M) rfl ?_
  exact mv_retW (fun n => rfl) ⟨congrArg mv_I (by first | with_reducible rfl | omega), hI⟩
theorem sp_k33 (s a o b c : Int) : sp_call 94 189 [mv_I s, mv_I a, mv_I o, mv_I b, mv_I c] [mv_I s, mv_I a, mv_I o, mv_I b, mv_I c] := by
  refine sp_s4 (Q := fun s => sp_call 94 189 [mv_I s, mv_I a, mv_I o, mv_I b, mv_I c] [mv_I s, mv_I a, mv_I o, mv_I b, mv_I c]) ?_ ?_ ?_ ?_ (fun hs => ?_)
  · exact sp_s4 (Q := fun o => sp_call 94 189 [mv_I 0, mv_I a, mv_I o, mv_I b, mv_I c] [mv_I 0, mv_I a, mv_I o, mv_I b, mv_I c]) (sp_k33_0_0 a b c) (sp_k33_0_1 a b c) (sp_k33_0_2 a b c) (sp_k33_0_3 a b c) (sp_k33_0_n a o b c)
  · exact sp_s4 (Q := fun o => sp_call 94 189 [mv_I 1, mv_I a, mv_I o, mv_I b, mv_I c] [mv_I 1, mv_I a, mv_I o, mv_I b, mv_I c]) (sp_k33_1_0 a b c) (sp_k33_1_1 a b c) (sp_k33_1_2 a b c) (sp_k33_1_3 a b c) (sp_k33_1_n a o b c)
  · exact sp_s4 (Q := fun o => sp_call 94 189 [mv_I 2, mv_I a, mv_I o, mv_I b, mv_I c] [mv_I 2, mv_I a, mv_I o, mv_I b, mv_I c]) (sp_k33_2_0 a b c) (sp_k33_2_1 a b c) (sp_k33_2_2 a b c) (sp_k33_2_3 a b c) (sp_k33_2_n a o b c)
  · exact sp_s4 (Q := fun o => sp_call 94 189 [mv_I 3, mv_I a, mv_I o, mv_I b, mv_I c] [mv_I 3, mv_I a, mv_I o, mv_I b, mv_I c]) (sp_k33_3_0 a b c) (sp_k33_3_1 a b c) (sp_k33_3_2 a b c) (sp_k33_3_3 a b c) (sp_k33_3_n a o b c)
  · exact sp_s4 (Q := fun o => sp_call 94 189 [mv_I s, mv_I a, mv_I o, mv_I b, mv_I c] [mv_I s, mv_I a, mv_I o, mv_I b, mv_I c]) (sp_k33_n_0 s a b c hs) (sp_k33_n_1 s a b c hs) (sp_k33_n_2 s a b c hs) (sp_k33_n_3 s a b c hs) (sp_k33_n_n s a o b c hs)
