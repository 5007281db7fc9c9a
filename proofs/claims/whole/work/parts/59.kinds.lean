/-! kinds -/
theorem sp_ckd0_0 {V M0 : mv_M} {P : Nat → Nat → List Int} {n : Int} {u z d : Nat} {g : Nat → Int} {Q : mv_V → mv_M → Prop} (ho : sp_ok V) (hl : V 0 11 < n) (hn : n ≤ 6) (hP : sp_cts M0 P n) (hu : (u : Int) < V 0 9) (hz : M0 71 2 = (z : Int)) (hz8 : (z : Int) ≤ V 0 8) (hg : ∀ j, j < z → M0 72 j = g j)
    (hQ : ∀ M2, mv_ag [50, 51, 52, 53, 54, 55, 56, 57] M0 M2 → mv_W (d + 8) 82 120 [mv_R 0, mv_I 0, mv_I (u : Int), mv_I 0, mv_I 0, mv_R 54, mv_I (sp_bits (sp_pa V P g z u 4 u) 6), mv_I (6 : Int)] [] M2 Q) :
    ∀ (r m : Nat) (M Vc : mv_M), m + r = 6 → sp_c 50 M Vc → (∀ x, sp_alt Vc 4 u x = sp_alt V 4 u x) → mv_ag [50, 51, 52, 53, 54, 55, 56, 57] M0 M → mv_W (d + 8) 82 66 [mv_R 0, mv_I 0, mv_I (u : Int), mv_I 0, mv_I 0, mv_R 54, mv_I (sp_bits (sp_pa V P g z u 4 u) m), mv_I (m : Int)] [] M Q := by
  have h9 := sp_ok_s9 ho
  intro r
  induction r with
  | zero =>
    intro m M Vc hk hcv hVc hag
    have hk : m = 6 := by omega
    subst hk
    refine mv_goW 3 (pc' := if 0 = 0 then 72 else 77) (ls' := [mv_R 0, mv_I 0, mv_I (u : Int), mv_I 0, mv_I 0, mv_R 54, mv_I (sp_bits (sp_pa V P g z u 4 u) 6), mv_I ((6 : Nat) : Int)]) (st' := [mv_I ((6 : Nat) : Int)]) (M1 := M) rfl ?_
    refine mv_ttW (by decide) ?_
    refine mv_goW 3 (pc' := if ((6 : Nat) : Int) < 6 then 82 else 120) (ls' := [mv_R 0, mv_I 0, mv_I (u : Int), mv_I 0, mv_I 0, mv_R 54, mv_I (sp_bits (sp_pa V P g z u 4 u) 6), mv_I ((6 : Nat) : Int)]) (st' := []) (M1 := M) rfl ?_
    refine mv_ffW (by omega) ?_
    exact hQ M hag
  | succ r ih =>
    intro m M Vc hk hcv hVc hag
    refine mv_goW 3 (pc' := if 0 = 0 then 72 else 77) (ls' := [mv_R 0, mv_I 0, mv_I (u : Int), mv_I 0, mv_I 0, mv_R 54, mv_I (sp_bits (sp_pa V P g z u 4 u) m), mv_I (m : Int)]) (st' := [mv_I (m : Int)]) (M1 := M) rfl ?_
    refine mv_ttW (by first | decide | omega) ?_
    refine mv_goW 3 (pc' := if (m : Int) < 6 then 82 else 120) (ls' := [mv_R 0, mv_I 0, mv_I (u : Int), mv_I 0, mv_I 0, mv_R 54, mv_I (sp_bits (sp_pa V P g z u 4 u) m), mv_I (m : Int)]) (st' := []) (M1 := M) rfl ?_
    refine mv_ttW (by omega) ?_
    refine mv_goW 4 (pc' := if 0 ≤ (u : Int) ∧ (u : Int) < 6 then 88 else mv_bad) (ls' := [mv_R 0, mv_I 0, mv_I (u : Int), mv_I 0, mv_I 0, mv_R 54, mv_I (sp_bits (sp_pa V P g z u 4 u) m), mv_I (m : Int)]) (st' := []) (M1 := (mv_st M 54 (mv_up (M 54) u (m : Int)))) rfl ?_
    refine mv_ttW (by omega) ?_
    have hcX : sp_c 50 (mv_st M 54 (mv_up (M 54) u (m : Int))) (sp_alt V 4 u (m : Int)) := by rw [← hVc (m : Int)]; exact sp_c_alt4 (w := 50) hcv
    have hagX : mv_ag [50, 51, 52, 53, 54, 55, 56, 57] M0 (mv_st M 54 (mv_up (M 54) u (m : Int))) := hag.st (by decide)
    refine mv_goW 4 (pc' := 94) (ls' := [mv_R 0, mv_I 0, mv_I (u : Int), mv_I 0, mv_I 0, mv_R 54, mv_I (sp_bits (sp_pa V P g z u 4 u) m), mv_I (m : Int)]) (st' := [mv_I 0, mv_R 0, mv_R 50]) (M1 := (mv_st M 54 (mv_up (M 54) u (m : Int)))) rfl ?_
    refine mv_callPW (st2 := [mv_R 71, mv_R 50]) rfl (Or.inl rfl) rfl rfl rfl (sp_sheetAt_0) (by first | decide | omega) ?_
    refine mv_goW 1 (pc' := 98) (ls' := [mv_R 0, mv_I 0, mv_I (u : Int), mv_I 0, mv_I 0, mv_R 54, mv_I (sp_bits (sp_pa V P g z u 4 u) m), mv_I (m : Int)]) (st' := [mv_I (u : Int), mv_R 71, mv_R 50]) (M1 := (mv_st M 54 (mv_up (M 54) u (m : Int)))) rfl ?_
    refine mv_callW (st2 := [mv_I (sp_pa V P g z u 4 u m)]) rfl (Or.inr rfl) rfl rfl rfl (sp_cfa_0 (V := V) (g := g) (u := u) (r := 4) (i := u) (x := m) hcX (sp_ok_alt4 ho (by omega)) hl hn (sp_cts_ag hP hagX hn (fun i h1 h2 => by simp only [List.mem_cons, List.not_mem_nil, or_false]; omega)) hu (by rw [hagX _ (by decide)]; exact hz) hz8 (fun j hj => by rw [hagX _ (by decide)]; exact hg j hj)) (by first | decide | omega) (fun Ma1 hm2 => ?_)
    have hx := hm2
    refine mv_goW 2 (pc' := if (sp_pa V P g z u 4 u m) = (-1) then 105 else 114) (ls' := [mv_R 0, mv_I 0, mv_I (u : Int), mv_I 0, mv_I 0, mv_R 54, mv_I (sp_bits (sp_pa V P g z u 4 u) m), mv_I (m : Int)]) (st' := []) (M1 := Ma1) rfl ?_
    refine mv_spW (fun ha3 => ?_) (fun ha3 => ?_)
    · refine mv_goW 8 (pc' := 66) (ls' := [mv_R 0, mv_I 0, mv_I (u : Int), mv_I 0, mv_I 0, mv_R 54, mv_I (mv_or (sp_bits (sp_pa V P g z u 4 u) m) (mv_shl 1 (m : Int))), mv_I (mv_w ((m : Int) + 1))]) (st' := []) (M1 := Ma1) rfl ?_
      rw [show mv_w ((m : Int) + 1) = (m : Int) + 1 from mv_w_id (by omega) (by omega)]
      rw [show (m : Int) + 1 = ((m + 1 : Nat) : Int) from by omega]
      refine mv_eqsW (ls2 := [mv_R 0, mv_I 0, mv_I (u : Int), mv_I 0, mv_I 0, mv_R 54, mv_I (sp_bits (sp_pa V P g z u 4 u) (m + 1)), mv_I (((m + 1 : Nat) : Int))]) (by rw [show mv_or (sp_bits (sp_pa V P g z u 4 u) m) (mv_shl 1 (m : Int)) = sp_bits (sp_pa V P g z u 4 u) (m + 1) from by simp only [sp_bits]; split <;> first | with_reducible rfl | omega]) rfl rfl (ih (m + 1) _ (sp_alt V 4 u (m : Int)) (by omega) (sp_c_ag hcX hx (by decide)) (sp_alt_alt V 4 u (m : Int)) (hagX.tr (hx.wd (by decide))))
    · refine mv_goW 2 (pc' := 66) (ls' := [mv_R 0, mv_I 0, mv_I (u : Int), mv_I 0, mv_I 0, mv_R 54, mv_I (sp_bits (sp_pa V P g z u 4 u) m), mv_I (mv_w ((m : Int) + 1))]) (st' := []) (M1 := Ma1) rfl ?_
      rw [show mv_w ((m : Int) + 1) = (m : Int) + 1 from mv_w_id (by omega) (by omega)]
      rw [show (m : Int) + 1 = ((m + 1 : Nat) : Int) from by omega]
      refine mv_eqsW (ls2 := [mv_R 0, mv_I 0, mv_I (u : Int), mv_I 0, mv_I 0, mv_R 54, mv_I (sp_bits (sp_pa V P g z u 4 u) (m + 1)), mv_I (((m + 1 : Nat) : Int))]) (by rw [show sp_bits (sp_pa V P g z u 4 u) m = sp_bits (sp_pa V P g z u 4 u) (m + 1) from by simp only [sp_bits]; split <;> first | with_reducible rfl | omega]) rfl rfl (ih (m + 1) _ (sp_alt V 4 u (m : Int)) (by omega) (sp_c_ag hcX hx (by decide)) (sp_alt_alt V 4 u (m : Int)) (hagX.tr (hx.wd (by decide))))
theorem sp_ckd0_1 {V M0 : mv_M} {P : Nat → Nat → List Int} {n : Int} {u z d : Nat} {g : Nat → Int} {Q : mv_V → mv_M → Prop} (ho : sp_ok V) (hl : V 0 11 < n) (hn : n ≤ 6) (hP : sp_cts M0 P n) (hu : (u : Int) < V 0 9) (hz : M0 73 2 = (z : Int)) (hz8 : (z : Int) ≤ V 0 8) (hg : ∀ j, j < z → M0 74 j = g j)
    (hQ : ∀ M2, mv_ag [50, 51, 52, 53, 54, 55, 56, 57] M0 M2 → mv_W (d + 8) 82 120 [mv_R 0, mv_I 1, mv_I (u : Int), mv_I 0, mv_I 0, mv_R 54, mv_I (sp_bits (sp_pa V P g z u 4 u) 6), mv_I (6 : Int)] [] M2 Q) :
    ∀ (r m : Nat) (M Vc : mv_M), m + r = 6 → sp_c 50 M Vc → (∀ x, sp_alt Vc 4 u x = sp_alt V 4 u x) → mv_ag [50, 51, 52, 53, 54, 55, 56, 57] M0 M → mv_W (d + 8) 82 66 [mv_R 0, mv_I 1, mv_I (u : Int), mv_I 0, mv_I 0, mv_R 54, mv_I (sp_bits (sp_pa V P g z u 4 u) m), mv_I (m : Int)] [] M Q := by
  have h9 := sp_ok_s9 ho
  intro r
  induction r with
  | zero =>
    intro m M Vc hk hcv hVc hag
    have hk : m = 6 := by omega
    subst hk
    refine mv_goW 3 (pc' := if 0 = 0 then 72 else 77) (ls' := [mv_R 0, mv_I 1, mv_I (u : Int), mv_I 0, mv_I 0, mv_R 54, mv_I (sp_bits (sp_pa V P g z u 4 u) 6), mv_I ((6 : Nat) : Int)]) (st' := [mv_I ((6 : Nat) : Int)]) (M1 := M) rfl ?_
    refine mv_ttW (by decide) ?_
    refine mv_goW 3 (pc' := if ((6 : Nat) : Int) < 6 then 82 else 120) (ls' := [mv_R 0, mv_I 1, mv_I (u : Int), mv_I 0, mv_I 0, mv_R 54, mv_I (sp_bits (sp_pa V P g z u 4 u) 6), mv_I ((6 : Nat) : Int)]) (st' := []) (M1 := M) rfl ?_
    refine mv_ffW (by omega) ?_
    exact hQ M hag
  | succ r ih =>
    intro m M Vc hk hcv hVc hag
    refine mv_goW 3 (pc' := if 0 = 0 then 72 else 77) (ls' := [mv_R 0, mv_I 1, mv_I (u : Int), mv_I 0, mv_I 0, mv_R 54, mv_I (sp_bits (sp_pa V P g z u 4 u) m), mv_I (m : Int)]) (st' := [mv_I (m : Int)]) (M1 := M) rfl ?_
    refine mv_ttW (by first | decide | omega) ?_
    refine mv_goW 3 (pc' := if (m : Int) < 6 then 82 else 120) (ls' := [mv_R 0, mv_I 1, mv_I (u : Int), mv_I 0, mv_I 0, mv_R 54, mv_I (sp_bits (sp_pa V P g z u 4 u) m), mv_I (m : Int)]) (st' := []) (M1 := M) rfl ?_
    refine mv_ttW (by omega) ?_
    refine mv_goW 4 (pc' := if 0 ≤ (u : Int) ∧ (u : Int) < 6 then 88 else mv_bad) (ls' := [mv_R 0, mv_I 1, mv_I (u : Int), mv_I 0, mv_I 0, mv_R 54, mv_I (sp_bits (sp_pa V P g z u 4 u) m), mv_I (m : Int)]) (st' := []) (M1 := (mv_st M 54 (mv_up (M 54) u (m : Int)))) rfl ?_
    refine mv_ttW (by omega) ?_
    have hcX : sp_c 50 (mv_st M 54 (mv_up (M 54) u (m : Int))) (sp_alt V 4 u (m : Int)) := by rw [← hVc (m : Int)]; exact sp_c_alt4 (w := 50) hcv
    have hagX : mv_ag [50, 51, 52, 53, 54, 55, 56, 57] M0 (mv_st M 54 (mv_up (M 54) u (m : Int))) := hag.st (by decide)
    refine mv_goW 4 (pc' := 94) (ls' := [mv_R 0, mv_I 1, mv_I (u : Int), mv_I 0, mv_I 0, mv_R 54, mv_I (sp_bits (sp_pa V P g z u 4 u) m), mv_I (m : Int)]) (st' := [mv_I 1, mv_R 0, mv_R 50]) (M1 := (mv_st M 54 (mv_up (M 54) u (m : Int)))) rfl ?_
    refine mv_callPW (st2 := [mv_R 73, mv_R 50]) rfl (Or.inl rfl) rfl rfl rfl (sp_sheetAt_1) (by first | decide | omega) ?_
    refine mv_goW 1 (pc' := 98) (ls' := [mv_R 0, mv_I 1, mv_I (u : Int), mv_I 0, mv_I 0, mv_R 54, mv_I (sp_bits (sp_pa V P g z u 4 u) m), mv_I (m : Int)]) (st' := [mv_I (u : Int), mv_R 73, mv_R 50]) (M1 := (mv_st M 54 (mv_up (M 54) u (m : Int)))) rfl ?_
    refine mv_callW (st2 := [mv_I (sp_pa V P g z u 4 u m)]) rfl (Or.inr rfl) rfl rfl rfl (sp_cfa_1 (V := V) (g := g) (u := u) (r := 4) (i := u) (x := m) hcX (sp_ok_alt4 ho (by omega)) hl hn (sp_cts_ag hP hagX hn (fun i h1 h2 => by simp only [List.mem_cons, List.not_mem_nil, or_false]; omega)) hu (by rw [hagX _ (by decide)]; exact hz) hz8 (fun j hj => by rw [hagX _ (by decide)]; exact hg j hj)) (by first | decide | omega) (fun Ma4 hm5 => ?_)
    have hx := hm5
    refine mv_goW 2 (pc' := if (sp_pa V P g z u 4 u m) = (-1) then 105 else 114) (ls' := [mv_R 0, mv_I 1, mv_I (u : Int), mv_I 0, mv_I 0, mv_R 54, mv_I (sp_bits (sp_pa V P g z u 4 u) m), mv_I (m : Int)]) (st' := []) (M1 := Ma4) rfl ?_
    refine mv_spW (fun ha6 => ?_) (fun ha6 => ?_)
    · refine mv_goW 8 (pc' := 66) (ls' := [mv_R 0, mv_I 1, mv_I (u : Int), mv_I 0, mv_I 0, mv_R 54, mv_I (mv_or (sp_bits (sp_pa V P g z u 4 u) m) (mv_shl 1 (m : Int))), mv_I (mv_w ((m : Int) + 1))]) (st' := []) (M1 := Ma4) rfl ?_
      rw [show mv_w ((m : Int) + 1) = (m : Int) + 1 from mv_w_id (by omega) (by omega)]
      rw [show (m : Int) + 1 = ((m + 1 : Nat) : Int) from by omega]
      refine mv_eqsW (ls2 := [mv_R 0, mv_I 1, mv_I (u : Int), mv_I 0, mv_I 0, mv_R 54, mv_I (sp_bits (sp_pa V P g z u 4 u) (m + 1)), mv_I (((m + 1 : Nat) : Int))]) (by rw [show mv_or (sp_bits (sp_pa V P g z u 4 u) m) (mv_shl 1 (m : Int)) = sp_bits (sp_pa V P g z u 4 u) (m + 1) from by simp only [sp_bits]; split <;> first | with_reducible rfl | omega]) rfl rfl (ih (m + 1) _ (sp_alt V 4 u (m : Int)) (by omega) (sp_c_ag hcX hx (by decide)) (sp_alt_alt V 4 u (m : Int)) (hagX.tr (hx.wd (by decide))))
    · refine mv_goW 2 (pc' := 66) (ls' := [mv_R 0, mv_I 1, mv_I (u : Int), mv_I 0, mv_I 0, mv_R 54, mv_I (sp_bits (sp_pa V P g z u 4 u) m), mv_I (mv_w ((m : Int) + 1))]) (st' := []) (M1 := Ma4) rfl ?_
      rw [show mv_w ((m : Int) + 1) = (m : Int) + 1 from mv_w_id (by omega) (by omega)]
      rw [show (m : Int) + 1 = ((m + 1 : Nat) : Int) from by omega]
      refine mv_eqsW (ls2 := [mv_R 0, mv_I 1, mv_I (u : Int), mv_I 0, mv_I 0, mv_R 54, mv_I (sp_bits (sp_pa V P g z u 4 u) (m + 1)), mv_I (((m + 1 : Nat) : Int))]) (by rw [show sp_bits (sp_pa V P g z u 4 u) m = sp_bits (sp_pa V P g z u 4 u) (m + 1) from by simp only [sp_bits]; split <;> first | with_reducible rfl | omega]) rfl rfl (ih (m + 1) _ (sp_alt V 4 u (m : Int)) (by omega) (sp_c_ag hcX hx (by decide)) (sp_alt_alt V 4 u (m : Int)) (hagX.tr (hx.wd (by decide))))
theorem sp_ckd0_2 {V M0 : mv_M} {P : Nat → Nat → List Int} {n : Int} {u z d : Nat} {g : Nat → Int} {Q : mv_V → mv_M → Prop} (ho : sp_ok V) (hl : V 0 11 < n) (hn : n ≤ 6) (hP : sp_cts M0 P n) (hu : (u : Int) < V 0 9) (hz : M0 75 2 = (z : Int)) (hz8 : (z : Int) ≤ V 0 8) (hg : ∀ j, j < z → M0 76 j = g j)
    (hQ : ∀ M2, mv_ag [50, 51, 52, 53, 54, 55, 56, 57] M0 M2 → mv_W (d + 8) 82 120 [mv_R 0, mv_I 2, mv_I (u : Int), mv_I 0, mv_I 0, mv_R 54, mv_I (sp_bits (sp_pa V P g z u 4 u) 6), mv_I (6 : Int)] [] M2 Q) :
    ∀ (r m : Nat) (M Vc : mv_M), m + r = 6 → sp_c 50 M Vc → (∀ x, sp_alt Vc 4 u x = sp_alt V 4 u x) → mv_ag [50, 51, 52, 53, 54, 55, 56, 57] M0 M → mv_W (d + 8) 82 66 [mv_R 0, mv_I 2, mv_I (u : Int), mv_I 0, mv_I 0, mv_R 54, mv_I (sp_bits (sp_pa V P g z u 4 u) m), mv_I (m : Int)] [] M Q := by
  have h9 := sp_ok_s9 ho
  intro r
  induction r with
  | zero =>
    intro m M Vc hk hcv hVc hag
    have hk : m = 6 := by omega
    subst hk
    refine mv_goW 3 (pc' := if 0 = 0 then 72 else 77) (ls' := [mv_R 0, mv_I 2, mv_I (u : Int), mv_I 0, mv_I 0, mv_R 54, mv_I (sp_bits (sp_pa V P g z u 4 u) 6), mv_I ((6 : Nat) : Int)]) (st' := [mv_I ((6 : Nat) : Int)]) (M1 := M) rfl ?_
    refine mv_ttW (by decide) ?_
    refine mv_goW 3 (pc' := if ((6 : Nat) : Int) < 6 then 82 else 120) (ls' := [mv_R 0, mv_I 2, mv_I (u : Int), mv_I 0, mv_I 0, mv_R 54, mv_I (sp_bits (sp_pa V P g z u 4 u) 6), mv_I ((6 : Nat) : Int)]) (st' := []) (M1 := M) rfl ?_
    refine mv_ffW (by omega) ?_
    exact hQ M hag
  | succ r ih =>
    intro m M Vc hk hcv hVc hag
    refine mv_goW 3 (pc' := if 0 = 0 then 72 else 77) (ls' := [mv_R 0, mv_I 2, mv_I (u : Int), mv_I 0, mv_I 0, mv_R 54, mv_I (sp_bits (sp_pa V P g z u 4 u) m), mv_I (m : Int)]) (st' := [mv_I (m : Int)]) (M1 := M) rfl ?_
    refine mv_ttW (by first | decide | omega) ?_
    refine mv_goW 3 (pc' := if (m : Int) < 6 then 82 else 120) (ls' := [mv_R 0, mv_I 2, mv_I (u : Int), mv_I 0, mv_I 0, mv_R 54, mv_I (sp_bits (sp_pa V P g z u 4 u) m), mv_I (m : Int)]) (st' := []) (M1 := M) rfl ?_
    refine mv_ttW (by omega) ?_
    refine mv_goW 4 (pc' := if 0 ≤ (u : Int) ∧ (u : Int) < 6 then 88 else mv_bad) (ls' := [mv_R 0, mv_I 2, mv_I (u : Int), mv_I 0, mv_I 0, mv_R 54, mv_I (sp_bits (sp_pa V P g z u 4 u) m), mv_I (m : Int)]) (st' := []) (M1 := (mv_st M 54 (mv_up (M 54) u (m : Int)))) rfl ?_
    refine mv_ttW (by omega) ?_
    have hcX : sp_c 50 (mv_st M 54 (mv_up (M 54) u (m : Int))) (sp_alt V 4 u (m : Int)) := by rw [← hVc (m : Int)]; exact sp_c_alt4 (w := 50) hcv
    have hagX : mv_ag [50, 51, 52, 53, 54, 55, 56, 57] M0 (mv_st M 54 (mv_up (M 54) u (m : Int))) := hag.st (by decide)
    refine mv_goW 4 (pc' := 94) (ls' := [mv_R 0, mv_I 2, mv_I (u : Int), mv_I 0, mv_I 0, mv_R 54, mv_I (sp_bits (sp_pa V P g z u 4 u) m), mv_I (m : Int)]) (st' := [mv_I 2, mv_R 0, mv_R 50]) (M1 := (mv_st M 54 (mv_up (M 54) u (m : Int)))) rfl ?_
    refine mv_callPW (st2 := [mv_R 75, mv_R 50]) rfl (Or.inl rfl) rfl rfl rfl (sp_sheetAt_2) (by first | decide | omega) ?_
    refine mv_goW 1 (pc' := 98) (ls' := [mv_R 0, mv_I 2, mv_I (u : Int), mv_I 0, mv_I 0, mv_R 54, mv_I (sp_bits (sp_pa V P g z u 4 u) m), mv_I (m : Int)]) (st' := [mv_I (u : Int), mv_R 75, mv_R 50]) (M1 := (mv_st M 54 (mv_up (M 54) u (m : Int)))) rfl ?_
    refine mv_callW (st2 := [mv_I (sp_pa V P g z u 4 u m)]) rfl (Or.inr rfl) rfl rfl rfl (sp_cfa_2 (V := V) (g := g) (u := u) (r := 4) (i := u) (x := m) hcX (sp_ok_alt4 ho (by omega)) hl hn (sp_cts_ag hP hagX hn (fun i h1 h2 => by simp only [List.mem_cons, List.not_mem_nil, or_false]; omega)) hu (by rw [hagX _ (by decide)]; exact hz) hz8 (fun j hj => by rw [hagX _ (by decide)]; exact hg j hj)) (by first | decide | omega) (fun Ma7 hm8 => ?_)
    have hx := hm8
    refine mv_goW 2 (pc' := if (sp_pa V P g z u 4 u m) = (-1) then 105 else 114) (ls' := [mv_R 0, mv_I 2, mv_I (u : Int), mv_I 0, mv_I 0, mv_R 54, mv_I (sp_bits (sp_pa V P g z u 4 u) m), mv_I (m : Int)]) (st' := []) (M1 := Ma7) rfl ?_
    refine mv_spW (fun ha9 => ?_) (fun ha9 => ?_)
    · refine mv_goW 8 (pc' := 66) (ls' := [mv_R 0, mv_I 2, mv_I (u : Int), mv_I 0, mv_I 0, mv_R 54, mv_I (mv_or (sp_bits (sp_pa V P g z u 4 u) m) (mv_shl 1 (m : Int))), mv_I (mv_w ((m : Int) + 1))]) (st' := []) (M1 := Ma7) rfl ?_
      rw [show mv_w ((m : Int) + 1) = (m : Int) + 1 from mv_w_id (by omega) (by omega)]
      rw [show (m : Int) + 1 = ((m + 1 : Nat) : Int) from by omega]
      refine mv_eqsW (ls2 := [mv_R 0, mv_I 2, mv_I (u : Int), mv_I 0, mv_I 0, mv_R 54, mv_I (sp_bits (sp_pa V P g z u 4 u) (m + 1)), mv_I (((m + 1 : Nat) : Int))]) (by rw [show mv_or (sp_bits (sp_pa V P g z u 4 u) m) (mv_shl 1 (m : Int)) = sp_bits (sp_pa V P g z u 4 u) (m + 1) from by simp only [sp_bits]; split <;> first | with_reducible rfl | omega]) rfl rfl (ih (m + 1) _ (sp_alt V 4 u (m : Int)) (by omega) (sp_c_ag hcX hx (by decide)) (sp_alt_alt V 4 u (m : Int)) (hagX.tr (hx.wd (by decide))))
    · refine mv_goW 2 (pc' := 66) (ls' := [mv_R 0, mv_I 2, mv_I (u : Int), mv_I 0, mv_I 0, mv_R 54, mv_I (sp_bits (sp_pa V P g z u 4 u) m), mv_I (mv_w ((m : Int) + 1))]) (st' := []) (M1 := Ma7) rfl ?_
      rw [show mv_w ((m : Int) + 1) = (m : Int) + 1 from mv_w_id (by omega) (by omega)]
      rw [show (m : Int) + 1 = ((m + 1 : Nat) : Int) from by omega]
      refine mv_eqsW (ls2 := [mv_R 0, mv_I 2, mv_I (u : Int), mv_I 0, mv_I 0, mv_R 54, mv_I (sp_bits (sp_pa V P g z u 4 u) (m + 1)), mv_I (((m + 1 : Nat) : Int))]) (by rw [show sp_bits (sp_pa V P g z u 4 u) m = sp_bits (sp_pa V P g z u 4 u) (m + 1) from by simp only [sp_bits]; split <;> first | with_reducible rfl | omega]) rfl rfl (ih (m + 1) _ (sp_alt V 4 u (m : Int)) (by omega) (sp_c_ag hcX hx (by decide)) (sp_alt_alt V 4 u (m : Int)) (hagX.tr (hx.wd (by decide))))
theorem sp_ckd0_3 {V M0 : mv_M} {P : Nat → Nat → List Int} {n : Int} {u z d : Nat} {g : Nat → Int} {Q : mv_V → mv_M → Prop} (ho : sp_ok V) (hl : V 0 11 < n) (hn : n ≤ 6) (hP : sp_cts M0 P n) (hu : (u : Int) < V 0 9) (hz : M0 77 2 = (z : Int)) (hz8 : (z : Int) ≤ V 0 8) (hg : ∀ j, j < z → M0 78 j = g j)
    (hQ : ∀ M2, mv_ag [50, 51, 52, 53, 54, 55, 56, 57] M0 M2 → mv_W (d + 8) 82 120 [mv_R 0, mv_I 3, mv_I (u : Int), mv_I 0, mv_I 0, mv_R 54, mv_I (sp_bits (sp_pa V P g z u 4 u) 6), mv_I (6 : Int)] [] M2 Q) :
    ∀ (r m : Nat) (M Vc : mv_M), m + r = 6 → sp_c 50 M Vc → (∀ x, sp_alt Vc 4 u x = sp_alt V 4 u x) → mv_ag [50, 51, 52, 53, 54, 55, 56, 57] M0 M → mv_W (d + 8) 82 66 [mv_R 0, mv_I 3, mv_I (u : Int), mv_I 0, mv_I 0, mv_R 54, mv_I (sp_bits (sp_pa V P g z u 4 u) m), mv_I (m : Int)] [] M Q := by
  have h9 := sp_ok_s9 ho
  intro r
  induction r with
  | zero =>
    intro m M Vc hk hcv hVc hag
    have hk : m = 6 := by omega
    subst hk
    refine mv_goW 3 (pc' := if 0 = 0 then 72 else 77) (ls' := [mv_R 0, mv_I 3, mv_I (u : Int), mv_I 0, mv_I 0, mv_R 54, mv_I (sp_bits (sp_pa V P g z u 4 u) 6), mv_I ((6 : Nat) : Int)]) (st' := [mv_I ((6 : Nat) : Int)]) (M1 := M) rfl ?_
    refine mv_ttW (by decide) ?_
    refine mv_goW 3 (pc' := if ((6 : Nat) : Int) < 6 then 82 else 120) (ls' := [mv_R 0, mv_I 3, mv_I (u : Int), mv_I 0, mv_I 0, mv_R 54, mv_I (sp_bits (sp_pa V P g z u 4 u) 6), mv_I ((6 : Nat) : Int)]) (st' := []) (M1 := M) rfl ?_
    refine mv_ffW (by omega) ?_
    exact hQ M hag
  | succ r ih =>
    intro m M Vc hk hcv hVc hag
    refine mv_goW 3 (pc' := if 0 = 0 then 72 else 77) (ls' := [mv_R 0, mv_I 3, mv_I (u : Int), mv_I 0, mv_I 0, mv_R 54, mv_I (sp_bits (sp_pa V P g z u 4 u) m), mv_I (m : Int)]) (st' := [mv_I (m : Int)]) (M1 := M) rfl ?_
    refine mv_ttW (by first | decide | omega) ?_
    refine mv_goW 3 (pc' := if (m : Int) < 6 then 82 else 120) (ls' := [mv_R 0, mv_I 3, mv_I (u : Int), mv_I 0, mv_I 0, mv_R 54, mv_I (sp_bits (sp_pa V P g z u 4 u) m), mv_I (m : Int)]) (st' := []) (M1 := M) rfl ?_
    refine mv_ttW (by omega) ?_
    refine mv_goW 4 (pc' := if 0 ≤ (u : Int) ∧ (u : Int) < 6 then 88 else mv_bad) (ls' := [mv_R 0, mv_I 3, mv_I (u : Int), mv_I 0, mv_I 0, mv_R 54, mv_I (sp_bits (sp_pa V P g z u 4 u) m), mv_I (m : Int)]) (st' := []) (M1 := (mv_st M 54 (mv_up (M 54) u (m : Int)))) rfl ?_
    refine mv_ttW (by omega) ?_
    have hcX : sp_c 50 (mv_st M 54 (mv_up (M 54) u (m : Int))) (sp_alt V 4 u (m : Int)) := by rw [← hVc (m : Int)]; exact sp_c_alt4 (w := 50) hcv
    have hagX : mv_ag [50, 51, 52, 53, 54, 55, 56, 57] M0 (mv_st M 54 (mv_up (M 54) u (m : Int))) := hag.st (by decide)
    refine mv_goW 4 (pc' := 94) (ls' := [mv_R 0, mv_I 3, mv_I (u : Int), mv_I 0, mv_I 0, mv_R 54, mv_I (sp_bits (sp_pa V P g z u 4 u) m), mv_I (m : Int)]) (st' := [mv_I 3, mv_R 0, mv_R 50]) (M1 := (mv_st M 54 (mv_up (M 54) u (m : Int)))) rfl ?_
    refine mv_callPW (st2 := [mv_R 77, mv_R 50]) rfl (Or.inl rfl) rfl rfl rfl (sp_sheetAt_3) (by first | decide | omega) ?_
    refine mv_goW 1 (pc' := 98) (ls' := [mv_R 0, mv_I 3, mv_I (u : Int), mv_I 0, mv_I 0, mv_R 54, mv_I (sp_bits (sp_pa V P g z u 4 u) m), mv_I (m : Int)]) (st' := [mv_I (u : Int), mv_R 77, mv_R 50]) (M1 := (mv_st M 54 (mv_up (M 54) u (m : Int)))) rfl ?_
    refine mv_callW (st2 := [mv_I (sp_pa V P g z u 4 u m)]) rfl (Or.inr rfl) rfl rfl rfl (sp_cfa_3 (V := V) (g := g) (u := u) (r := 4) (i := u) (x := m) hcX (sp_ok_alt4 ho (by omega)) hl hn (sp_cts_ag hP hagX hn (fun i h1 h2 => by simp only [List.mem_cons, List.not_mem_nil, or_false]; omega)) hu (by rw [hagX _ (by decide)]; exact hz) hz8 (fun j hj => by rw [hagX _ (by decide)]; exact hg j hj)) (by first | decide | omega) (fun Ma10 hm11 => ?_)
    have hx := hm11
    refine mv_goW 2 (pc' := if (sp_pa V P g z u 4 u m) = (-1) then 105 else 114) (ls' := [mv_R 0, mv_I 3, mv_I (u : Int), mv_I 0, mv_I 0, mv_R 54, mv_I (sp_bits (sp_pa V P g z u 4 u) m), mv_I (m : Int)]) (st' := []) (M1 := Ma10) rfl ?_
    refine mv_spW (fun ha12 => ?_) (fun ha12 => ?_)
    · refine mv_goW 8 (pc' := 66) (ls' := [mv_R 0, mv_I 3, mv_I (u : Int), mv_I 0, mv_I 0, mv_R 54, mv_I (mv_or (sp_bits (sp_pa V P g z u 4 u) m) (mv_shl 1 (m : Int))), mv_I (mv_w ((m : Int) + 1))]) (st' := []) (M1 := Ma10) rfl ?_
      rw [show mv_w ((m : Int) + 1) = (m : Int) + 1 from mv_w_id (by omega) (by omega)]
      rw [show (m : Int) + 1 = ((m + 1 : Nat) : Int) from by omega]
      refine mv_eqsW (ls2 := [mv_R 0, mv_I 3, mv_I (u : Int), mv_I 0, mv_I 0, mv_R 54, mv_I (sp_bits (sp_pa V P g z u 4 u) (m + 1)), mv_I (((m + 1 : Nat) : Int))]) (by rw [show mv_or (sp_bits (sp_pa V P g z u 4 u) m) (mv_shl 1 (m : Int)) = sp_bits (sp_pa V P g z u 4 u) (m + 1) from by simp only [sp_bits]; split <;> first | with_reducible rfl | omega]) rfl rfl (ih (m + 1) _ (sp_alt V 4 u (m : Int)) (by omega) (sp_c_ag hcX hx (by decide)) (sp_alt_alt V 4 u (m : Int)) (hagX.tr (hx.wd (by decide))))
    · refine mv_goW 2 (pc' := 66) (ls' := [mv_R 0, mv_I 3, mv_I (u : Int), mv_I 0, mv_I 0, mv_R 54, mv_I (sp_bits (sp_pa V P g z u 4 u) m), mv_I (mv_w ((m : Int) + 1))]) (st' := []) (M1 := Ma10) rfl ?_
      rw [show mv_w ((m : Int) + 1) = (m : Int) + 1 from mv_w_id (by omega) (by omega)]
      rw [show (m : Int) + 1 = ((m + 1 : Nat) : Int) from by omega]
      refine mv_eqsW (ls2 := [mv_R 0, mv_I 3, mv_I (u : Int), mv_I 0, mv_I 0, mv_R 54, mv_I (sp_bits (sp_pa V P g z u 4 u) (m + 1)), mv_I (((m + 1 : Nat) : Int))]) (by rw [show sp_bits (sp_pa V P g z u 4 u) m = sp_bits (sp_pa V P g z u 4 u) (m + 1) from by simp only [sp_bits]; split <;> first | with_reducible rfl | omega]) rfl rfl (ih (m + 1) _ (sp_alt V 4 u (m : Int)) (by omega) (sp_c_ag hcX hx (by decide)) (sp_alt_alt V 4 u (m : Int)) (hagX.tr (hx.wd (by decide))))
theorem sp_mkd0 {V M0 : mv_M} {P : Nat → Nat → List Int} {n : Int} {u z d S : Nat} {g : Nat → Int} {Q : mv_V → mv_M → Prop} (ho : sp_ok V) (hl : V 0 11 < n) (hn : n ≤ 6) (hP : sp_mts M0 P n) (hu : (u : Int) < V 0 9) (hS : S < 4) (hz : M0 118 S = (z : Int)) (hz8 : (z : Int) ≤ V 0 8) (hg : ∀ j, j < z → M0 119 (40 * S + j) = g j)
    (hQ : ∀ M2 Vc, sp_m M2 Vc → (∀ x, sp_alt Vc 4 u x = sp_alt V 4 u x) → mv_ag [102, 103, 130, 131] M0 M2 → mv_W (d + 8) 175 130 [mv_R 100, mv_I (S : Int), mv_I (u : Int), mv_I 0, mv_I 0, mv_I (V 4 u), mv_I (V 5 u), mv_I (sp_bits (sp_pa V P g z u 4 u) 6), mv_I (6 : Int)] [] M2 Q) :
    ∀ (r m : Nat) (M Vc : mv_M), m + r = 6 → sp_m M Vc → (∀ x, sp_alt Vc 4 u x = sp_alt V 4 u x) → mv_ag [102, 103, 130, 131] M0 M → mv_W (d + 8) 175 50 [mv_R 100, mv_I (S : Int), mv_I (u : Int), mv_I 0, mv_I 0, mv_I (V 4 u), mv_I (V 5 u), mv_I (sp_bits (sp_pa V P g z u 4 u) m), mv_I (m : Int)] [] M Q := by
  have h9 := sp_ok_s9 ho
  intro r
  induction r with
  | zero =>
    intro m M Vc hk hmv hVc hag
    have hk : m = 6 := by omega
    subst hk
    refine mv_goW 3 (pc' := if 0 = 0 then 56 else 61) (ls' := [mv_R 100, mv_I (S : Int), mv_I (u : Int), mv_I 0, mv_I 0, mv_I (V 4 u), mv_I (V 5 u), mv_I (sp_bits (sp_pa V P g z u 4 u) 6), mv_I ((6 : Nat) : Int)]) (st' := [mv_I ((6 : Nat) : Int)]) (M1 := M) rfl ?_
    refine mv_ttW (by decide) ?_
    refine mv_goW 3 (pc' := if ((6 : Nat) : Int) < 6 then 66 else 130) (ls' := [mv_R 100, mv_I (S : Int), mv_I (u : Int), mv_I 0, mv_I 0, mv_I (V 4 u), mv_I (V 5 u), mv_I (sp_bits (sp_pa V P g z u 4 u) 6), mv_I ((6 : Nat) : Int)]) (st' := []) (M1 := M) rfl ?_
    refine mv_ffW (by omega) ?_
    exact hQ M Vc hmv hVc hag
  | succ r ih =>
    intro m M Vc hk hmv hVc hag
    refine mv_goW 3 (pc' := if 0 = 0 then 56 else 61) (ls' := [mv_R 100, mv_I (S : Int), mv_I (u : Int), mv_I 0, mv_I 0, mv_I (V 4 u), mv_I (V 5 u), mv_I (sp_bits (sp_pa V P g z u 4 u) m), mv_I (m : Int)]) (st' := [mv_I (m : Int)]) (M1 := M) rfl ?_
    refine mv_ttW (by first | decide | omega) ?_
    refine mv_goW 3 (pc' := if (m : Int) < 6 then 66 else 130) (ls' := [mv_R 100, mv_I (S : Int), mv_I (u : Int), mv_I 0, mv_I 0, mv_I (V 4 u), mv_I (V 5 u), mv_I (sp_bits (sp_pa V P g z u 4 u) m), mv_I (m : Int)]) (st' := []) (M1 := M) rfl ?_
    refine mv_ttW (by omega) ?_
    refine mv_goW 5 (pc' := if 0 = 0 then 75 else 80) (ls' := [mv_R 100, mv_I (S : Int), mv_I (u : Int), mv_I 0, mv_I 0, mv_I (V 4 u), mv_I (V 5 u), mv_I (sp_bits (sp_pa V P g z u 4 u) m), mv_I (m : Int)]) (st' := [mv_I (u : Int), mv_R 102]) (M1 := M) rfl ?_
    refine mv_ttW (by first | decide | omega) ?_
    refine mv_goW 3 (pc' := if 0 ≤ (u : Int) ∧ (u : Int) < 6 then 83 else mv_bad) (ls' := [mv_R 100, mv_I (S : Int), mv_I (u : Int), mv_I 0, mv_I 0, mv_I (V 4 u), mv_I (V 5 u), mv_I (sp_bits (sp_pa V P g z u 4 u) m), mv_I (m : Int)]) (st' := []) (M1 := (mv_st M 102 (mv_up (M 102) u (m : Int)))) rfl ?_
    refine mv_ttW (by omega) ?_
    refine mv_goW 6 (pc' := if 0 = 1 then 93 else 98) (ls' := [mv_R 100, mv_I (S : Int), mv_I (u : Int), mv_I 0, mv_I 0, mv_I (V 4 u), mv_I (V 5 u), mv_I (sp_bits (sp_pa V P g z u 4 u) m), mv_I (m : Int)]) (st' := [mv_I (u : Int), mv_R 103]) (M1 := (mv_st M 102 (mv_up (M 102) u (m : Int)))) rfl ?_
    refine mv_ffW (by first | decide | omega) ?_
    refine mv_goW 2 (pc' := if 0 ≤ (u : Int) ∧ (u : Int) < 6 then 101 else mv_bad) (ls' := [mv_R 100, mv_I (S : Int), mv_I (u : Int), mv_I 0, mv_I 0, mv_I (V 4 u), mv_I (V 5 u), mv_I (sp_bits (sp_pa V P g z u 4 u) m), mv_I (m : Int)]) (st' := []) (M1 := (mv_st (mv_st M 102 (mv_up (M 102) u (m : Int))) 103 (mv_up (M 103) u (V 5 u)))) rfl ?_
    refine mv_ttW (by omega) ?_
    have hmX : sp_m (mv_st (mv_st M 102 (mv_up (M 102) u (m : Int))) 103 (mv_up (M 103) u (V 5 u))) (sp_alt V 4 u (m : Int)) := by have q := sp_m_alt5 (i := u) (x := V 5 u) (sp_m_alt4 (i := u) (x := (m : Int)) hmv); rw [hVc (m : Int)] at q; have e : sp_alt (sp_alt V 4 u (m : Int)) 5 u (V 5 u) = sp_alt V 4 u (m : Int) := sp_alt_id (sp_alt V 4 u (m : Int)) 5 u; rw [e] at q; exact q
    have hagX : mv_ag [102, 103, 130, 131] M0 (mv_st (mv_st M 102 (mv_up (M 102) u (m : Int))) 103 (mv_up (M 103) u (V 5 u))) := (hag.st (by decide)).st (by decide)
    refine mv_goW 4 (pc' := 106) (ls' := [mv_R 100, mv_I (S : Int), mv_I (u : Int), mv_I 0, mv_I 0, mv_I (V 4 u), mv_I (V 5 u), mv_I (sp_bits (sp_pa V P g z u 4 u) m), mv_I (m : Int)]) (st' := [mv_I (u : Int), mv_I (S : Int), mv_R 100, mv_I (sp_bits (sp_pa V P g z u 4 u) m)]) (M1 := (mv_st (mv_st M 102 (mv_up (M 102) u (m : Int))) 103 (mv_up (M 103) u (V 5 u)))) rfl ?_
    refine mv_callW (st2 := [mv_I (sp_pa V P g z u 4 u m), mv_I (sp_bits (sp_pa V P g z u 4 u) m)]) rfl (Or.inl rfl) rfl rfl rfl (sp_mfa (V := V) (g := g) (u := u) (r := 4) (i := u) (x := m) hS hmX (sp_ok_alt4 ho (by omega)) hl (sp_mts_ag hP hagX (by decide)) hu (by rw [hagX _ (by decide)]; exact hz) hz8 (fun j hj => by rw [hagX _ (by decide)]; exact hg j hj)) (by first | decide | omega) (fun Ma13 hm14 => ?_)
    have hx := hm14
    refine mv_goW 2 (pc' := if (sp_pa V P g z u 4 u m) = (-1) then 113 else 120) (ls' := [mv_R 100, mv_I (S : Int), mv_I (u : Int), mv_I 0, mv_I 0, mv_I (V 4 u), mv_I (V 5 u), mv_I (sp_bits (sp_pa V P g z u 4 u) m), mv_I (m : Int)]) (st' := [mv_I (sp_bits (sp_pa V P g z u 4 u) m)]) (M1 := Ma13) rfl ?_
    refine mv_spW (fun ha15 => ?_) (fun ha15 => ?_)
    · refine mv_goW 8 (pc' := 50) (ls' := [mv_R 100, mv_I (S : Int), mv_I (u : Int), mv_I 0, mv_I 0, mv_I (V 4 u), mv_I (V 5 u), mv_I (mv_or (sp_bits (sp_pa V P g z u 4 u) m) (mv_shl 1 (m : Int))), mv_I (mv_w ((m : Int) + 1))]) (st' := []) (M1 := Ma13) rfl ?_
      rw [show mv_w ((m : Int) + 1) = (m : Int) + 1 from mv_w_id (by omega) (by omega)]
      rw [show (m : Int) + 1 = ((m + 1 : Nat) : Int) from by omega]
      refine mv_eqsW (ls2 := [mv_R 100, mv_I (S : Int), mv_I (u : Int), mv_I 0, mv_I 0, mv_I (V 4 u), mv_I (V 5 u), mv_I (sp_bits (sp_pa V P g z u 4 u) (m + 1)), mv_I (((m + 1 : Nat) : Int))]) (by rw [show mv_or (sp_bits (sp_pa V P g z u 4 u) m) (mv_shl 1 (m : Int)) = sp_bits (sp_pa V P g z u 4 u) (m + 1) from by (try rw [sp_bits_0]); simp only [sp_bits]; split <;> first | with_reducible rfl | omega]) rfl rfl (ih (m + 1) _ (sp_alt V 4 u (m : Int)) (by omega) (sp_m_ag hmX hx (by rw [hx 100 (by decide)]; exact ⟨rfl, rfl, rfl, rfl⟩) (by decide)) (sp_alt_alt V 4 u (m : Int)) (hagX.tr (hx.wd (by decide))))
    · refine mv_goW 5 (pc' := 50) (ls' := [mv_R 100, mv_I (S : Int), mv_I (u : Int), mv_I 0, mv_I 0, mv_I (V 4 u), mv_I (V 5 u), mv_I (mv_or (sp_bits (sp_pa V P g z u 4 u) m) 0), mv_I (mv_w ((m : Int) + 1))]) (st' := []) (M1 := Ma13) rfl ?_
      rw [show mv_w ((m : Int) + 1) = (m : Int) + 1 from mv_w_id (by omega) (by omega)]
      rw [show (m : Int) + 1 = ((m + 1 : Nat) : Int) from by omega]
      refine mv_eqsW (ls2 := [mv_R 100, mv_I (S : Int), mv_I (u : Int), mv_I 0, mv_I 0, mv_I (V 4 u), mv_I (V 5 u), mv_I (sp_bits (sp_pa V P g z u 4 u) (m + 1)), mv_I (((m + 1 : Nat) : Int))]) (by rw [show mv_or (sp_bits (sp_pa V P g z u 4 u) m) 0 = sp_bits (sp_pa V P g z u 4 u) (m + 1) from by (try rw [sp_bits_0]); simp only [sp_bits]; split <;> first | with_reducible rfl | omega]) rfl rfl (ih (m + 1) _ (sp_alt V 4 u (m : Int)) (by omega) (sp_m_ag hmX hx (by rw [hx 100 (by decide)]; exact ⟨rfl, rfl, rfl, rfl⟩) (by decide)) (sp_alt_alt V 4 u (m : Int)) (hagX.tr (hx.wd (by decide))))
theorem sp_k210_0 (a : Int) : sp_call 82 175 [mv_I 0, mv_I a, mv_I 0] [mv_I 0, mv_I a, mv_I 0] := by
  refine sp_mkW (lc := [mv_R 0, mv_I 0, mv_I a, mv_I 0, mv_U, mv_U, mv_U, mv_U]) (lm := [mv_R 100, mv_I 0, mv_I a, mv_I 0, mv_U, mv_U, mv_U, mv_U, mv_U]) rfl rfl (fun M hI => ?_)
  have hI2 := hI
  obtain ⟨V, P, nt, B, K, t, h⟩ := hI2
  have h' := h
  obtain ⟨⟨hc, hm, ho⟩, ⟨hy, hl, hn1, hn⟩, ⟨hct, hmt, hn7, hn12⟩, _⟩ := h'
  have h8 := sp_ok_s8 ho
  have h9 := sp_ok_s9 ho
  obtain ⟨so, sz, ⟨hs1, hs2, so0, so1⟩, ⟨hz1, hz2, sz0, sz1⟩, hcl⟩ := sp_sh_get h 0 (by decide)
  obtain ⟨z, rfl⟩ : ∃ x : Nat, sz = (x : Int) := ⟨sz.toNat, by omega⟩
  have hnz := sp_rfv_n so z (V 0 8)
  by_cases h0 : 0 ≤ a
  · obtain ⟨u, rfl⟩ : ∃ x : Nat, a = (x : Int) := ⟨a.toNat, by omega⟩
    refine mv_goW 3 (pc' := 3) (ls' := [mv_R 0, mv_I 0, mv_I (u : Int), mv_I 0, mv_U, mv_U, mv_U, mv_U]) (st' := [mv_I (u : Int), mv_I 0, mv_R 0]) (M1 := M) rfl ?_
    by_cases ha16 : (so ≠ -1 ∧ (z : Int) ≤ V 0 8) ∧ 0 ≤ (u : Int) ∧ (u : Int) < V 0 9
    · refine mv_callPW (st2 := [mv_I 0]) rfl (Or.inl rfl) rfl rfl rfl (sp_crj_0_t hc ho hs1 hz1 ha16) (by first | decide | omega) ?_
      refine mv_goW 3 (pc' := if 0 = 0 then 16 else 13) (ls' := [mv_R 0, mv_I 0, mv_I (u : Int), mv_I 0, mv_I 0, mv_U, mv_U, mv_U]) (st' := []) (M1 := M) rfl ?_
      refine mv_ttW (by first | decide | omega) ?_
      refine mv_goW 1 (pc' := 17) (ls' := [mv_R 0, mv_I 0, mv_I (u : Int), mv_I 0, mv_I 0, mv_U, mv_U, mv_U]) (st' := [mv_I 0]) (M1 := M) rfl ?_
      have ha17 : (0 : Int) = 0 ∨ (0 : Int) = 1 := by omega
      refine mv_callPW (st2 := [mv_I 1]) rfl (Or.inr rfl) rfl rfl rfl (sp_eith_t ha17) (by first | decide | omega) ?_
      refine mv_goW 1 (pc' := if 1 = 0 then 23 else 26) (ls' := [mv_R 0, mv_I 0, mv_I (u : Int), mv_I 0, mv_I 0, mv_U, mv_U, mv_U]) (st' := []) (M1 := M) rfl ?_
      refine mv_ffW (by first | decide | omega) ?_
      refine mv_goW 4 (pc' := 34) (ls' := [mv_R 0, mv_I 0, mv_I (u : Int), mv_I 0, mv_I 0, mv_U, mv_U, mv_U]) (st' := [mv_R 30, mv_R 50]) (M1 := M) rfl ?_
      refine mv_callW (st2 := []) rfl (Or.inl rfl) rfl rfl rfl (sp_become_50_30 hc (by omega) (by omega)) (by first | decide | omega) (fun Ma18 hm19 => ?_)
      have hb := hm19
      refine mv_goW 2 (pc' := if 0 = 0 then 41 else 51) (ls' := [mv_R 0, mv_I 0, mv_I (u : Int), mv_I 0, mv_I 0, mv_U, mv_U, mv_U]) (st' := []) (M1 := Ma18) rfl ?_
      refine mv_ttW (by first | decide | omega) ?_
      refine mv_goW 9 (pc' := 66) (ls' := [mv_R 0, mv_I 0, mv_I (u : Int), mv_I 0, mv_I 0, mv_R 54, mv_I 0, mv_I 0]) (st' := []) (M1 := Ma18) rfl ?_
      have huv : (u : Int) < V 0 9 := by omega
      have hzv : (z : Int) ≤ V 0 8 := by omega
      refine sp_ckd0_0 (d := 12) (V := V) (M0 := Ma18) (g := fun j => M 119 (40 * 0 + j)) ho hl hn (sp_cts_ag hct hb.1 hn (fun i h1 h2 => by simp only [List.mem_cons, List.not_mem_nil, or_false]; omega)) huv (by rw [hb.1 _ (by decide)]; exact hz1) hzv (fun j hj => by rw [hb.1 _ (by decide)]; exact hcl j (by omega)) (fun M2 hw => ?_) 6 0 Ma18 V (by omega) hb.2 (fun _ => rfl) mv_ag.rf
      have hw2 : mv_ag [36, 37, 50, 51, 52, 53, 54, 55, 56, 57] M M2 := (hb.1.wd (by decide)).tr (hw.wd (by decide))
      have hm := sp_m_ag2 hm hw2 (by decide)
      have hmt := sp_mts_ag hmt hw2 (by decide)
      have hs2 : M2 117 0 = so := by rw [hw2 117 (by decide)]; exact hs2
      have hz2 : M2 118 0 = (z : Int) := by rw [hw2 118 (by decide)]; exact hz2
      refine mv_goW 1 (pc' := 122) (ls' := [mv_R 0, mv_I 0, mv_I (u : Int), mv_I 0, mv_I 0, mv_R 54, mv_I (sp_bits (sp_pa V P (fun j => M 119 (40 * 0 + j)) z u 4 u) 6), mv_I 6]) (st' := [mv_I (sp_bits (sp_pa V P (fun j => M 119 (40 * 0 + j)) z u 4 u) 6)]) (M1 := M2) rfl ?_
      refine mv_retW (fun n => rfl) ⟨_, rfl, ?_⟩
      refine mv_goW 3 (pc' := 3) (ls' := [mv_R 100, mv_I 0, mv_I (u : Int), mv_I 0, mv_U, mv_U, mv_U, mv_U, mv_U]) (st' := [mv_I (u : Int), mv_I 0, mv_R 100]) (M1 := M2) rfl ?_
      have ha20 : (so ≠ -1 ∧ (z : Int) ≤ V 0 8) ∧ 0 ≤ (u : Int) ∧ (u : Int) < V 0 9 := by omega
      refine mv_callPW (st2 := [mv_I 0]) rfl (Or.inl rfl) rfl rfl rfl (sp_mrj_t (S := 0) (by decide) hm ho hs2 hz2 ha20) (by first | decide | omega) ?_
      refine mv_goW 3 (pc' := if 0 = 0 then 16 else 13) (ls' := [mv_R 100, mv_I 0, mv_I (u : Int), mv_I 0, mv_I 0, mv_U, mv_U, mv_U, mv_U]) (st' := []) (M1 := M2) rfl ?_
      refine mv_ttW (by first | decide | omega) ?_
      refine mv_goW 3 (pc' := 19) (ls' := [mv_R 100, mv_I 0, mv_I (u : Int), mv_I 0, mv_I 0, mv_U, mv_U, mv_U, mv_U]) (st' := [mv_I 1, mv_I 0, mv_I 0]) (M1 := M2) rfl ?_
      have ha21 : (0 : Int) ≤ (0 : Int) ∧ (0 : Int) ≤ (1 : Int) := by omega
      refine mv_callPW (st2 := [mv_I 1]) rfl (Or.inr rfl) rfl rfl rfl (sp_min_t ha21) (by first | decide | omega) ?_
      refine mv_goW 1 (pc' := if 1 = 0 then 25 else 28) (ls' := [mv_R 100, mv_I 0, mv_I (u : Int), mv_I 0, mv_I 0, mv_U, mv_U, mv_U, mv_U]) (st' := []) (M1 := M2) rfl ?_
      refine mv_ffW (by first | decide | omega) ?_
      refine mv_goW 4 (pc' := if 0 ≤ (u : Int) ∧ (u : Int) < 6 then 34 else mv_bad) (ls' := [mv_R 100, mv_I 0, mv_I (u : Int), mv_I 0, mv_I 0, mv_U, mv_U, mv_U, mv_U]) (st' := [mv_I (M2 102 u)]) (M1 := M2) rfl ?_
      refine mv_ttW (by omega) ?_
      have hr1 := sp_ok_4 ho u (by omega)
      rw [show M2 102 u = V 4 u from by exact sp_m_4 hm u (by omega)]
      refine mv_goW 5 (pc' := if 0 ≤ (u : Int) ∧ (u : Int) < 6 then 42 else mv_bad) (ls' := [mv_R 100, mv_I 0, mv_I (u : Int), mv_I 0, mv_I 0, mv_I (V 4 u), mv_U, mv_U, mv_U]) (st' := [mv_I (M2 103 u)]) (M1 := M2) rfl ?_
      refine mv_ttW (by omega) ?_
      have hr3 := sp_ok_5 ho u (by omega)
      rw [show M2 103 u = V 5 u from by exact sp_m_5 hm u (by omega)]
      refine mv_goW 5 (pc' := 50) (ls' := [mv_R 100, mv_I 0, mv_I (u : Int), mv_I 0, mv_I 0, mv_I (V 4 u), mv_I (V 5 u), mv_I 0, mv_I 0]) (st' := []) (M1 := M2) rfl ?_
      refine sp_mkd0 (d := 12) (V := V) (M0 := M2) (S := 0) (g := fun j => M 119 (40 * 0 + j)) ho hl hn hmt huv (by decide) hz2 hzv (fun j hj => by rw [hw2 119 (by decide)]) (fun M3 Vc hm3 hVc3 hy => ?_) 6 0 M2 V (by omega) hm (fun _ => rfl) mv_ag.rf
      refine mv_goW 5 (pc' := if 0 ≤ (u : Int) ∧ (u : Int) < 6 then 138 else mv_bad) (ls' := [mv_R 100, mv_I 0, mv_I (u : Int), mv_I 0, mv_I 0, mv_I (V 4 u), mv_I (V 5 u), mv_I (sp_bits (sp_pa V P (fun j => M 119 (40 * 0 + j)) z u 4 u) 6), mv_I 6]) (st' := []) (M1 := (mv_st M3 102 (mv_up (M3 102) u (V 4 u)))) rfl ?_
      refine mv_ttW (by omega) ?_
      refine mv_goW 5 (pc' := if 0 ≤ (u : Int) ∧ (u : Int) < 6 then 146 else mv_bad) (ls' := [mv_R 100, mv_I 0, mv_I (u : Int), mv_I 0, mv_I 0, mv_I (V 4 u), mv_I (V 5 u), mv_I (sp_bits (sp_pa V P (fun j => M 119 (40 * 0 + j)) z u 4 u) 6), mv_I 6]) (st' := []) (M1 := (mv_st (mv_st M3 102 (mv_up (M3 102) u (V 4 u))) 103 (mv_up (M3 103) u (V 5 u)))) rfl ?_
      refine mv_ttW (by omega) ?_
      refine mv_goW 1 (pc' := 148) (ls' := [mv_R 100, mv_I 0, mv_I (u : Int), mv_I 0, mv_I 0, mv_I (V 4 u), mv_I (V 5 u), mv_I (sp_bits (sp_pa V P (fun j => M 119 (40 * 0 + j)) z u 4 u) 6), mv_I 6]) (st' := [mv_I (sp_bits (sp_pa V P (fun j => M 119 (40 * 0 + j)) z u 4 u) 6)]) (M1 := (mv_st (mv_st M3 102 (mv_up (M3 102) u (V 4 u))) 103 (mv_up (M3 103) u (V 5 u)))) rfl ?_
      exact mv_retW (fun n => rfl) ⟨congrArg mv_I (by first | with_reducible rfl | omega), sp_bend h hw2 (((hy.wd (by decide)).st (by decide)).st (by decide)) (by have e : M3 100 = M2 100 := hy 100 (by decide); exact ⟨congrFun e 9, congrFun e 12, congrFun e 14⟩) (by have q := sp_m_alt5 (i := u) (x := V 5 u) (sp_m_alt4 (i := u) (x := V 4 u) hm3); rw [hVc3, sp_alt_id, sp_alt_id] at q; exact q)⟩
    · refine mv_callPW (st2 := [mv_I (sp_rfv so (z : Int) (V 0 8))]) rfl (Or.inl rfl) rfl rfl rfl (sp_crj_0_f hc ho hs1 hz1 ha16) (by first | decide | omega) ?_
      refine mv_goW 3 (pc' := if (sp_rfv so (z : Int) (V 0 8)) = 0 then 16 else 13) (ls' := [mv_R 0, mv_I 0, mv_I (u : Int), mv_I 0, mv_I (sp_rfv so (z : Int) (V 0 8)), mv_U, mv_U, mv_U]) (st' := []) (M1 := M) rfl ?_
      refine mv_ffW (by omega) ?_
      refine mv_goW 1 (pc' := 15) (ls' := [mv_R 0, mv_I 0, mv_I (u : Int), mv_I 0, mv_I (sp_rfv so (z : Int) (V 0 8)), mv_U, mv_U, mv_U]) (st' := [mv_I (sp_rfv so (z : Int) (V 0 8))]) (M1 := M) rfl ?_
      refine mv_retW (fun n => rfl) ⟨_, rfl, ?_⟩
      refine mv_goW 3 (pc' := 3) (ls' := [mv_R 100, mv_I 0, mv_I (u : Int), mv_I 0, mv_U, mv_U, mv_U, mv_U, mv_U]) (st' := [mv_I (u : Int), mv_I 0, mv_R 100]) (M1 := M) rfl ?_
      have ha22 : ¬ ((so ≠ -1 ∧ (z : Int) ≤ V 0 8) ∧ 0 ≤ (u : Int) ∧ (u : Int) < V 0 9) := by omega
      refine mv_callPW (st2 := [mv_I (sp_rfv so (z : Int) (V 0 8))]) rfl (Or.inl rfl) rfl rfl rfl (sp_mrj_f (S := 0) (by decide) hm ho hs2 hz2 ha22) (by first | decide | omega) ?_
      refine mv_goW 3 (pc' := if (sp_rfv so (z : Int) (V 0 8)) = 0 then 16 else 13) (ls' := [mv_R 100, mv_I 0, mv_I (u : Int), mv_I 0, mv_I (sp_rfv so (z : Int) (V 0 8)), mv_U, mv_U, mv_U, mv_U]) (st' := []) (M1 := M) rfl ?_
      refine mv_ffW (by omega) ?_
      refine mv_goW 1 (pc' := 15) (ls' := [mv_R 100, mv_I 0, mv_I (u : Int), mv_I 0, mv_I (sp_rfv so (z : Int) (V 0 8)), mv_U, mv_U, mv_U, mv_U]) (st' := [mv_I (sp_rfv so (z : Int) (V 0 8))]) (M1 := M) rfl ?_
      exact mv_retW (fun n => rfl) ⟨congrArg mv_I (by first | with_reducible rfl | omega), hI⟩
  · refine mv_goW 3 (pc' := 3) (ls' := [mv_R 0, mv_I 0, mv_I a, mv_I 0, mv_U, mv_U, mv_U, mv_U]) (st' := [mv_I a, mv_I 0, mv_R 0]) (M1 := M) rfl ?_
    have ha23 : ¬ ((so ≠ -1 ∧ (z : Int) ≤ V 0 8) ∧ 0 ≤ a ∧ a < V 0 9) := by omega
    refine mv_callPW (st2 := [mv_I (sp_rfv so (z : Int) (V 0 8))]) rfl (Or.inl rfl) rfl rfl rfl (sp_crj_0_f hc ho hs1 hz1 ha23) (by first | decide | omega) ?_
    refine mv_goW 3 (pc' := if (sp_rfv so (z : Int) (V 0 8)) = 0 then 16 else 13) (ls' := [mv_R 0, mv_I 0, mv_I a, mv_I 0, mv_I (sp_rfv so (z : Int) (V 0 8)), mv_U, mv_U, mv_U]) (st' := []) (M1 := M) rfl ?_
    refine mv_ffW (by omega) ?_
    refine mv_goW 1 (pc' := 15) (ls' := [mv_R 0, mv_I 0, mv_I a, mv_I 0, mv_I (sp_rfv so (z : Int) (V 0 8)), mv_U, mv_U, mv_U]) (st' := [mv_I (sp_rfv so (z : Int) (V 0 8))]) (M1 := M) rfl ?_
    refine mv_retW (fun n => rfl) ⟨_, rfl, ?_⟩
    refine mv_goW 3 (pc' := 3) (ls' := [mv_R 100, mv_I 0, mv_I a, mv_I 0, mv_U, mv_U, mv_U, mv_U, mv_U]) (st' := [mv_I a, mv_I 0, mv_R 100]) (M1 := M) rfl ?_
    have ha24 : ¬ ((so ≠ -1 ∧ (z : Int) ≤ V 0 8) ∧ 0 ≤ a ∧ a < V 0 9) := by omega
    refine mv_callPW (st2 := [mv_I (sp_rfv so (z : Int) (V 0 8))]) rfl (Or.inl rfl) rfl rfl rfl (sp_mrj_f (S := 0) (by decide) hm ho hs2 hz2 ha24) (by first | decide | omega) ?_
    refine mv_goW 3 (pc' := if (sp_rfv so (z : Int) (V 0 8)) = 0 then 16 else 13) (ls' := [mv_R 100, mv_I 0, mv_I a, mv_I 0, mv_I (sp_rfv so (z : Int) (V 0 8)), mv_U, mv_U, mv_U, mv_U]) (st' := []) (M1 := M) rfl ?_
    refine mv_ffW (by omega) ?_
    refine mv_goW 1 (pc' := 15) (ls' := [mv_R 100, mv_I 0, mv_I a, mv_I 0, mv_I (sp_rfv so (z : Int) (V 0 8)), mv_U, mv_U, mv_U, mv_U]) (st' := [mv_I (sp_rfv so (z : Int) (V 0 8))]) (M1 := M) rfl ?_
    exact mv_retW (fun n => rfl) ⟨congrArg mv_I (by first | with_reducible rfl | omega), hI⟩
theorem sp_k210_1 (a : Int) : sp_call 82 175 [mv_I 1, mv_I a, mv_I 0] [mv_I 1, mv_I a, mv_I 0] := by
  refine sp_mkW (lc := [mv_R 0, mv_I 1, mv_I a, mv_I 0, mv_U, mv_U, mv_U, mv_U]) (lm := [mv_R 100, mv_I 1, mv_I a, mv_I 0, mv_U, mv_U, mv_U, mv_U, mv_U]) rfl rfl (fun M hI => ?_)
  have hI2 := hI
  obtain ⟨V, P, nt, B, K, t, h⟩ := hI2
  have h' := h
  obtain ⟨⟨hc, hm, ho⟩, ⟨hy, hl, hn1, hn⟩, ⟨hct, hmt, hn7, hn12⟩, _⟩ := h'
  have h8 := sp_ok_s8 ho
  have h9 := sp_ok_s9 ho
  obtain ⟨so, sz, ⟨hs1, hs2, so0, so1⟩, ⟨hz1, hz2, sz0, sz1⟩, hcl⟩ := sp_sh_get h 1 (by decide)
  obtain ⟨z, rfl⟩ : ∃ x : Nat, sz = (x : Int) := ⟨sz.toNat, by omega⟩
  have hnz := sp_rfv_n so z (V 0 8)
  by_cases h0 : 0 ≤ a
  · obtain ⟨u, rfl⟩ : ∃ x : Nat, a = (x : Int) := ⟨a.toNat, by omega⟩
    refine mv_goW 3 (pc' := 3) (ls' := [mv_R 0, mv_I 1, mv_I (u : Int), mv_I 0, mv_U, mv_U, mv_U, mv_U]) (st' := [mv_I (u : Int), mv_I 1, mv_R 0]) (M1 := M) rfl ?_
    by_cases ha25 : (so ≠ -1 ∧ (z : Int) ≤ V 0 8) ∧ 0 ≤ (u : Int) ∧ (u : Int) < V 0 9
    · refine mv_callPW (st2 := [mv_I 0]) rfl (Or.inl rfl) rfl rfl rfl (sp_crj_1_t hc ho hs1 hz1 ha25) (by first | decide | omega) ?_
      refine mv_goW 3 (pc' := if 0 = 0 then 16 else 13) (ls' := [mv_R 0, mv_I 1, mv_I (u : Int), mv_I 0, mv_I 0, mv_U, mv_U, mv_U]) (st' := []) (M1 := M) rfl ?_
      refine mv_ttW (by first | decide | omega) ?_
      refine mv_goW 1 (pc' := 17) (ls' := [mv_R 0, mv_I 1, mv_I (u : Int), mv_I 0, mv_I 0, mv_U, mv_U, mv_U]) (st' := [mv_I 0]) (M1 := M) rfl ?_
      have ha26 : (0 : Int) = 0 ∨ (0 : Int) = 1 := by omega
      refine mv_callPW (st2 := [mv_I 1]) rfl (Or.inr rfl) rfl rfl rfl (sp_eith_t ha26) (by first | decide | omega) ?_
      refine mv_goW 1 (pc' := if 1 = 0 then 23 else 26) (ls' := [mv_R 0, mv_I 1, mv_I (u : Int), mv_I 0, mv_I 0, mv_U, mv_U, mv_U]) (st' := []) (M1 := M) rfl ?_
      refine mv_ffW (by first | decide | omega) ?_
      refine mv_goW 4 (pc' := 34) (ls' := [mv_R 0, mv_I 1, mv_I (u : Int), mv_I 0, mv_I 0, mv_U, mv_U, mv_U]) (st' := [mv_R 30, mv_R 50]) (M1 := M) rfl ?_
      refine mv_callW (st2 := []) rfl (Or.inl rfl) rfl rfl rfl (sp_become_50_30 hc (by omega) (by omega)) (by first | decide | omega) (fun Ma27 hm28 => ?_)
      have hb := hm28
      refine mv_goW 2 (pc' := if 0 = 0 then 41 else 51) (ls' := [mv_R 0, mv_I 1, mv_I (u : Int), mv_I 0, mv_I 0, mv_U, mv_U, mv_U]) (st' := []) (M1 := Ma27) rfl ?_
      refine mv_ttW (by first | decide | omega) ?_
      refine mv_goW 9 (pc' := 66) (ls' := [mv_R 0, mv_I 1, mv_I (u : Int), mv_I 0, mv_I 0, mv_R 54, mv_I 0, mv_I 0]) (st' := []) (M1 := Ma27) rfl ?_
      have huv : (u : Int) < V 0 9 := by omega
      have hzv : (z : Int) ≤ V 0 8 := by omega
      refine sp_ckd0_1 (d := 12) (V := V) (M0 := Ma27) (g := fun j => M 119 (40 * 1 + j)) ho hl hn (sp_cts_ag hct hb.1 hn (fun i h1 h2 => by simp only [List.mem_cons, List.not_mem_nil, or_false]; omega)) huv (by rw [hb.1 _ (by decide)]; exact hz1) hzv (fun j hj => by rw [hb.1 _ (by decide)]; exact hcl j (by omega)) (fun M2 hw => ?_) 6 0 Ma27 V (by omega) hb.2 (fun _ => rfl) mv_ag.rf
      have hw2 : mv_ag [36, 37, 50, 51, 52, 53, 54, 55, 56, 57] M M2 := (hb.1.wd (by decide)).tr (hw.wd (by decide))
      have hm := sp_m_ag2 hm hw2 (by decide)
      have hmt := sp_mts_ag hmt hw2 (by decide)
      have hs2 : M2 117 1 = so := by rw [hw2 117 (by decide)]; exact hs2
      have hz2 : M2 118 1 = (z : Int) := by rw [hw2 118 (by decide)]; exact hz2
      refine mv_goW 1 (pc' := 122) (ls' := [mv_R 0, mv_I 1, mv_I (u : Int), mv_I 0, mv_I 0, mv_R 54, mv_I (sp_bits (sp_pa V P (fun j => M 119 (40 * 1 + j)) z u 4 u) 6), mv_I 6]) (st' := [mv_I (sp_bits (sp_pa V P (fun j => M 119 (40 * 1 + j)) z u 4 u) 6)]) (M1 := M2) rfl ?_
      refine mv_retW (fun n => rfl) ⟨_, rfl, ?_⟩
      refine mv_goW 3 (pc' := 3) (ls' := [mv_R 100, mv_I 1, mv_I (u : Int), mv_I 0, mv_U, mv_U, mv_U, mv_U, mv_U]) (st' := [mv_I (u : Int), mv_I 1, mv_R 100]) (M1 := M2) rfl ?_
      have ha29 : (so ≠ -1 ∧ (z : Int) ≤ V 0 8) ∧ 0 ≤ (u : Int) ∧ (u : Int) < V 0 9 := by omega
      refine mv_callPW (st2 := [mv_I 0]) rfl (Or.inl rfl) rfl rfl rfl (sp_mrj_t (S := 1) (by decide) hm ho hs2 hz2 ha29) (by first | decide | omega) ?_
      refine mv_goW 3 (pc' := if 0 = 0 then 16 else 13) (ls' := [mv_R 100, mv_I 1, mv_I (u : Int), mv_I 0, mv_I 0, mv_U, mv_U, mv_U, mv_U]) (st' := []) (M1 := M2) rfl ?_
      refine mv_ttW (by first | decide | omega) ?_
      refine mv_goW 3 (pc' := 19) (ls' := [mv_R 100, mv_I 1, mv_I (u : Int), mv_I 0, mv_I 0, mv_U, mv_U, mv_U, mv_U]) (st' := [mv_I 1, mv_I 0, mv_I 0]) (M1 := M2) rfl ?_
      have ha30 : (0 : Int) ≤ (0 : Int) ∧ (0 : Int) ≤ (1 : Int) := by omega
      refine mv_callPW (st2 := [mv_I 1]) rfl (Or.inr rfl) rfl rfl rfl (sp_min_t ha30) (by first | decide | omega) ?_
      refine mv_goW 1 (pc' := if 1 = 0 then 25 else 28) (ls' := [mv_R 100, mv_I 1, mv_I (u : Int), mv_I 0, mv_I 0, mv_U, mv_U, mv_U, mv_U]) (st' := []) (M1 := M2) rfl ?_
      refine mv_ffW (by first | decide | omega) ?_
      refine mv_goW 4 (pc' := if 0 ≤ (u : Int) ∧ (u : Int) < 6 then 34 else mv_bad) (ls' := [mv_R 100, mv_I 1, mv_I (u : Int), mv_I 0, mv_I 0, mv_U, mv_U, mv_U, mv_U]) (st' := [mv_I (M2 102 u)]) (M1 := M2) rfl ?_
      refine mv_ttW (by omega) ?_
      have hr5 := sp_ok_4 ho u (by omega)
      rw [show M2 102 u = V 4 u from by exact sp_m_4 hm u (by omega)]
      refine mv_goW 5 (pc' := if 0 ≤ (u : Int) ∧ (u : Int) < 6 then 42 else mv_bad) (ls' := [mv_R 100, mv_I 1, mv_I (u : Int), mv_I 0, mv_I 0, mv_I (V 4 u), mv_U, mv_U, mv_U]) (st' := [mv_I (M2 103 u)]) (M1 := M2) rfl ?_
      refine mv_ttW (by omega) ?_
      have hr7 := sp_ok_5 ho u (by omega)
      rw [show M2 103 u = V 5 u from by exact sp_m_5 hm u (by omega)]
      refine mv_goW 5 (pc' := 50) (ls' := [mv_R 100, mv_I 1, mv_I (u : Int), mv_I 0, mv_I 0, mv_I (V 4 u), mv_I (V 5 u), mv_I 0, mv_I 0]) (st' := []) (M1 := M2) rfl ?_
      refine sp_mkd0 (d := 12) (V := V) (M0 := M2) (S := 1) (g := fun j => M 119 (40 * 1 + j)) ho hl hn hmt huv (by decide) hz2 hzv (fun j hj => by rw [hw2 119 (by decide)]) (fun M3 Vc hm3 hVc3 hy => ?_) 6 0 M2 V (by omega) hm (fun _ => rfl) mv_ag.rf
      refine mv_goW 5 (pc' := if 0 ≤ (u : Int) ∧ (u : Int) < 6 then 138 else mv_bad) (ls' := [mv_R 100, mv_I 1, mv_I (u : Int), mv_I 0, mv_I 0, mv_I (V 4 u), mv_I (V 5 u), mv_I (sp_bits (sp_pa V P (fun j => M 119 (40 * 1 + j)) z u 4 u) 6), mv_I 6]) (st' := []) (M1 := (mv_st M3 102 (mv_up (M3 102) u (V 4 u)))) rfl ?_
      refine mv_ttW (by omega) ?_
      refine mv_goW 5 (pc' := if 0 ≤ (u : Int) ∧ (u : Int) < 6 then 146 else mv_bad) (ls' := [mv_R 100, mv_I 1, mv_I (u : Int), mv_I 0, mv_I 0, mv_I (V 4 u), mv_I (V 5 u), mv_I (sp_bits (sp_pa V P (fun j => M 119 (40 * 1 + j)) z u 4 u) 6), mv_I 6]) (st' := []) (M1 := (mv_st (mv_st M3 102 (mv_up (M3 102) u (V 4 u))) 103 (mv_up (M3 103) u (V 5 u)))) rfl ?_
      refine mv_ttW (by omega) ?_
      refine mv_goW 1 (pc' := 148) (ls' := [mv_R 100, mv_I 1, mv_I (u : Int), mv_I 0, mv_I 0, mv_I (V 4 u), mv_I (V 5 u), mv_I (sp_bits (sp_pa V P (fun j => M 119 (40 * 1 + j)) z u 4 u) 6), mv_I 6]) (st' := [mv_I (sp_bits (sp_pa V P (fun j => M 119 (40 * 1 + j)) z u 4 u) 6)]) (M1 := (mv_st (mv_st M3 102 (mv_up (M3 102) u (V 4 u))) 103 (mv_up (M3 103) u (V 5 u)))) rfl ?_
      exact mv_retW (fun n => rfl) ⟨congrArg mv_I (by first | with_reducible rfl | omega), sp_bend h hw2 (((hy.wd (by decide)).st (by decide)).st (by decide)) (by have e : M3 100 = M2 100 := hy 100 (by decide); exact ⟨congrFun e 9, congrFun e 12, congrFun e 14⟩) (by have q := sp_m_alt5 (i := u) (x := V 5 u) (sp_m_alt4 (i := u) (x := V 4 u) hm3); rw [hVc3, sp_alt_id, sp_alt_id] at q; exact q)⟩
    · refine mv_callPW (st2 := [mv_I (sp_rfv so (z : Int) (V 0 8))]) rfl (Or.inl rfl) rfl rfl rfl (sp_crj_1_f hc ho hs1 hz1 ha25) (by first | decide | omega) ?_
      refine mv_goW 3 (pc' := if (sp_rfv so (z : Int) (V 0 8)) = 0 then 16 else 13) (ls' := [mv_R 0, mv_I 1, mv_I (u : Int), mv_I 0, mv_I (sp_rfv so (z : Int) (V 0 8)), mv_U, mv_U, mv_U]) (st' := []) (M1 := M) rfl ?_
      refine mv_ffW (by omega) ?_
      refine mv_goW 1 (pc' := 15) (ls' := [mv_R 0, mv_I 1, mv_I (u : Int), mv_I 0, mv_I (sp_rfv so (z : Int) (V 0 8)), mv_U, mv_U, mv_U]) (st' := [mv_I (sp_rfv so (z : Int) (V 0 8))]) (M1 := M) rfl ?_
      refine mv_retW (fun n => rfl) ⟨_, rfl, ?_⟩
      refine mv_goW 3 (pc' := 3) (ls' := [mv_R 100, mv_I 1, mv_I (u : Int), mv_I 0, mv_U, mv_U, mv_U, mv_U, mv_U]) (st' := [mv_I (u : Int), mv_I 1, mv_R 100]) (M1 := M) rfl ?_
      have ha31 : ¬ ((so ≠ -1 ∧ (z : Int) ≤ V 0 8) ∧ 0 ≤ (u : Int) ∧ (u : Int) < V 0 9) := by omega
      refine mv_callPW (st2 := [mv_I (sp_rfv so (z : Int) (V 0 8))]) rfl (Or.inl rfl) rfl rfl rfl (sp_mrj_f (S := 1) (by decide) hm ho hs2 hz2 ha31) (by first | decide | omega) ?_
      refine mv_goW 3 (pc' := if (sp_rfv so (z : Int) (V 0 8)) = 0 then 16 else 13) (ls' := [mv_R 100, mv_I 1, mv_I (u : Int), mv_I 0, mv_I (sp_rfv so (z : Int) (V 0 8)), mv_U, mv_U, mv_U, mv_U]) (st' := []) (M1 := M) rfl ?_
      refine mv_ffW (by omega) ?_
      refine mv_goW 1 (pc' := 15) (ls' := [mv_R 100, mv_I 1, mv_I (u : Int), mv_I 0, mv_I (sp_rfv so (z : Int) (V 0 8)), mv_U, mv_U, mv_U, mv_U]) (st' := [mv_I (sp_rfv so (z : Int) (V 0 8))]) (M1 := M) rfl ?_
      exact mv_retW (fun n => rfl) ⟨congrArg mv_I (by first | with_reducible rfl | omega), hI⟩
  · refine mv_goW 3 (pc' := 3) (ls' := [mv_R 0, mv_I 1, mv_I a, mv_I 0, mv_U, mv_U, mv_U, mv_U]) (st' := [mv_I a, mv_I 1, mv_R 0]) (M1 := M) rfl ?_
    have ha32 : ¬ ((so ≠ -1 ∧ (z : Int) ≤ V 0 8) ∧ 0 ≤ a ∧ a < V 0 9) := by omega
    refine mv_callPW (st2 := [mv_I (sp_rfv so (z : Int) (V 0 8))]) rfl (Or.inl rfl) rfl rfl rfl (sp_crj_1_f hc ho hs1 hz1 ha32) (by first | decide | omega) ?_
    refine mv_goW 3 (pc' := if (sp_rfv so (z : Int) (V 0 8)) = 0 then 16 else 13) (ls' := [mv_R 0, mv_I 1, mv_I a, mv_I 0, mv_I (sp_rfv so (z : Int) (V 0 8)), mv_U, mv_U, mv_U]) (st' := []) (M1 := M) rfl ?_
    refine mv_ffW (by omega) ?_
    refine mv_goW 1 (pc' := 15) (ls' := [mv_R 0, mv_I 1, mv_I a, mv_I 0, mv_I (sp_rfv so (z : Int) (V 0 8)), mv_U, mv_U, mv_U]) (st' := [mv_I (sp_rfv so (z : Int) (V 0 8))]) (M1 := M) rfl ?_
    refine mv_retW (fun n => rfl) ⟨_, rfl, ?_⟩
    refine mv_goW 3 (pc' := 3) (ls' := [mv_R 100, mv_I 1, mv_I a, mv_I 0, mv_U, mv_U, mv_U, mv_U, mv_U]) (st' := [mv_I a, mv_I 1, mv_R 100]) (M1 := M) rfl ?_
    have ha33 : ¬ ((so ≠ -1 ∧ (z : Int) ≤ V 0 8) ∧ 0 ≤ a ∧ a < V 0 9) := by omega
    refine mv_callPW (st2 := [mv_I (sp_rfv so (z : Int) (V 0 8))]) rfl (Or.inl rfl) rfl rfl rfl (sp_mrj_f (S := 1) (by decide) hm ho hs2 hz2 ha33) (by first | decide | omega) ?_
    refine mv_goW 3 (pc' := if (sp_rfv so (z : Int) (V 0 8)) = 0 then 16 else 13) (ls' := [mv_R 100, mv_I 1, mv_I a, mv_I 0, mv_I (sp_rfv so (z : Int) (V 0 8)), mv_U, mv_U, mv_U, mv_U]) (st' := []) (M1 := M) rfl ?_
    refine mv_ffW (by omega) ?_
    refine mv_goW 1 (pc' := 15) (ls' := [mv_R 100, mv_I 1, mv_I a, mv_I 0, mv_I (sp_rfv so (z : Int) (V 0 8)), mv_U, mv_U, mv_U, mv_U]) (st' := [mv_I (sp_rfv so (z : Int) (V 0 8))]) (M1 := M) rfl ?_
    exact mv_retW (fun n => rfl) ⟨congrArg mv_I (by first | with_reducible rfl | omega), hI⟩
theorem sp_k210_2 (a : Int) : sp_call 82 175 [mv_I 2, mv_I a, mv_I 0] [mv_I 2, mv_I a, mv_I 0] := by
  refine sp_mkW (lc := [mv_R 0, mv_I 2, mv_I a, mv_I 0, mv_U, mv_U, mv_U, mv_U]) (lm := [mv_R 100, mv_I 2, mv_I a, mv_I 0, mv_U, mv_U, mv_U, mv_U, mv_U]) rfl rfl (fun M hI => ?_)
  have hI2 := hI
  obtain ⟨V, P, nt, B, K, t, h⟩ := hI2
  have h' := h
  obtain ⟨⟨hc, hm, ho⟩, ⟨hy, hl, hn1, hn⟩, ⟨hct, hmt, hn7, hn12⟩, _⟩ := h'
  have h8 := sp_ok_s8 ho
  have h9 := sp_ok_s9 ho
  obtain ⟨so, sz, ⟨hs1, hs2, so0, so1⟩, ⟨hz1, hz2, sz0, sz1⟩, hcl⟩ := sp_sh_get h 2 (by decide)
  obtain ⟨z, rfl⟩ : ∃ x : Nat, sz = (x : Int) := ⟨sz.toNat, by omega⟩
  have hnz := sp_rfv_n so z (V 0 8)
  by_cases h0 : 0 ≤ a
  · obtain ⟨u, rfl⟩ : ∃ x : Nat, a = (x : Int) := ⟨a.toNat, by omega⟩
    refine mv_goW 3 (pc' := 3) (ls' := [mv_R 0, mv_I 2, mv_I (u : Int), mv_I 0, mv_U, mv_U, mv_U, mv_U]) (st' := [mv_I (u : Int), mv_I 2, mv_R 0]) (M1 := M) rfl ?_
    by_cases ha34 : (so ≠ -1 ∧ (z : Int) ≤ V 0 8) ∧ 0 ≤ (u : Int) ∧ (u : Int) < V 0 9
    · refine mv_callPW (st2 := [mv_I 0]) rfl (Or.inl rfl) rfl rfl rfl (sp_crj_2_t hc ho hs1 hz1 ha34) (by first | decide | omega) ?_
      refine mv_goW 3 (pc' := if 0 = 0 then 16 else 13) (ls' := [mv_R 0, mv_I 2, mv_I (u : Int), mv_I 0, mv_I 0, mv_U, mv_U, mv_U]) (st' := []) (M1 := M) rfl ?_
      refine mv_ttW (by first | decide | omega) ?_
      refine mv_goW 1 (pc' := 17) (ls' := [mv_R 0, mv_I 2, mv_I (u : Int), mv_I 0, mv_I 0, mv_U, mv_U, mv_U]) (st' := [mv_I 0]) (M1 := M) rfl ?_
      have ha35 : (0 : Int) = 0 ∨ (0 : Int) = 1 := by omega
      refine mv_callPW (st2 := [mv_I 1]) rfl (Or.inr rfl) rfl rfl rfl (sp_eith_t ha35) (by first | decide | omega) ?_
      refine mv_goW 1 (pc' := if 1 = 0 then 23 else 26) (ls' := [mv_R 0, mv_I 2, mv_I (u : Int), mv_I 0, mv_I 0, mv_U, mv_U, mv_U]) (st' := []) (M1 := M) rfl ?_
      refine mv_ffW (by first | decide | omega) ?_
      refine mv_goW 4 (pc' := 34) (ls' := [mv_R 0, mv_I 2, mv_I (u : Int), mv_I 0, mv_I 0, mv_U, mv_U, mv_U]) (st' := [mv_R 30, mv_R 50]) (M1 := M) rfl ?_
      refine mv_callW (st2 := []) rfl (Or.inl rfl) rfl rfl rfl (sp_become_50_30 hc (by omega) (by omega)) (by first | decide | omega) (fun Ma36 hm37 => ?_)
      have hb := hm37
      refine mv_goW 2 (pc' := if 0 = 0 then 41 else 51) (ls' := [mv_R 0, mv_I 2, mv_I (u : Int), mv_I 0, mv_I 0, mv_U, mv_U, mv_U]) (st' := []) (M1 := Ma36) rfl ?_
      refine mv_ttW (by first | decide | omega) ?_
      refine mv_goW 9 (pc' := 66) (ls' := [mv_R 0, mv_I 2, mv_I (u : Int), mv_I 0, mv_I 0, mv_R 54, mv_I 0, mv_I 0]) (st' := []) (M1 := Ma36) rfl ?_
      have huv : (u : Int) < V 0 9 := by omega
      have hzv : (z : Int) ≤ V 0 8 := by omega
      refine sp_ckd0_2 (d := 12) (V := V) (M0 := Ma36) (g := fun j => M 119 (40 * 2 + j)) ho hl hn (sp_cts_ag hct hb.1 hn (fun i h1 h2 => by simp only [List.mem_cons, List.not_mem_nil, or_false]; omega)) huv (by rw [hb.1 _ (by decide)]; exact hz1) hzv (fun j hj => by rw [hb.1 _ (by decide)]; exact hcl j (by omega)) (fun M2 hw => ?_) 6 0 Ma36 V (by omega) hb.2 (fun _ => rfl) mv_ag.rf
      have hw2 : mv_ag [36, 37, 50, 51, 52, 53, 54, 55, 56, 57] M M2 := (hb.1.wd (by decide)).tr (hw.wd (by decide))
      have hm := sp_m_ag2 hm hw2 (by decide)
      have hmt := sp_mts_ag hmt hw2 (by decide)
      have hs2 : M2 117 2 = so := by rw [hw2 117 (by decide)]; exact hs2
      have hz2 : M2 118 2 = (z : Int) := by rw [hw2 118 (by decide)]; exact hz2
      refine mv_goW 1 (pc' := 122) (ls' := [mv_R 0, mv_I 2, mv_I (u : Int), mv_I 0, mv_I 0, mv_R 54, mv_I (sp_bits (sp_pa V P (fun j => M 119 (40 * 2 + j)) z u 4 u) 6), mv_I 6]) (st' := [mv_I (sp_bits (sp_pa V P (fun j => M 119 (40 * 2 + j)) z u 4 u) 6)]) (M1 := M2) rfl ?_
      refine mv_retW (fun n => rfl) ⟨_, rfl, ?_⟩
      refine mv_goW 3 (pc' := 3) (ls' := [mv_R 100, mv_I 2, mv_I (u : Int), mv_I 0, mv_U, mv_U, mv_U, mv_U, mv_U]) (st' := [mv_I (u : Int), mv_I 2, mv_R 100]) (M1 := M2) rfl ?_
      have ha38 : (so ≠ -1 ∧ (z : Int) ≤ V 0 8) ∧ 0 ≤ (u : Int) ∧ (u : Int) < V 0 9 := by omega
      refine mv_callPW (st2 := [mv_I 0]) rfl (Or.inl rfl) rfl rfl rfl (sp_mrj_t (S := 2) (by decide) hm ho hs2 hz2 ha38) (by first | decide | omega) ?_
      refine mv_goW 3 (pc' := if 0 = 0 then 16 else 13) (ls' := [mv_R 100, mv_I 2, mv_I (u : Int), mv_I 0, mv_I 0, mv_U, mv_U, mv_U, mv_U]) (st' := []) (M1 := M2) rfl ?_
      refine mv_ttW (by first | decide | omega) ?_
      refine mv_goW 3 (pc' := 19) (ls' := [mv_R 100, mv_I 2, mv_I (u : Int), mv_I 0, mv_I 0, mv_U, mv_U, mv_U, mv_U]) (st' := [mv_I 1, mv_I 0, mv_I 0]) (M1 := M2) rfl ?_
      have ha39 : (0 : Int) ≤ (0 : Int) ∧ (0 : Int) ≤ (1 : Int) := by omega
      refine mv_callPW (st2 := [mv_I 1]) rfl (Or.inr rfl) rfl rfl rfl (sp_min_t ha39) (by first | decide | omega) ?_
      refine mv_goW 1 (pc' := if 1 = 0 then 25 else 28) (ls' := [mv_R 100, mv_I 2, mv_I (u : Int), mv_I 0, mv_I 0, mv_U, mv_U, mv_U, mv_U]) (st' := []) (M1 := M2) rfl ?_
      refine mv_ffW (by first | decide | omega) ?_
      refine mv_goW 4 (pc' := if 0 ≤ (u : Int) ∧ (u : Int) < 6 then 34 else mv_bad) (ls' := [mv_R 100, mv_I 2, mv_I (u : Int), mv_I 0, mv_I 0, mv_U, mv_U, mv_U, mv_U]) (st' := [mv_I (M2 102 u)]) (M1 := M2) rfl ?_
      refine mv_ttW (by omega) ?_
      have hr9 := sp_ok_4 ho u (by omega)
      rw [show M2 102 u = V 4 u from by exact sp_m_4 hm u (by omega)]
      refine mv_goW 5 (pc' := if 0 ≤ (u : Int) ∧ (u : Int) < 6 then 42 else mv_bad) (ls' := [mv_R 100, mv_I 2, mv_I (u : Int), mv_I 0, mv_I 0, mv_I (V 4 u), mv_U, mv_U, mv_U]) (st' := [mv_I (M2 103 u)]) (M1 := M2) rfl ?_
      refine mv_ttW (by omega) ?_
      have hr11 := sp_ok_5 ho u (by omega)
      rw [show M2 103 u = V 5 u from by exact sp_m_5 hm u (by omega)]
      refine mv_goW 5 (pc' := 50) (ls' := [mv_R 100, mv_I 2, mv_I (u : Int), mv_I 0, mv_I 0, mv_I (V 4 u), mv_I (V 5 u), mv_I 0, mv_I 0]) (st' := []) (M1 := M2) rfl ?_
      refine sp_mkd0 (d := 12) (V := V) (M0 := M2) (S := 2) (g := fun j => M 119 (40 * 2 + j)) ho hl hn hmt huv (by decide) hz2 hzv (fun j hj => by rw [hw2 119 (by decide)]) (fun M3 Vc hm3 hVc3 hy => ?_) 6 0 M2 V (by omega) hm (fun _ => rfl) mv_ag.rf
      refine mv_goW 5 (pc' := if 0 ≤ (u : Int) ∧ (u : Int) < 6 then 138 else mv_bad) (ls' := [mv_R 100, mv_I 2, mv_I (u : Int), mv_I 0, mv_I 0, mv_I (V 4 u), mv_I (V 5 u), mv_I (sp_bits (sp_pa V P (fun j => M 119 (40 * 2 + j)) z u 4 u) 6), mv_I 6]) (st' := []) (M1 := (mv_st M3 102 (mv_up (M3 102) u (V 4 u)))) rfl ?_
      refine mv_ttW (by omega) ?_
      refine mv_goW 5 (pc' := if 0 ≤ (u : Int) ∧ (u : Int) < 6 then 146 else mv_bad) (ls' := [mv_R 100, mv_I 2, mv_I (u : Int), mv_I 0, mv_I 0, mv_I (V 4 u), mv_I (V 5 u), mv_I (sp_bits (sp_pa V P (fun j => M 119 (40 * 2 + j)) z u 4 u) 6), mv_I 6]) (st' := []) (M1 := (mv_st (mv_st M3 102 (mv_up (M3 102) u (V 4 u))) 103 (mv_up (M3 103) u (V 5 u)))) rfl ?_
      refine mv_ttW (by omega) ?_
      refine mv_goW 1 (pc' := 148) (ls' := [mv_R 100, mv_I 2, mv_I (u : Int), mv_I 0, mv_I 0, mv_I (V 4 u), mv_I (V 5 u), mv_I (sp_bits (sp_pa V P (fun j => M 119 (40 * 2 + j)) z u 4 u) 6), mv_I 6]) (st' := [mv_I (sp_bits (sp_pa V P (fun j => M 119 (40 * 2 + j)) z u 4 u) 6)]) (M1 := (mv_st (mv_st M3 102 (mv_up (M3 102) u (V 4 u))) 103 (mv_up (M3 103) u (V 5 u)))) rfl ?_
      exact mv_retW (fun n => rfl) ⟨congrArg mv_I (by first | with_reducible rfl | omega), sp_bend h hw2 (((hy.wd (by decide)).st (by decide)).st (by decide)) (by have e : M3 100 = M2 100 := hy 100 (by decide); exact ⟨congrFun e 9, congrFun e 12, congrFun e 14⟩) (by have q := sp_m_alt5 (i := u) (x := V 5 u) (sp_m_alt4 (i := u) (x := V 4 u) hm3); rw [hVc3, sp_alt_id, sp_alt_id] at q; exact q)⟩
    · refine mv_callPW (st2 := [mv_I (sp_rfv so (z : Int) (V 0 8))]) rfl (Or.inl rfl) rfl rfl rfl (sp_crj_2_f hc ho hs1 hz1 ha34) (by first | decide | omega) ?_
      refine mv_goW 3 (pc' := if (sp_rfv so (z : Int) (V 0 8)) = 0 then 16 else 13) (ls' := [mv_R 0, mv_I 2, mv_I (u : Int), mv_I 0, mv_I (sp_rfv so (z : Int) (V 0 8)), mv_U, mv_U, mv_U]) (st' := []) (M1 := M) rfl ?_
      refine mv_ffW (by omega) ?_
      refine mv_goW 1 (pc' := 15) (ls' := [mv_R 0, mv_I 2, mv_I (u : Int), mv_I 0, mv_I (sp_rfv so (z : Int) (V 0 8)), mv_U, mv_U, mv_U]) (st' := [mv_I (sp_rfv so (z : Int) (V 0 8))]) (M1 := M) rfl ?_
      refine mv_retW (fun n => rfl) ⟨_, rfl, ?_⟩
      refine mv_goW 3 (pc' := 3) (ls' := [mv_R 100, mv_I 2, mv_I (u : Int), mv_I 0, mv_U, mv_U, mv_U, mv_U, mv_U]) (st' := [mv_I (u : Int), mv_I 2, mv_R 100]) (M1 := M) rfl ?_
      have ha40 : ¬ ((so ≠ -1 ∧ (z : Int) ≤ V 0 8) ∧ 0 ≤ (u : Int) ∧ (u : Int) < V 0 9) := by omega
      refine mv_callPW (st2 := [mv_I (sp_rfv so (z : Int) (V 0 8))]) rfl (Or.inl rfl) rfl rfl rfl (sp_mrj_f (S := 2) (by decide) hm ho hs2 hz2 ha40) (by first | decide | omega) ?_
      refine mv_goW 3 (pc' := if (sp_rfv so (z : Int) (V 0 8)) = 0 then 16 else 13) (ls' := [mv_R 100, mv_I 2, mv_I (u : Int), mv_I 0, mv_I (sp_rfv so (z : Int) (V 0 8)), mv_U, mv_U, mv_U, mv_U]) (st' := []) (M1 := M) rfl ?_
      refine mv_ffW (by omega) ?_
      refine mv_goW 1 (pc' := 15) (ls' := [mv_R 100, mv_I 2, mv_I (u : Int), mv_I 0, mv_I (sp_rfv so (z : Int) (V 0 8)), mv_U, mv_U, mv_U, mv_U]) (st' := [mv_I (sp_rfv so (z : Int) (V 0 8))]) (M1 := M) rfl ?_
      exact mv_retW (fun n => rfl) ⟨congrArg mv_I (by first | with_reducible rfl | omega), hI⟩
  · refine mv_goW 3 (pc' := 3) (ls' := [mv_R 0, mv_I 2, mv_I a, mv_I 0, mv_U, mv_U, mv_U, mv_U]) (st' := [mv_I a, mv_I 2, mv_R 0]) (M1 := M) rfl ?_
    have ha41 : ¬ ((so ≠ -1 ∧ (z : Int) ≤ V 0 8) ∧ 0 ≤ a ∧ a < V 0 9) := by omega
    refine mv_callPW (st2 := [mv_I (sp_rfv so (z : Int) (V 0 8))]) rfl (Or.inl rfl) rfl rfl rfl (sp_crj_2_f hc ho hs1 hz1 ha41) (by first | decide | omega) ?_
    refine mv_goW 3 (pc' := if (sp_rfv so (z : Int) (V 0 8)) = 0 then 16 else 13) (ls' := [mv_R 0, mv_I 2, mv_I a, mv_I 0, mv_I (sp_rfv so (z : Int) (V 0 8)), mv_U, mv_U, mv_U]) (st' := []) (M1 := M) rfl ?_
    refine mv_ffW (by omega) ?_
    refine mv_goW 1 (pc' := 15) (ls' := [mv_R 0, mv_I 2, mv_I a, mv_I 0, mv_I (sp_rfv so (z : Int) (V 0 8)), mv_U, mv_U, mv_U]) (st' := [mv_I (sp_rfv so (z : Int) (V 0 8))]) (M1 := M) rfl ?_
    refine mv_retW (fun n => rfl) ⟨_, rfl, ?_⟩
    refine mv_goW 3 (pc' := 3) (ls' := [mv_R 100, mv_I 2, mv_I a, mv_I 0, mv_U, mv_U, mv_U, mv_U, mv_U]) (st' := [mv_I a, mv_I 2, mv_R 100]) (M1 := M) rfl ?_
    have ha42 : ¬ ((so ≠ -1 ∧ (z : Int) ≤ V 0 8) ∧ 0 ≤ a ∧ a < V 0 9) := by omega
    refine mv_callPW (st2 := [mv_I (sp_rfv so (z : Int) (V 0 8))]) rfl (Or.inl rfl) rfl rfl rfl (sp_mrj_f (S := 2) (by decide) hm ho hs2 hz2 ha42) (by first | decide | omega) ?_
    refine mv_goW 3 (pc' := if (sp_rfv so (z : Int) (V 0 8)) = 0 then 16 else 13) (ls' := [mv_R 100, mv_I 2, mv_I a, mv_I 0, mv_I (sp_rfv so (z : Int) (V 0 8)), mv_U, mv_U, mv_U, mv_U]) (st' := []) (M1 := M) rfl ?_
    refine mv_ffW (by omega) ?_
    refine mv_goW 1 (pc' := 15) (ls' := [mv_R 100, mv_I 2, mv_I a, mv_I 0, mv_I (sp_rfv so (z : Int) (V 0 8)), mv_U, mv_U, mv_U, mv_U]) (st' := [mv_I (sp_rfv so (z : Int) (V 0 8))]) (M1 := M) rfl ?_
    exact mv_retW (fun n => rfl) ⟨congrArg mv_I (by first | with_reducible rfl | omega), hI⟩
theorem sp_k210_3 (a : Int) : sp_call 82 175 [mv_I 3, mv_I a, mv_I 0] [mv_I 3, mv_I a, mv_I 0] := by
  refine sp_mkW (lc := [mv_R 0, mv_I 3, mv_I a, mv_I 0, mv_U, mv_U, mv_U, mv_U]) (lm := [mv_R 100, mv_I 3, mv_I a, mv_I 0, mv_U, mv_U, mv_U, mv_U, mv_U]) rfl rfl (fun M hI => ?_)
  have hI2 := hI
  obtain ⟨V, P, nt, B, K, t, h⟩ := hI2
  have h' := h
  obtain ⟨⟨hc, hm, ho⟩, ⟨hy, hl, hn1, hn⟩, ⟨hct, hmt, hn7, hn12⟩, _⟩ := h'
  have h8 := sp_ok_s8 ho
  have h9 := sp_ok_s9 ho
  obtain ⟨so, sz, ⟨hs1, hs2, so0, so1⟩, ⟨hz1, hz2, sz0, sz1⟩, hcl⟩ := sp_sh_get h 3 (by decide)
  obtain ⟨z, rfl⟩ : ∃ x : Nat, sz = (x : Int) := ⟨sz.toNat, by omega⟩
  have hnz := sp_rfv_n so z (V 0 8)
  by_cases h0 : 0 ≤ a
  · obtain ⟨u, rfl⟩ : ∃ x : Nat, a = (x : Int) := ⟨a.toNat, by omega⟩
    refine mv_goW 3 (pc' := 3) (ls' := [mv_R 0, mv_I 3, mv_I (u : Int), mv_I 0, mv_U, mv_U, mv_U, mv_U]) (st' := [mv_I (u : Int), mv_I 3, mv_R 0]) (M1 := M) rfl ?_
    by_cases ha43 : (so ≠ -1 ∧ (z : Int) ≤ V 0 8) ∧ 0 ≤ (u : Int) ∧ (u : Int) < V 0 9
    · refine mv_callPW (st2 := [mv_I 0]) rfl (Or.inl rfl) rfl rfl rfl (sp_crj_3_t hc ho hs1 hz1 ha43) (by first | decide | omega) ?_
      refine mv_goW 3 (pc' := if 0 = 0 then 16 else 13) (ls' := [mv_R 0, mv_I 3, mv_I (u : Int), mv_I 0, mv_I 0, mv_U, mv_U, mv_U]) (st' := []) (M1 := M) rfl ?_
      refine mv_ttW (by first | decide | omega) ?_
      refine mv_goW 1 (pc' := 17) (ls' := [mv_R 0, mv_I 3, mv_I (u : Int), mv_I 0, mv_I 0, mv_U, mv_U, mv_U]) (st' := [mv_I 0]) (M1 := M) rfl ?_
      have ha44 : (0 : Int) = 0 ∨ (0 : Int) = 1 := by omega
      refine mv_callPW (st2 := [mv_I 1]) rfl (Or.inr rfl) rfl rfl rfl (sp_eith_t ha44) (by first | decide | omega) ?_
      refine mv_goW 1 (pc' := if 1 = 0 then 23 else 26) (ls' := [mv_R 0, mv_I 3, mv_I (u : Int), mv_I 0, mv_I 0, mv_U, mv_U, mv_U]) (st' := []) (M1 := M) rfl ?_
      refine mv_ffW (by first | decide | omega) ?_
      refine mv_goW 4 (pc' := 34) (ls' := [mv_R 0, mv_I 3, mv_I (u : Int), mv_I 0, mv_I 0, mv_U, mv_U, mv_U]) (st' := [mv_R 30, mv_R 50]) (M1 := M) rfl ?_
      refine mv_callW (st2 := []) rfl (Or.inl rfl) rfl rfl rfl (sp_become_50_30 hc (by omega) (by omega)) (by first | decide | omega) (fun Ma45 hm46 => ?_)
      have hb := hm46
      refine mv_goW 2 (pc' := if 0 = 0 then 41 else 51) (ls' := [mv_R 0, mv_I 3, mv_I (u : Int), mv_I 0, mv_I 0, mv_U, mv_U, mv_U]) (st' := []) (M1 := Ma45) rfl ?_
      refine mv_ttW (by first | decide | omega) ?_
      refine mv_goW 9 (pc' := 66) (ls' := [mv_R 0, mv_I 3, mv_I (u : Int), mv_I 0, mv_I 0, mv_R 54, mv_I 0, mv_I 0]) (st' := []) (M1 := Ma45) rfl ?_
      have huv : (u : Int) < V 0 9 := by omega
      have hzv : (z : Int) ≤ V 0 8 := by omega
      refine sp_ckd0_3 (d := 12) (V := V) (M0 := Ma45) (g := fun j => M 119 (40 * 3 + j)) ho hl hn (sp_cts_ag hct hb.1 hn (fun i h1 h2 => by simp only [List.mem_cons, List.not_mem_nil, or_false]; omega)) huv (by rw [hb.1 _ (by decide)]; exact hz1) hzv (fun j hj => by rw [hb.1 _ (by decide)]; exact hcl j (by omega)) (fun M2 hw => ?_) 6 0 Ma45 V (by omega) hb.2 (fun _ => rfl) mv_ag.rf
      have hw2 : mv_ag [36, 37, 50, 51, 52, 53, 54, 55, 56, 57] M M2 := (hb.1.wd (by decide)).tr (hw.wd (by decide))
      have hm := sp_m_ag2 hm hw2 (by decide)
      have hmt := sp_mts_ag hmt hw2 (by decide)
      have hs2 : M2 117 3 = so := by rw [hw2 117 (by decide)]; exact hs2
      have hz2 : M2 118 3 = (z : Int) := by rw [hw2 118 (by decide)]; exact hz2
      refine mv_goW 1 (pc' := 122) (ls' := [mv_R 0, mv_I 3, mv_I (u : Int), mv_I 0, mv_I 0, mv_R 54, mv_I (sp_bits (sp_pa V P (fun j => M 119 (40 * 3 + j)) z u 4 u) 6), mv_I 6]) (st' := [mv_I (sp_bits (sp_pa V P (fun j => M 119 (40 * 3 + j)) z u 4 u) 6)]) (M1 := M2) rfl ?_
      refine mv_retW (fun n => rfl) ⟨_, rfl, ?_⟩
      refine mv_goW 3 (pc' := 3) (ls' := [mv_R 100, mv_I 3, mv_I (u : Int), mv_I 0, mv_U, mv_U, mv_U, mv_U, mv_U]) (st' := [mv_I (u : Int), mv_I 3, mv_R 100]) (M1 := M2) rfl ?_
      have ha47 : (so ≠ -1 ∧ (z : Int) ≤ V 0 8) ∧ 0 ≤ (u : Int) ∧ (u : Int) < V 0 9 := by omega
      refine mv_callPW (st2 := [mv_I 0]) rfl (Or.inl rfl) rfl rfl rfl (sp_mrj_t (S := 3) (by decide) hm ho hs2 hz2 ha47) (by first | decide | omega) ?_
      refine mv_goW 3 (pc' := if 0 = 0 then 16 else 13) (ls' := [mv_R 100, mv_I 3, mv_I (u : Int), mv_I 0, mv_I 0, mv_U, mv_U, mv_U, mv_U]) (st' := []) (M1 := M2) rfl ?_
      refine mv_ttW (by first | decide | omega) ?_
      refine mv_goW 3 (pc' := 19) (ls' := [mv_R 100, mv_I 3, mv_I (u : Int), mv_I 0, mv_I 0, mv_U, mv_U, mv_U, mv_U]) (st' := [mv_I 1, mv_I 0, mv_I 0]) (M1 := M2) rfl ?_
      have ha48 : (0 : Int) ≤ (0 : Int) ∧ (0 : Int) ≤ (1 : Int) := by omega
      refine mv_callPW (st2 := [mv_I 1]) rfl (Or.inr rfl) rfl rfl rfl (sp_min_t ha48) (by first | decide | omega) ?_
      refine mv_goW 1 (pc' := if 1 = 0 then 25 else 28) (ls' := [mv_R 100, mv_I 3, mv_I (u : Int), mv_I 0, mv_I 0, mv_U, mv_U, mv_U, mv_U]) (st' := []) (M1 := M2) rfl ?_
      refine mv_ffW (by first | decide | omega) ?_
      refine mv_goW 4 (pc' := if 0 ≤ (u : Int) ∧ (u : Int) < 6 then 34 else mv_bad) (ls' := [mv_R 100, mv_I 3, mv_I (u : Int), mv_I 0, mv_I 0, mv_U, mv_U, mv_U, mv_U]) (st' := [mv_I (M2 102 u)]) (M1 := M2) rfl ?_
      refine mv_ttW (by omega) ?_
      have hr13 := sp_ok_4 ho u (by omega)
      rw [show M2 102 u = V 4 u from by exact sp_m_4 hm u (by omega)]
      refine mv_goW 5 (pc' := if 0 ≤ (u : Int) ∧ (u : Int) < 6 then 42 else mv_bad) (ls' := [mv_R 100, mv_I 3, mv_I (u : Int), mv_I 0, mv_I 0, mv_I (V 4 u), mv_U, mv_U, mv_U]) (st' := [mv_I (M2 103 u)]) (M1 := M2) rfl ?_
      refine mv_ttW (by omega) ?_
      have hr15 := sp_ok_5 ho u (by omega)
      rw [show M2 103 u = V 5 u from by exact sp_m_5 hm u (by omega)]
      refine mv_goW 5 (pc' := 50) (ls' := [mv_R 100, mv_I 3, mv_I (u : Int), mv_I 0, mv_I 0, mv_I (V 4 u), mv_I (V 5 u), mv_I 0, mv_I 0]) (st' := []) (M1 := M2) rfl ?_
      refine sp_mkd0 (d := 12) (V := V) (M0 := M2) (S := 3) (g := fun j => M 119 (40 * 3 + j)) ho hl hn hmt huv (by decide) hz2 hzv (fun j hj => by rw [hw2 119 (by decide)]) (fun M3 Vc hm3 hVc3 hy => ?_) 6 0 M2 V (by omega) hm (fun _ => rfl) mv_ag.rf
      refine mv_goW 5 (pc' := if 0 ≤ (u : Int) ∧ (u : Int) < 6 then 138 else mv_bad) (ls' := [mv_R 100, mv_I 3, mv_I (u : Int), mv_I 0, mv_I 0, mv_I (V 4 u), mv_I (V 5 u), mv_I (sp_bits (sp_pa V P (fun j => M 119 (40 * 3 + j)) z u 4 u) 6), mv_I 6]) (st' := []) (M1 := (mv_st M3 102 (mv_up (M3 102) u (V 4 u)))) rfl ?_
      refine mv_ttW (by omega) ?_
      refine mv_goW 5 (pc' := if 0 ≤ (u : Int) ∧ (u : Int) < 6 then 146 else mv_bad) (ls' := [mv_R 100, mv_I 3, mv_I (u : Int), mv_I 0, mv_I 0, mv_I (V 4 u), mv_I (V 5 u), mv_I (sp_bits (sp_pa V P (fun j => M 119 (40 * 3 + j)) z u 4 u) 6), mv_I 6]) (st' := []) (M1 := (mv_st (mv_st M3 102 (mv_up (M3 102) u (V 4 u))) 103 (mv_up (M3 103) u (V 5 u)))) rfl ?_
      refine mv_ttW (by omega) ?_
      refine mv_goW 1 (pc' := 148) (ls' := [mv_R 100, mv_I 3, mv_I (u : Int), mv_I 0, mv_I 0, mv_I (V 4 u), mv_I (V 5 u), mv_I (sp_bits (sp_pa V P (fun j => M 119 (40 * 3 + j)) z u 4 u) 6), mv_I 6]) (st' := [mv_I (sp_bits (sp_pa V P (fun j => M 119 (40 * 3 + j)) z u 4 u) 6)]) (M1 := (mv_st (mv_st M3 102 (mv_up (M3 102) u (V 4 u))) 103 (mv_up (M3 103) u (V 5 u)))) rfl ?_
      exact mv_retW (fun n => rfl) ⟨congrArg mv_I (by first | with_reducible rfl | omega), sp_bend h hw2 (((hy.wd (by decide)).st (by decide)).st (by decide)) (by have e : M3 100 = M2 100 := hy 100 (by decide); exact ⟨congrFun e 9, congrFun e 12, congrFun e 14⟩) (by have q := sp_m_alt5 (i := u) (x := V 5 u) (sp_m_alt4 (i := u) (x := V 4 u) hm3); rw [hVc3, sp_alt_id, sp_alt_id] at q; exact q)⟩
    · refine mv_callPW (st2 := [mv_I (sp_rfv so (z : Int) (V 0 8))]) rfl (Or.inl rfl) rfl rfl rfl (sp_crj_3_f hc ho hs1 hz1 ha43) (by first | decide | omega) ?_
      refine mv_goW 3 (pc' := if (sp_rfv so (z : Int) (V 0 8)) = 0 then 16 else 13) (ls' := [mv_R 0, mv_I 3, mv_I (u : Int), mv_I 0, mv_I (sp_rfv so (z : Int) (V 0 8)), mv_U, mv_U, mv_U]) (st' := []) (M1 := M) rfl ?_
      refine mv_ffW (by omega) ?_
      refine mv_goW 1 (pc' := 15) (ls' := [mv_R 0, mv_I 3, mv_I (u : Int), mv_I 0, mv_I (sp_rfv so (z : Int) (V 0 8)), mv_U, mv_U, mv_U]) (st' := [mv_I (sp_rfv so (z : Int) (V 0 8))]) (M1 := M) rfl ?_
      refine mv_retW (fun n => rfl) ⟨_, rfl, ?_⟩
      refine mv_goW 3 (pc' := 3) (ls' := [mv_R 100, mv_I 3, mv_I (u : Int), mv_I 0, mv_U, mv_U, mv_U, mv_U, mv_U]) (st' := [mv_I (u : Int), mv_I 3, mv_R 100]) (M1 := M) rfl ?_
      have ha49 : ¬ ((so ≠ -1 ∧ (z : Int) ≤ V 0 8) ∧ 0 ≤ (u : Int) ∧ (u : Int) < V 0 9) := by omega
      refine mv_callPW (st2 := [mv_I (sp_rfv so (z : Int) (V 0 8))]) rfl (Or.inl rfl) rfl rfl rfl (sp_mrj_f (S := 3) (by decide) hm ho hs2 hz2 ha49) (by first | decide | omega) ?_
      refine mv_goW 3 (pc' := if (sp_rfv so (z : Int) (V 0 8)) = 0 then 16 else 13) (ls' := [mv_R 100, mv_I 3, mv_I (u : Int), mv_I 0, mv_I (sp_rfv so (z : Int) (V 0 8)), mv_U, mv_U, mv_U, mv_U]) (st' := []) (M1 := M) rfl ?_
      refine mv_ffW (by omega) ?_
      refine mv_goW 1 (pc' := 15) (ls' := [mv_R 100, mv_I 3, mv_I (u : Int), mv_I 0, mv_I (sp_rfv so (z : Int) (V 0 8)), mv_U, mv_U, mv_U, mv_U]) (st' := [mv_I (sp_rfv so (z : Int) (V 0 8))]) (M1 := M) rfl ?_
      exact mv_retW (fun n => rfl) ⟨congrArg mv_I (by first | with_reducible rfl | omega), hI⟩
  · refine mv_goW 3 (pc' := 3) (ls' := [mv_R 0, mv_I 3, mv_I a, mv_I 0, mv_U, mv_U, mv_U, mv_U]) (st' := [mv_I a, mv_I 3, mv_R 0]) (M1 := M) rfl ?_
    have ha50 : ¬ ((so ≠ -1 ∧ (z : Int) ≤ V 0 8) ∧ 0 ≤ a ∧ a < V 0 9) := by omega
    refine mv_callPW (st2 := [mv_I (sp_rfv so (z : Int) (V 0 8))]) rfl (Or.inl rfl) rfl rfl rfl (sp_crj_3_f hc ho hs1 hz1 ha50) (by first | decide | omega) ?_
    refine mv_goW 3 (pc' := if (sp_rfv so (z : Int) (V 0 8)) = 0 then 16 else 13) (ls' := [mv_R 0, mv_I 3, mv_I a, mv_I 0, mv_I (sp_rfv so (z : Int) (V 0 8)), mv_U, mv_U, mv_U]) (st' := []) (M1 := M) rfl ?_
    refine mv_ffW (by omega) ?_
    refine mv_goW 1 (pc' := 15) (ls' := [mv_R 0, mv_I 3, mv_I a, mv_I 0, mv_I (sp_rfv so (z : Int) (V 0 8)), mv_U, mv_U, mv_U]) (st' := [mv_I (sp_rfv so (z : Int) (V 0 8))]) (M1 := M) rfl ?_
    refine mv_retW (fun n => rfl) ⟨_, rfl, ?_⟩
    refine mv_goW 3 (pc' := 3) (ls' := [mv_R 100, mv_I 3, mv_I a, mv_I 0, mv_U, mv_U, mv_U, mv_U, mv_U]) (st' := [mv_I a, mv_I 3, mv_R 100]) (M1 := M) rfl ?_
    have ha51 : ¬ ((so ≠ -1 ∧ (z : Int) ≤ V 0 8) ∧ 0 ≤ a ∧ a < V 0 9) := by omega
    refine mv_callPW (st2 := [mv_I (sp_rfv so (z : Int) (V 0 8))]) rfl (Or.inl rfl) rfl rfl rfl (sp_mrj_f (S := 3) (by decide) hm ho hs2 hz2 ha51) (by first | decide | omega) ?_
    refine mv_goW 3 (pc' := if (sp_rfv so (z : Int) (V 0 8)) = 0 then 16 else 13) (ls' := [mv_R 100, mv_I 3, mv_I a, mv_I 0, mv_I (sp_rfv so (z : Int) (V 0 8)), mv_U, mv_U, mv_U, mv_U]) (st' := []) (M1 := M) rfl ?_
    refine mv_ffW (by omega) ?_
    refine mv_goW 1 (pc' := 15) (ls' := [mv_R 100, mv_I 3, mv_I a, mv_I 0, mv_I (sp_rfv so (z : Int) (V 0 8)), mv_U, mv_U, mv_U, mv_U]) (st' := [mv_I (sp_rfv so (z : Int) (V 0 8))]) (M1 := M) rfl ?_
    exact mv_retW (fun n => rfl) ⟨congrArg mv_I (by first | with_reducible rfl | omega), hI⟩
theorem sp_ckd1_0 {V M0 : mv_M} {P : Nat → Nat → List Int} {n : Int} {u z d : Nat} {g : Nat → Int} {Q : mv_V → mv_M → Prop} (ho : sp_ok V) (hl : V 0 11 < n) (hn : n ≤ 6) (hP : sp_cts M0 P n) (hu : (u : Int) < V 0 9) (hz : M0 71 2 = (z : Int)) (hz8 : (z : Int) ≤ V 0 8) (hg : ∀ j, j < z → M0 72 j = g j)
    (hQ : ∀ M2, mv_ag [50, 51, 52, 53, 54, 55, 56, 57] M0 M2 → mv_W (d + 8) 82 120 [mv_R 0, mv_I 0, mv_I (u : Int), mv_I 1, mv_I 0, mv_R 55, mv_I (sp_bits (sp_pa V P g z u 5 u) 10), mv_I (10 : Int)] [] M2 Q) :
    ∀ (r m : Nat) (M Vc : mv_M), m + r = 10 → sp_c 50 M Vc → (∀ x, sp_alt Vc 5 u x = sp_alt V 5 u x) → mv_ag [50, 51, 52, 53, 54, 55, 56, 57] M0 M → mv_W (d + 8) 82 66 [mv_R 0, mv_I 0, mv_I (u : Int), mv_I 1, mv_I 0, mv_R 55, mv_I (sp_bits (sp_pa V P g z u 5 u) m), mv_I (m : Int)] [] M Q := by
  have h9 := sp_ok_s9 ho
  intro r
  induction r with
  | zero =>
    intro m M Vc hk hcv hVc hag
    have hk : m = 10 := by omega
    subst hk
    refine mv_goW 3 (pc' := if 1 = 0 then 72 else 77) (ls' := [mv_R 0, mv_I 0, mv_I (u : Int), mv_I 1, mv_I 0, mv_R 55, mv_I (sp_bits (sp_pa V P g z u 5 u) 10), mv_I ((10 : Nat) : Int)]) (st' := [mv_I ((10 : Nat) : Int)]) (M1 := M) rfl ?_
    refine mv_ffW (by decide) ?_
    refine mv_goW 2 (pc' := if ((10 : Nat) : Int) < 10 then 82 else 120) (ls' := [mv_R 0, mv_I 0, mv_I (u : Int), mv_I 1, mv_I 0, mv_R 55, mv_I (sp_bits (sp_pa V P g z u 5 u) 10), mv_I ((10 : Nat) : Int)]) (st' := []) (M1 := M) rfl ?_
    refine mv_ffW (by omega) ?_
    exact hQ M hag
  | succ r ih =>
    intro m M Vc hk hcv hVc hag
    refine mv_goW 3 (pc' := if 1 = 0 then 72 else 77) (ls' := [mv_R 0, mv_I 0, mv_I (u : Int), mv_I 1, mv_I 0, mv_R 55, mv_I (sp_bits (sp_pa V P g z u 5 u) m), mv_I (m : Int)]) (st' := [mv_I (m : Int)]) (M1 := M) rfl ?_
    refine mv_ffW (by first | decide | omega) ?_
    refine mv_goW 2 (pc' := if (m : Int) < 10 then 82 else 120) (ls' := [mv_R 0, mv_I 0, mv_I (u : Int), mv_I 1, mv_I 0, mv_R 55, mv_I (sp_bits (sp_pa V P g z u 5 u) m), mv_I (m : Int)]) (st' := []) (M1 := M) rfl ?_
    refine mv_ttW (by omega) ?_
    refine mv_goW 4 (pc' := if 0 ≤ (u : Int) ∧ (u : Int) < 6 then 88 else mv_bad) (ls' := [mv_R 0, mv_I 0, mv_I (u : Int), mv_I 1, mv_I 0, mv_R 55, mv_I (sp_bits (sp_pa V P g z u 5 u) m), mv_I (m : Int)]) (st' := []) (M1 := (mv_st M 55 (mv_up (M 55) u (m : Int)))) rfl ?_
    refine mv_ttW (by omega) ?_
    have hcX : sp_c 50 (mv_st M 55 (mv_up (M 55) u (m : Int))) (sp_alt V 5 u (m : Int)) := by rw [← hVc (m : Int)]; exact sp_c_alt5 (w := 50) hcv
    have hagX : mv_ag [50, 51, 52, 53, 54, 55, 56, 57] M0 (mv_st M 55 (mv_up (M 55) u (m : Int))) := hag.st (by decide)
    refine mv_goW 4 (pc' := 94) (ls' := [mv_R 0, mv_I 0, mv_I (u : Int), mv_I 1, mv_I 0, mv_R 55, mv_I (sp_bits (sp_pa V P g z u 5 u) m), mv_I (m : Int)]) (st' := [mv_I 0, mv_R 0, mv_R 50]) (M1 := (mv_st M 55 (mv_up (M 55) u (m : Int)))) rfl ?_
    refine mv_callPW (st2 := [mv_R 71, mv_R 50]) rfl (Or.inl rfl) rfl rfl rfl (sp_sheetAt_0) (by first | decide | omega) ?_
    refine mv_goW 1 (pc' := 98) (ls' := [mv_R 0, mv_I 0, mv_I (u : Int), mv_I 1, mv_I 0, mv_R 55, mv_I (sp_bits (sp_pa V P g z u 5 u) m), mv_I (m : Int)]) (st' := [mv_I (u : Int), mv_R 71, mv_R 50]) (M1 := (mv_st M 55 (mv_up (M 55) u (m : Int)))) rfl ?_
    refine mv_callW (st2 := [mv_I (sp_pa V P g z u 5 u m)]) rfl (Or.inr rfl) rfl rfl rfl (sp_cfa_0 (V := V) (g := g) (u := u) (r := 5) (i := u) (x := m) hcX (sp_ok_alt5 ho (by omega)) hl hn (sp_cts_ag hP hagX hn (fun i h1 h2 => by simp only [List.mem_cons, List.not_mem_nil, or_false]; omega)) hu (by rw [hagX _ (by decide)]; exact hz) hz8 (fun j hj => by rw [hagX _ (by decide)]; exact hg j hj)) (by first | decide | omega) (fun Ma52 hm53 => ?_)
    have hx := hm53
    refine mv_goW 2 (pc' := if (sp_pa V P g z u 5 u m) = (-1) then 105 else 114) (ls' := [mv_R 0, mv_I 0, mv_I (u : Int), mv_I 1, mv_I 0, mv_R 55, mv_I (sp_bits (sp_pa V P g z u 5 u) m), mv_I (m : Int)]) (st' := []) (M1 := Ma52) rfl ?_
    refine mv_spW (fun ha54 => ?_) (fun ha54 => ?_)
    · refine mv_goW 8 (pc' := 66) (ls' := [mv_R 0, mv_I 0, mv_I (u : Int), mv_I 1, mv_I 0, mv_R 55, mv_I (mv_or (sp_bits (sp_pa V P g z u 5 u) m) (mv_shl 1 (m : Int))), mv_I (mv_w ((m : Int) + 1))]) (st' := []) (M1 := Ma52) rfl ?_
      rw [show mv_w ((m : Int) + 1) = (m : Int) + 1 from mv_w_id (by omega) (by omega)]
      rw [show (m : Int) + 1 = ((m + 1 : Nat) : Int) from by omega]
      refine mv_eqsW (ls2 := [mv_R 0, mv_I 0, mv_I (u : Int), mv_I 1, mv_I 0, mv_R 55, mv_I (sp_bits (sp_pa V P g z u 5 u) (m + 1)), mv_I (((m + 1 : Nat) : Int))]) (by rw [show mv_or (sp_bits (sp_pa V P g z u 5 u) m) (mv_shl 1 (m : Int)) = sp_bits (sp_pa V P g z u 5 u) (m + 1) from by simp only [sp_bits]; split <;> first | with_reducible rfl | omega]) rfl rfl (ih (m + 1) _ (sp_alt V 5 u (m : Int)) (by omega) (sp_c_ag hcX hx (by decide)) (sp_alt_alt V 5 u (m : Int)) (hagX.tr (hx.wd (by decide))))
    · refine mv_goW 2 (pc' := 66) (ls' := [mv_R 0, mv_I 0, mv_I (u : Int), mv_I 1, mv_I 0, mv_R 55, mv_I (sp_bits (sp_pa V P g z u 5 u) m), mv_I (mv_w ((m : Int) + 1))]) (st' := []) (M1 := Ma52) rfl ?_
      rw [show mv_w ((m : Int) + 1) = (m : Int) + 1 from mv_w_id (by omega) (by omega)]
      rw [show (m : Int) + 1 = ((m + 1 : Nat) : Int) from by omega]
      refine mv_eqsW (ls2 := [mv_R 0, mv_I 0, mv_I (u : Int), mv_I 1, mv_I 0, mv_R 55, mv_I (sp_bits (sp_pa V P g z u 5 u) (m + 1)), mv_I (((m + 1 : Nat) : Int))]) (by rw [show sp_bits (sp_pa V P g z u 5 u) m = sp_bits (sp_pa V P g z u 5 u) (m + 1) from by simp only [sp_bits]; split <;> first | with_reducible rfl | omega]) rfl rfl (ih (m + 1) _ (sp_alt V 5 u (m : Int)) (by omega) (sp_c_ag hcX hx (by decide)) (sp_alt_alt V 5 u (m : Int)) (hagX.tr (hx.wd (by decide))))
theorem sp_ckd1_1 {V M0 : mv_M} {P : Nat → Nat → List Int} {n : Int} {u z d : Nat} {g : Nat → Int} {Q : mv_V → mv_M → Prop} (ho : sp_ok V) (hl : V 0 11 < n) (hn : n ≤ 6) (hP : sp_cts M0 P n) (hu : (u : Int) < V 0 9) (hz : M0 73 2 = (z : Int)) (hz8 : (z : Int) ≤ V 0 8) (hg : ∀ j, j < z → M0 74 j = g j)
    (hQ : ∀ M2, mv_ag [50, 51, 52, 53, 54, 55, 56, 57] M0 M2 → mv_W (d + 8) 82 120 [mv_R 0, mv_I 1, mv_I (u : Int), mv_I 1, mv_I 0, mv_R 55, mv_I (sp_bits (sp_pa V P g z u 5 u) 10), mv_I (10 : Int)] [] M2 Q) :
    ∀ (r m : Nat) (M Vc : mv_M), m + r = 10 → sp_c 50 M Vc → (∀ x, sp_alt Vc 5 u x = sp_alt V 5 u x) → mv_ag [50, 51, 52, 53, 54, 55, 56, 57] M0 M → mv_W (d + 8) 82 66 [mv_R 0, mv_I 1, mv_I (u : Int), mv_I 1, mv_I 0, mv_R 55, mv_I (sp_bits (sp_pa V P g z u 5 u) m), mv_I (m : Int)] [] M Q := by
  have h9 := sp_ok_s9 ho
  intro r
  induction r with
  | zero =>
    intro m M Vc hk hcv hVc hag
    have hk : m = 10 := by omega
    subst hk
    refine mv_goW 3 (pc' := if 1 = 0 then 72 else 77) (ls' := [mv_R 0, mv_I 1, mv_I (u : Int), mv_I 1, mv_I 0, mv_R 55, mv_I (sp_bits (sp_pa V P g z u 5 u) 10), mv_I ((10 : Nat) : Int)]) (st' := [mv_I ((10 : Nat) : Int)]) (M1 := M) rfl ?_
    refine mv_ffW (by decide) ?_
    refine mv_goW 2 (pc' := if ((10 : Nat) : Int) < 10 then 82 else 120) (ls' := [mv_R 0, mv_I 1, mv_I (u : Int), mv_I 1, mv_I 0, mv_R 55, mv_I (sp_bits (sp_pa V P g z u 5 u) 10), mv_I ((10 : Nat) : Int)]) (st' := []) (M1 := M) rfl ?_
    refine mv_ffW (by omega) ?_
    exact hQ M hag
  | succ r ih =>
    intro m M Vc hk hcv hVc hag
    refine mv_goW 3 (pc' := if 1 = 0 then 72 else 77) (ls' := [mv_R 0, mv_I 1, mv_I (u : Int), mv_I 1, mv_I 0, mv_R 55, mv_I (sp_bits (sp_pa V P g z u 5 u) m), mv_I (m : Int)]) (st' := [mv_I (m : Int)]) (M1 := M) rfl ?_
    refine mv_ffW (by first | decide | omega) ?_
    refine mv_goW 2 (pc' := if (m : Int) < 10 then 82 else 120) (ls' := [mv_R 0, mv_I 1, mv_I (u : Int), mv_I 1, mv_I 0, mv_R 55, mv_I (sp_bits (sp_pa V P g z u 5 u) m), mv_I (m : Int)]) (st' := []) (M1 := M) rfl ?_
    refine mv_ttW (by omega) ?_
    refine mv_goW 4 (pc' := if 0 ≤ (u : Int) ∧ (u : Int) < 6 then 88 else mv_bad) (ls' := [mv_R 0, mv_I 1, mv_I (u : Int), mv_I 1, mv_I 0, mv_R 55, mv_I (sp_bits (sp_pa V P g z u 5 u) m), mv_I (m : Int)]) (st' := []) (M1 := (mv_st M 55 (mv_up (M 55) u (m : Int)))) rfl ?_
    refine mv_ttW (by omega) ?_
    have hcX : sp_c 50 (mv_st M 55 (mv_up (M 55) u (m : Int))) (sp_alt V 5 u (m : Int)) := by rw [← hVc (m : Int)]; exact sp_c_alt5 (w := 50) hcv
    have hagX : mv_ag [50, 51, 52, 53, 54, 55, 56, 57] M0 (mv_st M 55 (mv_up (M 55) u (m : Int))) := hag.st (by decide)
    refine mv_goW 4 (pc' := 94) (ls' := [mv_R 0, mv_I 1, mv_I (u : Int), mv_I 1, mv_I 0, mv_R 55, mv_I (sp_bits (sp_pa V P g z u 5 u) m), mv_I (m : Int)]) (st' := [mv_I 1, mv_R 0, mv_R 50]) (M1 := (mv_st M 55 (mv_up (M 55) u (m : Int)))) rfl ?_
    refine mv_callPW (st2 := [mv_R 73, mv_R 50]) rfl (Or.inl rfl) rfl rfl rfl (sp_sheetAt_1) (by first | decide | omega) ?_
    refine mv_goW 1 (pc' := 98) (ls' := [mv_R 0, mv_I 1, mv_I (u : Int), mv_I 1, mv_I 0, mv_R 55, mv_I (sp_bits (sp_pa V P g z u 5 u) m), mv_I (m : Int)]) (st' := [mv_I (u : Int), mv_R 73, mv_R 50]) (M1 := (mv_st M 55 (mv_up (M 55) u (m : Int)))) rfl ?_
    refine mv_callW (st2 := [mv_I (sp_pa V P g z u 5 u m)]) rfl (Or.inr rfl) rfl rfl rfl (sp_cfa_1 (V := V) (g := g) (u := u) (r := 5) (i := u) (x := m) hcX (sp_ok_alt5 ho (by omega)) hl hn (sp_cts_ag hP hagX hn (fun i h1 h2 => by simp only [List.mem_cons, List.not_mem_nil, or_false]; omega)) hu (by rw [hagX _ (by decide)]; exact hz) hz8 (fun j hj => by rw [hagX _ (by decide)]; exact hg j hj)) (by first | decide | omega) (fun Ma55 hm56 => ?_)
    have hx := hm56
    refine mv_goW 2 (pc' := if (sp_pa V P g z u 5 u m) = (-1) then 105 else 114) (ls' := [mv_R 0, mv_I 1, mv_I (u : Int), mv_I 1, mv_I 0, mv_R 55, mv_I (sp_bits (sp_pa V P g z u 5 u) m), mv_I (m : Int)]) (st' := []) (M1 := Ma55) rfl ?_
    refine mv_spW (fun ha57 => ?_) (fun ha57 => ?_)
    · refine mv_goW 8 (pc' := 66) (ls' := [mv_R 0, mv_I 1, mv_I (u : Int), mv_I 1, mv_I 0, mv_R 55, mv_I (mv_or (sp_bits (sp_pa V P g z u 5 u) m) (mv_shl 1 (m : Int))), mv_I (mv_w ((m : Int) + 1))]) (st' := []) (M1 := Ma55) rfl ?_
      rw [show mv_w ((m : Int) + 1) = (m : Int) + 1 from mv_w_id (by omega) (by omega)]
      rw [show (m : Int) + 1 = ((m + 1 : Nat) : Int) from by omega]
      refine mv_eqsW (ls2 := [mv_R 0, mv_I 1, mv_I (u : Int), mv_I 1, mv_I 0, mv_R 55, mv_I (sp_bits (sp_pa V P g z u 5 u) (m + 1)), mv_I (((m + 1 : Nat) : Int))]) (by rw [show mv_or (sp_bits (sp_pa V P g z u 5 u) m) (mv_shl 1 (m : Int)) = sp_bits (sp_pa V P g z u 5 u) (m + 1) from by simp only [sp_bits]; split <;> first | with_reducible rfl | omega]) rfl rfl (ih (m + 1) _ (sp_alt V 5 u (m : Int)) (by omega) (sp_c_ag hcX hx (by decide)) (sp_alt_alt V 5 u (m : Int)) (hagX.tr (hx.wd (by decide))))
    · refine mv_goW 2 (pc' := 66) (ls' := [mv_R 0, mv_I 1, mv_I (u : Int), mv_I 1, mv_I 0, mv_R 55, mv_I (sp_bits (sp_pa V P g z u 5 u) m), mv_I (mv_w ((m : Int) + 1))]) (st' := []) (M1 := Ma55) rfl ?_
      rw [show mv_w ((m : Int) + 1) = (m : Int) + 1 from mv_w_id (by omega) (by omega)]
      rw [show (m : Int) + 1 = ((m + 1 : Nat) : Int) from by omega]
      refine mv_eqsW (ls2 := [mv_R 0, mv_I 1, mv_I (u : Int), mv_I 1, mv_I 0, mv_R 55, mv_I (sp_bits (sp_pa V P g z u 5 u) (m + 1)), mv_I (((m + 1 : Nat) : Int))]) (by rw [show sp_bits (sp_pa V P g z u 5 u) m = sp_bits (sp_pa V P g z u 5 u) (m + 1) from by simp only [sp_bits]; split <;> first | with_reducible rfl | omega]) rfl rfl (ih (m + 1) _ (sp_alt V 5 u (m : Int)) (by omega) (sp_c_ag hcX hx (by decide)) (sp_alt_alt V 5 u (m : Int)) (hagX.tr (hx.wd (by decide))))
theorem sp_ckd1_2 {V M0 : mv_M} {P : Nat → Nat → List Int} {n : Int} {u z d : Nat} {g : Nat → Int} {Q : mv_V → mv_M → Prop} (ho : sp_ok V) (hl : V 0 11 < n) (hn : n ≤ 6) (hP : sp_cts M0 P n) (hu : (u : Int) < V 0 9) (hz : M0 75 2 = (z : Int)) (hz8 : (z : Int) ≤ V 0 8) (hg : ∀ j, j < z → M0 76 j = g j)
    (hQ : ∀ M2, mv_ag [50, 51, 52, 53, 54, 55, 56, 57] M0 M2 → mv_W (d + 8) 82 120 [mv_R 0, mv_I 2, mv_I (u : Int), mv_I 1, mv_I 0, mv_R 55, mv_I (sp_bits (sp_pa V P g z u 5 u) 10), mv_I (10 : Int)] [] M2 Q) :
    ∀ (r m : Nat) (M Vc : mv_M), m + r = 10 → sp_c 50 M Vc → (∀ x, sp_alt Vc 5 u x = sp_alt V 5 u x) → mv_ag [50, 51, 52, 53, 54, 55, 56, 57] M0 M → mv_W (d + 8) 82 66 [mv_R 0, mv_I 2, mv_I (u : Int), mv_I 1, mv_I 0, mv_R 55, mv_I (sp_bits (sp_pa V P g z u 5 u) m), mv_I (m : Int)] [] M Q := by
  have h9 := sp_ok_s9 ho
  intro r
  induction r with
  | zero =>
    intro m M Vc hk hcv hVc hag
    have hk : m = 10 := by omega
    subst hk
    refine mv_goW 3 (pc' := if 1 = 0 then 72 else 77) (ls' := [mv_R 0, mv_I 2, mv_I (u : Int), mv_I 1, mv_I 0, mv_R 55, mv_I (sp_bits (sp_pa V P g z u 5 u) 10), mv_I ((10 : Nat) : Int)]) (st' := [mv_I ((10 : Nat) : Int)]) (M1 := M) rfl ?_
    refine mv_ffW (by decide) ?_
    refine mv_goW 2 (pc' := if ((10 : Nat) : Int) < 10 then 82 else 120) (ls' := [mv_R 0, mv_I 2, mv_I (u : Int), mv_I 1, mv_I 0, mv_R 55, mv_I (sp_bits (sp_pa V P g z u 5 u) 10), mv_I ((10 : Nat) : Int)]) (st' := []) (M1 := M) rfl ?_
    refine mv_ffW (by omega) ?_
    exact hQ M hag
  | succ r ih =>
    intro m M Vc hk hcv hVc hag
    refine mv_goW 3 (pc' := if 1 = 0 then 72 else 77) (ls' := [mv_R 0, mv_I 2, mv_I (u : Int), mv_I 1, mv_I 0, mv_R 55, mv_I (sp_bits (sp_pa V P g z u 5 u) m), mv_I (m : Int)]) (st' := [mv_I (m : Int)]) (M1 := M) rfl ?_
    refine mv_ffW (by first | decide | omega) ?_
    refine mv_goW 2 (pc' := if (m : Int) < 10 then 82 else 120) (ls' := [mv_R 0, mv_I 2, mv_I (u : Int), mv_I 1, mv_I 0, mv_R 55, mv_I (sp_bits (sp_pa V P g z u 5 u) m), mv_I (m : Int)]) (st' := []) (M1 := M) rfl ?_
    refine mv_ttW (by omega) ?_
    refine mv_goW 4 (pc' := if 0 ≤ (u : Int) ∧ (u : Int) < 6 then 88 else mv_bad) (ls' := [mv_R 0, mv_I 2, mv_I (u : Int), mv_I 1, mv_I 0, mv_R 55, mv_I (sp_bits (sp_pa V P g z u 5 u) m), mv_I (m : Int)]) (st' := []) (M1 := (mv_st M 55 (mv_up (M 55) u (m : Int)))) rfl ?_
    refine mv_ttW (by omega) ?_
    have hcX : sp_c 50 (mv_st M 55 (mv_up (M 55) u (m : Int))) (sp_alt V 5 u (m : Int)) := by rw [← hVc (m : Int)]; exact sp_c_alt5 (w := 50) hcv
    have hagX : mv_ag [50, 51, 52, 53, 54, 55, 56, 57] M0 (mv_st M 55 (mv_up (M 55) u (m : Int))) := hag.st (by decide)
    refine mv_goW 4 (pc' := 94) (ls' := [mv_R 0, mv_I 2, mv_I (u : Int), mv_I 1, mv_I 0, mv_R 55, mv_I (sp_bits (sp_pa V P g z u 5 u) m), mv_I (m : Int)]) (st' := [mv_I 2, mv_R 0, mv_R 50]) (M1 := (mv_st M 55 (mv_up (M 55) u (m : Int)))) rfl ?_
    refine mv_callPW (st2 := [mv_R 75, mv_R 50]) rfl (Or.inl rfl) rfl rfl rfl (sp_sheetAt_2) (by first | decide | omega) ?_
    refine mv_goW 1 (pc' := 98) (ls' := [mv_R 0, mv_I 2, mv_I (u : Int), mv_I 1, mv_I 0, mv_R 55, mv_I (sp_bits (sp_pa V P g z u 5 u) m), mv_I (m : Int)]) (st' := [mv_I (u : Int), mv_R 75, mv_R 50]) (M1 := (mv_st M 55 (mv_up (M 55) u (m : Int)))) rfl ?_
    refine mv_callW (st2 := [mv_I (sp_pa V P g z u 5 u m)]) rfl (Or.inr rfl) rfl rfl rfl (sp_cfa_2 (V := V) (g := g) (u := u) (r := 5) (i := u) (x := m) hcX (sp_ok_alt5 ho (by omega)) hl hn (sp_cts_ag hP hagX hn (fun i h1 h2 => by simp only [List.mem_cons, List.not_mem_nil, or_false]; omega)) hu (by rw [hagX _ (by decide)]; exact hz) hz8 (fun j hj => by rw [hagX _ (by decide)]; exact hg j hj)) (by first | decide | omega) (fun Ma58 hm59 => ?_)
    have hx := hm59
    refine mv_goW 2 (pc' := if (sp_pa V P g z u 5 u m) = (-1) then 105 else 114) (ls' := [mv_R 0, mv_I 2, mv_I (u : Int), mv_I 1, mv_I 0, mv_R 55, mv_I (sp_bits (sp_pa V P g z u 5 u) m), mv_I (m : Int)]) (st' := []) (M1 := Ma58) rfl ?_
    refine mv_spW (fun ha60 => ?_) (fun ha60 => ?_)
    · refine mv_goW 8 (pc' := 66) (ls' := [mv_R 0, mv_I 2, mv_I (u : Int), mv_I 1, mv_I 0, mv_R 55, mv_I (mv_or (sp_bits (sp_pa V P g z u 5 u) m) (mv_shl 1 (m : Int))), mv_I (mv_w ((m : Int) + 1))]) (st' := []) (M1 := Ma58) rfl ?_
      rw [show mv_w ((m : Int) + 1) = (m : Int) + 1 from mv_w_id (by omega) (by omega)]
      rw [show (m : Int) + 1 = ((m + 1 : Nat) : Int) from by omega]
      refine mv_eqsW (ls2 := [mv_R 0, mv_I 2, mv_I (u : Int), mv_I 1, mv_I 0, mv_R 55, mv_I (sp_bits (sp_pa V P g z u 5 u) (m + 1)), mv_I (((m + 1 : Nat) : Int))]) (by rw [show mv_or (sp_bits (sp_pa V P g z u 5 u) m) (mv_shl 1 (m : Int)) = sp_bits (sp_pa V P g z u 5 u) (m + 1) from by simp only [sp_bits]; split <;> first | with_reducible rfl | omega]) rfl rfl (ih (m + 1) _ (sp_alt V 5 u (m : Int)) (by omega) (sp_c_ag hcX hx (by decide)) (sp_alt_alt V 5 u (m : Int)) (hagX.tr (hx.wd (by decide))))
    · refine mv_goW 2 (pc' := 66) (ls' := [mv_R 0, mv_I 2, mv_I (u : Int), mv_I 1, mv_I 0, mv_R 55, mv_I (sp_bits (sp_pa V P g z u 5 u) m), mv_I (mv_w ((m : Int) + 1))]) (st' := []) (M1 := Ma58) rfl ?_
      rw [show mv_w ((m : Int) + 1) = (m : Int) + 1 from mv_w_id (by omega) (by omega)]
      rw [show (m : Int) + 1 = ((m + 1 : Nat) : Int) from by omega]
      refine mv_eqsW (ls2 := [mv_R 0, mv_I 2, mv_I (u : Int), mv_I 1, mv_I 0, mv_R 55, mv_I (sp_bits (sp_pa V P g z u 5 u) (m + 1)), mv_I (((m + 1 : Nat) : Int))]) (by rw [show sp_bits (sp_pa V P g z u 5 u) m = sp_bits (sp_pa V P g z u 5 u) (m + 1) from by simp only [sp_bits]; split <;> first | with_reducible rfl | omega]) rfl rfl (ih (m + 1) _ (sp_alt V 5 u (m : Int)) (by omega) (sp_c_ag hcX hx (by decide)) (sp_alt_alt V 5 u (m : Int)) (hagX.tr (hx.wd (by decide))))
theorem sp_ckd1_3 {V M0 : mv_M} {P : Nat → Nat → List Int} {n : Int} {u z d : Nat} {g : Nat → Int} {Q : mv_V → mv_M → Prop} (ho : sp_ok V) (hl : V 0 11 < n) (hn : n ≤ 6) (hP : sp_cts M0 P n) (hu : (u : Int) < V 0 9) (hz : M0 77 2 = (z : Int)) (hz8 : (z : Int) ≤ V 0 8) (hg : ∀ j, j < z → M0 78 j = g j)
    (hQ : ∀ M2, mv_ag [50, 51, 52, 53, 54, 55, 56, 57] M0 M2 → mv_W (d + 8) 82 120 [mv_R 0, mv_I 3, mv_I (u : Int), mv_I 1, mv_I 0, mv_R 55, mv_I (sp_bits (sp_pa V P g z u 5 u) 10), mv_I (10 : Int)] [] M2 Q) :
    ∀ (r m : Nat) (M Vc : mv_M), m + r = 10 → sp_c 50 M Vc → (∀ x, sp_alt Vc 5 u x = sp_alt V 5 u x) → mv_ag [50, 51, 52, 53, 54, 55, 56, 57] M0 M → mv_W (d + 8) 82 66 [mv_R 0, mv_I 3, mv_I (u : Int), mv_I 1, mv_I 0, mv_R 55, mv_I (sp_bits (sp_pa V P g z u 5 u) m), mv_I (m : Int)] [] M Q := by
  have h9 := sp_ok_s9 ho
  intro r
  induction r with
  | zero =>
    intro m M Vc hk hcv hVc hag
    have hk : m = 10 := by omega
    subst hk
    refine mv_goW 3 (pc' := if 1 = 0 then 72 else 77) (ls' := [mv_R 0, mv_I 3, mv_I (u : Int), mv_I 1, mv_I 0, mv_R 55, mv_I (sp_bits (sp_pa V P g z u 5 u) 10), mv_I ((10 : Nat) : Int)]) (st' := [mv_I ((10 : Nat) : Int)]) (M1 := M) rfl ?_
    refine mv_ffW (by decide) ?_
    refine mv_goW 2 (pc' := if ((10 : Nat) : Int) < 10 then 82 else 120) (ls' := [mv_R 0, mv_I 3, mv_I (u : Int), mv_I 1, mv_I 0, mv_R 55, mv_I (sp_bits (sp_pa V P g z u 5 u) 10), mv_I ((10 : Nat) : Int)]) (st' := []) (M1 := M) rfl ?_
    refine mv_ffW (by omega) ?_
    exact hQ M hag
  | succ r ih =>
    intro m M Vc hk hcv hVc hag
    refine mv_goW 3 (pc' := if 1 = 0 then 72 else 77) (ls' := [mv_R 0, mv_I 3, mv_I (u : Int), mv_I 1, mv_I 0, mv_R 55, mv_I (sp_bits (sp_pa V P g z u 5 u) m), mv_I (m : Int)]) (st' := [mv_I (m : Int)]) (M1 := M) rfl ?_
    refine mv_ffW (by first | decide | omega) ?_
    refine mv_goW 2 (pc' := if (m : Int) < 10 then 82 else 120) (ls' := [mv_R 0, mv_I 3, mv_I (u : Int), mv_I 1, mv_I 0, mv_R 55, mv_I (sp_bits (sp_pa V P g z u 5 u) m), mv_I (m : Int)]) (st' := []) (M1 := M) rfl ?_
    refine mv_ttW (by omega) ?_
    refine mv_goW 4 (pc' := if 0 ≤ (u : Int) ∧ (u : Int) < 6 then 88 else mv_bad) (ls' := [mv_R 0, mv_I 3, mv_I (u : Int), mv_I 1, mv_I 0, mv_R 55, mv_I (sp_bits (sp_pa V P g z u 5 u) m), mv_I (m : Int)]) (st' := []) (M1 := (mv_st M 55 (mv_up (M 55) u (m : Int)))) rfl ?_
    refine mv_ttW (by omega) ?_
    have hcX : sp_c 50 (mv_st M 55 (mv_up (M 55) u (m : Int))) (sp_alt V 5 u (m : Int)) := by rw [← hVc (m : Int)]; exact sp_c_alt5 (w := 50) hcv
    have hagX : mv_ag [50, 51, 52, 53, 54, 55, 56, 57] M0 (mv_st M 55 (mv_up (M 55) u (m : Int))) := hag.st (by decide)
    refine mv_goW 4 (pc' := 94) (ls' := [mv_R 0, mv_I 3, mv_I (u : Int), mv_I 1, mv_I 0, mv_R 55, mv_I (sp_bits (sp_pa V P g z u 5 u) m), mv_I (m : Int)]) (st' := [mv_I 3, mv_R 0, mv_R 50]) (M1 := (mv_st M 55 (mv_up (M 55) u (m : Int)))) rfl ?_
    refine mv_callPW (st2 := [mv_R 77, mv_R 50]) rfl (Or.inl rfl) rfl rfl rfl (sp_sheetAt_3) (by first | decide | omega) ?_
    refine mv_goW 1 (pc' := 98) (ls' := [mv_R 0, mv_I 3, mv_I (u : Int), mv_I 1, mv_I 0, mv_R 55, mv_I (sp_bits (sp_pa V P g z u 5 u) m), mv_I (m : Int)]) (st' := [mv_I (u : Int), mv_R 77, mv_R 50]) (M1 := (mv_st M 55 (mv_up (M 55) u (m : Int)))) rfl ?_
    refine mv_callW (st2 := [mv_I (sp_pa V P g z u 5 u m)]) rfl (Or.inr rfl) rfl rfl rfl (sp_cfa_3 (V := V) (g := g) (u := u) (r := 5) (i := u) (x := m) hcX (sp_ok_alt5 ho (by omega)) hl hn (sp_cts_ag hP hagX hn (fun i h1 h2 => by simp only [List.mem_cons, List.not_mem_nil, or_false]; omega)) hu (by rw [hagX _ (by decide)]; exact hz) hz8 (fun j hj => by rw [hagX _ (by decide)]; exact hg j hj)) (by first | decide | omega) (fun Ma61 hm62 => ?_)
    have hx := hm62
    refine mv_goW 2 (pc' := if (sp_pa V P g z u 5 u m) = (-1) then 105 else 114) (ls' := [mv_R 0, mv_I 3, mv_I (u : Int), mv_I 1, mv_I 0, mv_R 55, mv_I (sp_bits (sp_pa V P g z u 5 u) m), mv_I (m : Int)]) (st' := []) (M1 := Ma61) rfl ?_
    refine mv_spW (fun ha63 => ?_) (fun ha63 => ?_)
    · refine mv_goW 8 (pc' := 66) (ls' := [mv_R 0, mv_I 3, mv_I (u : Int), mv_I 1, mv_I 0, mv_R 55, mv_I (mv_or (sp_bits (sp_pa V P g z u 5 u) m) (mv_shl 1 (m : Int))), mv_I (mv_w ((m : Int) + 1))]) (st' := []) (M1 := Ma61) rfl ?_
      rw [show mv_w ((m : Int) + 1) = (m : Int) + 1 from mv_w_id (by omega) (by omega)]
      rw [show (m : Int) + 1 = ((m + 1 : Nat) : Int) from by omega]
      refine mv_eqsW (ls2 := [mv_R 0, mv_I 3, mv_I (u : Int), mv_I 1, mv_I 0, mv_R 55, mv_I (sp_bits (sp_pa V P g z u 5 u) (m + 1)), mv_I (((m + 1 : Nat) : Int))]) (by rw [show mv_or (sp_bits (sp_pa V P g z u 5 u) m) (mv_shl 1 (m : Int)) = sp_bits (sp_pa V P g z u 5 u) (m + 1) from by simp only [sp_bits]; split <;> first | with_reducible rfl | omega]) rfl rfl (ih (m + 1) _ (sp_alt V 5 u (m : Int)) (by omega) (sp_c_ag hcX hx (by decide)) (sp_alt_alt V 5 u (m : Int)) (hagX.tr (hx.wd (by decide))))
    · refine mv_goW 2 (pc' := 66) (ls' := [mv_R 0, mv_I 3, mv_I (u : Int), mv_I 1, mv_I 0, mv_R 55, mv_I (sp_bits (sp_pa V P g z u 5 u) m), mv_I (mv_w ((m : Int) + 1))]) (st' := []) (M1 := Ma61) rfl ?_
      rw [show mv_w ((m : Int) + 1) = (m : Int) + 1 from mv_w_id (by omega) (by omega)]
      rw [show (m : Int) + 1 = ((m + 1 : Nat) : Int) from by omega]
      refine mv_eqsW (ls2 := [mv_R 0, mv_I 3, mv_I (u : Int), mv_I 1, mv_I 0, mv_R 55, mv_I (sp_bits (sp_pa V P g z u 5 u) (m + 1)), mv_I (((m + 1 : Nat) : Int))]) (by rw [show sp_bits (sp_pa V P g z u 5 u) m = sp_bits (sp_pa V P g z u 5 u) (m + 1) from by simp only [sp_bits]; split <;> first | with_reducible rfl | omega]) rfl rfl (ih (m + 1) _ (sp_alt V 5 u (m : Int)) (by omega) (sp_c_ag hcX hx (by decide)) (sp_alt_alt V 5 u (m : Int)) (hagX.tr (hx.wd (by decide))))
theorem sp_mkd1 {V M0 : mv_M} {P : Nat → Nat → List Int} {n : Int} {u z d S : Nat} {g : Nat → Int} {Q : mv_V → mv_M → Prop} (ho : sp_ok V) (hl : V 0 11 < n) (hn : n ≤ 6) (hP : sp_mts M0 P n) (hu : (u : Int) < V 0 9) (hS : S < 4) (hz : M0 118 S = (z : Int)) (hz8 : (z : Int) ≤ V 0 8) (hg : ∀ j, j < z → M0 119 (40 * S + j) = g j)
    (hQ : ∀ M2 Vc, sp_m M2 Vc → (∀ x, sp_alt Vc 5 u x = sp_alt V 5 u x) → mv_ag [102, 103, 130, 131] M0 M2 → mv_W (d + 8) 175 130 [mv_R 100, mv_I (S : Int), mv_I (u : Int), mv_I 1, mv_I 0, mv_I (V 4 u), mv_I (V 5 u), mv_I (sp_bits (sp_pa V P g z u 5 u) 10), mv_I (10 : Int)] [] M2 Q) :
    ∀ (r m : Nat) (M Vc : mv_M), m + r = 10 → sp_m M Vc → (∀ x, sp_alt Vc 5 u x = sp_alt V 5 u x) → mv_ag [102, 103, 130, 131] M0 M → mv_W (d + 8) 175 50 [mv_R 100, mv_I (S : Int), mv_I (u : Int), mv_I 1, mv_I 0, mv_I (V 4 u), mv_I (V 5 u), mv_I (sp_bits (sp_pa V P g z u 5 u) m), mv_I (m : Int)] [] M Q := by
  have h9 := sp_ok_s9 ho
  intro r
  induction r with
  | zero =>
    intro m M Vc hk hmv hVc hag
    have hk : m = 10 := by omega
    subst hk
    refine mv_goW 3 (pc' := if 1 = 0 then 56 else 61) (ls' := [mv_R 100, mv_I (S : Int), mv_I (u : Int), mv_I 1, mv_I 0, mv_I (V 4 u), mv_I (V 5 u), mv_I (sp_bits (sp_pa V P g z u 5 u) 10), mv_I ((10 : Nat) : Int)]) (st' := [mv_I ((10 : Nat) : Int)]) (M1 := M) rfl ?_
    refine mv_ffW (by decide) ?_
    refine mv_goW 2 (pc' := if ((10 : Nat) : Int) < 10 then 66 else 130) (ls' := [mv_R 100, mv_I (S : Int), mv_I (u : Int), mv_I 1, mv_I 0, mv_I (V 4 u), mv_I (V 5 u), mv_I (sp_bits (sp_pa V P g z u 5 u) 10), mv_I ((10 : Nat) : Int)]) (st' := []) (M1 := M) rfl ?_
    refine mv_ffW (by omega) ?_
    exact hQ M Vc hmv hVc hag
  | succ r ih =>
    intro m M Vc hk hmv hVc hag
    refine mv_goW 3 (pc' := if 1 = 0 then 56 else 61) (ls' := [mv_R 100, mv_I (S : Int), mv_I (u : Int), mv_I 1, mv_I 0, mv_I (V 4 u), mv_I (V 5 u), mv_I (sp_bits (sp_pa V P g z u 5 u) m), mv_I (m : Int)]) (st' := [mv_I (m : Int)]) (M1 := M) rfl ?_
    refine mv_ffW (by first | decide | omega) ?_
    refine mv_goW 2 (pc' := if (m : Int) < 10 then 66 else 130) (ls' := [mv_R 100, mv_I (S : Int), mv_I (u : Int), mv_I 1, mv_I 0, mv_I (V 4 u), mv_I (V 5 u), mv_I (sp_bits (sp_pa V P g z u 5 u) m), mv_I (m : Int)]) (st' := []) (M1 := M) rfl ?_
    refine mv_ttW (by omega) ?_
    refine mv_goW 5 (pc' := if 1 = 0 then 75 else 80) (ls' := [mv_R 100, mv_I (S : Int), mv_I (u : Int), mv_I 1, mv_I 0, mv_I (V 4 u), mv_I (V 5 u), mv_I (sp_bits (sp_pa V P g z u 5 u) m), mv_I (m : Int)]) (st' := [mv_I (u : Int), mv_R 102]) (M1 := M) rfl ?_
    refine mv_ffW (by first | decide | omega) ?_
    refine mv_goW 2 (pc' := if 0 ≤ (u : Int) ∧ (u : Int) < 6 then 83 else mv_bad) (ls' := [mv_R 100, mv_I (S : Int), mv_I (u : Int), mv_I 1, mv_I 0, mv_I (V 4 u), mv_I (V 5 u), mv_I (sp_bits (sp_pa V P g z u 5 u) m), mv_I (m : Int)]) (st' := []) (M1 := (mv_st M 102 (mv_up (M 102) u (V 4 u)))) rfl ?_
    refine mv_ttW (by omega) ?_
    refine mv_goW 6 (pc' := if 1 = 1 then 93 else 98) (ls' := [mv_R 100, mv_I (S : Int), mv_I (u : Int), mv_I 1, mv_I 0, mv_I (V 4 u), mv_I (V 5 u), mv_I (sp_bits (sp_pa V P g z u 5 u) m), mv_I (m : Int)]) (st' := [mv_I (u : Int), mv_R 103]) (M1 := (mv_st M 102 (mv_up (M 102) u (V 4 u)))) rfl ?_
    refine mv_ttW (by first | decide | omega) ?_
    refine mv_goW 3 (pc' := if 0 ≤ (u : Int) ∧ (u : Int) < 6 then 101 else mv_bad) (ls' := [mv_R 100, mv_I (S : Int), mv_I (u : Int), mv_I 1, mv_I 0, mv_I (V 4 u), mv_I (V 5 u), mv_I (sp_bits (sp_pa V P g z u 5 u) m), mv_I (m : Int)]) (st' := []) (M1 := (mv_st (mv_st M 102 (mv_up (M 102) u (V 4 u))) 103 (mv_up (M 103) u (m : Int)))) rfl ?_
    refine mv_ttW (by omega) ?_
    have hmX : sp_m (mv_st (mv_st M 102 (mv_up (M 102) u (V 4 u))) 103 (mv_up (M 103) u (m : Int))) (sp_alt V 5 u (m : Int)) := by have q := sp_m_alt5 (i := u) (x := (m : Int)) (sp_m_alt4 (i := u) (x := V 4 u) hmv); have hVk : sp_alt Vc 4 u (V 4 u) = Vc := (by rw [← show Vc 4 = V 4 from congrFun (hVc 0) 4]; exact sp_alt_id Vc 4 u); rw [hVk] at q; rw [← hVc (m : Int)]; exact q
    have hagX : mv_ag [102, 103, 130, 131] M0 (mv_st (mv_st M 102 (mv_up (M 102) u (V 4 u))) 103 (mv_up (M 103) u (m : Int))) := (hag.st (by decide)).st (by decide)
    refine mv_goW 4 (pc' := 106) (ls' := [mv_R 100, mv_I (S : Int), mv_I (u : Int), mv_I 1, mv_I 0, mv_I (V 4 u), mv_I (V 5 u), mv_I (sp_bits (sp_pa V P g z u 5 u) m), mv_I (m : Int)]) (st' := [mv_I (u : Int), mv_I (S : Int), mv_R 100, mv_I (sp_bits (sp_pa V P g z u 5 u) m)]) (M1 := (mv_st (mv_st M 102 (mv_up (M 102) u (V 4 u))) 103 (mv_up (M 103) u (m : Int)))) rfl ?_
    refine mv_callW (st2 := [mv_I (sp_pa V P g z u 5 u m), mv_I (sp_bits (sp_pa V P g z u 5 u) m)]) rfl (Or.inl rfl) rfl rfl rfl (sp_mfa (V := V) (g := g) (u := u) (r := 5) (i := u) (x := m) hS hmX (sp_ok_alt5 ho (by omega)) hl (sp_mts_ag hP hagX (by decide)) hu (by rw [hagX _ (by decide)]; exact hz) hz8 (fun j hj => by rw [hagX _ (by decide)]; exact hg j hj)) (by first | decide | omega) (fun Ma64 hm65 => ?_)
    have hx := hm65
    refine mv_goW 2 (pc' := if (sp_pa V P g z u 5 u m) = (-1) then 113 else 120) (ls' := [mv_R 100, mv_I (S : Int), mv_I (u : Int), mv_I 1, mv_I 0, mv_I (V 4 u), mv_I (V 5 u), mv_I (sp_bits (sp_pa V P g z u 5 u) m), mv_I (m : Int)]) (st' := [mv_I (sp_bits (sp_pa V P g z u 5 u) m)]) (M1 := Ma64) rfl ?_
    refine mv_spW (fun ha66 => ?_) (fun ha66 => ?_)
    · refine mv_goW 8 (pc' := 50) (ls' := [mv_R 100, mv_I (S : Int), mv_I (u : Int), mv_I 1, mv_I 0, mv_I (V 4 u), mv_I (V 5 u), mv_I (mv_or (sp_bits (sp_pa V P g z u 5 u) m) (mv_shl 1 (m : Int))), mv_I (mv_w ((m : Int) + 1))]) (st' := []) (M1 := Ma64) rfl ?_
      rw [show mv_w ((m : Int) + 1) = (m : Int) + 1 from mv_w_id (by omega) (by omega)]
      rw [show (m : Int) + 1 = ((m + 1 : Nat) : Int) from by omega]
      refine mv_eqsW (ls2 := [mv_R 100, mv_I (S : Int), mv_I (u : Int), mv_I 1, mv_I 0, mv_I (V 4 u), mv_I (V 5 u), mv_I (sp_bits (sp_pa V P g z u 5 u) (m + 1)), mv_I (((m + 1 : Nat) : Int))]) (by rw [show mv_or (sp_bits (sp_pa V P g z u 5 u) m) (mv_shl 1 (m : Int)) = sp_bits (sp_pa V P g z u 5 u) (m + 1) from by (try rw [sp_bits_0]); simp only [sp_bits]; split <;> first | with_reducible rfl | omega]) rfl rfl (ih (m + 1) _ (sp_alt V 5 u (m : Int)) (by omega) (sp_m_ag hmX hx (by rw [hx 100 (by decide)]; exact ⟨rfl, rfl, rfl, rfl⟩) (by decide)) (sp_alt_alt V 5 u (m : Int)) (hagX.tr (hx.wd (by decide))))
    · refine mv_goW 5 (pc' := 50) (ls' := [mv_R 100, mv_I (S : Int), mv_I (u : Int), mv_I 1, mv_I 0, mv_I (V 4 u), mv_I (V 5 u), mv_I (mv_or (sp_bits (sp_pa V P g z u 5 u) m) 0), mv_I (mv_w ((m : Int) + 1))]) (st' := []) (M1 := Ma64) rfl ?_
      rw [show mv_w ((m : Int) + 1) = (m : Int) + 1 from mv_w_id (by omega) (by omega)]
      rw [show (m : Int) + 1 = ((m + 1 : Nat) : Int) from by omega]
      refine mv_eqsW (ls2 := [mv_R 100, mv_I (S : Int), mv_I (u : Int), mv_I 1, mv_I 0, mv_I (V 4 u), mv_I (V 5 u), mv_I (sp_bits (sp_pa V P g z u 5 u) (m + 1)), mv_I (((m + 1 : Nat) : Int))]) (by rw [show mv_or (sp_bits (sp_pa V P g z u 5 u) m) 0 = sp_bits (sp_pa V P g z u 5 u) (m + 1) from by (try rw [sp_bits_0]); simp only [sp_bits]; split <;> first | with_reducible rfl | omega]) rfl rfl (ih (m + 1) _ (sp_alt V 5 u (m : Int)) (by omega) (sp_m_ag hmX hx (by rw [hx 100 (by decide)]; exact ⟨rfl, rfl, rfl, rfl⟩) (by decide)) (sp_alt_alt V 5 u (m : Int)) (hagX.tr (hx.wd (by decide))))
theorem sp_k211_0 (a : Int) : sp_call 82 175 [mv_I 0, mv_I a, mv_I 1] [mv_I 0, mv_I a, mv_I 1] := by
  refine sp_mkW (lc := [mv_R 0, mv_I 0, mv_I a, mv_I 1, mv_U, mv_U, mv_U, mv_U]) (lm := [mv_R 100, mv_I 0, mv_I a, mv_I 1, mv_U, mv_U, mv_U, mv_U, mv_U]) rfl rfl (fun M hI => ?_)
  have hI2 := hI
  obtain ⟨V, P, nt, B, K, t, h⟩ := hI2
  have h' := h
  obtain ⟨⟨hc, hm, ho⟩, ⟨hy, hl, hn1, hn⟩, ⟨hct, hmt, hn7, hn12⟩, _⟩ := h'
  have h8 := sp_ok_s8 ho
  have h9 := sp_ok_s9 ho
  obtain ⟨so, sz, ⟨hs1, hs2, so0, so1⟩, ⟨hz1, hz2, sz0, sz1⟩, hcl⟩ := sp_sh_get h 0 (by decide)
  obtain ⟨z, rfl⟩ : ∃ x : Nat, sz = (x : Int) := ⟨sz.toNat, by omega⟩
  have hnz := sp_rfv_n so z (V 0 8)
  by_cases h0 : 0 ≤ a
  · obtain ⟨u, rfl⟩ : ∃ x : Nat, a = (x : Int) := ⟨a.toNat, by omega⟩
    refine mv_goW 3 (pc' := 3) (ls' := [mv_R 0, mv_I 0, mv_I (u : Int), mv_I 1, mv_U, mv_U, mv_U, mv_U]) (st' := [mv_I (u : Int), mv_I 0, mv_R 0]) (M1 := M) rfl ?_
    by_cases ha67 : (so ≠ -1 ∧ (z : Int) ≤ V 0 8) ∧ 0 ≤ (u : Int) ∧ (u : Int) < V 0 9
    · refine mv_callPW (st2 := [mv_I 0]) rfl (Or.inl rfl) rfl rfl rfl (sp_crj_0_t hc ho hs1 hz1 ha67) (by first | decide | omega) ?_
      refine mv_goW 3 (pc' := if 0 = 0 then 16 else 13) (ls' := [mv_R 0, mv_I 0, mv_I (u : Int), mv_I 1, mv_I 0, mv_U, mv_U, mv_U]) (st' := []) (M1 := M) rfl ?_
      refine mv_ttW (by first | decide | omega) ?_
      refine mv_goW 1 (pc' := 17) (ls' := [mv_R 0, mv_I 0, mv_I (u : Int), mv_I 1, mv_I 0, mv_U, mv_U, mv_U]) (st' := [mv_I 1]) (M1 := M) rfl ?_
      have ha68 : (1 : Int) = 0 ∨ (1 : Int) = 1 := by omega
      refine mv_callPW (st2 := [mv_I 1]) rfl (Or.inr rfl) rfl rfl rfl (sp_eith_t ha68) (by first | decide | omega) ?_
      refine mv_goW 1 (pc' := if 1 = 0 then 23 else 26) (ls' := [mv_R 0, mv_I 0, mv_I (u : Int), mv_I 1, mv_I 0, mv_U, mv_U, mv_U]) (st' := []) (M1 := M) rfl ?_
      refine mv_ffW (by first | decide | omega) ?_
      refine mv_goW 4 (pc' := 34) (ls' := [mv_R 0, mv_I 0, mv_I (u : Int), mv_I 1, mv_I 0, mv_U, mv_U, mv_U]) (st' := [mv_R 30, mv_R 50]) (M1 := M) rfl ?_
      refine mv_callW (st2 := []) rfl (Or.inl rfl) rfl rfl rfl (sp_become_50_30 hc (by omega) (by omega)) (by first | decide | omega) (fun Ma69 hm70 => ?_)
      have hb := hm70
      refine mv_goW 2 (pc' := if 1 = 0 then 41 else 51) (ls' := [mv_R 0, mv_I 0, mv_I (u : Int), mv_I 1, mv_I 0, mv_U, mv_U, mv_U]) (st' := []) (M1 := Ma69) rfl ?_
      refine mv_ffW (by first | decide | omega) ?_
      refine mv_goW 8 (pc' := 66) (ls' := [mv_R 0, mv_I 0, mv_I (u : Int), mv_I 1, mv_I 0, mv_R 55, mv_I 0, mv_I 0]) (st' := []) (M1 := Ma69) rfl ?_
      have huv : (u : Int) < V 0 9 := by omega
      have hzv : (z : Int) ≤ V 0 8 := by omega
      refine sp_ckd1_0 (d := 12) (V := V) (M0 := Ma69) (g := fun j => M 119 (40 * 0 + j)) ho hl hn (sp_cts_ag hct hb.1 hn (fun i h1 h2 => by simp only [List.mem_cons, List.not_mem_nil, or_false]; omega)) huv (by rw [hb.1 _ (by decide)]; exact hz1) hzv (fun j hj => by rw [hb.1 _ (by decide)]; exact hcl j (by omega)) (fun M2 hw => ?_) 10 0 Ma69 V (by omega) hb.2 (fun _ => rfl) mv_ag.rf
      have hw2 : mv_ag [36, 37, 50, 51, 52, 53, 54, 55, 56, 57] M M2 := (hb.1.wd (by decide)).tr (hw.wd (by decide))
      have hm := sp_m_ag2 hm hw2 (by decide)
      have hmt := sp_mts_ag hmt hw2 (by decide)
      have hs2 : M2 117 0 = so := by rw [hw2 117 (by decide)]; exact hs2
      have hz2 : M2 118 0 = (z : Int) := by rw [hw2 118 (by decide)]; exact hz2
      refine mv_goW 1 (pc' := 122) (ls' := [mv_R 0, mv_I 0, mv_I (u : Int), mv_I 1, mv_I 0, mv_R 55, mv_I (sp_bits (sp_pa V P (fun j => M 119 (40 * 0 + j)) z u 5 u) 10), mv_I 10]) (st' := [mv_I (sp_bits (sp_pa V P (fun j => M 119 (40 * 0 + j)) z u 5 u) 10)]) (M1 := M2) rfl ?_
      refine mv_retW (fun n => rfl) ⟨_, rfl, ?_⟩
      refine mv_goW 3 (pc' := 3) (ls' := [mv_R 100, mv_I 0, mv_I (u : Int), mv_I 1, mv_U, mv_U, mv_U, mv_U, mv_U]) (st' := [mv_I (u : Int), mv_I 0, mv_R 100]) (M1 := M2) rfl ?_
      have ha71 : (so ≠ -1 ∧ (z : Int) ≤ V 0 8) ∧ 0 ≤ (u : Int) ∧ (u : Int) < V 0 9 := by omega
      refine mv_callPW (st2 := [mv_I 0]) rfl (Or.inl rfl) rfl rfl rfl (sp_mrj_t (S := 0) (by decide) hm ho hs2 hz2 ha71) (by first | decide | omega) ?_
      refine mv_goW 3 (pc' := if 0 = 0 then 16 else 13) (ls' := [mv_R 100, mv_I 0, mv_I (u : Int), mv_I 1, mv_I 0, mv_U, mv_U, mv_U, mv_U]) (st' := []) (M1 := M2) rfl ?_
      refine mv_ttW (by first | decide | omega) ?_
      refine mv_goW 3 (pc' := 19) (ls' := [mv_R 100, mv_I 0, mv_I (u : Int), mv_I 1, mv_I 0, mv_U, mv_U, mv_U, mv_U]) (st' := [mv_I 1, mv_I 0, mv_I 1]) (M1 := M2) rfl ?_
      have ha72 : (0 : Int) ≤ (1 : Int) ∧ (1 : Int) ≤ (1 : Int) := by omega
      refine mv_callPW (st2 := [mv_I 1]) rfl (Or.inr rfl) rfl rfl rfl (sp_min_t ha72) (by first | decide | omega) ?_
      refine mv_goW 1 (pc' := if 1 = 0 then 25 else 28) (ls' := [mv_R 100, mv_I 0, mv_I (u : Int), mv_I 1, mv_I 0, mv_U, mv_U, mv_U, mv_U]) (st' := []) (M1 := M2) rfl ?_
      refine mv_ffW (by first | decide | omega) ?_
      refine mv_goW 4 (pc' := if 0 ≤ (u : Int) ∧ (u : Int) < 6 then 34 else mv_bad) (ls' := [mv_R 100, mv_I 0, mv_I (u : Int), mv_I 1, mv_I 0, mv_U, mv_U, mv_U, mv_U]) (st' := [mv_I (M2 102 u)]) (M1 := M2) rfl ?_
      refine mv_ttW (by omega) ?_
      have hr17 := sp_ok_4 ho u (by omega)
      rw [show M2 102 u = V 4 u from by exact sp_m_4 hm u (by omega)]
      refine mv_goW 5 (pc' := if 0 ≤ (u : Int) ∧ (u : Int) < 6 then 42 else mv_bad) (ls' := [mv_R 100, mv_I 0, mv_I (u : Int), mv_I 1, mv_I 0, mv_I (V 4 u), mv_U, mv_U, mv_U]) (st' := [mv_I (M2 103 u)]) (M1 := M2) rfl ?_
      refine mv_ttW (by omega) ?_
      have hr19 := sp_ok_5 ho u (by omega)
      rw [show M2 103 u = V 5 u from by exact sp_m_5 hm u (by omega)]
      refine mv_goW 5 (pc' := 50) (ls' := [mv_R 100, mv_I 0, mv_I (u : Int), mv_I 1, mv_I 0, mv_I (V 4 u), mv_I (V 5 u), mv_I 0, mv_I 0]) (st' := []) (M1 := M2) rfl ?_
      refine sp_mkd1 (d := 12) (V := V) (M0 := M2) (S := 0) (g := fun j => M 119 (40 * 0 + j)) ho hl hn hmt huv (by decide) hz2 hzv (fun j hj => by rw [hw2 119 (by decide)]) (fun M3 Vc hm3 hVc3 hy => ?_) 10 0 M2 V (by omega) hm (fun _ => rfl) mv_ag.rf
      refine mv_goW 5 (pc' := if 0 ≤ (u : Int) ∧ (u : Int) < 6 then 138 else mv_bad) (ls' := [mv_R 100, mv_I 0, mv_I (u : Int), mv_I 1, mv_I 0, mv_I (V 4 u), mv_I (V 5 u), mv_I (sp_bits (sp_pa V P (fun j => M 119 (40 * 0 + j)) z u 5 u) 10), mv_I 10]) (st' := []) (M1 := (mv_st M3 102 (mv_up (M3 102) u (V 4 u)))) rfl ?_
      refine mv_ttW (by omega) ?_
      refine mv_goW 5 (pc' := if 0 ≤ (u : Int) ∧ (u : Int) < 6 then 146 else mv_bad) (ls' := [mv_R 100, mv_I 0, mv_I (u : Int), mv_I 1, mv_I 0, mv_I (V 4 u), mv_I (V 5 u), mv_I (sp_bits (sp_pa V P (fun j => M 119 (40 * 0 + j)) z u 5 u) 10), mv_I 10]) (st' := []) (M1 := (mv_st (mv_st M3 102 (mv_up (M3 102) u (V 4 u))) 103 (mv_up (M3 103) u (V 5 u)))) rfl ?_
      refine mv_ttW (by omega) ?_
      refine mv_goW 1 (pc' := 148) (ls' := [mv_R 100, mv_I 0, mv_I (u : Int), mv_I 1, mv_I 0, mv_I (V 4 u), mv_I (V 5 u), mv_I (sp_bits (sp_pa V P (fun j => M 119 (40 * 0 + j)) z u 5 u) 10), mv_I 10]) (st' := [mv_I (sp_bits (sp_pa V P (fun j => M 119 (40 * 0 + j)) z u 5 u) 10)]) (M1 := (mv_st (mv_st M3 102 (mv_up (M3 102) u (V 4 u))) 103 (mv_up (M3 103) u (V 5 u)))) rfl ?_
      exact mv_retW (fun n => rfl) ⟨congrArg mv_I (by first | with_reducible rfl | omega), sp_bend h hw2 (((hy.wd (by decide)).st (by decide)).st (by decide)) (by have e : M3 100 = M2 100 := hy 100 (by decide); exact ⟨congrFun e 9, congrFun e 12, congrFun e 14⟩) (by have q := sp_m_alt5 (i := u) (x := V 5 u) (sp_m_alt4 (i := u) (x := V 4 u) hm3); have hVk : sp_alt Vc 4 u (V 4 u) = Vc := (by rw [← show Vc 4 = V 4 from congrFun (hVc3 0) 4]; exact sp_alt_id Vc 4 u); rw [hVk, hVc3, sp_alt_id] at q; exact q)⟩
    · refine mv_callPW (st2 := [mv_I (sp_rfv so (z : Int) (V 0 8))]) rfl (Or.inl rfl) rfl rfl rfl (sp_crj_0_f hc ho hs1 hz1 ha67) (by first | decide | omega) ?_
      refine mv_goW 3 (pc' := if (sp_rfv so (z : Int) (V 0 8)) = 0 then 16 else 13) (ls' := [mv_R 0, mv_I 0, mv_I (u : Int), mv_I 1, mv_I (sp_rfv so (z : Int) (V 0 8)), mv_U, mv_U, mv_U]) (st' := []) (M1 := M) rfl ?_
      refine mv_ffW (by omega) ?_
      refine mv_goW 1 (pc' := 15) (ls' := [mv_R 0, mv_I 0, mv_I (u : Int), mv_I 1, mv_I (sp_rfv so (z : Int) (V 0 8)), mv_U, mv_U, mv_U]) (st' := [mv_I (sp_rfv so (z : Int) (V 0 8))]) (M1 := M) rfl ?_
      refine mv_retW (fun n => rfl) ⟨_, rfl, ?_⟩
      refine mv_goW 3 (pc' := 3) (ls' := [mv_R 100, mv_I 0, mv_I (u : Int), mv_I 1, mv_U, mv_U, mv_U, mv_U, mv_U]) (st' := [mv_I (u : Int), mv_I 0, mv_R 100]) (M1 := M) rfl ?_
      have ha73 : ¬ ((so ≠ -1 ∧ (z : Int) ≤ V 0 8) ∧ 0 ≤ (u : Int) ∧ (u : Int) < V 0 9) := by omega
      refine mv_callPW (st2 := [mv_I (sp_rfv so (z : Int) (V 0 8))]) rfl (Or.inl rfl) rfl rfl rfl (sp_mrj_f (S := 0) (by decide) hm ho hs2 hz2 ha73) (by first | decide | omega) ?_
      refine mv_goW 3 (pc' := if (sp_rfv so (z : Int) (V 0 8)) = 0 then 16 else 13) (ls' := [mv_R 100, mv_I 0, mv_I (u : Int), mv_I 1, mv_I (sp_rfv so (z : Int) (V 0 8)), mv_U, mv_U, mv_U, mv_U]) (st' := []) (M1 := M) rfl ?_
      refine mv_ffW (by omega) ?_
      refine mv_goW 1 (pc' := 15) (ls' := [mv_R 100, mv_I 0, mv_I (u : Int), mv_I 1, mv_I (sp_rfv so (z : Int) (V 0 8)), mv_U, mv_U, mv_U, mv_U]) (st' := [mv_I (sp_rfv so (z : Int) (V 0 8))]) (M1 := M) rfl ?_
      exact mv_retW (fun n => rfl) ⟨congrArg mv_I (by first | with_reducible rfl | omega), hI⟩
  · refine mv_goW 3 (pc' := 3) (ls' := [mv_R 0, mv_I 0, mv_I a, mv_I 1, mv_U, mv_U, mv_U, mv_U]) (st' := [mv_I a, mv_I 0, mv_R 0]) (M1 := M) rfl ?_
    have ha74 : ¬ ((so ≠ -1 ∧ (z : Int) ≤ V 0 8) ∧ 0 ≤ a ∧ a < V 0 9) := by omega
    refine mv_callPW (st2 := [mv_I (sp_rfv so (z : Int) (V 0 8))]) rfl (Or.inl rfl) rfl rfl rfl (sp_crj_0_f hc ho hs1 hz1 ha74) (by first | decide | omega) ?_
    refine mv_goW 3 (pc' := if (sp_rfv so (z : Int) (V 0 8)) = 0 then 16 else 13) (ls' := [mv_R 0, mv_I 0, mv_I a, mv_I 1, mv_I (sp_rfv so (z : Int) (V 0 8)), mv_U, mv_U, mv_U]) (st' := []) (M1 := M) rfl ?_
    refine mv_ffW (by omega) ?_
    refine mv_goW 1 (pc' := 15) (ls' := [mv_R 0, mv_I 0, mv_I a, mv_I 1, mv_I (sp_rfv so (z : Int) (V 0 8)), mv_U, mv_U, mv_U]) (st' := [mv_I (sp_rfv so (z : Int) (V 0 8))]) (M1 := M) rfl ?_
    refine mv_retW (fun n => rfl) ⟨_, rfl, ?_⟩
    refine mv_goW 3 (pc' := 3) (ls' := [mv_R 100, mv_I 0, mv_I a, mv_I 1, mv_U, mv_U, mv_U, mv_U, mv_U]) (st' := [mv_I a, mv_I 0, mv_R 100]) (M1 := M) rfl ?_
    have ha75 : ¬ ((so ≠ -1 ∧ (z : Int) ≤ V 0 8) ∧ 0 ≤ a ∧ a < V 0 9) := by omega
    refine mv_callPW (st2 := [mv_I (sp_rfv so (z : Int) (V 0 8))]) rfl (Or.inl rfl) rfl rfl rfl (sp_mrj_f (S := 0) (by decide) hm ho hs2 hz2 ha75) (by first | decide | omega) ?_
    refine mv_goW 3 (pc' := if (sp_rfv so (z : Int) (V 0 8)) = 0 then 16 else 13) (ls' := [mv_R 100, mv_I 0, mv_I a, mv_I 1, mv_I (sp_rfv so (z : Int) (V 0 8)), mv_U, mv_U, mv_U, mv_U]) (st' := []) (M1 := M) rfl ?_
    refine mv_ffW (by omega) ?_
    refine mv_goW 1 (pc' := 15) (ls' := [mv_R 100, mv_I 0, mv_I a, mv_I 1, mv_I (sp_rfv so (z : Int) (V 0 8)), mv_U, mv_U, mv_U, mv_U]) (st' := [mv_I (sp_rfv so (z : Int) (V 0 8))]) (M1 := M) rfl ?_
    exact mv_retW (fun n => rfl) ⟨congrArg mv_I (by first | with_reducible rfl | omega), hI⟩
theorem sp_k211_1 (a : Int) : sp_call 82 175 [mv_I 1, mv_I a, mv_I 1] [mv_I 1, mv_I a, mv_I 1] := by
  refine sp_mkW (lc := [mv_R 0, mv_I 1, mv_I a, mv_I 1, mv_U, mv_U, mv_U, mv_U]) (lm := [mv_R 100, mv_I 1, mv_I a, mv_I 1, mv_U, mv_U, mv_U, mv_U, mv_U]) rfl rfl (fun M hI => ?_)
  have hI2 := hI
  obtain ⟨V, P, nt, B, K, t, h⟩ := hI2
  have h' := h
  obtain ⟨⟨hc, hm, ho⟩, ⟨hy, hl, hn1, hn⟩, ⟨hct, hmt, hn7, hn12⟩, _⟩ := h'
  have h8 := sp_ok_s8 ho
  have h9 := sp_ok_s9 ho
  obtain ⟨so, sz, ⟨hs1, hs2, so0, so1⟩, ⟨hz1, hz2, sz0, sz1⟩, hcl⟩ := sp_sh_get h 1 (by decide)
  obtain ⟨z, rfl⟩ : ∃ x : Nat, sz = (x : Int) := ⟨sz.toNat, by omega⟩
  have hnz := sp_rfv_n so z (V 0 8)
  by_cases h0 : 0 ≤ a
  · obtain ⟨u, rfl⟩ : ∃ x : Nat, a = (x : Int) := ⟨a.toNat, by omega⟩
    refine mv_goW 3 (pc' := 3) (ls' := [mv_R 0, mv_I 1, mv_I (u : Int), mv_I 1, mv_U, mv_U, mv_U, mv_U]) (st' := [mv_I (u : Int), mv_I 1, mv_R 0]) (M1 := M) rfl ?_
    by_cases ha76 : (so ≠ -1 ∧ (z : Int) ≤ V 0 8) ∧ 0 ≤ (u : Int) ∧ (u : Int) < V 0 9
    · refine mv_callPW (st2 := [mv_I 0]) rfl (Or.inl rfl) rfl rfl rfl (sp_crj_1_t hc ho hs1 hz1 ha76) (by first | decide | omega) ?_
      refine mv_goW 3 (pc' := if 0 = 0 then 16 else 13) (ls' := [mv_R 0, mv_I 1, mv_I (u : Int), mv_I 1, mv_I 0, mv_U, mv_U, mv_U]) (st' := []) (M1 := M) rfl ?_
      refine mv_ttW (by first | decide | omega) ?_
      refine mv_goW 1 (pc' := 17) (ls' := [mv_R 0, mv_I 1, mv_I (u : Int), mv_I 1, mv_I 0, mv_U, mv_U, mv_U]) (st' := [mv_I 1]) (M1 := M) rfl ?_
      have ha77 : (1 : Int) = 0 ∨ (1 : Int) = 1 := by omega
      refine mv_callPW (st2 := [mv_I 1]) rfl (Or.inr rfl) rfl rfl rfl (sp_eith_t ha77) (by first | decide | omega) ?_
      refine mv_goW 1 (pc' := if 1 = 0 then 23 else 26) (ls' := [mv_R 0, mv_I 1, mv_I (u : Int), mv_I 1, mv_I 0, mv_U, mv_U, mv_U]) (st' := []) (M1 := M) rfl ?_
      refine mv_ffW (by first | decide | omega) ?_
      refine mv_goW 4 (pc' := 34) (ls' := [mv_R 0, mv_I 1, mv_I (u : Int), mv_I 1, mv_I 0, mv_U, mv_U, mv_U]) (st' := [mv_R 30, mv_R 50]) (M1 := M) rfl ?_
      refine mv_callW (st2 := []) rfl (Or.inl rfl) rfl rfl rfl (sp_become_50_30 hc (by omega) (by omega)) (by first | decide | omega) (fun Ma78 hm79 => ?_)
      have hb := hm79
      refine mv_goW 2 (pc' := if 1 = 0 then 41 else 51) (ls' := [mv_R 0, mv_I 1, mv_I (u : Int), mv_I 1, mv_I 0, mv_U, mv_U, mv_U]) (st' := []) (M1 := Ma78) rfl ?_
      refine mv_ffW (by first | decide | omega) ?_
      refine mv_goW 8 (pc' := 66) (ls' := [mv_R 0, mv_I 1, mv_I (u : Int), mv_I 1, mv_I 0, mv_R 55, mv_I 0, mv_I 0]) (st' := []) (M1 := Ma78) rfl ?_
      have huv : (u : Int) < V 0 9 := by omega
      have hzv : (z : Int) ≤ V 0 8 := by omega
      refine sp_ckd1_1 (d := 12) (V := V) (M0 := Ma78) (g := fun j => M 119 (40 * 1 + j)) ho hl hn (sp_cts_ag hct hb.1 hn (fun i h1 h2 => by simp only [List.mem_cons, List.not_mem_nil, or_false]; omega)) huv (by rw [hb.1 _ (by decide)]; exact hz1) hzv (fun j hj => by rw [hb.1 _ (by decide)]; exact hcl j (by omega)) (fun M2 hw => ?_) 10 0 Ma78 V (by omega) hb.2 (fun _ => rfl) mv_ag.rf
      have hw2 : mv_ag [36, 37, 50, 51, 52, 53, 54, 55, 56, 57] M M2 := (hb.1.wd (by decide)).tr (hw.wd (by decide))
      have hm := sp_m_ag2 hm hw2 (by decide)
      have hmt := sp_mts_ag hmt hw2 (by decide)
      have hs2 : M2 117 1 = so := by rw [hw2 117 (by decide)]; exact hs2
      have hz2 : M2 118 1 = (z : Int) := by rw [hw2 118 (by decide)]; exact hz2
      refine mv_goW 1 (pc' := 122) (ls' := [mv_R 0, mv_I 1, mv_I (u : Int), mv_I 1, mv_I 0, mv_R 55, mv_I (sp_bits (sp_pa V P (fun j => M 119 (40 * 1 + j)) z u 5 u) 10), mv_I 10]) (st' := [mv_I (sp_bits (sp_pa V P (fun j => M 119 (40 * 1 + j)) z u 5 u) 10)]) (M1 := M2) rfl ?_
      refine mv_retW (fun n => rfl) ⟨_, rfl, ?_⟩
      refine mv_goW 3 (pc' := 3) (ls' := [mv_R 100, mv_I 1, mv_I (u : Int), mv_I 1, mv_U, mv_U, mv_U, mv_U, mv_U]) (st' := [mv_I (u : Int), mv_I 1, mv_R 100]) (M1 := M2) rfl ?_
      have ha80 : (so ≠ -1 ∧ (z : Int) ≤ V 0 8) ∧ 0 ≤ (u : Int) ∧ (u : Int) < V 0 9 := by omega
      refine mv_callPW (st2 := [mv_I 0]) rfl (Or.inl rfl) rfl rfl rfl (sp_mrj_t (S := 1) (by decide) hm ho hs2 hz2 ha80) (by first | decide | omega) ?_
      refine mv_goW 3 (pc' := if 0 = 0 then 16 else 13) (ls' := [mv_R 100, mv_I 1, mv_I (u : Int), mv_I 1, mv_I 0, mv_U, mv_U, mv_U, mv_U]) (st' := []) (M1 := M2) rfl ?_
      refine mv_ttW (by first | decide | omega) ?_
      refine mv_goW 3 (pc' := 19) (ls' := [mv_R 100, mv_I 1, mv_I (u : Int), mv_I 1, mv_I 0, mv_U, mv_U, mv_U, mv_U]) (st' := [mv_I 1, mv_I 0, mv_I 1]) (M1 := M2) rfl ?_
      have ha81 : (0 : Int) ≤ (1 : Int) ∧ (1 : Int) ≤ (1 : Int) := by omega
      refine mv_callPW (st2 := [mv_I 1]) rfl (Or.inr rfl) rfl rfl rfl (sp_min_t ha81) (by first | decide | omega) ?_
      refine mv_goW 1 (pc' := if 1 = 0 then 25 else 28) (ls' := [mv_R 100, mv_I 1, mv_I (u : Int), mv_I 1, mv_I 0, mv_U, mv_U, mv_U, mv_U]) (st' := []) (M1 := M2) rfl ?_
      refine mv_ffW (by first | decide | omega) ?_
      refine mv_goW 4 (pc' := if 0 ≤ (u : Int) ∧ (u : Int) < 6 then 34 else mv_bad) (ls' := [mv_R 100, mv_I 1, mv_I (u : Int), mv_I 1, mv_I 0, mv_U, mv_U, mv_U, mv_U]) (st' := [mv_I (M2 102 u)]) (M1 := M2) rfl ?_
      refine mv_ttW (by omega) ?_
      have hr21 := sp_ok_4 ho u (by omega)
      rw [show M2 102 u = V 4 u from by exact sp_m_4 hm u (by omega)]
      refine mv_goW 5 (pc' := if 0 ≤ (u : Int) ∧ (u : Int) < 6 then 42 else mv_bad) (ls' := [mv_R 100, mv_I 1, mv_I (u : Int), mv_I 1, mv_I 0, mv_I (V 4 u), mv_U, mv_U, mv_U]) (st' := [mv_I (M2 103 u)]) (M1 := M2) rfl ?_
      refine mv_ttW (by omega) ?_
      have hr23 := sp_ok_5 ho u (by omega)
      rw [show M2 103 u = V 5 u from by exact sp_m_5 hm u (by omega)]
      refine mv_goW 5 (pc' := 50) (ls' := [mv_R 100, mv_I 1, mv_I (u : Int), mv_I 1, mv_I 0, mv_I (V 4 u), mv_I (V 5 u), mv_I 0, mv_I 0]) (st' := []) (M1 := M2) rfl ?_
      refine sp_mkd1 (d := 12) (V := V) (M0 := M2) (S := 1) (g := fun j => M 119 (40 * 1 + j)) ho hl hn hmt huv (by decide) hz2 hzv (fun j hj => by rw [hw2 119 (by decide)]) (fun M3 Vc hm3 hVc3 hy => ?_) 10 0 M2 V (by omega) hm (fun _ => rfl) mv_ag.rf
      refine mv_goW 5 (pc' := if 0 ≤ (u : Int) ∧ (u : Int) < 6 then 138 else mv_bad) (ls' := [mv_R 100, mv_I 1, mv_I (u : Int), mv_I 1, mv_I 0, mv_I (V 4 u), mv_I (V 5 u), mv_I (sp_bits (sp_pa V P (fun j => M 119 (40 * 1 + j)) z u 5 u) 10), mv_I 10]) (st' := []) (M1 := (mv_st M3 102 (mv_up (M3 102) u (V 4 u)))) rfl ?_
      refine mv_ttW (by omega) ?_
      refine mv_goW 5 (pc' := if 0 ≤ (u : Int) ∧ (u : Int) < 6 then 146 else mv_bad) (ls' := [mv_R 100, mv_I 1, mv_I (u : Int), mv_I 1, mv_I 0, mv_I (V 4 u), mv_I (V 5 u), mv_I (sp_bits (sp_pa V P (fun j => M 119 (40 * 1 + j)) z u 5 u) 10), mv_I 10]) (st' := []) (M1 := (mv_st (mv_st M3 102 (mv_up (M3 102) u (V 4 u))) 103 (mv_up (M3 103) u (V 5 u)))) rfl ?_
      refine mv_ttW (by omega) ?_
      refine mv_goW 1 (pc' := 148) (ls' := [mv_R 100, mv_I 1, mv_I (u : Int), mv_I 1, mv_I 0, mv_I (V 4 u), mv_I (V 5 u), mv_I (sp_bits (sp_pa V P (fun j => M 119 (40 * 1 + j)) z u 5 u) 10), mv_I 10]) (st' := [mv_I (sp_bits (sp_pa V P (fun j => M 119 (40 * 1 + j)) z u 5 u) 10)]) (M1 := (mv_st (mv_st M3 102 (mv_up (M3 102) u (V 4 u))) 103 (mv_up (M3 103) u (V 5 u)))) rfl ?_
      exact mv_retW (fun n => rfl) ⟨congrArg mv_I (by first | with_reducible rfl | omega), sp_bend h hw2 (((hy.wd (by decide)).st (by decide)).st (by decide)) (by have e : M3 100 = M2 100 := hy 100 (by decide); exact ⟨congrFun e 9, congrFun e 12, congrFun e 14⟩) (by have q := sp_m_alt5 (i := u) (x := V 5 u) (sp_m_alt4 (i := u) (x := V 4 u) hm3); have hVk : sp_alt Vc 4 u (V 4 u) = Vc := (by rw [← show Vc 4 = V 4 from congrFun (hVc3 0) 4]; exact sp_alt_id Vc 4 u); rw [hVk, hVc3, sp_alt_id] at q; exact q)⟩
    · refine mv_callPW (st2 := [mv_I (sp_rfv so (z : Int) (V 0 8))]) rfl (Or.inl rfl) rfl rfl rfl (sp_crj_1_f hc ho hs1 hz1 ha76) (by first | decide | omega) ?_
      refine mv_goW 3 (pc' := if (sp_rfv so (z : Int) (V 0 8)) = 0 then 16 else 13) (ls' := [mv_R 0, mv_I 1, mv_I (u : Int), mv_I 1, mv_I (sp_rfv so (z : Int) (V 0 8)), mv_U, mv_U, mv_U]) (st' := []) (M1 := M) rfl ?_
      refine mv_ffW (by omega) ?_
      refine mv_goW 1 (pc' := 15) (ls' := [mv_R 0, mv_I 1, mv_I (u : Int), mv_I 1, mv_I (sp_rfv so (z : Int) (V 0 8)), mv_U, mv_U, mv_U]) (st' := [mv_I (sp_rfv so (z : Int) (V 0 8))]) (M1 := M) rfl ?_
      refine mv_retW (fun n => rfl) ⟨_, rfl, ?_⟩
      refine mv_goW 3 (pc' := 3) (ls' := [mv_R 100, mv_I 1, mv_I (u : Int), mv_I 1, mv_U, mv_U, mv_U, mv_U, mv_U]) (st' := [mv_I (u : Int), mv_I 1, mv_R 100]) (M1 := M) rfl ?_
      have ha82 : ¬ ((so ≠ -1 ∧ (z : Int) ≤ V 0 8) ∧ 0 ≤ (u : Int) ∧ (u : Int) < V 0 9) := by omega
      refine mv_callPW (st2 := [mv_I (sp_rfv so (z : Int) (V 0 8))]) rfl (Or.inl rfl) rfl rfl rfl (sp_mrj_f (S := 1) (by decide) hm ho hs2 hz2 ha82) (by first | decide | omega) ?_
      refine mv_goW 3 (pc' := if (sp_rfv so (z : Int) (V 0 8)) = 0 then 16 else 13) (ls' := [mv_R 100, mv_I 1, mv_I (u : Int), mv_I 1, mv_I (sp_rfv so (z : Int) (V 0 8)), mv_U, mv_U, mv_U, mv_U]) (st' := []) (M1 := M) rfl ?_
      refine mv_ffW (by omega) ?_
      refine mv_goW 1 (pc' := 15) (ls' := [mv_R 100, mv_I 1, mv_I (u : Int), mv_I 1, mv_I (sp_rfv so (z : Int) (V 0 8)), mv_U, mv_U, mv_U, mv_U]) (st' := [mv_I (sp_rfv so (z : Int) (V 0 8))]) (M1 := M) rfl ?_
      exact mv_retW (fun n => rfl) ⟨congrArg mv_I (by first | with_reducible rfl | omega), hI⟩
  · refine mv_goW 3 (pc' := 3) (ls' := [mv_R 0, mv_I 1, mv_I a, mv_I 1, mv_U, mv_U, mv_U, mv_U]) (st' := [mv_I a, mv_I 1, mv_R 0]) (M1 := M) rfl ?_
    have ha83 : ¬ ((so ≠ -1 ∧ (z : Int) ≤ V 0 8) ∧ 0 ≤ a ∧ a < V 0 9) := by omega
    refine mv_callPW (st2 := [mv_I (sp_rfv so (z : Int) (V 0 8))]) rfl (Or.inl rfl) rfl rfl rfl (sp_crj_1_f hc ho hs1 hz1 ha83) (by first | decide | omega) ?_
    refine mv_goW 3 (pc' := if (sp_rfv so (z : Int) (V 0 8)) = 0 then 16 else 13) (ls' := [mv_R 0, mv_I 1, mv_I a, mv_I 1, mv_I (sp_rfv so (z : Int) (V 0 8)), mv_U, mv_U, mv_U]) (st' := []) (M1 := M) rfl ?_
    refine mv_ffW (by omega) ?_
    refine mv_goW 1 (pc' := 15) (ls' := [mv_R 0, mv_I 1, mv_I a, mv_I 1, mv_I (sp_rfv so (z : Int) (V 0 8)), mv_U, mv_U, mv_U]) (st' := [mv_I (sp_rfv so (z : Int) (V 0 8))]) (M1 := M) rfl ?_
    refine mv_retW (fun n => rfl) ⟨_, rfl, ?_⟩
    refine mv_goW 3 (pc' := 3) (ls' := [mv_R 100, mv_I 1, mv_I a, mv_I 1, mv_U, mv_U, mv_U, mv_U, mv_U]) (st' := [mv_I a, mv_I 1, mv_R 100]) (M1 := M) rfl ?_
    have ha84 : ¬ ((so ≠ -1 ∧ (z : Int) ≤ V 0 8) ∧ 0 ≤ a ∧ a < V 0 9) := by omega
    refine mv_callPW (st2 := [mv_I (sp_rfv so (z : Int) (V 0 8))]) rfl (Or.inl rfl) rfl rfl rfl (sp_mrj_f (S := 1) (by decide) hm ho hs2 hz2 ha84) (by first | decide | omega) ?_
    refine mv_goW 3 (pc' := if (sp_rfv so (z : Int) (V 0 8)) = 0 then 16 else 13) (ls' := [mv_R 100, mv_I 1, mv_I a, mv_I 1, mv_I (sp_rfv so (z : Int) (V 0 8)), mv_U, mv_U, mv_U, mv_U]) (st' := []) (M1 := M) rfl ?_
    refine mv_ffW (by omega) ?_
    refine mv_goW 1 (pc' := 15) (ls' := [mv_R 100, mv_I 1, mv_I a, mv_I 1, mv_I (sp_rfv so (z : Int) (V 0 8)), mv_U, mv_U, mv_U, mv_U]) (st' := [mv_I (sp_rfv so (z : Int) (V 0 8))]) (M1 := M) rfl ?_
    exact mv_retW (fun n => rfl) ⟨congrArg mv_I (by first | with_reducible rfl | omega), hI⟩
theorem sp_k211_2 (a : Int) : sp_call 82 175 [mv_I 2, mv_I a, mv_I 1] [mv_I 2, mv_I a, mv_I 1] := by
  refine sp_mkW (lc := [mv_R 0, mv_I 2, mv_I a, mv_I 1, mv_U, mv_U, mv_U, mv_U]) (lm := [mv_R 100, mv_I 2, mv_I a, mv_I 1, mv_U, mv_U, mv_U, mv_U, mv_U]) rfl rfl (fun M hI => ?_)
  have hI2 := hI
  obtain ⟨V, P, nt, B, K, t, h⟩ := hI2
  have h' := h
  obtain ⟨⟨hc, hm, ho⟩, ⟨hy, hl, hn1, hn⟩, ⟨hct, hmt, hn7, hn12⟩, _⟩ := h'
  have h8 := sp_ok_s8 ho
  have h9 := sp_ok_s9 ho
  obtain ⟨so, sz, ⟨hs1, hs2, so0, so1⟩, ⟨hz1, hz2, sz0, sz1⟩, hcl⟩ := sp_sh_get h 2 (by decide)
  obtain ⟨z, rfl⟩ : ∃ x : Nat, sz = (x : Int) := ⟨sz.toNat, by omega⟩
  have hnz := sp_rfv_n so z (V 0 8)
  by_cases h0 : 0 ≤ a
  · obtain ⟨u, rfl⟩ : ∃ x : Nat, a = (x : Int) := ⟨a.toNat, by omega⟩
    refine mv_goW 3 (pc' := 3) (ls' := [mv_R 0, mv_I 2, mv_I (u : Int), mv_I 1, mv_U, mv_U, mv_U, mv_U]) (st' := [mv_I (u : Int), mv_I 2, mv_R 0]) (M1 := M) rfl ?_
    by_cases ha85 : (so ≠ -1 ∧ (z : Int) ≤ V 0 8) ∧ 0 ≤ (u : Int) ∧ (u : Int) < V 0 9
    · refine mv_callPW (st2 := [mv_I 0]) rfl (Or.inl rfl) rfl rfl rfl (sp_crj_2_t hc ho hs1 hz1 ha85) (by first | decide | omega) ?_
      refine mv_goW 3 (pc' := if 0 = 0 then 16 else 13) (ls' := [mv_R 0, mv_I 2, mv_I (u : Int), mv_I 1, mv_I 0, mv_U, mv_U, mv_U]) (st' := []) (M1 := M) rfl ?_
      refine mv_ttW (by first | decide | omega) ?_
      refine mv_goW 1 (pc' := 17) (ls' := [mv_R 0, mv_I 2, mv_I (u : Int), mv_I 1, mv_I 0, mv_U, mv_U, mv_U]) (st' := [mv_I 1]) (M1 := M) rfl ?_
      have ha86 : (1 : Int) = 0 ∨ (1 : Int) = 1 := by omega
      refine mv_callPW (st2 := [mv_I 1]) rfl (Or.inr rfl) rfl rfl rfl (sp_eith_t ha86) (by first | decide | omega) ?_
      refine mv_goW 1 (pc' := if 1 = 0 then 23 else 26) (ls' := [mv_R 0, mv_I 2, mv_I (u : Int), mv_I 1, mv_I 0, mv_U, mv_U, mv_U]) (st' := []) (M1 := M) rfl ?_
      refine mv_ffW (by first | decide | omega) ?_
      refine mv_goW 4 (pc' := 34) (ls' := [mv_R 0, mv_I 2, mv_I (u : Int), mv_I 1, mv_I 0, mv_U, mv_U, mv_U]) (st' := [mv_R 30, mv_R 50]) (M1 := M) rfl ?_
      refine mv_callW (st2 := []) rfl (Or.inl rfl) rfl rfl rfl (sp_become_50_30 hc (by omega) (by omega)) (by first | decide | omega) (fun Ma87 hm88 => ?_)
      have hb := hm88
      refine mv_goW 2 (pc' := if 1 = 0 then 41 else 51) (ls' := [mv_R 0, mv_I 2, mv_I (u : Int), mv_I 1, mv_I 0, mv_U, mv_U, mv_U]) (st' := []) (M1 := Ma87) rfl ?_
      refine mv_ffW (by first | decide | omega) ?_
      refine mv_goW 8 (pc' := 66) (ls' := [mv_R 0, mv_I 2, mv_I (u : Int), mv_I 1, mv_I 0, mv_R 55, mv_I 0, mv_I 0]) (st' := []) (M1 := Ma87) rfl ?_
      have huv : (u : Int) < V 0 9 := by omega
      have hzv : (z : Int) ≤ V 0 8 := by omega
      refine sp_ckd1_2 (d := 12) (V := V) (M0 := Ma87) (g := fun j => M 119 (40 * 2 + j)) ho hl hn (sp_cts_ag hct hb.1 hn (fun i h1 h2 => by simp only [List.mem_cons, List.not_mem_nil, or_false]; omega)) huv (by rw [hb.1 _ (by decide)]; exact hz1) hzv (fun j hj => by rw [hb.1 _ (by decide)]; exact hcl j (by omega)) (fun M2 hw => ?_) 10 0 Ma87 V (by omega) hb.2 (fun _ => rfl) mv_ag.rf
      have hw2 : mv_ag [36, 37, 50, 51, 52, 53, 54, 55, 56, 57] M M2 := (hb.1.wd (by decide)).tr (hw.wd (by decide))
      have hm := sp_m_ag2 hm hw2 (by decide)
      have hmt := sp_mts_ag hmt hw2 (by decide)
      have hs2 : M2 117 2 = so := by rw [hw2 117 (by decide)]; exact hs2
      have hz2 : M2 118 2 = (z : Int) := by rw [hw2 118 (by decide)]; exact hz2
      refine mv_goW 1 (pc' := 122) (ls' := [mv_R 0, mv_I 2, mv_I (u : Int), mv_I 1, mv_I 0, mv_R 55, mv_I (sp_bits (sp_pa V P (fun j => M 119 (40 * 2 + j)) z u 5 u) 10), mv_I 10]) (st' := [mv_I (sp_bits (sp_pa V P (fun j => M 119 (40 * 2 + j)) z u 5 u) 10)]) (M1 := M2) rfl ?_
      refine mv_retW (fun n => rfl) ⟨_, rfl, ?_⟩
      refine mv_goW 3 (pc' := 3) (ls' := [mv_R 100, mv_I 2, mv_I (u : Int), mv_I 1, mv_U, mv_U, mv_U, mv_U, mv_U]) (st' := [mv_I (u : Int), mv_I 2, mv_R 100]) (M1 := M2) rfl ?_
      have ha89 : (so ≠ -1 ∧ (z : Int) ≤ V 0 8) ∧ 0 ≤ (u : Int) ∧ (u : Int) < V 0 9 := by omega
      refine mv_callPW (st2 := [mv_I 0]) rfl (Or.inl rfl) rfl rfl rfl (sp_mrj_t (S := 2) (by decide) hm ho hs2 hz2 ha89) (by first | decide | omega) ?_
      refine mv_goW 3 (pc' := if 0 = 0 then 16 else 13) (ls' := [mv_R 100, mv_I 2, mv_I (u : Int), mv_I 1, mv_I 0, mv_U, mv_U, mv_U, mv_U]) (st' := []) (M1 := M2) rfl ?_
      refine mv_ttW (by first | decide | omega) ?_
      refine mv_goW 3 (pc' := 19) (ls' := [mv_R 100, mv_I 2, mv_I (u : Int), mv_I 1, mv_I 0, mv_U, mv_U, mv_U, mv_U]) (st' := [mv_I 1, mv_I 0, mv_I 1]) (M1 := M2) rfl ?_
      have ha90 : (0 : Int) ≤ (1 : Int) ∧ (1 : Int) ≤ (1 : Int) := by omega
      refine mv_callPW (st2 := [mv_I 1]) rfl (Or.inr rfl) rfl rfl rfl (sp_min_t ha90) (by first | decide | omega) ?_
      refine mv_goW 1 (pc' := if 1 = 0 then 25 else 28) (ls' := [mv_R 100, mv_I 2, mv_I (u : Int), mv_I 1, mv_I 0, mv_U, mv_U, mv_U, mv_U]) (st' := []) (M1 := M2) rfl ?_
      refine mv_ffW (by first | decide | omega) ?_
      refine mv_goW 4 (pc' := if 0 ≤ (u : Int) ∧ (u : Int) < 6 then 34 else mv_bad) (ls' := [mv_R 100, mv_I 2, mv_I (u : Int), mv_I 1, mv_I 0, mv_U, mv_U, mv_U, mv_U]) (st' := [mv_I (M2 102 u)]) (M1 := M2) rfl ?_
      refine mv_ttW (by omega) ?_
      have hr25 := sp_ok_4 ho u (by omega)
      rw [show M2 102 u = V 4 u from by exact sp_m_4 hm u (by omega)]
      refine mv_goW 5 (pc' := if 0 ≤ (u : Int) ∧ (u : Int) < 6 then 42 else mv_bad) (ls' := [mv_R 100, mv_I 2, mv_I (u : Int), mv_I 1, mv_I 0, mv_I (V 4 u), mv_U, mv_U, mv_U]) (st' := [mv_I (M2 103 u)]) (M1 := M2) rfl ?_
      refine mv_ttW (by omega) ?_
      have hr27 := sp_ok_5 ho u (by omega)
      rw [show M2 103 u = V 5 u from by exact sp_m_5 hm u (by omega)]
      refine mv_goW 5 (pc' := 50) (ls' := [mv_R 100, mv_I 2, mv_I (u : Int), mv_I 1, mv_I 0, mv_I (V 4 u), mv_I (V 5 u), mv_I 0, mv_I 0]) (st' := []) (M1 := M2) rfl ?_
      refine sp_mkd1 (d := 12) (V := V) (M0 := M2) (S := 2) (g := fun j => M 119 (40 * 2 + j)) ho hl hn hmt huv (by decide) hz2 hzv (fun j hj => by rw [hw2 119 (by decide)]) (fun M3 Vc hm3 hVc3 hy => ?_) 10 0 M2 V (by omega) hm (fun _ => rfl) mv_ag.rf
      refine mv_goW 5 (pc' := if 0 ≤ (u : Int) ∧ (u : Int) < 6 then 138 else mv_bad) (ls' := [mv_R 100, mv_I 2, mv_I (u : Int), mv_I 1, mv_I 0, mv_I (V 4 u), mv_I (V 5 u), mv_I (sp_bits (sp_pa V P (fun j => M 119 (40 * 2 + j)) z u 5 u) 10), mv_I 10]) (st' := []) (M1 := (mv_st M3 102 (mv_up (M3 102) u (V 4 u)))) rfl ?_
      refine mv_ttW (by omega) ?_
      refine mv_goW 5 (pc' := if 0 ≤ (u : Int) ∧ (u : Int) < 6 then 146 else mv_bad) (ls' := [mv_R 100, mv_I 2, mv_I (u : Int), mv_I 1, mv_I 0, mv_I (V 4 u), mv_I (V 5 u), mv_I (sp_bits (sp_pa V P (fun j => M 119 (40 * 2 + j)) z u 5 u) 10), mv_I 10]) (st' := []) (M1 := (mv_st (mv_st M3 102 (mv_up (M3 102) u (V 4 u))) 103 (mv_up (M3 103) u (V 5 u)))) rfl ?_
      refine mv_ttW (by omega) ?_
      refine mv_goW 1 (pc' := 148) (ls' := [mv_R 100, mv_I 2, mv_I (u : Int), mv_I 1, mv_I 0, mv_I (V 4 u), mv_I (V 5 u), mv_I (sp_bits (sp_pa V P (fun j => M 119 (40 * 2 + j)) z u 5 u) 10), mv_I 10]) (st' := [mv_I (sp_bits (sp_pa V P (fun j => M 119 (40 * 2 + j)) z u 5 u) 10)]) (M1 := (mv_st (mv_st M3 102 (mv_up (M3 102) u (V 4 u))) 103 (mv_up (M3 103) u (V 5 u)))) rfl ?_
      exact mv_retW (fun n => rfl) ⟨congrArg mv_I (by first | with_reducible rfl | omega), sp_bend h hw2 (((hy.wd (by decide)).st (by decide)).st (by decide)) (by have e : M3 100 = M2 100 := hy 100 (by decide); exact ⟨congrFun e 9, congrFun e 12, congrFun e 14⟩) (by have q := sp_m_alt5 (i := u) (x := V 5 u) (sp_m_alt4 (i := u) (x := V 4 u) hm3); have hVk : sp_alt Vc 4 u (V 4 u) = Vc := (by rw [← show Vc 4 = V 4 from congrFun (hVc3 0) 4]; exact sp_alt_id Vc 4 u); rw [hVk, hVc3, sp_alt_id] at q; exact q)⟩
    · refine mv_callPW (st2 := [mv_I (sp_rfv so (z : Int) (V 0 8))]) rfl (Or.inl rfl) rfl rfl rfl (sp_crj_2_f hc ho hs1 hz1 ha85) (by first | decide | omega) ?_
      refine mv_goW 3 (pc' := if (sp_rfv so (z : Int) (V 0 8)) = 0 then 16 else 13) (ls' := [mv_R 0, mv_I 2, mv_I (u : Int), mv_I 1, mv_I (sp_rfv so (z : Int) (V 0 8)), mv_U, mv_U, mv_U]) (st' := []) (M1 := M) rfl ?_
      refine mv_ffW (by omega) ?_
      refine mv_goW 1 (pc' := 15) (ls' := [mv_R 0, mv_I 2, mv_I (u : Int), mv_I 1, mv_I (sp_rfv so (z : Int) (V 0 8)), mv_U, mv_U, mv_U]) (st' := [mv_I (sp_rfv so (z : Int) (V 0 8))]) (M1 := M) rfl ?_
      refine mv_retW (fun n => rfl) ⟨_, rfl, ?_⟩
      refine mv_goW 3 (pc' := 3) (ls' := [mv_R 100, mv_I 2, mv_I (u : Int), mv_I 1, mv_U, mv_U, mv_U, mv_U, mv_U]) (st' := [mv_I (u : Int), mv_I 2, mv_R 100]) (M1 := M) rfl ?_
      have ha91 : ¬ ((so ≠ -1 ∧ (z : Int) ≤ V 0 8) ∧ 0 ≤ (u : Int) ∧ (u : Int) < V 0 9) := by omega
      refine mv_callPW (st2 := [mv_I (sp_rfv so (z : Int) (V 0 8))]) rfl (Or.inl rfl) rfl rfl rfl (sp_mrj_f (S := 2) (by decide) hm ho hs2 hz2 ha91) (by first | decide | omega) ?_
      refine mv_goW 3 (pc' := if (sp_rfv so (z : Int) (V 0 8)) = 0 then 16 else 13) (ls' := [mv_R 100, mv_I 2, mv_I (u : Int), mv_I 1, mv_I (sp_rfv so (z : Int) (V 0 8)), mv_U, mv_U, mv_U, mv_U]) (st' := []) (M1 := M) rfl ?_
      refine mv_ffW (by omega) ?_
      refine mv_goW 1 (pc' := 15) (ls' := [mv_R 100, mv_I 2, mv_I (u : Int), mv_I 1, mv_I (sp_rfv so (z : Int) (V 0 8)), mv_U, mv_U, mv_U, mv_U]) (st' := [mv_I (sp_rfv so (z : Int) (V 0 8))]) (M1 := M) rfl ?_
      exact mv_retW (fun n => rfl) ⟨congrArg mv_I (by first | with_reducible rfl | omega), hI⟩
  · refine mv_goW 3 (pc' := 3) (ls' := [mv_R 0, mv_I 2, mv_I a, mv_I 1, mv_U, mv_U, mv_U, mv_U]) (st' := [mv_I a, mv_I 2, mv_R 0]) (M1 := M) rfl ?_
    have ha92 : ¬ ((so ≠ -1 ∧ (z : Int) ≤ V 0 8) ∧ 0 ≤ a ∧ a < V 0 9) := by omega
    refine mv_callPW (st2 := [mv_I (sp_rfv so (z : Int) (V 0 8))]) rfl (Or.inl rfl) rfl rfl rfl (sp_crj_2_f hc ho hs1 hz1 ha92) (by first | decide | omega) ?_
    refine mv_goW 3 (pc' := if (sp_rfv so (z : Int) (V 0 8)) = 0 then 16 else 13) (ls' := [mv_R 0, mv_I 2, mv_I a, mv_I 1, mv_I (sp_rfv so (z : Int) (V 0 8)), mv_U, mv_U, mv_U]) (st' := []) (M1 := M) rfl ?_
    refine mv_ffW (by omega) ?_
    refine mv_goW 1 (pc' := 15) (ls' := [mv_R 0, mv_I 2, mv_I a, mv_I 1, mv_I (sp_rfv so (z : Int) (V 0 8)), mv_U, mv_U, mv_U]) (st' := [mv_I (sp_rfv so (z : Int) (V 0 8))]) (M1 := M) rfl ?_
    refine mv_retW (fun n => rfl) ⟨_, rfl, ?_⟩
    refine mv_goW 3 (pc' := 3) (ls' := [mv_R 100, mv_I 2, mv_I a, mv_I 1, mv_U, mv_U, mv_U, mv_U, mv_U]) (st' := [mv_I a, mv_I 2, mv_R 100]) (M1 := M) rfl ?_
    have ha93 : ¬ ((so ≠ -1 ∧ (z : Int) ≤ V 0 8) ∧ 0 ≤ a ∧ a < V 0 9) := by omega
    refine mv_callPW (st2 := [mv_I (sp_rfv so (z : Int) (V 0 8))]) rfl (Or.inl rfl) rfl rfl rfl (sp_mrj_f (S := 2) (by decide) hm ho hs2 hz2 ha93) (by first | decide | omega) ?_
    refine mv_goW 3 (pc' := if (sp_rfv so (z : Int) (V 0 8)) = 0 then 16 else 13) (ls' := [mv_R 100, mv_I 2, mv_I a, mv_I 1, mv_I (sp_rfv so (z : Int) (V 0 8)), mv_U, mv_U, mv_U, mv_U]) (st' := []) (M1 := M) rfl ?_
    refine mv_ffW (by omega) ?_
    refine mv_goW 1 (pc' := 15) (ls' := [mv_R 100, mv_I 2, mv_I a, mv_I 1, mv_I (sp_rfv so (z : Int) (V 0 8)), mv_U, mv_U, mv_U, mv_U]) (st' := [mv_I (sp_rfv so (z : Int) (V 0 8))]) (M1 := M) rfl ?_
    exact mv_retW (fun n => rfl) ⟨congrArg mv_I (by first | with_reducible rfl | omega), hI⟩
theorem sp_k211_3 (a : Int) : sp_call 82 175 [mv_I 3, mv_I a, mv_I 1] [mv_I 3, mv_I a, mv_I 1] := by
  refine sp_mkW (lc := [mv_R 0, mv_I 3, mv_I a, mv_I 1, mv_U, mv_U, mv_U, mv_U]) (lm := [mv_R 100, mv_I 3, mv_I a, mv_I 1, mv_U, mv_U, mv_U, mv_U, mv_U]) rfl rfl (fun M hI => ?_)
  have hI2 := hI
  obtain ⟨V, P, nt, B, K, t, h⟩ := hI2
  have h' := h
  obtain ⟨⟨hc, hm, ho⟩, ⟨hy, hl, hn1, hn⟩, ⟨hct, hmt, hn7, hn12⟩, _⟩ := h'
  have h8 := sp_ok_s8 ho
  have h9 := sp_ok_s9 ho
  obtain ⟨so, sz, ⟨hs1, hs2, so0, so1⟩, ⟨hz1, hz2, sz0, sz1⟩, hcl⟩ := sp_sh_get h 3 (by decide)
  obtain ⟨z, rfl⟩ : ∃ x : Nat, sz = (x : Int) := ⟨sz.toNat, by omega⟩
  have hnz := sp_rfv_n so z (V 0 8)
  by_cases h0 : 0 ≤ a
  · obtain ⟨u, rfl⟩ : ∃ x : Nat, a = (x : Int) := ⟨a.toNat, by omega⟩
    refine mv_goW 3 (pc' := 3) (ls' := [mv_R 0, mv_I 3, mv_I (u : Int), mv_I 1, mv_U, mv_U, mv_U, mv_U]) (st' := [mv_I (u : Int), mv_I 3, mv_R 0]) (M1 := M) rfl ?_
    by_cases ha94 : (so ≠ -1 ∧ (z : Int) ≤ V 0 8) ∧ 0 ≤ (u : Int) ∧ (u : Int) < V 0 9
    · refine mv_callPW (st2 := [mv_I 0]) rfl (Or.inl rfl) rfl rfl rfl (sp_crj_3_t hc ho hs1 hz1 ha94) (by first | decide | omega) ?_
      refine mv_goW 3 (pc' := if 0 = 0 then 16 else 13) (ls' := [mv_R 0, mv_I 3, mv_I (u : Int), mv_I 1, mv_I 0, mv_U, mv_U, mv_U]) (st' := []) (M1 := M) rfl ?_
      refine mv_ttW (by first | decide | omega) ?_
      refine mv_goW 1 (pc' := 17) (ls' := [mv_R 0, mv_I 3, mv_I (u : Int), mv_I 1, mv_I 0, mv_U, mv_U, mv_U]) (st' := [mv_I 1]) (M1 := M) rfl ?_
      have ha95 : (1 : Int) = 0 ∨ (1 : Int) = 1 := by omega
      refine mv_callPW (st2 := [mv_I 1]) rfl (Or.inr rfl) rfl rfl rfl (sp_eith_t ha95) (by first | decide | omega) ?_
      refine mv_goW 1 (pc' := if 1 = 0 then 23 else 26) (ls' := [mv_R 0, mv_I 3, mv_I (u : Int), mv_I 1, mv_I 0, mv_U, mv_U, mv_U]) (st' := []) (M1 := M) rfl ?_
      refine mv_ffW (by first | decide | omega) ?_
      refine mv_goW 4 (pc' := 34) (ls' := [mv_R 0, mv_I 3, mv_I (u : Int), mv_I 1, mv_I 0, mv_U, mv_U, mv_U]) (st' := [mv_R 30, mv_R 50]) (M1 := M) rfl ?_
      refine mv_callW (st2 := []) rfl (Or.inl rfl) rfl rfl rfl (sp_become_50_30 hc (by omega) (by omega)) (by first | decide | omega) (fun Ma96 hm97 => ?_)
      have hb := hm97
      refine mv_goW 2 (pc' := if 1 = 0 then 41 else 51) (ls' := [mv_R 0, mv_I 3, mv_I (u : Int), mv_I 1, mv_I 0, mv_U, mv_U, mv_U]) (st' := []) (M1 := Ma96) rfl ?_
      refine mv_ffW (by first | decide | omega) ?_
      refine mv_goW 8 (pc' := 66) (ls' := [mv_R 0, mv_I 3, mv_I (u : Int), mv_I 1, mv_I 0, mv_R 55, mv_I 0, mv_I 0]) (st' := []) (M1 := Ma96) rfl ?_
      have huv : (u : Int) < V 0 9 := by omega
      have hzv : (z : Int) ≤ V 0 8 := by omega
      refine sp_ckd1_3 (d := 12) (V := V) (M0 := Ma96) (g := fun j => M 119 (40 * 3 + j)) ho hl hn (sp_cts_ag hct hb.1 hn (fun i h1 h2 => by simp only [List.mem_cons, List.not_mem_nil, or_false]; omega)) huv (by rw [hb.1 _ (by decide)]; exact hz1) hzv (fun j hj => by rw [hb.1 _ (by decide)]; exact hcl j (by omega)) (fun M2 hw => ?_) 10 0 Ma96 V (by omega) hb.2 (fun _ => rfl) mv_ag.rf
      have hw2 : mv_ag [36, 37, 50, 51, 52, 53, 54, 55, 56, 57] M M2 := (hb.1.wd (by decide)).tr (hw.wd (by decide))
      have hm := sp_m_ag2 hm hw2 (by decide)
      have hmt := sp_mts_ag hmt hw2 (by decide)
      have hs2 : M2 117 3 = so := by rw [hw2 117 (by decide)]; exact hs2
      have hz2 : M2 118 3 = (z : Int) := by rw [hw2 118 (by decide)]; exact hz2
      refine mv_goW 1 (pc' := 122) (ls' := [mv_R 0, mv_I 3, mv_I (u : Int), mv_I 1, mv_I 0, mv_R 55, mv_I (sp_bits (sp_pa V P (fun j => M 119 (40 * 3 + j)) z u 5 u) 10), mv_I 10]) (st' := [mv_I (sp_bits (sp_pa V P (fun j => M 119 (40 * 3 + j)) z u 5 u) 10)]) (M1 := M2) rfl ?_
      refine mv_retW (fun n => rfl) ⟨_, rfl, ?_⟩
      refine mv_goW 3 (pc' := 3) (ls' := [mv_R 100, mv_I 3, mv_I (u : Int), mv_I 1, mv_U, mv_U, mv_U, mv_U, mv_U]) (st' := [mv_I (u : Int), mv_I 3, mv_R 100]) (M1 := M2) rfl ?_
      have ha98 : (so ≠ -1 ∧ (z : Int) ≤ V 0 8) ∧ 0 ≤ (u : Int) ∧ (u : Int) < V 0 9 := by omega
      refine mv_callPW (st2 := [mv_I 0]) rfl (Or.inl rfl) rfl rfl rfl (sp_mrj_t (S := 3) (by decide) hm ho hs2 hz2 ha98) (by first | decide | omega) ?_
      refine mv_goW 3 (pc' := if 0 = 0 then 16 else 13) (ls' := [mv_R 100, mv_I 3, mv_I (u : Int), mv_I 1, mv_I 0, mv_U, mv_U, mv_U, mv_U]) (st' := []) (M1 := M2) rfl ?_
      refine mv_ttW (by first | decide | omega) ?_
      refine mv_goW 3 (pc' := 19) (ls' := [mv_R 100, mv_I 3, mv_I (u : Int), mv_I 1, mv_I 0, mv_U, mv_U, mv_U, mv_U]) (st' := [mv_I 1, mv_I 0, mv_I 1]) (M1 := M2) rfl ?_
      have ha99 : (0 : Int) ≤ (1 : Int) ∧ (1 : Int) ≤ (1 : Int) := by omega
      refine mv_callPW (st2 := [mv_I 1]) rfl (Or.inr rfl) rfl rfl rfl (sp_min_t ha99) (by first | decide | omega) ?_
      refine mv_goW 1 (pc' := if 1 = 0 then 25 else 28) (ls' := [mv_R 100, mv_I 3, mv_I (u : Int), mv_I 1, mv_I 0, mv_U, mv_U, mv_U, mv_U]) (st' := []) (M1 := M2) rfl ?_
      refine mv_ffW (by first | decide | omega) ?_
      refine mv_goW 4 (pc' := if 0 ≤ (u : Int) ∧ (u : Int) < 6 then 34 else mv_bad) (ls' := [mv_R 100, mv_I 3, mv_I (u : Int), mv_I 1, mv_I 0, mv_U, mv_U, mv_U, mv_U]) (st' := [mv_I (M2 102 u)]) (M1 := M2) rfl ?_
      refine mv_ttW (by omega) ?_
      have hr29 := sp_ok_4 ho u (by omega)
      rw [show M2 102 u = V 4 u from by exact sp_m_4 hm u (by omega)]
      refine mv_goW 5 (pc' := if 0 ≤ (u : Int) ∧ (u : Int) < 6 then 42 else mv_bad) (ls' := [mv_R 100, mv_I 3, mv_I (u : Int), mv_I 1, mv_I 0, mv_I (V 4 u), mv_U, mv_U, mv_U]) (st' := [mv_I (M2 103 u)]) (M1 := M2) rfl ?_
      refine mv_ttW (by omega) ?_
      have hr31 := sp_ok_5 ho u (by omega)
      rw [show M2 103 u = V 5 u from by exact sp_m_5 hm u (by omega)]
      refine mv_goW 5 (pc' := 50) (ls' := [mv_R 100, mv_I 3, mv_I (u : Int), mv_I 1, mv_I 0, mv_I (V 4 u), mv_I (V 5 u), mv_I 0, mv_I 0]) (st' := []) (M1 := M2) rfl ?_
      refine sp_mkd1 (d := 12) (V := V) (M0 := M2) (S := 3) (g := fun j => M 119 (40 * 3 + j)) ho hl hn hmt huv (by decide) hz2 hzv (fun j hj => by rw [hw2 119 (by decide)]) (fun M3 Vc hm3 hVc3 hy => ?_) 10 0 M2 V (by omega) hm (fun _ => rfl) mv_ag.rf
      refine mv_goW 5 (pc' := if 0 ≤ (u : Int) ∧ (u : Int) < 6 then 138 else mv_bad) (ls' := [mv_R 100, mv_I 3, mv_I (u : Int), mv_I 1, mv_I 0, mv_I (V 4 u), mv_I (V 5 u), mv_I (sp_bits (sp_pa V P (fun j => M 119 (40 * 3 + j)) z u 5 u) 10), mv_I 10]) (st' := []) (M1 := (mv_st M3 102 (mv_up (M3 102) u (V 4 u)))) rfl ?_
      refine mv_ttW (by omega) ?_
      refine mv_goW 5 (pc' := if 0 ≤ (u : Int) ∧ (u : Int) < 6 then 146 else mv_bad) (ls' := [mv_R 100, mv_I 3, mv_I (u : Int), mv_I 1, mv_I 0, mv_I (V 4 u), mv_I (V 5 u), mv_I (sp_bits (sp_pa V P (fun j => M 119 (40 * 3 + j)) z u 5 u) 10), mv_I 10]) (st' := []) (M1 := (mv_st (mv_st M3 102 (mv_up (M3 102) u (V 4 u))) 103 (mv_up (M3 103) u (V 5 u)))) rfl ?_
      refine mv_ttW (by omega) ?_
      refine mv_goW 1 (pc' := 148) (ls' := [mv_R 100, mv_I 3, mv_I (u : Int), mv_I 1, mv_I 0, mv_I (V 4 u), mv_I (V 5 u), mv_I (sp_bits (sp_pa V P (fun j => M 119 (40 * 3 + j)) z u 5 u) 10), mv_I 10]) (st' := [mv_I (sp_bits (sp_pa V P (fun j => M 119 (40 * 3 + j)) z u 5 u) 10)]) (M1 := (mv_st (mv_st M3 102 (mv_up (M3 102) u (V 4 u))) 103 (mv_up (M3 103) u (V 5 u)))) rfl ?_
      exact mv_retW (fun n => rfl) ⟨congrArg mv_I (by first | with_reducible rfl | omega), sp_bend h hw2 (((hy.wd (by decide)).st (by decide)).st (by decide)) (by have e : M3 100 = M2 100 := hy 100 (by decide); exact ⟨congrFun e 9, congrFun e 12, congrFun e 14⟩) (by have q := sp_m_alt5 (i := u) (x := V 5 u) (sp_m_alt4 (i := u) (x := V 4 u) hm3); have hVk : sp_alt Vc 4 u (V 4 u) = Vc := (by rw [← show Vc 4 = V 4 from congrFun (hVc3 0) 4]; exact sp_alt_id Vc 4 u); rw [hVk, hVc3, sp_alt_id] at q; exact q)⟩
    · refine mv_callPW (st2 := [mv_I (sp_rfv so (z : Int) (V 0 8))]) rfl (Or.inl rfl) rfl rfl rfl (sp_crj_3_f hc ho hs1 hz1 ha94) (by first | decide | omega) ?_
      refine mv_goW 3 (pc' := if (sp_rfv so (z : Int) (V 0 8)) = 0 then 16 else 13) (ls' := [mv_R 0, mv_I 3, mv_I (u : Int), mv_I 1, mv_I (sp_rfv so (z : Int) (V 0 8)), mv_U, mv_U, mv_U]) (st' := []) (M1 := M) rfl ?_
      refine mv_ffW (by omega) ?_
      refine mv_goW 1 (pc' := 15) (ls' := [mv_R 0, mv_I 3, mv_I (u : Int), mv_I 1, mv_I (sp_rfv so (z : Int) (V 0 8)), mv_U, mv_U, mv_U]) (st' := [mv_I (sp_rfv so (z : Int) (V 0 8))]) (M1 := M) rfl ?_
      refine mv_retW (fun n => rfl) ⟨_, rfl, ?_⟩
      refine mv_goW 3 (pc' := 3) (ls' := [mv_R 100, mv_I 3, mv_I (u : Int), mv_I 1, mv_U, mv_U, mv_U, mv_U, mv_U]) (st' := [mv_I (u : Int), mv_I 3, mv_R 100]) (M1 := M) rfl ?_
      have ha100 : ¬ ((so ≠ -1 ∧ (z : Int) ≤ V 0 8) ∧ 0 ≤ (u : Int) ∧ (u : Int) < V 0 9) := by omega
      refine mv_callPW (st2 := [mv_I (sp_rfv so (z : Int) (V 0 8))]) rfl (Or.inl rfl) rfl rfl rfl (sp_mrj_f (S := 3) (by decide) hm ho hs2 hz2 ha100) (by first | decide | omega) ?_
      refine mv_goW 3 (pc' := if (sp_rfv so (z : Int) (V 0 8)) = 0 then 16 else 13) (ls' := [mv_R 100, mv_I 3, mv_I (u : Int), mv_I 1, mv_I (sp_rfv so (z : Int) (V 0 8)), mv_U, mv_U, mv_U, mv_U]) (st' := []) (M1 := M) rfl ?_
      refine mv_ffW (by omega) ?_
      refine mv_goW 1 (pc' := 15) (ls' := [mv_R 100, mv_I 3, mv_I (u : Int), mv_I 1, mv_I (sp_rfv so (z : Int) (V 0 8)), mv_U, mv_U, mv_U, mv_U]) (st' := [mv_I (sp_rfv so (z : Int) (V 0 8))]) (M1 := M) rfl ?_
      exact mv_retW (fun n => rfl) ⟨congrArg mv_I (by first | with_reducible rfl | omega), hI⟩
  · refine mv_goW 3 (pc' := 3) (ls' := [mv_R 0, mv_I 3, mv_I a, mv_I 1, mv_U, mv_U, mv_U, mv_U]) (st' := [mv_I a, mv_I 3, mv_R 0]) (M1 := M) rfl ?_
    have ha101 : ¬ ((so ≠ -1 ∧ (z : Int) ≤ V 0 8) ∧ 0 ≤ a ∧ a < V 0 9) := by omega
    refine mv_callPW (st2 := [mv_I (sp_rfv so (z : Int) (V 0 8))]) rfl (Or.inl rfl) rfl rfl rfl (sp_crj_3_f hc ho hs1 hz1 ha101) (by first | decide | omega) ?_
    refine mv_goW 3 (pc' := if (sp_rfv so (z : Int) (V 0 8)) = 0 then 16 else 13) (ls' := [mv_R 0, mv_I 3, mv_I a, mv_I 1, mv_I (sp_rfv so (z : Int) (V 0 8)), mv_U, mv_U, mv_U]) (st' := []) (M1 := M) rfl ?_
    refine mv_ffW (by omega) ?_
    refine mv_goW 1 (pc' := 15) (ls' := [mv_R 0, mv_I 3, mv_I a, mv_I 1, mv_I (sp_rfv so (z : Int) (V 0 8)), mv_U, mv_U, mv_U]) (st' := [mv_I (sp_rfv so (z : Int) (V 0 8))]) (M1 := M) rfl ?_
    refine mv_retW (fun n => rfl) ⟨_, rfl, ?_⟩
    refine mv_goW 3 (pc' := 3) (ls' := [mv_R 100, mv_I 3, mv_I a, mv_I 1, mv_U, mv_U, mv_U, mv_U, mv_U]) (st' := [mv_I a, mv_I 3, mv_R 100]) (M1 := M) rfl ?_
    have ha102 : ¬ ((so ≠ -1 ∧ (z : Int) ≤ V 0 8) ∧ 0 ≤ a ∧ a < V 0 9) := by omega
    refine mv_callPW (st2 := [mv_I (sp_rfv so (z : Int) (V 0 8))]) rfl (Or.inl rfl) rfl rfl rfl (sp_mrj_f (S := 3) (by decide) hm ho hs2 hz2 ha102) (by first | decide | omega) ?_
    refine mv_goW 3 (pc' := if (sp_rfv so (z : Int) (V 0 8)) = 0 then 16 else 13) (ls' := [mv_R 100, mv_I 3, mv_I a, mv_I 1, mv_I (sp_rfv so (z : Int) (V 0 8)), mv_U, mv_U, mv_U, mv_U]) (st' := []) (M1 := M) rfl ?_
    refine mv_ffW (by omega) ?_
    refine mv_goW 1 (pc' := 15) (ls' := [mv_R 100, mv_I 3, mv_I a, mv_I 1, mv_I (sp_rfv so (z : Int) (V 0 8)), mv_U, mv_U, mv_U, mv_U]) (st' := [mv_I (sp_rfv so (z : Int) (V 0 8))]) (M1 := M) rfl ?_
    exact mv_retW (fun n => rfl) ⟨congrArg mv_I (by first | with_reducible rfl | omega), hI⟩
theorem sp_k21x_0 (a b : Int) (hb : ¬ (b = 0 ∨ b = 1)) : sp_call 82 175 [mv_I 0, mv_I a, mv_I b] [mv_I 0, mv_I a, mv_I b] := by
  refine sp_mkW (lc := [mv_R 0, mv_I 0, mv_I a, mv_I b, mv_U, mv_U, mv_U, mv_U]) (lm := [mv_R 100, mv_I 0, mv_I a, mv_I b, mv_U, mv_U, mv_U, mv_U, mv_U]) rfl rfl (fun M hI => ?_)
  have hI2 := hI
  obtain ⟨V, P, nt, B, K, t, h⟩ := hI2
  have h' := h
  obtain ⟨⟨hc, hm, ho⟩, ⟨hy, hl, hn1, hn⟩, ⟨hct, hmt, hn7, hn12⟩, _⟩ := h'
  obtain ⟨so, sz, ⟨hs1, hs2, so0, so1⟩, ⟨hz1, hz2, sz0, sz1⟩, hcl⟩ := sp_sh_get h 0 (by decide)
  obtain ⟨z, rfl⟩ : ∃ x : Nat, sz = (x : Int) := ⟨sz.toNat, by omega⟩
  have hnz := sp_rfv_n so z (V 0 8)
  refine mv_goW 3 (pc' := 3) (ls' := [mv_R 0, mv_I 0, mv_I a, mv_I b, mv_U, mv_U, mv_U, mv_U]) (st' := [mv_I a, mv_I 0, mv_R 0]) (M1 := M) rfl ?_
  by_cases ha103 : (so ≠ -1 ∧ (z : Int) ≤ V 0 8) ∧ 0 ≤ a ∧ a < V 0 9
  · refine mv_callPW (st2 := [mv_I 0]) rfl (Or.inl rfl) rfl rfl rfl (sp_crj_0_t hc ho hs1 hz1 ha103) (by first | decide | omega) ?_
    refine mv_goW 3 (pc' := if 0 = 0 then 16 else 13) (ls' := [mv_R 0, mv_I 0, mv_I a, mv_I b, mv_I 0, mv_U, mv_U, mv_U]) (st' := []) (M1 := M) rfl ?_
    refine mv_ttW (by first | decide | omega) ?_
    refine mv_goW 1 (pc' := 17) (ls' := [mv_R 0, mv_I 0, mv_I a, mv_I b, mv_I 0, mv_U, mv_U, mv_U]) (st' := [mv_I b]) (M1 := M) rfl ?_
    have ha104 : ¬ (b = 0 ∨ b = 1) := by omega
    refine mv_callPW (st2 := [mv_I 0]) rfl (Or.inr rfl) rfl rfl rfl (sp_eith_f ha104) (by first | decide | omega) ?_
    refine mv_goW 1 (pc' := if 0 = 0 then 23 else 26) (ls' := [mv_R 0, mv_I 0, mv_I a, mv_I b, mv_I 0, mv_U, mv_U, mv_U]) (st' := []) (M1 := M) rfl ?_
    refine mv_ttW (by first | decide | omega) ?_
    refine mv_goW 1 (pc' := 25) (ls' := [mv_R 0, mv_I 0, mv_I a, mv_I b, mv_I 0, mv_U, mv_U, mv_U]) (st' := [mv_I (-7)]) (M1 := M) rfl ?_
    refine mv_retW (fun n => rfl) ⟨_, rfl, ?_⟩
    refine mv_goW 3 (pc' := 3) (ls' := [mv_R 100, mv_I 0, mv_I a, mv_I b, mv_U, mv_U, mv_U, mv_U, mv_U]) (st' := [mv_I a, mv_I 0, mv_R 100]) (M1 := M) rfl ?_
    have ha105 : (so ≠ -1 ∧ (z : Int) ≤ V 0 8) ∧ 0 ≤ a ∧ a < V 0 9 := by omega
    refine mv_callPW (st2 := [mv_I 0]) rfl (Or.inl rfl) rfl rfl rfl (sp_mrj_t (S := 0) (by decide) hm ho hs2 hz2 ha105) (by first | decide | omega) ?_
    refine mv_goW 3 (pc' := if 0 = 0 then 16 else 13) (ls' := [mv_R 100, mv_I 0, mv_I a, mv_I b, mv_I 0, mv_U, mv_U, mv_U, mv_U]) (st' := []) (M1 := M) rfl ?_
    refine mv_ttW (by first | decide | omega) ?_
    refine mv_goW 3 (pc' := 19) (ls' := [mv_R 100, mv_I 0, mv_I a, mv_I b, mv_I 0, mv_U, mv_U, mv_U, mv_U]) (st' := [mv_I 1, mv_I 0, mv_I b]) (M1 := M) rfl ?_
    have ha106 : ¬ ((0 : Int) ≤ b ∧ b ≤ (1 : Int)) := by omega
    refine mv_callPW (st2 := [mv_I 0]) rfl (Or.inr rfl) rfl rfl rfl (sp_min_f ha106) (by first | decide | omega) ?_
    refine mv_goW 1 (pc' := if 0 = 0 then 25 else 28) (ls' := [mv_R 100, mv_I 0, mv_I a, mv_I b, mv_I 0, mv_U, mv_U, mv_U, mv_U]) (st' := []) (M1 := M) rfl ?_
    refine mv_ttW (by first | decide | omega) ?_
    refine mv_goW 1 (pc' := 27) (ls' := [mv_R 100, mv_I 0, mv_I a, mv_I b, mv_I 0, mv_U, mv_U, mv_U, mv_U]) (st' := [mv_I (-7)]) (M1 := M) rfl ?_
    exact mv_retW (fun n => rfl) ⟨congrArg mv_I (by first | with_reducible rfl | omega), hI⟩
  · refine mv_callPW (st2 := [mv_I (sp_rfv so (z : Int) (V 0 8))]) rfl (Or.inl rfl) rfl rfl rfl (sp_crj_0_f hc ho hs1 hz1 ha103) (by first | decide | omega) ?_
    refine mv_goW 3 (pc' := if (sp_rfv so (z : Int) (V 0 8)) = 0 then 16 else 13) (ls' := [mv_R 0, mv_I 0, mv_I a, mv_I b, mv_I (sp_rfv so (z : Int) (V 0 8)), mv_U, mv_U, mv_U]) (st' := []) (M1 := M) rfl ?_
    refine mv_ffW (by omega) ?_
    refine mv_goW 1 (pc' := 15) (ls' := [mv_R 0, mv_I 0, mv_I a, mv_I b, mv_I (sp_rfv so (z : Int) (V 0 8)), mv_U, mv_U, mv_U]) (st' := [mv_I (sp_rfv so (z : Int) (V 0 8))]) (M1 := M) rfl ?_
    refine mv_retW (fun n => rfl) ⟨_, rfl, ?_⟩
    refine mv_goW 3 (pc' := 3) (ls' := [mv_R 100, mv_I 0, mv_I a, mv_I b, mv_U, mv_U, mv_U, mv_U, mv_U]) (st' := [mv_I a, mv_I 0, mv_R 100]) (M1 := M) rfl ?_
    have ha107 : ¬ ((so ≠ -1 ∧ (z : Int) ≤ V 0 8) ∧ 0 ≤ a ∧ a < V 0 9) := by omega
    refine mv_callPW (st2 := [mv_I (sp_rfv so (z : Int) (V 0 8))]) rfl (Or.inl rfl) rfl rfl rfl (sp_mrj_f (S := 0) (by decide) hm ho hs2 hz2 ha107) (by first | decide | omega) ?_
    refine mv_goW 3 (pc' := if (sp_rfv so (z : Int) (V 0 8)) = 0 then 16 else 13) (ls' := [mv_R 100, mv_I 0, mv_I a, mv_I b, mv_I (sp_rfv so (z : Int) (V 0 8)), mv_U, mv_U, mv_U, mv_U]) (st' := []) (M1 := M) rfl ?_
    refine mv_ffW (by omega) ?_
    refine mv_goW 1 (pc' := 15) (ls' := [mv_R 100, mv_I 0, mv_I a, mv_I b, mv_I (sp_rfv so (z : Int) (V 0 8)), mv_U, mv_U, mv_U, mv_U]) (st' := [mv_I (sp_rfv so (z : Int) (V 0 8))]) (M1 := M) rfl ?_
    exact mv_retW (fun n => rfl) ⟨congrArg mv_I (by first | with_reducible rfl | omega), hI⟩
theorem sp_k21_0 (a b : Int) : sp_call 82 175 [mv_I 0, mv_I a, mv_I b] [mv_I 0, mv_I a, mv_I b] := by
  by_cases hb : b = 0 ∨ b = 1
  · rcases hb with q | q <;> subst q
    · exact sp_k210_0 a
    · exact sp_k211_0 a
  · exact sp_k21x_0 a b hb
theorem sp_k21x_1 (a b : Int) (hb : ¬ (b = 0 ∨ b = 1)) : sp_call 82 175 [mv_I 1, mv_I a, mv_I b] [mv_I 1, mv_I a, mv_I b] := by
  refine sp_mkW (lc := [mv_R 0, mv_I 1, mv_I a, mv_I b, mv_U, mv_U, mv_U, mv_U]) (lm := [mv_R 100, mv_I 1, mv_I a, mv_I b, mv_U, mv_U, mv_U, mv_U, mv_U]) rfl rfl (fun M hI => ?_)
  have hI2 := hI
  obtain ⟨V, P, nt, B, K, t, h⟩ := hI2
  have h' := h
  obtain ⟨⟨hc, hm, ho⟩, ⟨hy, hl, hn1, hn⟩, ⟨hct, hmt, hn7, hn12⟩, _⟩ := h'
  obtain ⟨so, sz, ⟨hs1, hs2, so0, so1⟩, ⟨hz1, hz2, sz0, sz1⟩, hcl⟩ := sp_sh_get h 1 (by decide)
  obtain ⟨z, rfl⟩ : ∃ x : Nat, sz = (x : Int) := ⟨sz.toNat, by omega⟩
  have hnz := sp_rfv_n so z (V 0 8)
  refine mv_goW 3 (pc' := 3) (ls' := [mv_R 0, mv_I 1, mv_I a, mv_I b, mv_U, mv_U, mv_U, mv_U]) (st' := [mv_I a, mv_I 1, mv_R 0]) (M1 := M) rfl ?_
  by_cases ha108 : (so ≠ -1 ∧ (z : Int) ≤ V 0 8) ∧ 0 ≤ a ∧ a < V 0 9
  · refine mv_callPW (st2 := [mv_I 0]) rfl (Or.inl rfl) rfl rfl rfl (sp_crj_1_t hc ho hs1 hz1 ha108) (by first | decide | omega) ?_
    refine mv_goW 3 (pc' := if 0 = 0 then 16 else 13) (ls' := [mv_R 0, mv_I 1, mv_I a, mv_I b, mv_I 0, mv_U, mv_U, mv_U]) (st' := []) (M1 := M) rfl ?_
    refine mv_ttW (by first | decide | omega) ?_
    refine mv_goW 1 (pc' := 17) (ls' := [mv_R 0, mv_I 1, mv_I a, mv_I b, mv_I 0, mv_U, mv_U, mv_U]) (st' := [mv_I b]) (M1 := M) rfl ?_
    have ha109 : ¬ (b = 0 ∨ b = 1) := by omega
    refine mv_callPW (st2 := [mv_I 0]) rfl (Or.inr rfl) rfl rfl rfl (sp_eith_f ha109) (by first | decide | omega) ?_
    refine mv_goW 1 (pc' := if 0 = 0 then 23 else 26) (ls' := [mv_R 0, mv_I 1, mv_I a, mv_I b, mv_I 0, mv_U, mv_U, mv_U]) (st' := []) (M1 := M) rfl ?_
    refine mv_ttW (by first | decide | omega) ?_
    refine mv_goW 1 (pc' := 25) (ls' := [mv_R 0, mv_I 1, mv_I a, mv_I b, mv_I 0, mv_U, mv_U, mv_U]) (st' := [mv_I (-7)]) (M1 := M) rfl ?_
    refine mv_retW (fun n => rfl) ⟨_, rfl, ?_⟩
    refine mv_goW 3 (pc' := 3) (ls' := [mv_R 100, mv_I 1, mv_I a, mv_I b, mv_U, mv_U, mv_U, mv_U, mv_U]) (st' := [mv_I a, mv_I 1, mv_R 100]) (M1 := M) rfl ?_
    have ha110 : (so ≠ -1 ∧ (z : Int) ≤ V 0 8) ∧ 0 ≤ a ∧ a < V 0 9 := by omega
    refine mv_callPW (st2 := [mv_I 0]) rfl (Or.inl rfl) rfl rfl rfl (sp_mrj_t (S := 1) (by decide) hm ho hs2 hz2 ha110) (by first | decide | omega) ?_
    refine mv_goW 3 (pc' := if 0 = 0 then 16 else 13) (ls' := [mv_R 100, mv_I 1, mv_I a, mv_I b, mv_I 0, mv_U, mv_U, mv_U, mv_U]) (st' := []) (M1 := M) rfl ?_
    refine mv_ttW (by first | decide | omega) ?_
    refine mv_goW 3 (pc' := 19) (ls' := [mv_R 100, mv_I 1, mv_I a, mv_I b, mv_I 0, mv_U, mv_U, mv_U, mv_U]) (st' := [mv_I 1, mv_I 0, mv_I b]) (M1 := M) rfl ?_
    have ha111 : ¬ ((0 : Int) ≤ b ∧ b ≤ (1 : Int)) := by omega
    refine mv_callPW (st2 := [mv_I 0]) rfl (Or.inr rfl) rfl rfl rfl (sp_min_f ha111) (by first | decide | omega) ?_
    refine mv_goW 1 (pc' := if 0 = 0 then 25 else 28) (ls' := [mv_R 100, mv_I 1, mv_I a, mv_I b, mv_I 0, mv_U, mv_U, mv_U, mv_U]) (st' := []) (M1 := M) rfl ?_
    refine mv_ttW (by first | decide | omega) ?_
    refine mv_goW 1 (pc' := 27) (ls' := [mv_R 100, mv_I 1, mv_I a, mv_I b, mv_I 0, mv_U, mv_U, mv_U, mv_U]) (st' := [mv_I (-7)]) (M1 := M) rfl ?_
    exact mv_retW (fun n => rfl) ⟨congrArg mv_I (by first | with_reducible rfl | omega), hI⟩
  · refine mv_callPW (st2 := [mv_I (sp_rfv so (z : Int) (V 0 8))]) rfl (Or.inl rfl) rfl rfl rfl (sp_crj_1_f hc ho hs1 hz1 ha108) (by first | decide | omega) ?_
    refine mv_goW 3 (pc' := if (sp_rfv so (z : Int) (V 0 8)) = 0 then 16 else 13) (ls' := [mv_R 0, mv_I 1, mv_I a, mv_I b, mv_I (sp_rfv so (z : Int) (V 0 8)), mv_U, mv_U, mv_U]) (st' := []) (M1 := M) rfl ?_
    refine mv_ffW (by omega) ?_
    refine mv_goW 1 (pc' := 15) (ls' := [mv_R 0, mv_I 1, mv_I a, mv_I b, mv_I (sp_rfv so (z : Int) (V 0 8)), mv_U, mv_U, mv_U]) (st' := [mv_I (sp_rfv so (z : Int) (V 0 8))]) (M1 := M) rfl ?_
    refine mv_retW (fun n => rfl) ⟨_, rfl, ?_⟩
    refine mv_goW 3 (pc' := 3) (ls' := [mv_R 100, mv_I 1, mv_I a, mv_I b, mv_U, mv_U, mv_U, mv_U, mv_U]) (st' := [mv_I a, mv_I 1, mv_R 100]) (M1 := M) rfl ?_
    have ha112 : ¬ ((so ≠ -1 ∧ (z : Int) ≤ V 0 8) ∧ 0 ≤ a ∧ a < V 0 9) := by omega
    refine mv_callPW (st2 := [mv_I (sp_rfv so (z : Int) (V 0 8))]) rfl (Or.inl rfl) rfl rfl rfl (sp_mrj_f (S := 1) (by decide) hm ho hs2 hz2 ha112) (by first | decide | omega) ?_
    refine mv_goW 3 (pc' := if (sp_rfv so (z : Int) (V 0 8)) = 0 then 16 else 13) (ls' := [mv_R 100, mv_I 1, mv_I a, mv_I b, mv_I (sp_rfv so (z : Int) (V 0 8)), mv_U, mv_U, mv_U, mv_U]) (st' := []) (M1 := M) rfl ?_
    refine mv_ffW (by omega) ?_
    refine mv_goW 1 (pc' := 15) (ls' := [mv_R 100, mv_I 1, mv_I a, mv_I b, mv_I (sp_rfv so (z : Int) (V 0 8)), mv_U, mv_U, mv_U, mv_U]) (st' := [mv_I (sp_rfv so (z : Int) (V 0 8))]) (M1 := M) rfl ?_
    exact mv_retW (fun n => rfl) ⟨congrArg mv_I (by first | with_reducible rfl | omega), hI⟩
theorem sp_k21_1 (a b : Int) : sp_call 82 175 [mv_I 1, mv_I a, mv_I b] [mv_I 1, mv_I a, mv_I b] := by
  by_cases hb : b = 0 ∨ b = 1
  · rcases hb with q | q <;> subst q
    · exact sp_k210_1 a
    · exact sp_k211_1 a
  · exact sp_k21x_1 a b hb
theorem sp_k21x_2 (a b : Int) (hb : ¬ (b = 0 ∨ b = 1)) : sp_call 82 175 [mv_I 2, mv_I a, mv_I b] [mv_I 2, mv_I a, mv_I b] := by
  refine sp_mkW (lc := [mv_R 0, mv_I 2, mv_I a, mv_I b, mv_U, mv_U, mv_U, mv_U]) (lm := [mv_R 100, mv_I 2, mv_I a, mv_I b, mv_U, mv_U, mv_U, mv_U, mv_U]) rfl rfl (fun M hI => ?_)
  have hI2 := hI
  obtain ⟨V, P, nt, B, K, t, h⟩ := hI2
  have h' := h
  obtain ⟨⟨hc, hm, ho⟩, ⟨hy, hl, hn1, hn⟩, ⟨hct, hmt, hn7, hn12⟩, _⟩ := h'
  obtain ⟨so, sz, ⟨hs1, hs2, so0, so1⟩, ⟨hz1, hz2, sz0, sz1⟩, hcl⟩ := sp_sh_get h 2 (by decide)
  obtain ⟨z, rfl⟩ : ∃ x : Nat, sz = (x : Int) := ⟨sz.toNat, by omega⟩
  have hnz := sp_rfv_n so z (V 0 8)
  refine mv_goW 3 (pc' := 3) (ls' := [mv_R 0, mv_I 2, mv_I a, mv_I b, mv_U, mv_U, mv_U, mv_U]) (st' := [mv_I a, mv_I 2, mv_R 0]) (M1 := M) rfl ?_
  by_cases ha113 : (so ≠ -1 ∧ (z : Int) ≤ V 0 8) ∧ 0 ≤ a ∧ a < V 0 9
  · refine mv_callPW (st2 := [mv_I 0]) rfl (Or.inl rfl) rfl rfl rfl (sp_crj_2_t hc ho hs1 hz1 ha113) (by first | decide | omega) ?_
    refine mv_goW 3 (pc' := if 0 = 0 then 16 else 13) (ls' := [mv_R 0, mv_I 2, mv_I a, mv_I b, mv_I 0, mv_U, mv_U, mv_U]) (st' := []) (M1 := M) rfl ?_
    refine mv_ttW (by first | decide | omega) ?_
    refine mv_goW 1 (pc' := 17) (ls' := [mv_R 0, mv_I 2, mv_I a, mv_I b, mv_I 0, mv_U, mv_U, mv_U]) (st' := [mv_I b]) (M1 := M) rfl ?_
    have ha114 : ¬ (b = 0 ∨ b = 1) := by omega
    refine mv_callPW (st2 := [mv_I 0]) rfl (Or.inr rfl) rfl rfl rfl (sp_eith_f ha114) (by first | decide | omega) ?_
    refine mv_goW 1 (pc' := if 0 = 0 then 23 else 26) (ls' := [mv_R 0, mv_I 2, mv_I a, mv_I b, mv_I 0, mv_U, mv_U, mv_U]) (st' := []) (M1 := M) rfl ?_
    refine mv_ttW (by first | decide | omega) ?_
    refine mv_goW 1 (pc' := 25) (ls' := [mv_R 0, mv_I 2, mv_I a, mv_I b, mv_I 0, mv_U, mv_U, mv_U]) (st' := [mv_I (-7)]) (M1 := M) rfl ?_
    refine mv_retW (fun n => rfl) ⟨_, rfl, ?_⟩
    refine mv_goW 3 (pc' := 3) (ls' := [mv_R 100, mv_I 2, mv_I a, mv_I b, mv_U, mv_U, mv_U, mv_U, mv_U]) (st' := [mv_I a, mv_I 2, mv_R 100]) (M1 := M) rfl ?_
    have ha115 : (so ≠ -1 ∧ (z : Int) ≤ V 0 8) ∧ 0 ≤ a ∧ a < V 0 9 := by omega
    refine mv_callPW (st2 := [mv_I 0]) rfl (Or.inl rfl) rfl rfl rfl (sp_mrj_t (S := 2) (by decide) hm ho hs2 hz2 ha115) (by first | decide | omega) ?_
    refine mv_goW 3 (pc' := if 0 = 0 then 16 else 13) (ls' := [mv_R 100, mv_I 2, mv_I a, mv_I b, mv_I 0, mv_U, mv_U, mv_U, mv_U]) (st' := []) (M1 := M) rfl ?_
    refine mv_ttW (by first | decide | omega) ?_
    refine mv_goW 3 (pc' := 19) (ls' := [mv_R 100, mv_I 2, mv_I a, mv_I b, mv_I 0, mv_U, mv_U, mv_U, mv_U]) (st' := [mv_I 1, mv_I 0, mv_I b]) (M1 := M) rfl ?_
    have ha116 : ¬ ((0 : Int) ≤ b ∧ b ≤ (1 : Int)) := by omega
    refine mv_callPW (st2 := [mv_I 0]) rfl (Or.inr rfl) rfl rfl rfl (sp_min_f ha116) (by first | decide | omega) ?_
    refine mv_goW 1 (pc' := if 0 = 0 then 25 else 28) (ls' := [mv_R 100, mv_I 2, mv_I a, mv_I b, mv_I 0, mv_U, mv_U, mv_U, mv_U]) (st' := []) (M1 := M) rfl ?_
    refine mv_ttW (by first | decide | omega) ?_
    refine mv_goW 1 (pc' := 27) (ls' := [mv_R 100, mv_I 2, mv_I a, mv_I b, mv_I 0, mv_U, mv_U, mv_U, mv_U]) (st' := [mv_I (-7)]) (M1 := M) rfl ?_
    exact mv_retW (fun n => rfl) ⟨congrArg mv_I (by first | with_reducible rfl | omega), hI⟩
  · refine mv_callPW (st2 := [mv_I (sp_rfv so (z : Int) (V 0 8))]) rfl (Or.inl rfl) rfl rfl rfl (sp_crj_2_f hc ho hs1 hz1 ha113) (by first | decide | omega) ?_
    refine mv_goW 3 (pc' := if (sp_rfv so (z : Int) (V 0 8)) = 0 then 16 else 13) (ls' := [mv_R 0, mv_I 2, mv_I a, mv_I b, mv_I (sp_rfv so (z : Int) (V 0 8)), mv_U, mv_U, mv_U]) (st' := []) (M1 := M) rfl ?_
    refine mv_ffW (by omega) ?_
    refine mv_goW 1 (pc' := 15) (ls' := [mv_R 0, mv_I 2, mv_I a, mv_I b, mv_I (sp_rfv so (z : Int) (V 0 8)), mv_U, mv_U, mv_U]) (st' := [mv_I (sp_rfv so (z : Int) (V 0 8))]) (M1 := M) rfl ?_
    refine mv_retW (fun n => rfl) ⟨_, rfl, ?_⟩
    refine mv_goW 3 (pc' := 3) (ls' := [mv_R 100, mv_I 2, mv_I a, mv_I b, mv_U, mv_U, mv_U, mv_U, mv_U]) (st' := [mv_I a, mv_I 2, mv_R 100]) (M1 := M) rfl ?_
    have ha117 : ¬ ((so ≠ -1 ∧ (z : Int) ≤ V 0 8) ∧ 0 ≤ a ∧ a < V 0 9) := by omega
    refine mv_callPW (st2 := [mv_I (sp_rfv so (z : Int) (V 0 8))]) rfl (Or.inl rfl) rfl rfl rfl (sp_mrj_f (S := 2) (by decide) hm ho hs2 hz2 ha117) (by first | decide | omega) ?_
    refine mv_goW 3 (pc' := if (sp_rfv so (z : Int) (V 0 8)) = 0 then 16 else 13) (ls' := [mv_R 100, mv_I 2, mv_I a, mv_I b, mv_I (sp_rfv so (z : Int) (V 0 8)), mv_U, mv_U, mv_U, mv_U]) (st' := []) (M1 := M) rfl ?_
    refine mv_ffW (by omega) ?_
    refine mv_goW 1 (pc' := 15) (ls' := [mv_R 100, mv_I 2, mv_I a, mv_I b, mv_I (sp_rfv so (z : Int) (V 0 8)), mv_U, mv_U, mv_U, mv_U]) (st' := [mv_I (sp_rfv so (z : Int) (V 0 8))]) (M1 := M) rfl ?_
    exact mv_retW (fun n => rfl) ⟨congrArg mv_I (by first | with_reducible rfl | omega), hI⟩
theorem sp_k21_2 (a b : Int) : sp_call 82 175 [mv_I 2, mv_I a, mv_I b] [mv_I 2, mv_I a, mv_I b] := by
  by_cases hb : b = 0 ∨ b = 1
  · rcases hb with q | q <;> subst q
    · exact sp_k210_2 a
    · exact sp_k211_2 a
  · exact sp_k21x_2 a b hb
theorem sp_k21x_3 (a b : Int) (hb : ¬ (b = 0 ∨ b = 1)) : sp_call 82 175 [mv_I 3, mv_I a, mv_I b] [mv_I 3, mv_I a, mv_I b] := by
  refine sp_mkW (lc := [mv_R 0, mv_I 3, mv_I a, mv_I b, mv_U, mv_U, mv_U, mv_U]) (lm := [mv_R 100, mv_I 3, mv_I a, mv_I b, mv_U, mv_U, mv_U, mv_U, mv_U]) rfl rfl (fun M hI => ?_)
  have hI2 := hI
  obtain ⟨V, P, nt, B, K, t, h⟩ := hI2
  have h' := h
  obtain ⟨⟨hc, hm, ho⟩, ⟨hy, hl, hn1, hn⟩, ⟨hct, hmt, hn7, hn12⟩, _⟩ := h'
  obtain ⟨so, sz, ⟨hs1, hs2, so0, so1⟩, ⟨hz1, hz2, sz0, sz1⟩, hcl⟩ := sp_sh_get h 3 (by decide)
  obtain ⟨z, rfl⟩ : ∃ x : Nat, sz = (x : Int) := ⟨sz.toNat, by omega⟩
  have hnz := sp_rfv_n so z (V 0 8)
  refine mv_goW 3 (pc' := 3) (ls' := [mv_R 0, mv_I 3, mv_I a, mv_I b, mv_U, mv_U, mv_U, mv_U]) (st' := [mv_I a, mv_I 3, mv_R 0]) (M1 := M) rfl ?_
  by_cases ha118 : (so ≠ -1 ∧ (z : Int) ≤ V 0 8) ∧ 0 ≤ a ∧ a < V 0 9
  · refine mv_callPW (st2 := [mv_I 0]) rfl (Or.inl rfl) rfl rfl rfl (sp_crj_3_t hc ho hs1 hz1 ha118) (by first | decide | omega) ?_
    refine mv_goW 3 (pc' := if 0 = 0 then 16 else 13) (ls' := [mv_R 0, mv_I 3, mv_I a, mv_I b, mv_I 0, mv_U, mv_U, mv_U]) (st' := []) (M1 := M) rfl ?_
    refine mv_ttW (by first | decide | omega) ?_
    refine mv_goW 1 (pc' := 17) (ls' := [mv_R 0, mv_I 3, mv_I a, mv_I b, mv_I 0, mv_U, mv_U, mv_U]) (st' := [mv_I b]) (M1 := M) rfl ?_
    have ha119 : ¬ (b = 0 ∨ b = 1) := by omega
    refine mv_callPW (st2 := [mv_I 0]) rfl (Or.inr rfl) rfl rfl rfl (sp_eith_f ha119) (by first | decide | omega) ?_
    refine mv_goW 1 (pc' := if 0 = 0 then 23 else 26) (ls' := [mv_R 0, mv_I 3, mv_I a, mv_I b, mv_I 0, mv_U, mv_U, mv_U]) (st' := []) (M1 := M) rfl ?_
    refine mv_ttW (by first | decide | omega) ?_
    refine mv_goW 1 (pc' := 25) (ls' := [mv_R 0, mv_I 3, mv_I a, mv_I b, mv_I 0, mv_U, mv_U, mv_U]) (st' := [mv_I (-7)]) (M1 := M) rfl ?_
    refine mv_retW (fun n => rfl) ⟨_, rfl, ?_⟩
    refine mv_goW 3 (pc' := 3) (ls' := [mv_R 100, mv_I 3, mv_I a, mv_I b, mv_U, mv_U, mv_U, mv_U, mv_U]) (st' := [mv_I a, mv_I 3, mv_R 100]) (M1 := M) rfl ?_
    have ha120 : (so ≠ -1 ∧ (z : Int) ≤ V 0 8) ∧ 0 ≤ a ∧ a < V 0 9 := by omega
    refine mv_callPW (st2 := [mv_I 0]) rfl (Or.inl rfl) rfl rfl rfl (sp_mrj_t (S := 3) (by decide) hm ho hs2 hz2 ha120) (by first | decide | omega) ?_
    refine mv_goW 3 (pc' := if 0 = 0 then 16 else 13) (ls' := [mv_R 100, mv_I 3, mv_I a, mv_I b, mv_I 0, mv_U, mv_U, mv_U, mv_U]) (st' := []) (M1 := M) rfl ?_
    refine mv_ttW (by first | decide | omega) ?_
    refine mv_goW 3 (pc' := 19) (ls' := [mv_R 100, mv_I 3, mv_I a, mv_I b, mv_I 0, mv_U, mv_U, mv_U, mv_U]) (st' := [mv_I 1, mv_I 0, mv_I b]) (M1 := M) rfl ?_
    have ha121 : ¬ ((0 : Int) ≤ b ∧ b ≤ (1 : Int)) := by omega
    refine mv_callPW (st2 := [mv_I 0]) rfl (Or.inr rfl) rfl rfl rfl (sp_min_f ha121) (by first | decide | omega) ?_
    refine mv_goW 1 (pc' := if 0 = 0 then 25 else 28) (ls' := [mv_R 100, mv_I 3, mv_I a, mv_I b, mv_I 0, mv_U, mv_U, mv_U, mv_U]) (st' := []) (M1 := M) rfl ?_
    refine mv_ttW (by first | decide | omega) ?_
    refine mv_goW 1 (pc' := 27) (ls' := [mv_R 100, mv_I 3, mv_I a, mv_I b, mv_I 0, mv_U, mv_U, mv_U, mv_U]) (st' := [mv_I (-7)]) (M1 := M) rfl ?_
    exact mv_retW (fun n => rfl) ⟨congrArg mv_I (by first | with_reducible rfl | omega), hI⟩
  · refine mv_callPW (st2 := [mv_I (sp_rfv so (z : Int) (V 0 8))]) rfl (Or.inl rfl) rfl rfl rfl (sp_crj_3_f hc ho hs1 hz1 ha118) (by first | decide | omega) ?_
    refine mv_goW 3 (pc' := if (sp_rfv so (z : Int) (V 0 8)) = 0 then 16 else 13) (ls' := [mv_R 0, mv_I 3, mv_I a, mv_I b, mv_I (sp_rfv so (z : Int) (V 0 8)), mv_U, mv_U, mv_U]) (st' := []) (M1 := M) rfl ?_
    refine mv_ffW (by omega) ?_
    refine mv_goW 1 (pc' := 15) (ls' := [mv_R 0, mv_I 3, mv_I a, mv_I b, mv_I (sp_rfv so (z : Int) (V 0 8)), mv_U, mv_U, mv_U]) (st' := [mv_I (sp_rfv so (z : Int) (V 0 8))]) (M1 := M) rfl ?_
    refine mv_retW (fun n => rfl) ⟨_, rfl, ?_⟩
    refine mv_goW 3 (pc' := 3) (ls' := [mv_R 100, mv_I 3, mv_I a, mv_I b, mv_U, mv_U, mv_U, mv_U, mv_U]) (st' := [mv_I a, mv_I 3, mv_R 100]) (M1 := M) rfl ?_
    have ha122 : ¬ ((so ≠ -1 ∧ (z : Int) ≤ V 0 8) ∧ 0 ≤ a ∧ a < V 0 9) := by omega
    refine mv_callPW (st2 := [mv_I (sp_rfv so (z : Int) (V 0 8))]) rfl (Or.inl rfl) rfl rfl rfl (sp_mrj_f (S := 3) (by decide) hm ho hs2 hz2 ha122) (by first | decide | omega) ?_
    refine mv_goW 3 (pc' := if (sp_rfv so (z : Int) (V 0 8)) = 0 then 16 else 13) (ls' := [mv_R 100, mv_I 3, mv_I a, mv_I b, mv_I (sp_rfv so (z : Int) (V 0 8)), mv_U, mv_U, mv_U, mv_U]) (st' := []) (M1 := M) rfl ?_
    refine mv_ffW (by omega) ?_
    refine mv_goW 1 (pc' := 15) (ls' := [mv_R 100, mv_I 3, mv_I a, mv_I b, mv_I (sp_rfv so (z : Int) (V 0 8)), mv_U, mv_U, mv_U, mv_U]) (st' := [mv_I (sp_rfv so (z : Int) (V 0 8))]) (M1 := M) rfl ?_
    exact mv_retW (fun n => rfl) ⟨congrArg mv_I (by first | with_reducible rfl | omega), hI⟩
theorem sp_k21_3 (a b : Int) : sp_call 82 175 [mv_I 3, mv_I a, mv_I b] [mv_I 3, mv_I a, mv_I b] := by
  by_cases hb : b = 0 ∨ b = 1
  · rcases hb with q | q <;> subst q
    · exact sp_k210_3 a
    · exact sp_k211_3 a
  · exact sp_k21x_3 a b hb
theorem sp_k21_n (s a b : Int) (hs : ¬ (0 ≤ s ∧ s ≤ 3)) : sp_call 82 175 [mv_I s, mv_I a, mv_I b] [mv_I s, mv_I a, mv_I b] := by
  refine sp_mkW (lc := [mv_R 0, mv_I s, mv_I a, mv_I b, mv_U, mv_U, mv_U, mv_U]) (lm := [mv_R 100, mv_I s, mv_I a, mv_I b, mv_U, mv_U, mv_U, mv_U, mv_U]) rfl rfl (fun M hI => ?_)
  refine mv_goW 3 (pc' := 3) (ls' := [mv_R 0, mv_I s, mv_I a, mv_I b, mv_U, mv_U, mv_U, mv_U]) (st' := [mv_I a, mv_I s, mv_R 0]) (M1 := M) rfl ?_
  refine mv_callPW (st2 := [mv_I (-2)]) rfl (Or.inl rfl) rfl rfl rfl (sp_crj_n hs) (by first | decide | omega) ?_
  refine mv_goW 3 (pc' := if (-2) = 0 then 16 else 13) (ls' := [mv_R 0, mv_I s, mv_I a, mv_I b, mv_I (-2), mv_U, mv_U, mv_U]) (st' := []) (M1 := M) rfl ?_
  refine mv_ffW (by first | decide | omega) ?_
  refine mv_goW 1 (pc' := 15) (ls' := [mv_R 0, mv_I s, mv_I a, mv_I b, mv_I (-2), mv_U, mv_U, mv_U]) (st' := [mv_I (-2)]) (M1 := M) rfl ?_
  refine mv_retW (fun n => rfl) ⟨_, rfl, ?_⟩
  refine mv_goW 3 (pc' := 3) (ls' := [mv_R 100, mv_I s, mv_I a, mv_I b, mv_U, mv_U, mv_U, mv_U, mv_U]) (st' := [mv_I a, mv_I s, mv_R 100]) (M1 := M) rfl ?_
  refine mv_callPW (st2 := [mv_I (-2)]) rfl (Or.inl rfl) rfl rfl rfl (sp_mrj_n hs) (by first | decide | omega) ?_
  refine mv_goW 3 (pc' := if (-2) = 0 then 16 else 13) (ls' := [mv_R 100, mv_I s, mv_I a, mv_I b, mv_I (-2), mv_U, mv_U, mv_U, mv_U]) (st' := []) (M1 := M) rfl ?_
  refine mv_ffW (by first | decide | omega) ?_
  refine mv_goW 1 (pc' := 15) (ls' := [mv_R 100, mv_I s, mv_I a, mv_I b, mv_I (-2), mv_U, mv_U, mv_U, mv_U]) (st' := [mv_I (-2)]) (M1 := M) rfl ?_
  exact mv_retW (fun n => rfl) ⟨congrArg mv_I (by first | with_reducible rfl | omega), hI⟩
theorem sp_k21 (s a b : Int) : sp_call 82 175 [mv_I s, mv_I a, mv_I b] [mv_I s, mv_I a, mv_I b] :=
  sp_s4 (Q := fun s => sp_call 82 175 [mv_I s, mv_I a, mv_I b] [mv_I s, mv_I a, mv_I b]) (sp_k21_0 a b) (sp_k21_1 a b) (sp_k21_2 a b) (sp_k21_3 a b) (sp_k21_n s a b)
