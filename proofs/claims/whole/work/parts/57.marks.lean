/-! marks -/
theorem sp_cmk_0 {V M0 : mv_M} {P : Nat → Nat → List Int} {n : Int} {u z d k : Nat} {g : Nat → Int} {Q : mv_V → mv_M → Prop} (ho : sp_ok V) (hl : V 0 11 < n) (hn : n ≤ 6) (hP : sp_cts M0 P n) (hu : (u : Int) < V 0 9) (hk4 : k < 4) (hz : M0 71 2 = (z : Int)) (hz8 : (z : Int) ≤ V 0 8) (hg : ∀ j, j < z → M0 72 j = g j)
    (hQ : ∀ M2, mv_ag [50, 51, 52, 53, 54, 55, 56, 57] M0 M2 → mv_W (d + 8) 83 99 [mv_R 0, mv_I 0, mv_I (u : Int), mv_I (k : Int), mv_I 0, mv_I (sp_bits (sp_pa V P g z u 3 (4 * u + k)) 10), mv_I (10 : Int)] [] M2 Q) :
    ∀ (r m : Nat) (M Vc : mv_M), m + r = 10 → sp_c 50 M Vc → (∀ x, sp_alt Vc 3 (4 * u + k) x = sp_alt V 3 (4 * u + k) x) → mv_ag [50, 51, 52, 53, 54, 55, 56, 57] M0 M → mv_W (d + 8) 83 45 [mv_R 0, mv_I 0, mv_I (u : Int), mv_I (k : Int), mv_I 0, mv_I (sp_bits (sp_pa V P g z u 3 (4 * u + k)) m), mv_I (m : Int)] [] M Q := by
  have h9 := sp_ok_s9 ho
  intro r
  induction r with
  | zero =>
    intro m M Vc hk hcv hVc hag
    have hk : m = 10 := by omega
    subst hk
    refine mv_goW 3 (pc' := if ((10 : Nat) : Int) < 10 then 52 else 99) (ls' := [mv_R 0, mv_I 0, mv_I (u : Int), mv_I (k : Int), mv_I 0, mv_I (sp_bits (sp_pa V P g z u 3 (4 * u + k)) 10), mv_I ((10 : Nat) : Int)]) (st' := []) (M1 := M) rfl ?_
    refine mv_ffW (by omega) ?_
    exact hQ M hag
  | succ r ih =>
    intro m M Vc hk hcv hVc hag
    refine mv_goW 3 (pc' := if (m : Int) < 10 then 52 else 99) (ls' := [mv_R 0, mv_I 0, mv_I (u : Int), mv_I (k : Int), mv_I 0, mv_I (sp_bits (sp_pa V P g z u 3 (4 * u + k)) m), mv_I (m : Int)]) (st' := []) (M1 := M) rfl ?_
    refine mv_ttW (by omega) ?_
    refine mv_goW 9 (pc' := 66) (ls' := [mv_R 0, mv_I 0, mv_I (u : Int), mv_I (k : Int), mv_I 0, mv_I (sp_bits (sp_pa V P g z u 3 (4 * u + k)) m), mv_I (m : Int)]) (st' := [mv_I (m : Int), mv_I (mv_w ((mv_w ((u : Int) * 4)) + (k : Int))), mv_R 53]) (M1 := M) rfl ?_
    rw [show mv_w ((mv_w ((u : Int) * 4)) + (k : Int)) = ((4 * u + k : Nat) : Int) from by (rw [show mv_w ((u : Int) * 4) = (u : Int) * 4 from mv_w_id (by omega) (by omega), show mv_w (((u : Int) * 4) + (k : Int)) = ((u : Int) * 4) + (k : Int) from mv_w_id (by omega) (by omega)]) <;> omega]
    refine mv_goW 1 (pc' := if 0 ≤ ((4 * u + k : Nat) : Int) ∧ ((4 * u + k : Nat) : Int) < 24 then 67 else mv_bad) (ls' := [mv_R 0, mv_I 0, mv_I (u : Int), mv_I (k : Int), mv_I 0, mv_I (sp_bits (sp_pa V P g z u 3 (4 * u + k)) m), mv_I (m : Int)]) (st' := []) (M1 := (mv_st M 53 (mv_up (M 53) (4 * u + k) (m : Int)))) rfl ?_
    refine mv_ttW (by omega) ?_
    have hcX : sp_c 50 (mv_st M 53 (mv_up (M 53) (4 * u + k) (m : Int))) (sp_alt V 3 (4 * u + k) (m : Int)) := by rw [← hVc (m : Int)]; exact sp_c_alt3 (w := 50) hcv
    have hagX : mv_ag [50, 51, 52, 53, 54, 55, 56, 57] M0 (mv_st M 53 (mv_up (M 53) (4 * u + k) (m : Int))) := hag.st (by decide)
    refine mv_goW 4 (pc' := 73) (ls' := [mv_R 0, mv_I 0, mv_I (u : Int), mv_I (k : Int), mv_I 0, mv_I (sp_bits (sp_pa V P g z u 3 (4 * u + k)) m), mv_I (m : Int)]) (st' := [mv_I 0, mv_R 0, mv_R 50]) (M1 := (mv_st M 53 (mv_up (M 53) (4 * u + k) (m : Int)))) rfl ?_
    refine mv_callPW (st2 := [mv_R 71, mv_R 50]) rfl (Or.inl rfl) rfl rfl rfl (sp_sheetAt_0) (by first | decide | omega) ?_
    refine mv_goW 1 (pc' := 77) (ls' := [mv_R 0, mv_I 0, mv_I (u : Int), mv_I (k : Int), mv_I 0, mv_I (sp_bits (sp_pa V P g z u 3 (4 * u + k)) m), mv_I (m : Int)]) (st' := [mv_I (u : Int), mv_R 71, mv_R 50]) (M1 := (mv_st M 53 (mv_up (M 53) (4 * u + k) (m : Int)))) rfl ?_
    refine mv_callW (st2 := [mv_I (sp_pa V P g z u 3 (4 * u + k) m)]) rfl (Or.inr rfl) rfl rfl rfl (sp_cfa_0 (V := V) (g := g) (u := u) (r := 3) (i := 4 * u + k) (x := m) hcX (sp_ok_alt3 ho (by omega)) hl hn (sp_cts_ag hP hagX hn (fun i h1 h2 => by simp only [List.mem_cons, List.not_mem_nil, or_false]; omega)) hu (by rw [hagX _ (by decide)]; exact hz) hz8 (fun j hj => by rw [hagX _ (by decide)]; exact hg j hj)) (by first | decide | omega) (fun Ma1 hm2 => ?_)
    have hx := hm2
    refine mv_goW 2 (pc' := if (sp_pa V P g z u 3 (4 * u + k) m) = (-1) then 84 else 93) (ls' := [mv_R 0, mv_I 0, mv_I (u : Int), mv_I (k : Int), mv_I 0, mv_I (sp_bits (sp_pa V P g z u 3 (4 * u + k)) m), mv_I (m : Int)]) (st' := []) (M1 := Ma1) rfl ?_
    refine mv_spW (fun ha3 => ?_) (fun ha3 => ?_)
    · refine mv_goW 8 (pc' := 45) (ls' := [mv_R 0, mv_I 0, mv_I (u : Int), mv_I (k : Int), mv_I 0, mv_I (mv_or (sp_bits (sp_pa V P g z u 3 (4 * u + k)) m) (mv_shl 1 (m : Int))), mv_I (mv_w ((m : Int) + 1))]) (st' := []) (M1 := Ma1) rfl ?_
      rw [show mv_w ((m : Int) + 1) = (m : Int) + 1 from mv_w_id (by omega) (by omega)]
      rw [show (m : Int) + 1 = ((m + 1 : Nat) : Int) from by omega]
      refine mv_eqsW (ls2 := [mv_R 0, mv_I 0, mv_I (u : Int), mv_I (k : Int), mv_I 0, mv_I (sp_bits (sp_pa V P g z u 3 (4 * u + k)) (m + 1)), mv_I (((m + 1 : Nat) : Int))]) (by rw [show mv_or (sp_bits (sp_pa V P g z u 3 (4 * u + k)) m) (mv_shl 1 (m : Int)) = sp_bits (sp_pa V P g z u 3 (4 * u + k)) (m + 1) from by simp only [sp_bits]; split <;> first | with_reducible rfl | omega]) rfl rfl (ih (m + 1) _ (sp_alt V 3 (4 * u + k) (m : Int)) (by omega) (sp_c_ag hcX hx (by decide)) (sp_alt_alt V 3 (4 * u + k) (m : Int)) (hagX.tr (hx.wd (by decide))))
    · refine mv_goW 2 (pc' := 45) (ls' := [mv_R 0, mv_I 0, mv_I (u : Int), mv_I (k : Int), mv_I 0, mv_I (sp_bits (sp_pa V P g z u 3 (4 * u + k)) m), mv_I (mv_w ((m : Int) + 1))]) (st' := []) (M1 := Ma1) rfl ?_
      rw [show mv_w ((m : Int) + 1) = (m : Int) + 1 from mv_w_id (by omega) (by omega)]
      rw [show (m : Int) + 1 = ((m + 1 : Nat) : Int) from by omega]
      refine mv_eqsW (ls2 := [mv_R 0, mv_I 0, mv_I (u : Int), mv_I (k : Int), mv_I 0, mv_I (sp_bits (sp_pa V P g z u 3 (4 * u + k)) (m + 1)), mv_I (((m + 1 : Nat) : Int))]) (by rw [show sp_bits (sp_pa V P g z u 3 (4 * u + k)) m = sp_bits (sp_pa V P g z u 3 (4 * u + k)) (m + 1) from by simp only [sp_bits]; split <;> first | with_reducible rfl | omega]) rfl rfl (ih (m + 1) _ (sp_alt V 3 (4 * u + k) (m : Int)) (by omega) (sp_c_ag hcX hx (by decide)) (sp_alt_alt V 3 (4 * u + k) (m : Int)) (hagX.tr (hx.wd (by decide))))
theorem sp_cmk_1 {V M0 : mv_M} {P : Nat → Nat → List Int} {n : Int} {u z d k : Nat} {g : Nat → Int} {Q : mv_V → mv_M → Prop} (ho : sp_ok V) (hl : V 0 11 < n) (hn : n ≤ 6) (hP : sp_cts M0 P n) (hu : (u : Int) < V 0 9) (hk4 : k < 4) (hz : M0 73 2 = (z : Int)) (hz8 : (z : Int) ≤ V 0 8) (hg : ∀ j, j < z → M0 74 j = g j)
    (hQ : ∀ M2, mv_ag [50, 51, 52, 53, 54, 55, 56, 57] M0 M2 → mv_W (d + 8) 83 99 [mv_R 0, mv_I 1, mv_I (u : Int), mv_I (k : Int), mv_I 0, mv_I (sp_bits (sp_pa V P g z u 3 (4 * u + k)) 10), mv_I (10 : Int)] [] M2 Q) :
    ∀ (r m : Nat) (M Vc : mv_M), m + r = 10 → sp_c 50 M Vc → (∀ x, sp_alt Vc 3 (4 * u + k) x = sp_alt V 3 (4 * u + k) x) → mv_ag [50, 51, 52, 53, 54, 55, 56, 57] M0 M → mv_W (d + 8) 83 45 [mv_R 0, mv_I 1, mv_I (u : Int), mv_I (k : Int), mv_I 0, mv_I (sp_bits (sp_pa V P g z u 3 (4 * u + k)) m), mv_I (m : Int)] [] M Q := by
  have h9 := sp_ok_s9 ho
  intro r
  induction r with
  | zero =>
    intro m M Vc hk hcv hVc hag
    have hk : m = 10 := by omega
    subst hk
    refine mv_goW 3 (pc' := if ((10 : Nat) : Int) < 10 then 52 else 99) (ls' := [mv_R 0, mv_I 1, mv_I (u : Int), mv_I (k : Int), mv_I 0, mv_I (sp_bits (sp_pa V P g z u 3 (4 * u + k)) 10), mv_I ((10 : Nat) : Int)]) (st' := []) (M1 := M) rfl ?_
    refine mv_ffW (by omega) ?_
    exact hQ M hag
  | succ r ih =>
    intro m M Vc hk hcv hVc hag
    refine mv_goW 3 (pc' := if (m : Int) < 10 then 52 else 99) (ls' := [mv_R 0, mv_I 1, mv_I (u : Int), mv_I (k : Int), mv_I 0, mv_I (sp_bits (sp_pa V P g z u 3 (4 * u + k)) m), mv_I (m : Int)]) (st' := []) (M1 := M) rfl ?_
    refine mv_ttW (by omega) ?_
    refine mv_goW 9 (pc' := 66) (ls' := [mv_R 0, mv_I 1, mv_I (u : Int), mv_I (k : Int), mv_I 0, mv_I (sp_bits (sp_pa V P g z u 3 (4 * u + k)) m), mv_I (m : Int)]) (st' := [mv_I (m : Int), mv_I (mv_w ((mv_w ((u : Int) * 4)) + (k : Int))), mv_R 53]) (M1 := M) rfl ?_
    rw [show mv_w ((mv_w ((u : Int) * 4)) + (k : Int)) = ((4 * u + k : Nat) : Int) from by (rw [show mv_w ((u : Int) * 4) = (u : Int) * 4 from mv_w_id (by omega) (by omega), show mv_w (((u : Int) * 4) + (k : Int)) = ((u : Int) * 4) + (k : Int) from mv_w_id (by omega) (by omega)]) <;> omega]
    refine mv_goW 1 (pc' := if 0 ≤ ((4 * u + k : Nat) : Int) ∧ ((4 * u + k : Nat) : Int) < 24 then 67 else mv_bad) (ls' := [mv_R 0, mv_I 1, mv_I (u : Int), mv_I (k : Int), mv_I 0, mv_I (sp_bits (sp_pa V P g z u 3 (4 * u + k)) m), mv_I (m : Int)]) (st' := []) (M1 := (mv_st M 53 (mv_up (M 53) (4 * u + k) (m : Int)))) rfl ?_
    refine mv_ttW (by omega) ?_
    have hcX : sp_c 50 (mv_st M 53 (mv_up (M 53) (4 * u + k) (m : Int))) (sp_alt V 3 (4 * u + k) (m : Int)) := by rw [← hVc (m : Int)]; exact sp_c_alt3 (w := 50) hcv
    have hagX : mv_ag [50, 51, 52, 53, 54, 55, 56, 57] M0 (mv_st M 53 (mv_up (M 53) (4 * u + k) (m : Int))) := hag.st (by decide)
    refine mv_goW 4 (pc' := 73) (ls' := [mv_R 0, mv_I 1, mv_I (u : Int), mv_I (k : Int), mv_I 0, mv_I (sp_bits (sp_pa V P g z u 3 (4 * u + k)) m), mv_I (m : Int)]) (st' := [mv_I 1, mv_R 0, mv_R 50]) (M1 := (mv_st M 53 (mv_up (M 53) (4 * u + k) (m : Int)))) rfl ?_
    refine mv_callPW (st2 := [mv_R 73, mv_R 50]) rfl (Or.inl rfl) rfl rfl rfl (sp_sheetAt_1) (by first | decide | omega) ?_
    refine mv_goW 1 (pc' := 77) (ls' := [mv_R 0, mv_I 1, mv_I (u : Int), mv_I (k : Int), mv_I 0, mv_I (sp_bits (sp_pa V P g z u 3 (4 * u + k)) m), mv_I (m : Int)]) (st' := [mv_I (u : Int), mv_R 73, mv_R 50]) (M1 := (mv_st M 53 (mv_up (M 53) (4 * u + k) (m : Int)))) rfl ?_
    refine mv_callW (st2 := [mv_I (sp_pa V P g z u 3 (4 * u + k) m)]) rfl (Or.inr rfl) rfl rfl rfl (sp_cfa_1 (V := V) (g := g) (u := u) (r := 3) (i := 4 * u + k) (x := m) hcX (sp_ok_alt3 ho (by omega)) hl hn (sp_cts_ag hP hagX hn (fun i h1 h2 => by simp only [List.mem_cons, List.not_mem_nil, or_false]; omega)) hu (by rw [hagX _ (by decide)]; exact hz) hz8 (fun j hj => by rw [hagX _ (by decide)]; exact hg j hj)) (by first | decide | omega) (fun Ma4 hm5 => ?_)
    have hx := hm5
    refine mv_goW 2 (pc' := if (sp_pa V P g z u 3 (4 * u + k) m) = (-1) then 84 else 93) (ls' := [mv_R 0, mv_I 1, mv_I (u : Int), mv_I (k : Int), mv_I 0, mv_I (sp_bits (sp_pa V P g z u 3 (4 * u + k)) m), mv_I (m : Int)]) (st' := []) (M1 := Ma4) rfl ?_
    refine mv_spW (fun ha6 => ?_) (fun ha6 => ?_)
    · refine mv_goW 8 (pc' := 45) (ls' := [mv_R 0, mv_I 1, mv_I (u : Int), mv_I (k : Int), mv_I 0, mv_I (mv_or (sp_bits (sp_pa V P g z u 3 (4 * u + k)) m) (mv_shl 1 (m : Int))), mv_I (mv_w ((m : Int) + 1))]) (st' := []) (M1 := Ma4) rfl ?_
      rw [show mv_w ((m : Int) + 1) = (m : Int) + 1 from mv_w_id (by omega) (by omega)]
      rw [show (m : Int) + 1 = ((m + 1 : Nat) : Int) from by omega]
      refine mv_eqsW (ls2 := [mv_R 0, mv_I 1, mv_I (u : Int), mv_I (k : Int), mv_I 0, mv_I (sp_bits (sp_pa V P g z u 3 (4 * u + k)) (m + 1)), mv_I (((m + 1 : Nat) : Int))]) (by rw [show mv_or (sp_bits (sp_pa V P g z u 3 (4 * u + k)) m) (mv_shl 1 (m : Int)) = sp_bits (sp_pa V P g z u 3 (4 * u + k)) (m + 1) from by simp only [sp_bits]; split <;> first | with_reducible rfl | omega]) rfl rfl (ih (m + 1) _ (sp_alt V 3 (4 * u + k) (m : Int)) (by omega) (sp_c_ag hcX hx (by decide)) (sp_alt_alt V 3 (4 * u + k) (m : Int)) (hagX.tr (hx.wd (by decide))))
    · refine mv_goW 2 (pc' := 45) (ls' := [mv_R 0, mv_I 1, mv_I (u : Int), mv_I (k : Int), mv_I 0, mv_I (sp_bits (sp_pa V P g z u 3 (4 * u + k)) m), mv_I (mv_w ((m : Int) + 1))]) (st' := []) (M1 := Ma4) rfl ?_
      rw [show mv_w ((m : Int) + 1) = (m : Int) + 1 from mv_w_id (by omega) (by omega)]
      rw [show (m : Int) + 1 = ((m + 1 : Nat) : Int) from by omega]
      refine mv_eqsW (ls2 := [mv_R 0, mv_I 1, mv_I (u : Int), mv_I (k : Int), mv_I 0, mv_I (sp_bits (sp_pa V P g z u 3 (4 * u + k)) (m + 1)), mv_I (((m + 1 : Nat) : Int))]) (by rw [show sp_bits (sp_pa V P g z u 3 (4 * u + k)) m = sp_bits (sp_pa V P g z u 3 (4 * u + k)) (m + 1) from by simp only [sp_bits]; split <;> first | with_reducible rfl | omega]) rfl rfl (ih (m + 1) _ (sp_alt V 3 (4 * u + k) (m : Int)) (by omega) (sp_c_ag hcX hx (by decide)) (sp_alt_alt V 3 (4 * u + k) (m : Int)) (hagX.tr (hx.wd (by decide))))
theorem sp_cmk_2 {V M0 : mv_M} {P : Nat → Nat → List Int} {n : Int} {u z d k : Nat} {g : Nat → Int} {Q : mv_V → mv_M → Prop} (ho : sp_ok V) (hl : V 0 11 < n) (hn : n ≤ 6) (hP : sp_cts M0 P n) (hu : (u : Int) < V 0 9) (hk4 : k < 4) (hz : M0 75 2 = (z : Int)) (hz8 : (z : Int) ≤ V 0 8) (hg : ∀ j, j < z → M0 76 j = g j)
    (hQ : ∀ M2, mv_ag [50, 51, 52, 53, 54, 55, 56, 57] M0 M2 → mv_W (d + 8) 83 99 [mv_R 0, mv_I 2, mv_I (u : Int), mv_I (k : Int), mv_I 0, mv_I (sp_bits (sp_pa V P g z u 3 (4 * u + k)) 10), mv_I (10 : Int)] [] M2 Q) :
    ∀ (r m : Nat) (M Vc : mv_M), m + r = 10 → sp_c 50 M Vc → (∀ x, sp_alt Vc 3 (4 * u + k) x = sp_alt V 3 (4 * u + k) x) → mv_ag [50, 51, 52, 53, 54, 55, 56, 57] M0 M → mv_W (d + 8) 83 45 [mv_R 0, mv_I 2, mv_I (u : Int), mv_I (k : Int), mv_I 0, mv_I (sp_bits (sp_pa V P g z u 3 (4 * u + k)) m), mv_I (m : Int)] [] M Q := by
  have h9 := sp_ok_s9 ho
  intro r
  induction r with
  | zero =>
    intro m M Vc hk hcv hVc hag
    have hk : m = 10 := by omega
    subst hk
    refine mv_goW 3 (pc' := if ((10 : Nat) : Int) < 10 then 52 else 99) (ls' := [mv_R 0, mv_I 2, mv_I (u : Int), mv_I (k : Int), mv_I 0, mv_I (sp_bits (sp_pa V P g z u 3 (4 * u + k)) 10), mv_I ((10 : Nat) : Int)]) (st' := []) (M1 := M) rfl ?_
    refine mv_ffW (by omega) ?_
    exact hQ M hag
  | succ r ih =>
    intro m M Vc hk hcv hVc hag
    refine mv_goW 3 (pc' := if (m : Int) < 10 then 52 else 99) (ls' := [mv_R 0, mv_I 2, mv_I (u : Int), mv_I (k : Int), mv_I 0, mv_I (sp_bits (sp_pa V P g z u 3 (4 * u + k)) m), mv_I (m : Int)]) (st' := []) (M1 := M) rfl ?_
    refine mv_ttW (by omega) ?_
    refine mv_goW 9 (pc' := 66) (ls' := [mv_R 0, mv_I 2, mv_I (u : Int), mv_I (k : Int), mv_I 0, mv_I (sp_bits (sp_pa V P g z u 3 (4 * u + k)) m), mv_I (m : Int)]) (st' := [mv_I (m : Int), mv_I (mv_w ((mv_w ((u : Int) * 4)) + (k : Int))), mv_R 53]) (M1 := M) rfl ?_
    rw [show mv_w ((mv_w ((u : Int) * 4)) + (k : Int)) = ((4 * u + k : Nat) : Int) from by (rw [show mv_w ((u : Int) * 4) = (u : Int) * 4 from mv_w_id (by omega) (by omega), show mv_w (((u : Int) * 4) + (k : Int)) = ((u : Int) * 4) + (k : Int) from mv_w_id (by omega) (by omega)]) <;> omega]
    refine mv_goW 1 (pc' := if 0 ≤ ((4 * u + k : Nat) : Int) ∧ ((4 * u + k : Nat) : Int) < 24 then 67 else mv_bad) (ls' := [mv_R 0, mv_I 2, mv_I (u : Int), mv_I (k : Int), mv_I 0, mv_I (sp_bits (sp_pa V P g z u 3 (4 * u + k)) m), mv_I (m : Int)]) (st' := []) (M1 := (mv_st M 53 (mv_up (M 53) (4 * u + k) (m : Int)))) rfl ?_
    refine mv_ttW (by omega) ?_
    have hcX : sp_c 50 (mv_st M 53 (mv_up (M 53) (4 * u + k) (m : Int))) (sp_alt V 3 (4 * u + k) (m : Int)) := by rw [← hVc (m : Int)]; exact sp_c_alt3 (w := 50) hcv
    have hagX : mv_ag [50, 51, 52, 53, 54, 55, 56, 57] M0 (mv_st M 53 (mv_up (M 53) (4 * u + k) (m : Int))) := hag.st (by decide)
    refine mv_goW 4 (pc' := 73) (ls' := [mv_R 0, mv_I 2, mv_I (u : Int), mv_I (k : Int), mv_I 0, mv_I (sp_bits (sp_pa V P g z u 3 (4 * u + k)) m), mv_I (m : Int)]) (st' := [mv_I 2, mv_R 0, mv_R 50]) (M1 := (mv_st M 53 (mv_up (M 53) (4 * u + k) (m : Int)))) rfl ?_
    refine mv_callPW (st2 := [mv_R 75, mv_R 50]) rfl (Or.inl rfl) rfl rfl rfl (sp_sheetAt_2) (by first | decide | omega) ?_
    refine mv_goW 1 (pc' := 77) (ls' := [mv_R 0, mv_I 2, mv_I (u : Int), mv_I (k : Int), mv_I 0, mv_I (sp_bits (sp_pa V P g z u 3 (4 * u + k)) m), mv_I (m : Int)]) (st' := [mv_I (u : Int), mv_R 75, mv_R 50]) (M1 := (mv_st M 53 (mv_up (M 53) (4 * u + k) (m : Int)))) rfl ?_
    refine mv_callW (st2 := [mv_I (sp_pa V P g z u 3 (4 * u + k) m)]) rfl (Or.inr rfl) rfl rfl rfl (sp_cfa_2 (V := V) (g := g) (u := u) (r := 3) (i := 4 * u + k) (x := m) hcX (sp_ok_alt3 ho (by omega)) hl hn (sp_cts_ag hP hagX hn (fun i h1 h2 => by simp only [List.mem_cons, List.not_mem_nil, or_false]; omega)) hu (by rw [hagX _ (by decide)]; exact hz) hz8 (fun j hj => by rw [hagX _ (by decide)]; exact hg j hj)) (by first | decide | omega) (fun Ma7 hm8 => ?_)
    have hx := hm8
    refine mv_goW 2 (pc' := if (sp_pa V P g z u 3 (4 * u + k) m) = (-1) then 84 else 93) (ls' := [mv_R 0, mv_I 2, mv_I (u : Int), mv_I (k : Int), mv_I 0, mv_I (sp_bits (sp_pa V P g z u 3 (4 * u + k)) m), mv_I (m : Int)]) (st' := []) (M1 := Ma7) rfl ?_
    refine mv_spW (fun ha9 => ?_) (fun ha9 => ?_)
    · refine mv_goW 8 (pc' := 45) (ls' := [mv_R 0, mv_I 2, mv_I (u : Int), mv_I (k : Int), mv_I 0, mv_I (mv_or (sp_bits (sp_pa V P g z u 3 (4 * u + k)) m) (mv_shl 1 (m : Int))), mv_I (mv_w ((m : Int) + 1))]) (st' := []) (M1 := Ma7) rfl ?_
      rw [show mv_w ((m : Int) + 1) = (m : Int) + 1 from mv_w_id (by omega) (by omega)]
      rw [show (m : Int) + 1 = ((m + 1 : Nat) : Int) from by omega]
      refine mv_eqsW (ls2 := [mv_R 0, mv_I 2, mv_I (u : Int), mv_I (k : Int), mv_I 0, mv_I (sp_bits (sp_pa V P g z u 3 (4 * u + k)) (m + 1)), mv_I (((m + 1 : Nat) : Int))]) (by rw [show mv_or (sp_bits (sp_pa V P g z u 3 (4 * u + k)) m) (mv_shl 1 (m : Int)) = sp_bits (sp_pa V P g z u 3 (4 * u + k)) (m + 1) from by simp only [sp_bits]; split <;> first | with_reducible rfl | omega]) rfl rfl (ih (m + 1) _ (sp_alt V 3 (4 * u + k) (m : Int)) (by omega) (sp_c_ag hcX hx (by decide)) (sp_alt_alt V 3 (4 * u + k) (m : Int)) (hagX.tr (hx.wd (by decide))))
    · refine mv_goW 2 (pc' := 45) (ls' := [mv_R 0, mv_I 2, mv_I (u : Int), mv_I (k : Int), mv_I 0, mv_I (sp_bits (sp_pa V P g z u 3 (4 * u + k)) m), mv_I (mv_w ((m : Int) + 1))]) (st' := []) (M1 := Ma7) rfl ?_
      rw [show mv_w ((m : Int) + 1) = (m : Int) + 1 from mv_w_id (by omega) (by omega)]
      rw [show (m : Int) + 1 = ((m + 1 : Nat) : Int) from by omega]
      refine mv_eqsW (ls2 := [mv_R 0, mv_I 2, mv_I (u : Int), mv_I (k : Int), mv_I 0, mv_I (sp_bits (sp_pa V P g z u 3 (4 * u + k)) (m + 1)), mv_I (((m + 1 : Nat) : Int))]) (by rw [show sp_bits (sp_pa V P g z u 3 (4 * u + k)) m = sp_bits (sp_pa V P g z u 3 (4 * u + k)) (m + 1) from by simp only [sp_bits]; split <;> first | with_reducible rfl | omega]) rfl rfl (ih (m + 1) _ (sp_alt V 3 (4 * u + k) (m : Int)) (by omega) (sp_c_ag hcX hx (by decide)) (sp_alt_alt V 3 (4 * u + k) (m : Int)) (hagX.tr (hx.wd (by decide))))
theorem sp_cmk_3 {V M0 : mv_M} {P : Nat → Nat → List Int} {n : Int} {u z d k : Nat} {g : Nat → Int} {Q : mv_V → mv_M → Prop} (ho : sp_ok V) (hl : V 0 11 < n) (hn : n ≤ 6) (hP : sp_cts M0 P n) (hu : (u : Int) < V 0 9) (hk4 : k < 4) (hz : M0 77 2 = (z : Int)) (hz8 : (z : Int) ≤ V 0 8) (hg : ∀ j, j < z → M0 78 j = g j)
    (hQ : ∀ M2, mv_ag [50, 51, 52, 53, 54, 55, 56, 57] M0 M2 → mv_W (d + 8) 83 99 [mv_R 0, mv_I 3, mv_I (u : Int), mv_I (k : Int), mv_I 0, mv_I (sp_bits (sp_pa V P g z u 3 (4 * u + k)) 10), mv_I (10 : Int)] [] M2 Q) :
    ∀ (r m : Nat) (M Vc : mv_M), m + r = 10 → sp_c 50 M Vc → (∀ x, sp_alt Vc 3 (4 * u + k) x = sp_alt V 3 (4 * u + k) x) → mv_ag [50, 51, 52, 53, 54, 55, 56, 57] M0 M → mv_W (d + 8) 83 45 [mv_R 0, mv_I 3, mv_I (u : Int), mv_I (k : Int), mv_I 0, mv_I (sp_bits (sp_pa V P g z u 3 (4 * u + k)) m), mv_I (m : Int)] [] M Q := by
  have h9 := sp_ok_s9 ho
  intro r
  induction r with
  | zero =>
    intro m M Vc hk hcv hVc hag
    have hk : m = 10 := by omega
    subst hk
    refine mv_goW 3 (pc' := if ((10 : Nat) : Int) < 10 then 52 else 99) (ls' := [mv_R 0, mv_I 3, mv_I (u : Int), mv_I (k : Int), mv_I 0, mv_I (sp_bits (sp_pa V P g z u 3 (4 * u + k)) 10), mv_I ((10 : Nat) : Int)]) (st' := []) (M1 := M) rfl ?_
    refine mv_ffW (by omega) ?_
    exact hQ M hag
  | succ r ih =>
    intro m M Vc hk hcv hVc hag
    refine mv_goW 3 (pc' := if (m : Int) < 10 then 52 else 99) (ls' := [mv_R 0, mv_I 3, mv_I (u : Int), mv_I (k : Int), mv_I 0, mv_I (sp_bits (sp_pa V P g z u 3 (4 * u + k)) m), mv_I (m : Int)]) (st' := []) (M1 := M) rfl ?_
    refine mv_ttW (by omega) ?_
    refine mv_goW 9 (pc' := 66) (ls' := [mv_R 0, mv_I 3, mv_I (u : Int), mv_I (k : Int), mv_I 0, mv_I (sp_bits (sp_pa V P g z u 3 (4 * u + k)) m), mv_I (m : Int)]) (st' := [mv_I (m : Int), mv_I (mv_w ((mv_w ((u : Int) * 4)) + (k : Int))), mv_R 53]) (M1 := M) rfl ?_
    rw [show mv_w ((mv_w ((u : Int) * 4)) + (k : Int)) = ((4 * u + k : Nat) : Int) from by (rw [show mv_w ((u : Int) * 4) = (u : Int) * 4 from mv_w_id (by omega) (by omega), show mv_w (((u : Int) * 4) + (k : Int)) = ((u : Int) * 4) + (k : Int) from mv_w_id (by omega) (by omega)]) <;> omega]
    refine mv_goW 1 (pc' := if 0 ≤ ((4 * u + k : Nat) : Int) ∧ ((4 * u + k : Nat) : Int) < 24 then 67 else mv_bad) (ls' := [mv_R 0, mv_I 3, mv_I (u : Int), mv_I (k : Int), mv_I 0, mv_I (sp_bits (sp_pa V P g z u 3 (4 * u + k)) m), mv_I (m : Int)]) (st' := []) (M1 := (mv_st M 53 (mv_up (M 53) (4 * u + k) (m : Int)))) rfl ?_
    refine mv_ttW (by omega) ?_
    have hcX : sp_c 50 (mv_st M 53 (mv_up (M 53) (4 * u + k) (m : Int))) (sp_alt V 3 (4 * u + k) (m : Int)) := by rw [← hVc (m : Int)]; exact sp_c_alt3 (w := 50) hcv
    have hagX : mv_ag [50, 51, 52, 53, 54, 55, 56, 57] M0 (mv_st M 53 (mv_up (M 53) (4 * u + k) (m : Int))) := hag.st (by decide)
    refine mv_goW 4 (pc' := 73) (ls' := [mv_R 0, mv_I 3, mv_I (u : Int), mv_I (k : Int), mv_I 0, mv_I (sp_bits (sp_pa V P g z u 3 (4 * u + k)) m), mv_I (m : Int)]) (st' := [mv_I 3, mv_R 0, mv_R 50]) (M1 := (mv_st M 53 (mv_up (M 53) (4 * u + k) (m : Int)))) rfl ?_
    refine mv_callPW (st2 := [mv_R 77, mv_R 50]) rfl (Or.inl rfl) rfl rfl rfl (sp_sheetAt_3) (by first | decide | omega) ?_
    refine mv_goW 1 (pc' := 77) (ls' := [mv_R 0, mv_I 3, mv_I (u : Int), mv_I (k : Int), mv_I 0, mv_I (sp_bits (sp_pa V P g z u 3 (4 * u + k)) m), mv_I (m : Int)]) (st' := [mv_I (u : Int), mv_R 77, mv_R 50]) (M1 := (mv_st M 53 (mv_up (M 53) (4 * u + k) (m : Int)))) rfl ?_
    refine mv_callW (st2 := [mv_I (sp_pa V P g z u 3 (4 * u + k) m)]) rfl (Or.inr rfl) rfl rfl rfl (sp_cfa_3 (V := V) (g := g) (u := u) (r := 3) (i := 4 * u + k) (x := m) hcX (sp_ok_alt3 ho (by omega)) hl hn (sp_cts_ag hP hagX hn (fun i h1 h2 => by simp only [List.mem_cons, List.not_mem_nil, or_false]; omega)) hu (by rw [hagX _ (by decide)]; exact hz) hz8 (fun j hj => by rw [hagX _ (by decide)]; exact hg j hj)) (by first | decide | omega) (fun Ma10 hm11 => ?_)
    have hx := hm11
    refine mv_goW 2 (pc' := if (sp_pa V P g z u 3 (4 * u + k) m) = (-1) then 84 else 93) (ls' := [mv_R 0, mv_I 3, mv_I (u : Int), mv_I (k : Int), mv_I 0, mv_I (sp_bits (sp_pa V P g z u 3 (4 * u + k)) m), mv_I (m : Int)]) (st' := []) (M1 := Ma10) rfl ?_
    refine mv_spW (fun ha12 => ?_) (fun ha12 => ?_)
    · refine mv_goW 8 (pc' := 45) (ls' := [mv_R 0, mv_I 3, mv_I (u : Int), mv_I (k : Int), mv_I 0, mv_I (mv_or (sp_bits (sp_pa V P g z u 3 (4 * u + k)) m) (mv_shl 1 (m : Int))), mv_I (mv_w ((m : Int) + 1))]) (st' := []) (M1 := Ma10) rfl ?_
      rw [show mv_w ((m : Int) + 1) = (m : Int) + 1 from mv_w_id (by omega) (by omega)]
      rw [show (m : Int) + 1 = ((m + 1 : Nat) : Int) from by omega]
      refine mv_eqsW (ls2 := [mv_R 0, mv_I 3, mv_I (u : Int), mv_I (k : Int), mv_I 0, mv_I (sp_bits (sp_pa V P g z u 3 (4 * u + k)) (m + 1)), mv_I (((m + 1 : Nat) : Int))]) (by rw [show mv_or (sp_bits (sp_pa V P g z u 3 (4 * u + k)) m) (mv_shl 1 (m : Int)) = sp_bits (sp_pa V P g z u 3 (4 * u + k)) (m + 1) from by simp only [sp_bits]; split <;> first | with_reducible rfl | omega]) rfl rfl (ih (m + 1) _ (sp_alt V 3 (4 * u + k) (m : Int)) (by omega) (sp_c_ag hcX hx (by decide)) (sp_alt_alt V 3 (4 * u + k) (m : Int)) (hagX.tr (hx.wd (by decide))))
    · refine mv_goW 2 (pc' := 45) (ls' := [mv_R 0, mv_I 3, mv_I (u : Int), mv_I (k : Int), mv_I 0, mv_I (sp_bits (sp_pa V P g z u 3 (4 * u + k)) m), mv_I (mv_w ((m : Int) + 1))]) (st' := []) (M1 := Ma10) rfl ?_
      rw [show mv_w ((m : Int) + 1) = (m : Int) + 1 from mv_w_id (by omega) (by omega)]
      rw [show (m : Int) + 1 = ((m + 1 : Nat) : Int) from by omega]
      refine mv_eqsW (ls2 := [mv_R 0, mv_I 3, mv_I (u : Int), mv_I (k : Int), mv_I 0, mv_I (sp_bits (sp_pa V P g z u 3 (4 * u + k)) (m + 1)), mv_I (((m + 1 : Nat) : Int))]) (by rw [show sp_bits (sp_pa V P g z u 3 (4 * u + k)) m = sp_bits (sp_pa V P g z u 3 (4 * u + k)) (m + 1) from by simp only [sp_bits]; split <;> first | with_reducible rfl | omega]) rfl rfl (ih (m + 1) _ (sp_alt V 3 (4 * u + k) (m : Int)) (by omega) (sp_c_ag hcX hx (by decide)) (sp_alt_alt V 3 (4 * u + k) (m : Int)) (hagX.tr (hx.wd (by decide))))
theorem sp_mmk {V M0 : mv_M} {P : Nat → Nat → List Int} {n : Int} {u z d k S : Nat} {g : Nat → Int} {Q : mv_V → mv_M → Prop} (ho : sp_ok V) (hl : V 0 11 < n) (hn : n ≤ 6) (hP : sp_mts M0 P n) (hu : (u : Int) < V 0 9) (hk4 : k < 4) (hS : S < 4) (hz : M0 118 S = (z : Int)) (hz8 : (z : Int) ≤ V 0 8) (hg : ∀ j, j < z → M0 119 (40 * S + j) = g j)
    (hQ : ∀ M2 Vc, sp_m M2 Vc → (∀ x, sp_alt Vc 3 (4 * u + k) x = sp_alt V 3 (4 * u + k) x) → mv_ag [105, 130, 131] M0 M2 → mv_W (d + 8) 176 94 [mv_R 100, mv_I (S : Int), mv_I (u : Int), mv_I (k : Int), mv_I 0, mv_I (V 3 (4 * u + k)), mv_I (sp_bits (sp_pa V P g z u 3 (4 * u + k)) 10), mv_I (10 : Int)] [] M2 Q) :
    ∀ (r m : Nat) (M Vc : mv_M), m + r = 10 → sp_m M Vc → (∀ x, sp_alt Vc 3 (4 * u + k) x = sp_alt V 3 (4 * u + k) x) → mv_ag [105, 130, 131] M0 M → mv_W (d + 8) 176 46 [mv_R 100, mv_I (S : Int), mv_I (u : Int), mv_I (k : Int), mv_I 0, mv_I (V 3 (4 * u + k)), mv_I (sp_bits (sp_pa V P g z u 3 (4 * u + k)) m), mv_I (m : Int)] [] M Q := by
  have h9 := sp_ok_s9 ho
  intro r
  induction r with
  | zero =>
    intro m M Vc hk hmv hVc hag
    have hk : m = 10 := by omega
    subst hk
    refine mv_goW 3 (pc' := if ((10 : Nat) : Int) < 10 then 53 else 94) (ls' := [mv_R 100, mv_I (S : Int), mv_I (u : Int), mv_I (k : Int), mv_I 0, mv_I (V 3 (4 * u + k)), mv_I (sp_bits (sp_pa V P g z u 3 (4 * u + k)) 10), mv_I ((10 : Nat) : Int)]) (st' := []) (M1 := M) rfl ?_
    refine mv_ffW (by omega) ?_
    exact hQ M Vc hmv hVc hag
  | succ r ih =>
    intro m M Vc hk hmv hVc hag
    refine mv_goW 3 (pc' := if (m : Int) < 10 then 53 else 94) (ls' := [mv_R 100, mv_I (S : Int), mv_I (u : Int), mv_I (k : Int), mv_I 0, mv_I (V 3 (4 * u + k)), mv_I (sp_bits (sp_pa V P g z u 3 (4 * u + k)) m), mv_I (m : Int)]) (st' := []) (M1 := M) rfl ?_
    refine mv_ttW (by omega) ?_
    refine mv_goW 8 (pc' := 64) (ls' := [mv_R 100, mv_I (S : Int), mv_I (u : Int), mv_I (k : Int), mv_I 0, mv_I (V 3 (4 * u + k)), mv_I (sp_bits (sp_pa V P g z u 3 (4 * u + k)) m), mv_I (m : Int)]) (st' := [mv_I (m : Int), mv_I (mv_w ((mv_w (4 * (u : Int))) + (k : Int))), mv_R 105]) (M1 := M) rfl ?_
    rw [show mv_w ((mv_w (4 * (u : Int))) + (k : Int)) = ((4 * u + k : Nat) : Int) from by (rw [show mv_w (4 * (u : Int)) = 4 * (u : Int) from mv_w_id (by omega) (by omega), show mv_w ((4 * (u : Int)) + (k : Int)) = (4 * (u : Int)) + (k : Int) from mv_w_id (by omega) (by omega)]) <;> omega]
    refine mv_goW 1 (pc' := if 0 ≤ ((4 * u + k : Nat) : Int) ∧ ((4 * u + k : Nat) : Int) < 24 then 65 else mv_bad) (ls' := [mv_R 100, mv_I (S : Int), mv_I (u : Int), mv_I (k : Int), mv_I 0, mv_I (V 3 (4 * u + k)), mv_I (sp_bits (sp_pa V P g z u 3 (4 * u + k)) m), mv_I (m : Int)]) (st' := []) (M1 := (mv_st M 105 (mv_up (M 105) (4 * u + k) (m : Int)))) rfl ?_
    refine mv_ttW (by omega) ?_
    have hmX : sp_m (mv_st M 105 (mv_up (M 105) (4 * u + k) (m : Int))) (sp_alt V 3 (4 * u + k) (m : Int)) := by rw [← hVc (m : Int)]; exact sp_m_alt3 hmv
    have hagX : mv_ag [105, 130, 131] M0 (mv_st M 105 (mv_up (M 105) (4 * u + k) (m : Int))) := hag.st (by decide)
    refine mv_goW 4 (pc' := 70) (ls' := [mv_R 100, mv_I (S : Int), mv_I (u : Int), mv_I (k : Int), mv_I 0, mv_I (V 3 (4 * u + k)), mv_I (sp_bits (sp_pa V P g z u 3 (4 * u + k)) m), mv_I (m : Int)]) (st' := [mv_I (u : Int), mv_I (S : Int), mv_R 100, mv_I (sp_bits (sp_pa V P g z u 3 (4 * u + k)) m)]) (M1 := (mv_st M 105 (mv_up (M 105) (4 * u + k) (m : Int)))) rfl ?_
    refine mv_callW (st2 := [mv_I (sp_pa V P g z u 3 (4 * u + k) m), mv_I (sp_bits (sp_pa V P g z u 3 (4 * u + k)) m)]) rfl (Or.inl rfl) rfl rfl rfl (sp_mfa (V := V) (g := g) (u := u) (r := 3) (i := 4 * u + k) (x := m) hS hmX (sp_ok_alt3 ho (by omega)) hl (sp_mts_ag hP hagX (by decide)) hu (by rw [hagX _ (by decide)]; exact hz) hz8 (fun j hj => by rw [hagX _ (by decide)]; exact hg j hj)) (by first | decide | omega) (fun Ma13 hm14 => ?_)
    have hx := hm14
    refine mv_goW 2 (pc' := if (sp_pa V P g z u 3 (4 * u + k) m) = (-1) then 77 else 84) (ls' := [mv_R 100, mv_I (S : Int), mv_I (u : Int), mv_I (k : Int), mv_I 0, mv_I (V 3 (4 * u + k)), mv_I (sp_bits (sp_pa V P g z u 3 (4 * u + k)) m), mv_I (m : Int)]) (st' := [mv_I (sp_bits (sp_pa V P g z u 3 (4 * u + k)) m)]) (M1 := Ma13) rfl ?_
    refine mv_spW (fun ha15 => ?_) (fun ha15 => ?_)
    · refine mv_goW 8 (pc' := 46) (ls' := [mv_R 100, mv_I (S : Int), mv_I (u : Int), mv_I (k : Int), mv_I 0, mv_I (V 3 (4 * u + k)), mv_I (mv_or (sp_bits (sp_pa V P g z u 3 (4 * u + k)) m) (mv_shl 1 (m : Int))), mv_I (mv_w ((m : Int) + 1))]) (st' := []) (M1 := Ma13) rfl ?_
      rw [show mv_w ((m : Int) + 1) = (m : Int) + 1 from mv_w_id (by omega) (by omega)]
      rw [show (m : Int) + 1 = ((m + 1 : Nat) : Int) from by omega]
      refine mv_eqsW (ls2 := [mv_R 100, mv_I (S : Int), mv_I (u : Int), mv_I (k : Int), mv_I 0, mv_I (V 3 (4 * u + k)), mv_I (sp_bits (sp_pa V P g z u 3 (4 * u + k)) (m + 1)), mv_I (((m + 1 : Nat) : Int))]) (by rw [show mv_or (sp_bits (sp_pa V P g z u 3 (4 * u + k)) m) (mv_shl 1 (m : Int)) = sp_bits (sp_pa V P g z u 3 (4 * u + k)) (m + 1) from by (try rw [sp_bits_0]); simp only [sp_bits]; split <;> first | with_reducible rfl | omega]) rfl rfl (ih (m + 1) _ (sp_alt V 3 (4 * u + k) (m : Int)) (by omega) (sp_m_ag hmX hx (by rw [hx 100 (by decide)]; exact ⟨rfl, rfl, rfl, rfl⟩) (by decide)) (sp_alt_alt V 3 (4 * u + k) (m : Int)) (hagX.tr (hx.wd (by decide))))
    · refine mv_goW 5 (pc' := 46) (ls' := [mv_R 100, mv_I (S : Int), mv_I (u : Int), mv_I (k : Int), mv_I 0, mv_I (V 3 (4 * u + k)), mv_I (mv_or (sp_bits (sp_pa V P g z u 3 (4 * u + k)) m) 0), mv_I (mv_w ((m : Int) + 1))]) (st' := []) (M1 := Ma13) rfl ?_
      rw [show mv_w ((m : Int) + 1) = (m : Int) + 1 from mv_w_id (by omega) (by omega)]
      rw [show (m : Int) + 1 = ((m + 1 : Nat) : Int) from by omega]
      refine mv_eqsW (ls2 := [mv_R 100, mv_I (S : Int), mv_I (u : Int), mv_I (k : Int), mv_I 0, mv_I (V 3 (4 * u + k)), mv_I (sp_bits (sp_pa V P g z u 3 (4 * u + k)) (m + 1)), mv_I (((m + 1 : Nat) : Int))]) (by rw [show mv_or (sp_bits (sp_pa V P g z u 3 (4 * u + k)) m) 0 = sp_bits (sp_pa V P g z u 3 (4 * u + k)) (m + 1) from by (try rw [sp_bits_0]); simp only [sp_bits]; split <;> first | with_reducible rfl | omega]) rfl rfl (ih (m + 1) _ (sp_alt V 3 (4 * u + k) (m : Int)) (by omega) (sp_m_ag hmX hx (by rw [hx 100 (by decide)]; exact ⟨rfl, rfl, rfl, rfl⟩) (by decide)) (sp_alt_alt V 3 (4 * u + k) (m : Int)) (hagX.tr (hx.wd (by decide))))
theorem sp_k22_0 (a b : Int) : sp_call 83 176 [mv_I 0, mv_I a, mv_I b] [mv_I 0, mv_I a, mv_I b] := by
  refine sp_mkW (lc := [mv_R 0, mv_I 0, mv_I a, mv_I b, mv_U, mv_U, mv_U]) (lm := [mv_R 100, mv_I 0, mv_I a, mv_I b, mv_U, mv_U, mv_U, mv_U]) rfl rfl (fun M hI => ?_)
  have hI2 := hI
  obtain ⟨V, P, nt, B, K, t, h⟩ := hI2
  have h' := h
  obtain ⟨⟨hc, hm, ho⟩, ⟨hy, hl, hn1, hn⟩, ⟨hct, hmt, hn7, hn12⟩, _⟩ := h'
  have h8 := sp_ok_s8 ho
  have h9 := sp_ok_s9 ho
  obtain ⟨so, sz, ⟨hs1, hs2, so0, so1⟩, ⟨hz1, hz2, sz0, sz1⟩, hcl⟩ := sp_sh_get h 0 (by decide)
  obtain ⟨z, rfl⟩ : ∃ x : Nat, sz = (x : Int) := ⟨sz.toNat, by omega⟩
  have hnz := sp_rfv_n so z (V 0 8)
  by_cases h0 : 0 ≤ a
  · obtain ⟨u, rfl⟩ : ∃ x : Nat, a = (x : Int) := ⟨a.toNat, by omega⟩
    by_cases h1 : 0 ≤ b ∧ b ≤ 3
    · obtain ⟨k, rfl⟩ : ∃ x : Nat, b = (x : Int) := ⟨b.toNat, by omega⟩
      refine mv_goW 3 (pc' := 3) (ls' := [mv_R 0, mv_I 0, mv_I (u : Int), mv_I (k : Int), mv_U, mv_U, mv_U]) (st' := [mv_I (u : Int), mv_I 0, mv_R 0]) (M1 := M) rfl ?_
      by_cases ha16 : (so ≠ -1 ∧ (z : Int) ≤ V 0 8) ∧ 0 ≤ (u : Int) ∧ (u : Int) < V 0 9
      · refine mv_callPW (st2 := [mv_I 0]) rfl (Or.inl rfl) rfl rfl rfl (sp_crj_0_t hc ho hs1 hz1 ha16) (by first | decide | omega) ?_
        refine mv_goW 3 (pc' := if 0 = 0 then 16 else 13) (ls' := [mv_R 0, mv_I 0, mv_I (u : Int), mv_I (k : Int), mv_I 0, mv_U, mv_U]) (st' := []) (M1 := M) rfl ?_
        refine mv_ttW (by first | decide | omega) ?_
        refine mv_goW 2 (pc' := if (k : Int) < 0 then 25 else 20) (ls' := [mv_R 0, mv_I 0, mv_I (u : Int), mv_I (k : Int), mv_I 0, mv_U, mv_U]) (st' := []) (M1 := M) rfl ?_
        refine mv_ffW (by omega) ?_
        refine mv_goW 3 (pc' := if (k : Int) < 4 then 28 else 25) (ls' := [mv_R 0, mv_I 0, mv_I (u : Int), mv_I (k : Int), mv_I 0, mv_U, mv_U]) (st' := []) (M1 := M) rfl ?_
        refine mv_ttW (by omega) ?_
        refine mv_goW 4 (pc' := 36) (ls' := [mv_R 0, mv_I 0, mv_I (u : Int), mv_I (k : Int), mv_I 0, mv_U, mv_U]) (st' := [mv_R 30, mv_R 50]) (M1 := M) rfl ?_
        refine mv_callW (st2 := []) rfl (Or.inl rfl) rfl rfl rfl (sp_become_50_30 hc (by omega) (by omega)) (by first | decide | omega) (fun Ma17 hm18 => ?_)
        have hb := hm18
        refine mv_goW 4 (pc' := 45) (ls' := [mv_R 0, mv_I 0, mv_I (u : Int), mv_I (k : Int), mv_I 0, mv_I 0, mv_I 0]) (st' := []) (M1 := Ma17) rfl ?_
        have huv : (u : Int) < V 0 9 := by omega
        have hzv : (z : Int) ≤ V 0 8 := by omega
        refine sp_cmk_0 (d := 12) (V := V) (M0 := Ma17) (g := fun j => M 119 (40 * 0 + j)) ho hl hn (sp_cts_ag hct hb.1 hn (fun i h1 h2 => by simp only [List.mem_cons, List.not_mem_nil, or_false]; omega)) huv (by omega) (by rw [hb.1 _ (by decide)]; exact hz1) hzv (fun j hj => by rw [hb.1 _ (by decide)]; exact hcl j (by omega)) (fun M2 hw => ?_) 10 0 Ma17 V (by omega) hb.2 (fun _ => rfl) mv_ag.rf
        have hw2 : mv_ag [36, 37, 50, 51, 52, 53, 54, 55, 56, 57] M M2 := (hb.1.wd (by decide)).tr (hw.wd (by decide))
        have hm := sp_m_ag2 hm hw2 (by decide)
        have hmt := sp_mts_ag hmt hw2 (by decide)
        have hs2 : M2 117 0 = so := by rw [hw2 117 (by decide)]; exact hs2
        have hz2 : M2 118 0 = (z : Int) := by rw [hw2 118 (by decide)]; exact hz2
        refine mv_goW 1 (pc' := 101) (ls' := [mv_R 0, mv_I 0, mv_I (u : Int), mv_I (k : Int), mv_I 0, mv_I (sp_bits (sp_pa V P (fun j => M 119 (40 * 0 + j)) z u 3 (4 * u + k)) 10), mv_I 10]) (st' := [mv_I (sp_bits (sp_pa V P (fun j => M 119 (40 * 0 + j)) z u 3 (4 * u + k)) 10)]) (M1 := M2) rfl ?_
        refine mv_retW (fun n => rfl) ⟨_, rfl, ?_⟩
        refine mv_goW 3 (pc' := 3) (ls' := [mv_R 100, mv_I 0, mv_I (u : Int), mv_I (k : Int), mv_U, mv_U, mv_U, mv_U]) (st' := [mv_I (u : Int), mv_I 0, mv_R 100]) (M1 := M2) rfl ?_
        have ha19 : (so ≠ -1 ∧ (z : Int) ≤ V 0 8) ∧ 0 ≤ (u : Int) ∧ (u : Int) < V 0 9 := by omega
        refine mv_callPW (st2 := [mv_I 0]) rfl (Or.inl rfl) rfl rfl rfl (sp_mrj_t (S := 0) (by decide) hm ho hs2 hz2 ha19) (by first | decide | omega) ?_
        refine mv_goW 3 (pc' := if 0 = 0 then 16 else 13) (ls' := [mv_R 100, mv_I 0, mv_I (u : Int), mv_I (k : Int), mv_I 0, mv_U, mv_U, mv_U]) (st' := []) (M1 := M2) rfl ?_
        refine mv_ttW (by first | decide | omega) ?_
        refine mv_goW 3 (pc' := 19) (ls' := [mv_R 100, mv_I 0, mv_I (u : Int), mv_I (k : Int), mv_I 0, mv_U, mv_U, mv_U]) (st' := [mv_I 3, mv_I 0, mv_I (k : Int)]) (M1 := M2) rfl ?_
        have ha20 : (0 : Int) ≤ (k : Int) ∧ (k : Int) ≤ (3 : Int) := by omega
        refine mv_callPW (st2 := [mv_I 1]) rfl (Or.inr rfl) rfl rfl rfl (sp_min_t ha20) (by first | decide | omega) ?_
        refine mv_goW 1 (pc' := if 1 = 0 then 25 else 28) (ls' := [mv_R 100, mv_I 0, mv_I (u : Int), mv_I (k : Int), mv_I 0, mv_U, mv_U, mv_U]) (st' := []) (M1 := M2) rfl ?_
        refine mv_ffW (by first | decide | omega) ?_
        refine mv_goW 7 (pc' := 37) (ls' := [mv_R 100, mv_I 0, mv_I (u : Int), mv_I (k : Int), mv_I 0, mv_U, mv_U, mv_U]) (st' := [mv_I (mv_w ((mv_w (4 * (u : Int))) + (k : Int))), mv_R 105]) (M1 := M2) rfl ?_
        rw [show mv_w ((mv_w (4 * (u : Int))) + (k : Int)) = ((4 * u + k : Nat) : Int) from by (rw [show mv_w (4 * (u : Int)) = 4 * (u : Int) from mv_w_id (by omega) (by omega), show mv_w ((4 * (u : Int)) + (k : Int)) = (4 * (u : Int)) + (k : Int) from mv_w_id (by omega) (by omega)]) <;> omega]
        refine mv_goW 1 (pc' := if 0 ≤ ((4 * u + k : Nat) : Int) ∧ ((4 * u + k : Nat) : Int) < 24 then 38 else mv_bad) (ls' := [mv_R 100, mv_I 0, mv_I (u : Int), mv_I (k : Int), mv_I 0, mv_U, mv_U, mv_U]) (st' := [mv_I (M2 105 (4 * u + k))]) (M1 := M2) rfl ?_
        refine mv_ttW (by omega) ?_
        have hr1 := sp_ok_3 ho (4 * u + k) (by omega)
        rw [show M2 105 (4 * u + k) = V 3 (4 * u + k) from by exact sp_m_3 hm (4 * u + k) (by omega)]
        refine mv_goW 5 (pc' := 46) (ls' := [mv_R 100, mv_I 0, mv_I (u : Int), mv_I (k : Int), mv_I 0, mv_I (V 3 (4 * u + k)), mv_I 0, mv_I 0]) (st' := []) (M1 := M2) rfl ?_
        refine sp_mmk (d := 12) (V := V) (M0 := M2) (S := 0) (g := fun j => M 119 (40 * 0 + j)) ho hl hn hmt huv (by omega) (by decide) hz2 hzv (fun j hj => by rw [hw2 119 (by decide)]) (fun M3 Vc hm3 hVc3 hy => ?_) 10 0 M2 V (by omega) hm (fun _ => rfl) mv_ag.rf
        refine mv_goW 8 (pc' := 105) (ls' := [mv_R 100, mv_I 0, mv_I (u : Int), mv_I (k : Int), mv_I 0, mv_I (V 3 (4 * u + k)), mv_I (sp_bits (sp_pa V P (fun j => M 119 (40 * 0 + j)) z u 3 (4 * u + k)) 10), mv_I 10]) (st' := [mv_I (V 3 (4 * u + k)), mv_I (mv_w ((mv_w (4 * (u : Int))) + (k : Int))), mv_R 105]) (M1 := M3) rfl ?_
        rw [show mv_w ((mv_w (4 * (u : Int))) + (k : Int)) = ((4 * u + k : Nat) : Int) from by (rw [show mv_w (4 * (u : Int)) = 4 * (u : Int) from mv_w_id (by omega) (by omega), show mv_w ((4 * (u : Int)) + (k : Int)) = (4 * (u : Int)) + (k : Int) from mv_w_id (by omega) (by omega)]) <;> omega]
        refine mv_goW 1 (pc' := if 0 ≤ ((4 * u + k : Nat) : Int) ∧ ((4 * u + k : Nat) : Int) < 24 then 106 else mv_bad) (ls' := [mv_R 100, mv_I 0, mv_I (u : Int), mv_I (k : Int), mv_I 0, mv_I (V 3 (4 * u + k)), mv_I (sp_bits (sp_pa V P (fun j => M 119 (40 * 0 + j)) z u 3 (4 * u + k)) 10), mv_I 10]) (st' := []) (M1 := (mv_st M3 105 (mv_up (M3 105) (4 * u + k) (V 3 (4 * u + k))))) rfl ?_
        refine mv_ttW (by omega) ?_
        refine mv_goW 1 (pc' := 108) (ls' := [mv_R 100, mv_I 0, mv_I (u : Int), mv_I (k : Int), mv_I 0, mv_I (V 3 (4 * u + k)), mv_I (sp_bits (sp_pa V P (fun j => M 119 (40 * 0 + j)) z u 3 (4 * u + k)) 10), mv_I 10]) (st' := [mv_I (sp_bits (sp_pa V P (fun j => M 119 (40 * 0 + j)) z u 3 (4 * u + k)) 10)]) (M1 := (mv_st M3 105 (mv_up (M3 105) (4 * u + k) (V 3 (4 * u + k))))) rfl ?_
        exact mv_retW (fun n => rfl) ⟨congrArg mv_I (by first | with_reducible rfl | omega), sp_bend h hw2 ((hy.wd (by decide)).st (by decide)) (by have e : M3 100 = M2 100 := hy 100 (by decide); exact ⟨congrFun e 9, congrFun e 12, congrFun e 14⟩) (by have q := sp_m_alt3 (i := 4 * u + k) (x := V 3 (4 * u + k)) hm3; rw [hVc3, sp_alt_id] at q; exact q)⟩
      · refine mv_callPW (st2 := [mv_I (sp_rfv so (z : Int) (V 0 8))]) rfl (Or.inl rfl) rfl rfl rfl (sp_crj_0_f hc ho hs1 hz1 ha16) (by first | decide | omega) ?_
        refine mv_goW 3 (pc' := if (sp_rfv so (z : Int) (V 0 8)) = 0 then 16 else 13) (ls' := [mv_R 0, mv_I 0, mv_I (u : Int), mv_I (k : Int), mv_I (sp_rfv so (z : Int) (V 0 8)), mv_U, mv_U]) (st' := []) (M1 := M) rfl ?_
        refine mv_ffW (by omega) ?_
        refine mv_goW 1 (pc' := 15) (ls' := [mv_R 0, mv_I 0, mv_I (u : Int), mv_I (k : Int), mv_I (sp_rfv so (z : Int) (V 0 8)), mv_U, mv_U]) (st' := [mv_I (sp_rfv so (z : Int) (V 0 8))]) (M1 := M) rfl ?_
        refine mv_retW (fun n => rfl) ⟨_, rfl, ?_⟩
        refine mv_goW 3 (pc' := 3) (ls' := [mv_R 100, mv_I 0, mv_I (u : Int), mv_I (k : Int), mv_U, mv_U, mv_U, mv_U]) (st' := [mv_I (u : Int), mv_I 0, mv_R 100]) (M1 := M) rfl ?_
        have ha21 : ¬ ((so ≠ -1 ∧ (z : Int) ≤ V 0 8) ∧ 0 ≤ (u : Int) ∧ (u : Int) < V 0 9) := by omega
        refine mv_callPW (st2 := [mv_I (sp_rfv so (z : Int) (V 0 8))]) rfl (Or.inl rfl) rfl rfl rfl (sp_mrj_f (S := 0) (by decide) hm ho hs2 hz2 ha21) (by first | decide | omega) ?_
        refine mv_goW 3 (pc' := if (sp_rfv so (z : Int) (V 0 8)) = 0 then 16 else 13) (ls' := [mv_R 100, mv_I 0, mv_I (u : Int), mv_I (k : Int), mv_I (sp_rfv so (z : Int) (V 0 8)), mv_U, mv_U, mv_U]) (st' := []) (M1 := M) rfl ?_
        refine mv_ffW (by omega) ?_
        refine mv_goW 1 (pc' := 15) (ls' := [mv_R 100, mv_I 0, mv_I (u : Int), mv_I (k : Int), mv_I (sp_rfv so (z : Int) (V 0 8)), mv_U, mv_U, mv_U]) (st' := [mv_I (sp_rfv so (z : Int) (V 0 8))]) (M1 := M) rfl ?_
        exact mv_retW (fun n => rfl) ⟨congrArg mv_I (by first | with_reducible rfl | omega), hI⟩
    · refine mv_goW 3 (pc' := 3) (ls' := [mv_R 0, mv_I 0, mv_I (u : Int), mv_I b, mv_U, mv_U, mv_U]) (st' := [mv_I (u : Int), mv_I 0, mv_R 0]) (M1 := M) rfl ?_
      by_cases ha22 : (so ≠ -1 ∧ (z : Int) ≤ V 0 8) ∧ 0 ≤ (u : Int) ∧ (u : Int) < V 0 9
      · refine mv_callPW (st2 := [mv_I 0]) rfl (Or.inl rfl) rfl rfl rfl (sp_crj_0_t hc ho hs1 hz1 ha22) (by first | decide | omega) ?_
        refine mv_goW 3 (pc' := if 0 = 0 then 16 else 13) (ls' := [mv_R 0, mv_I 0, mv_I (u : Int), mv_I b, mv_I 0, mv_U, mv_U]) (st' := []) (M1 := M) rfl ?_
        refine mv_ttW (by first | decide | omega) ?_
        refine mv_goW 2 (pc' := if b < 0 then 25 else 20) (ls' := [mv_R 0, mv_I 0, mv_I (u : Int), mv_I b, mv_I 0, mv_U, mv_U]) (st' := []) (M1 := M) rfl ?_
        refine mv_spW (fun ha23 => ?_) (fun ha23 => ?_)
        · refine mv_goW 1 (pc' := 27) (ls' := [mv_R 0, mv_I 0, mv_I (u : Int), mv_I b, mv_I 0, mv_U, mv_U]) (st' := [mv_I (-7)]) (M1 := M) rfl ?_
          refine mv_retW (fun n => rfl) ⟨_, rfl, ?_⟩
          refine mv_goW 3 (pc' := 3) (ls' := [mv_R 100, mv_I 0, mv_I (u : Int), mv_I b, mv_U, mv_U, mv_U, mv_U]) (st' := [mv_I (u : Int), mv_I 0, mv_R 100]) (M1 := M) rfl ?_
          have ha24 : (so ≠ -1 ∧ (z : Int) ≤ V 0 8) ∧ 0 ≤ (u : Int) ∧ (u : Int) < V 0 9 := by omega
          refine mv_callPW (st2 := [mv_I 0]) rfl (Or.inl rfl) rfl rfl rfl (sp_mrj_t (S := 0) (by decide) hm ho hs2 hz2 ha24) (by first | decide | omega) ?_
          refine mv_goW 3 (pc' := if 0 = 0 then 16 else 13) (ls' := [mv_R 100, mv_I 0, mv_I (u : Int), mv_I b, mv_I 0, mv_U, mv_U, mv_U]) (st' := []) (M1 := M) rfl ?_
          refine mv_ttW (by first | decide | omega) ?_
          refine mv_goW 3 (pc' := 19) (ls' := [mv_R 100, mv_I 0, mv_I (u : Int), mv_I b, mv_I 0, mv_U, mv_U, mv_U]) (st' := [mv_I 3, mv_I 0, mv_I b]) (M1 := M) rfl ?_
          have ha25 : ¬ ((0 : Int) ≤ b ∧ b ≤ (3 : Int)) := by omega
          refine mv_callPW (st2 := [mv_I 0]) rfl (Or.inr rfl) rfl rfl rfl (sp_min_f ha25) (by first | decide | omega) ?_
          refine mv_goW 1 (pc' := if 0 = 0 then 25 else 28) (ls' := [mv_R 100, mv_I 0, mv_I (u : Int), mv_I b, mv_I 0, mv_U, mv_U, mv_U]) (st' := []) (M1 := M) rfl ?_
          refine mv_ttW (by first | decide | omega) ?_
          refine mv_goW 1 (pc' := 27) (ls' := [mv_R 100, mv_I 0, mv_I (u : Int), mv_I b, mv_I 0, mv_U, mv_U, mv_U]) (st' := [mv_I (-7)]) (M1 := M) rfl ?_
          exact mv_retW (fun n => rfl) ⟨congrArg mv_I (by first | with_reducible rfl | omega), hI⟩
        · refine mv_goW 3 (pc' := if b < 4 then 28 else 25) (ls' := [mv_R 0, mv_I 0, mv_I (u : Int), mv_I b, mv_I 0, mv_U, mv_U]) (st' := []) (M1 := M) rfl ?_
          refine mv_ffW (by omega) ?_
          refine mv_goW 1 (pc' := 27) (ls' := [mv_R 0, mv_I 0, mv_I (u : Int), mv_I b, mv_I 0, mv_U, mv_U]) (st' := [mv_I (-7)]) (M1 := M) rfl ?_
          refine mv_retW (fun n => rfl) ⟨_, rfl, ?_⟩
          refine mv_goW 3 (pc' := 3) (ls' := [mv_R 100, mv_I 0, mv_I (u : Int), mv_I b, mv_U, mv_U, mv_U, mv_U]) (st' := [mv_I (u : Int), mv_I 0, mv_R 100]) (M1 := M) rfl ?_
          have ha26 : (so ≠ -1 ∧ (z : Int) ≤ V 0 8) ∧ 0 ≤ (u : Int) ∧ (u : Int) < V 0 9 := by omega
          refine mv_callPW (st2 := [mv_I 0]) rfl (Or.inl rfl) rfl rfl rfl (sp_mrj_t (S := 0) (by decide) hm ho hs2 hz2 ha26) (by first | decide | omega) ?_
          refine mv_goW 3 (pc' := if 0 = 0 then 16 else 13) (ls' := [mv_R 100, mv_I 0, mv_I (u : Int), mv_I b, mv_I 0, mv_U, mv_U, mv_U]) (st' := []) (M1 := M) rfl ?_
          refine mv_ttW (by first | decide | omega) ?_
          refine mv_goW 3 (pc' := 19) (ls' := [mv_R 100, mv_I 0, mv_I (u : Int), mv_I b, mv_I 0, mv_U, mv_U, mv_U]) (st' := [mv_I 3, mv_I 0, mv_I b]) (M1 := M) rfl ?_
          have ha27 : ¬ ((0 : Int) ≤ b ∧ b ≤ (3 : Int)) := by omega
          refine mv_callPW (st2 := [mv_I 0]) rfl (Or.inr rfl) rfl rfl rfl (sp_min_f ha27) (by first | decide | omega) ?_
          refine mv_goW 1 (pc' := if 0 = 0 then 25 else 28) (ls' := [mv_R 100, mv_I 0, mv_I (u : Int), mv_I b, mv_I 0, mv_U, mv_U, mv_U]) (st' := []) (M1 := M) rfl ?_
          refine mv_ttW (by first | decide | omega) ?_
          refine mv_goW 1 (pc' := 27) (ls' := [mv_R 100, mv_I 0, mv_I (u : Int), mv_I b, mv_I 0, mv_U, mv_U, mv_U]) (st' := [mv_I (-7)]) (M1 := M) rfl ?_
          exact mv_retW (fun n => rfl) ⟨congrArg mv_I (by first | with_reducible rfl | omega), hI⟩
      · refine mv_callPW (st2 := [mv_I (sp_rfv so (z : Int) (V 0 8))]) rfl (Or.inl rfl) rfl rfl rfl (sp_crj_0_f hc ho hs1 hz1 ha22) (by first | decide | omega) ?_
        refine mv_goW 3 (pc' := if (sp_rfv so (z : Int) (V 0 8)) = 0 then 16 else 13) (ls' := [mv_R 0, mv_I 0, mv_I (u : Int), mv_I b, mv_I (sp_rfv so (z : Int) (V 0 8)), mv_U, mv_U]) (st' := []) (M1 := M) rfl ?_
        refine mv_ffW (by omega) ?_
        refine mv_goW 1 (pc' := 15) (ls' := [mv_R 0, mv_I 0, mv_I (u : Int), mv_I b, mv_I (sp_rfv so (z : Int) (V 0 8)), mv_U, mv_U]) (st' := [mv_I (sp_rfv so (z : Int) (V 0 8))]) (M1 := M) rfl ?_
        refine mv_retW (fun n => rfl) ⟨_, rfl, ?_⟩
        refine mv_goW 3 (pc' := 3) (ls' := [mv_R 100, mv_I 0, mv_I (u : Int), mv_I b, mv_U, mv_U, mv_U, mv_U]) (st' := [mv_I (u : Int), mv_I 0, mv_R 100]) (M1 := M) rfl ?_
        have ha28 : ¬ ((so ≠ -1 ∧ (z : Int) ≤ V 0 8) ∧ 0 ≤ (u : Int) ∧ (u : Int) < V 0 9) := by omega
        refine mv_callPW (st2 := [mv_I (sp_rfv so (z : Int) (V 0 8))]) rfl (Or.inl rfl) rfl rfl rfl (sp_mrj_f (S := 0) (by decide) hm ho hs2 hz2 ha28) (by first | decide | omega) ?_
        refine mv_goW 3 (pc' := if (sp_rfv so (z : Int) (V 0 8)) = 0 then 16 else 13) (ls' := [mv_R 100, mv_I 0, mv_I (u : Int), mv_I b, mv_I (sp_rfv so (z : Int) (V 0 8)), mv_U, mv_U, mv_U]) (st' := []) (M1 := M) rfl ?_
        refine mv_ffW (by omega) ?_
        refine mv_goW 1 (pc' := 15) (ls' := [mv_R 100, mv_I 0, mv_I (u : Int), mv_I b, mv_I (sp_rfv so (z : Int) (V 0 8)), mv_U, mv_U, mv_U]) (st' := [mv_I (sp_rfv so (z : Int) (V 0 8))]) (M1 := M) rfl ?_
        exact mv_retW (fun n => rfl) ⟨congrArg mv_I (by first | with_reducible rfl | omega), hI⟩
  · refine mv_goW 3 (pc' := 3) (ls' := [mv_R 0, mv_I 0, mv_I a, mv_I b, mv_U, mv_U, mv_U]) (st' := [mv_I a, mv_I 0, mv_R 0]) (M1 := M) rfl ?_
    have ha29 : ¬ ((so ≠ -1 ∧ (z : Int) ≤ V 0 8) ∧ 0 ≤ a ∧ a < V 0 9) := by omega
    refine mv_callPW (st2 := [mv_I (sp_rfv so (z : Int) (V 0 8))]) rfl (Or.inl rfl) rfl rfl rfl (sp_crj_0_f hc ho hs1 hz1 ha29) (by first | decide | omega) ?_
    refine mv_goW 3 (pc' := if (sp_rfv so (z : Int) (V 0 8)) = 0 then 16 else 13) (ls' := [mv_R 0, mv_I 0, mv_I a, mv_I b, mv_I (sp_rfv so (z : Int) (V 0 8)), mv_U, mv_U]) (st' := []) (M1 := M) rfl ?_
    refine mv_ffW (by omega) ?_
    refine mv_goW 1 (pc' := 15) (ls' := [mv_R 0, mv_I 0, mv_I a, mv_I b, mv_I (sp_rfv so (z : Int) (V 0 8)), mv_U, mv_U]) (st' := [mv_I (sp_rfv so (z : Int) (V 0 8))]) (M1 := M) rfl ?_
    refine mv_retW (fun n => rfl) ⟨_, rfl, ?_⟩
    refine mv_goW 3 (pc' := 3) (ls' := [mv_R 100, mv_I 0, mv_I a, mv_I b, mv_U, mv_U, mv_U, mv_U]) (st' := [mv_I a, mv_I 0, mv_R 100]) (M1 := M) rfl ?_
    have ha30 : ¬ ((so ≠ -1 ∧ (z : Int) ≤ V 0 8) ∧ 0 ≤ a ∧ a < V 0 9) := by omega
    refine mv_callPW (st2 := [mv_I (sp_rfv so (z : Int) (V 0 8))]) rfl (Or.inl rfl) rfl rfl rfl (sp_mrj_f (S := 0) (by decide) hm ho hs2 hz2 ha30) (by first | decide | omega) ?_
    refine mv_goW 3 (pc' := if (sp_rfv so (z : Int) (V 0 8)) = 0 then 16 else 13) (ls' := [mv_R 100, mv_I 0, mv_I a, mv_I b, mv_I (sp_rfv so (z : Int) (V 0 8)), mv_U, mv_U, mv_U]) (st' := []) (M1 := M) rfl ?_
    refine mv_ffW (by omega) ?_
    refine mv_goW 1 (pc' := 15) (ls' := [mv_R 100, mv_I 0, mv_I a, mv_I b, mv_I (sp_rfv so (z : Int) (V 0 8)), mv_U, mv_U, mv_U]) (st' := [mv_I (sp_rfv so (z : Int) (V 0 8))]) (M1 := M) rfl ?_
    exact mv_retW (fun n => rfl) ⟨congrArg mv_I (by first | with_reducible rfl | omega), hI⟩
theorem sp_k22_1 (a b : Int) : sp_call 83 176 [mv_I 1, mv_I a, mv_I b] [mv_I 1, mv_I a, mv_I b] := by
  refine sp_mkW (lc := [mv_R 0, mv_I 1, mv_I a, mv_I b, mv_U, mv_U, mv_U]) (lm := [mv_R 100, mv_I 1, mv_I a, mv_I b, mv_U, mv_U, mv_U, mv_U]) rfl rfl (fun M hI => ?_)
  have hI2 := hI
  obtain ⟨V, P, nt, B, K, t, h⟩ := hI2
  have h' := h
  obtain ⟨⟨hc, hm, ho⟩, ⟨hy, hl, hn1, hn⟩, ⟨hct, hmt, hn7, hn12⟩, _⟩ := h'
  have h8 := sp_ok_s8 ho
  have h9 := sp_ok_s9 ho
  obtain ⟨so, sz, ⟨hs1, hs2, so0, so1⟩, ⟨hz1, hz2, sz0, sz1⟩, hcl⟩ := sp_sh_get h 1 (by decide)
  obtain ⟨z, rfl⟩ : ∃ x : Nat, sz = (x : Int) := ⟨sz.toNat, by omega⟩
  have hnz := sp_rfv_n so z (V 0 8)
  by_cases h0 : 0 ≤ a
  · obtain ⟨u, rfl⟩ : ∃ x : Nat, a = (x : Int) := ⟨a.toNat, by omega⟩
    by_cases h1 : 0 ≤ b ∧ b ≤ 3
    · obtain ⟨k, rfl⟩ : ∃ x : Nat, b = (x : Int) := ⟨b.toNat, by omega⟩
      refine mv_goW 3 (pc' := 3) (ls' := [mv_R 0, mv_I 1, mv_I (u : Int), mv_I (k : Int), mv_U, mv_U, mv_U]) (st' := [mv_I (u : Int), mv_I 1, mv_R 0]) (M1 := M) rfl ?_
      by_cases ha31 : (so ≠ -1 ∧ (z : Int) ≤ V 0 8) ∧ 0 ≤ (u : Int) ∧ (u : Int) < V 0 9
      · refine mv_callPW (st2 := [mv_I 0]) rfl (Or.inl rfl) rfl rfl rfl (sp_crj_1_t hc ho hs1 hz1 ha31) (by first | decide | omega) ?_
        refine mv_goW 3 (pc' := if 0 = 0 then 16 else 13) (ls' := [mv_R 0, mv_I 1, mv_I (u : Int), mv_I (k : Int), mv_I 0, mv_U, mv_U]) (st' := []) (M1 := M) rfl ?_
        refine mv_ttW (by first | decide | omega) ?_
        refine mv_goW 2 (pc' := if (k : Int) < 0 then 25 else 20) (ls' := [mv_R 0, mv_I 1, mv_I (u : Int), mv_I (k : Int), mv_I 0, mv_U, mv_U]) (st' := []) (M1 := M) rfl ?_
        refine mv_ffW (by omega) ?_
        refine mv_goW 3 (pc' := if (k : Int) < 4 then 28 else 25) (ls' := [mv_R 0, mv_I 1, mv_I (u : Int), mv_I (k : Int), mv_I 0, mv_U, mv_U]) (st' := []) (M1 := M) rfl ?_
        refine mv_ttW (by omega) ?_
        refine mv_goW 4 (pc' := 36) (ls' := [mv_R 0, mv_I 1, mv_I (u : Int), mv_I (k : Int), mv_I 0, mv_U, mv_U]) (st' := [mv_R 30, mv_R 50]) (M1 := M) rfl ?_
        refine mv_callW (st2 := []) rfl (Or.inl rfl) rfl rfl rfl (sp_become_50_30 hc (by omega) (by omega)) (by first | decide | omega) (fun Ma32 hm33 => ?_)
        have hb := hm33
        refine mv_goW 4 (pc' := 45) (ls' := [mv_R 0, mv_I 1, mv_I (u : Int), mv_I (k : Int), mv_I 0, mv_I 0, mv_I 0]) (st' := []) (M1 := Ma32) rfl ?_
        have huv : (u : Int) < V 0 9 := by omega
        have hzv : (z : Int) ≤ V 0 8 := by omega
        refine sp_cmk_1 (d := 12) (V := V) (M0 := Ma32) (g := fun j => M 119 (40 * 1 + j)) ho hl hn (sp_cts_ag hct hb.1 hn (fun i h1 h2 => by simp only [List.mem_cons, List.not_mem_nil, or_false]; omega)) huv (by omega) (by rw [hb.1 _ (by decide)]; exact hz1) hzv (fun j hj => by rw [hb.1 _ (by decide)]; exact hcl j (by omega)) (fun M2 hw => ?_) 10 0 Ma32 V (by omega) hb.2 (fun _ => rfl) mv_ag.rf
        have hw2 : mv_ag [36, 37, 50, 51, 52, 53, 54, 55, 56, 57] M M2 := (hb.1.wd (by decide)).tr (hw.wd (by decide))
        have hm := sp_m_ag2 hm hw2 (by decide)
        have hmt := sp_mts_ag hmt hw2 (by decide)
        have hs2 : M2 117 1 = so := by rw [hw2 117 (by decide)]; exact hs2
        have hz2 : M2 118 1 = (z : Int) := by rw [hw2 118 (by decide)]; exact hz2
        refine mv_goW 1 (pc' := 101) (ls' := [mv_R 0, mv_I 1, mv_I (u : Int), mv_I (k : Int), mv_I 0, mv_I (sp_bits (sp_pa V P (fun j => M 119 (40 * 1 + j)) z u 3 (4 * u + k)) 10), mv_I 10]) (st' := [mv_I (sp_bits (sp_pa V P (fun j => M 119 (40 * 1 + j)) z u 3 (4 * u + k)) 10)]) (M1 := M2) rfl ?_
        refine mv_retW (fun n => rfl) ⟨_, rfl, ?_⟩
        refine mv_goW 3 (pc' := 3) (ls' := [mv_R 100, mv_I 1, mv_I (u : Int), mv_I (k : Int), mv_U, mv_U, mv_U, mv_U]) (st' := [mv_I (u : Int), mv_I 1, mv_R 100]) (M1 := M2) rfl ?_
        have ha34 : (so ≠ -1 ∧ (z : Int) ≤ V 0 8) ∧ 0 ≤ (u : Int) ∧ (u : Int) < V 0 9 := by omega
        refine mv_callPW (st2 := [mv_I 0]) rfl (Or.inl rfl) rfl rfl rfl (sp_mrj_t (S := 1) (by decide) hm ho hs2 hz2 ha34) (by first | decide | omega) ?_
        refine mv_goW 3 (pc' := if 0 = 0 then 16 else 13) (ls' := [mv_R 100, mv_I 1, mv_I (u : Int), mv_I (k : Int), mv_I 0, mv_U, mv_U, mv_U]) (st' := []) (M1 := M2) rfl ?_
        refine mv_ttW (by first | decide | omega) ?_
        refine mv_goW 3 (pc' := 19) (ls' := [mv_R 100, mv_I 1, mv_I (u : Int), mv_I (k : Int), mv_I 0, mv_U, mv_U, mv_U]) (st' := [mv_I 3, mv_I 0, mv_I (k : Int)]) (M1 := M2) rfl ?_
        have ha35 : (0 : Int) ≤ (k : Int) ∧ (k : Int) ≤ (3 : Int) := by omega
        refine mv_callPW (st2 := [mv_I 1]) rfl (Or.inr rfl) rfl rfl rfl (sp_min_t ha35) (by first | decide | omega) ?_
        refine mv_goW 1 (pc' := if 1 = 0 then 25 else 28) (ls' := [mv_R 100, mv_I 1, mv_I (u : Int), mv_I (k : Int), mv_I 0, mv_U, mv_U, mv_U]) (st' := []) (M1 := M2) rfl ?_
        refine mv_ffW (by first | decide | omega) ?_
        refine mv_goW 7 (pc' := 37) (ls' := [mv_R 100, mv_I 1, mv_I (u : Int), mv_I (k : Int), mv_I 0, mv_U, mv_U, mv_U]) (st' := [mv_I (mv_w ((mv_w (4 * (u : Int))) + (k : Int))), mv_R 105]) (M1 := M2) rfl ?_
        rw [show mv_w ((mv_w (4 * (u : Int))) + (k : Int)) = ((4 * u + k : Nat) : Int) from by (rw [show mv_w (4 * (u : Int)) = 4 * (u : Int) from mv_w_id (by omega) (by omega), show mv_w ((4 * (u : Int)) + (k : Int)) = (4 * (u : Int)) + (k : Int) from mv_w_id (by omega) (by omega)]) <;> omega]
        refine mv_goW 1 (pc' := if 0 ≤ ((4 * u + k : Nat) : Int) ∧ ((4 * u + k : Nat) : Int) < 24 then 38 else mv_bad) (ls' := [mv_R 100, mv_I 1, mv_I (u : Int), mv_I (k : Int), mv_I 0, mv_U, mv_U, mv_U]) (st' := [mv_I (M2 105 (4 * u + k))]) (M1 := M2) rfl ?_
        refine mv_ttW (by omega) ?_
        have hr3 := sp_ok_3 ho (4 * u + k) (by omega)
        rw [show M2 105 (4 * u + k) = V 3 (4 * u + k) from by exact sp_m_3 hm (4 * u + k) (by omega)]
        refine mv_goW 5 (pc' := 46) (ls' := [mv_R 100, mv_I 1, mv_I (u : Int), mv_I (k : Int), mv_I 0, mv_I (V 3 (4 * u + k)), mv_I 0, mv_I 0]) (st' := []) (M1 := M2) rfl ?_
        refine sp_mmk (d := 12) (V := V) (M0 := M2) (S := 1) (g := fun j => M 119 (40 * 1 + j)) ho hl hn hmt huv (by omega) (by decide) hz2 hzv (fun j hj => by rw [hw2 119 (by decide)]) (fun M3 Vc hm3 hVc3 hy => ?_) 10 0 M2 V (by omega) hm (fun _ => rfl) mv_ag.rf
        refine mv_goW 8 (pc' := 105) (ls' := [mv_R 100, mv_I 1, mv_I (u : Int), mv_I (k : Int), mv_I 0, mv_I (V 3 (4 * u + k)), mv_I (sp_bits (sp_pa V P (fun j => M 119 (40 * 1 + j)) z u 3 (4 * u + k)) 10), mv_I 10]) (st' := [mv_I (V 3 (4 * u + k)), mv_I (mv_w ((mv_w (4 * (u : Int))) + (k : Int))), mv_R 105]) (M1 := M3) rfl ?_
        rw [show mv_w ((mv_w (4 * (u : Int))) + (k : Int)) = ((4 * u + k : Nat) : Int) from by (rw [show mv_w (4 * (u : Int)) = 4 * (u : Int) from mv_w_id (by omega) (by omega), show mv_w ((4 * (u : Int)) + (k : Int)) = (4 * (u : Int)) + (k : Int) from mv_w_id (by omega) (by omega)]) <;> omega]
        refine mv_goW 1 (pc' := if 0 ≤ ((4 * u + k : Nat) : Int) ∧ ((4 * u + k : Nat) : Int) < 24 then 106 else mv_bad) (ls' := [mv_R 100, mv_I 1, mv_I (u : Int), mv_I (k : Int), mv_I 0, mv_I (V 3 (4 * u + k)), mv_I (sp_bits (sp_pa V P (fun j => M 119 (40 * 1 + j)) z u 3 (4 * u + k)) 10), mv_I 10]) (st' := []) (M1 := (mv_st M3 105 (mv_up (M3 105) (4 * u + k) (V 3 (4 * u + k))))) rfl ?_
        refine mv_ttW (by omega) ?_
        refine mv_goW 1 (pc' := 108) (ls' := [mv_R 100, mv_I 1, mv_I (u : Int), mv_I (k : Int), mv_I 0, mv_I (V 3 (4 * u + k)), mv_I (sp_bits (sp_pa V P (fun j => M 119 (40 * 1 + j)) z u 3 (4 * u + k)) 10), mv_I 10]) (st' := [mv_I (sp_bits (sp_pa V P (fun j => M 119 (40 * 1 + j)) z u 3 (4 * u + k)) 10)]) (M1 := (mv_st M3 105 (mv_up (M3 105) (4 * u + k) (V 3 (4 * u + k))))) rfl ?_
        exact mv_retW (fun n => rfl) ⟨congrArg mv_I (by first | with_reducible rfl | omega), sp_bend h hw2 ((hy.wd (by decide)).st (by decide)) (by have e : M3 100 = M2 100 := hy 100 (by decide); exact ⟨congrFun e 9, congrFun e 12, congrFun e 14⟩) (by have q := sp_m_alt3 (i := 4 * u + k) (x := V 3 (4 * u + k)) hm3; rw [hVc3, sp_alt_id] at q; exact q)⟩
      · refine mv_callPW (st2 := [mv_I (sp_rfv so (z : Int) (V 0 8))]) rfl (Or.inl rfl) rfl rfl rfl (sp_crj_1_f hc ho hs1 hz1 ha31) (by first | decide | omega) ?_
        refine mv_goW 3 (pc' := if (sp_rfv so (z : Int) (V 0 8)) = 0 then 16 else 13) (ls' := [mv_R 0, mv_I 1, mv_I (u : Int), mv_I (k : Int), mv_I (sp_rfv so (z : Int) (V 0 8)), mv_U, mv_U]) (st' := []) (M1 := M) rfl ?_
        refine mv_ffW (by omega) ?_
        refine mv_goW 1 (pc' := 15) (ls' := [mv_R 0, mv_I 1, mv_I (u : Int), mv_I (k : Int), mv_I (sp_rfv so (z : Int) (V 0 8)), mv_U, mv_U]) (st' := [mv_I (sp_rfv so (z : Int) (V 0 8))]) (M1 := M) rfl ?_
        refine mv_retW (fun n => rfl) ⟨_, rfl, ?_⟩
        refine mv_goW 3 (pc' := 3) (ls' := [mv_R 100, mv_I 1, mv_I (u : Int), mv_I (k : Int), mv_U, mv_U, mv_U, mv_U]) (st' := [mv_I (u : Int), mv_I 1, mv_R 100]) (M1 := M) rfl ?_
        have ha36 : ¬ ((so ≠ -1 ∧ (z : Int) ≤ V 0 8) ∧ 0 ≤ (u : Int) ∧ (u : Int) < V 0 9) := by omega
        refine mv_callPW (st2 := [mv_I (sp_rfv so (z : Int) (V 0 8))]) rfl (Or.inl rfl) rfl rfl rfl (sp_mrj_f (S := 1) (by decide) hm ho hs2 hz2 ha36) (by first | decide | omega) ?_
        refine mv_goW 3 (pc' := if (sp_rfv so (z : Int) (V 0 8)) = 0 then 16 else 13) (ls' := [mv_R 100, mv_I 1, mv_I (u : Int), mv_I (k : Int), mv_I (sp_rfv so (z : Int) (V 0 8)), mv_U, mv_U, mv_U]) (st' := []) (M1 := M) rfl ?_
        refine mv_ffW (by omega) ?_
        refine mv_goW 1 (pc' := 15) (ls' := [mv_R 100, mv_I 1, mv_I (u : Int), mv_I (k : Int), mv_I (sp_rfv so (z : Int) (V 0 8)), mv_U, mv_U, mv_U]) (st' := [mv_I (sp_rfv so (z : Int) (V 0 8))]) (M1 := M) rfl ?_
        exact mv_retW (fun n => rfl) ⟨congrArg mv_I (by first | with_reducible rfl | omega), hI⟩
    · refine mv_goW 3 (pc' := 3) (ls' := [mv_R 0, mv_I 1, mv_I (u : Int), mv_I b, mv_U, mv_U, mv_U]) (st' := [mv_I (u : Int), mv_I 1, mv_R 0]) (M1 := M) rfl ?_
      by_cases ha37 : (so ≠ -1 ∧ (z : Int) ≤ V 0 8) ∧ 0 ≤ (u : Int) ∧ (u : Int) < V 0 9
      · refine mv_callPW (st2 := [mv_I 0]) rfl (Or.inl rfl) rfl rfl rfl (sp_crj_1_t hc ho hs1 hz1 ha37) (by first | decide | omega) ?_
        refine mv_goW 3 (pc' := if 0 = 0 then 16 else 13) (ls' := [mv_R 0, mv_I 1, mv_I (u : Int), mv_I b, mv_I 0, mv_U, mv_U]) (st' := []) (M1 := M) rfl ?_
        refine mv_ttW (by first | decide | omega) ?_
        refine mv_goW 2 (pc' := if b < 0 then 25 else 20) (ls' := [mv_R 0, mv_I 1, mv_I (u : Int), mv_I b, mv_I 0, mv_U, mv_U]) (st' := []) (M1 := M) rfl ?_
        refine mv_spW (fun ha38 => ?_) (fun ha38 => ?_)
        · refine mv_goW 1 (pc' := 27) (ls' := [mv_R 0, mv_I 1, mv_I (u : Int), mv_I b, mv_I 0, mv_U, mv_U]) (st' := [mv_I (-7)]) (M1 := M) rfl ?_
          refine mv_retW (fun n => rfl) ⟨_, rfl, ?_⟩
          refine mv_goW 3 (pc' := 3) (ls' := [mv_R 100, mv_I 1, mv_I (u : Int), mv_I b, mv_U, mv_U, mv_U, mv_U]) (st' := [mv_I (u : Int), mv_I 1, mv_R 100]) (M1 := M) rfl ?_
          have ha39 : (so ≠ -1 ∧ (z : Int) ≤ V 0 8) ∧ 0 ≤ (u : Int) ∧ (u : Int) < V 0 9 := by omega
          refine mv_callPW (st2 := [mv_I 0]) rfl (Or.inl rfl) rfl rfl rfl (sp_mrj_t (S := 1) (by decide) hm ho hs2 hz2 ha39) (by first | decide | omega) ?_
          refine mv_goW 3 (pc' := if 0 = 0 then 16 else 13) (ls' := [mv_R 100, mv_I 1, mv_I (u : Int), mv_I b, mv_I 0, mv_U, mv_U, mv_U]) (st' := []) (M1 := M) rfl ?_
          refine mv_ttW (by first | decide | omega) ?_
          refine mv_goW 3 (pc' := 19) (ls' := [mv_R 100, mv_I 1, mv_I (u : Int), mv_I b, mv_I 0, mv_U, mv_U, mv_U]) (st' := [mv_I 3, mv_I 0, mv_I b]) (M1 := M) rfl ?_
          have ha40 : ¬ ((0 : Int) ≤ b ∧ b ≤ (3 : Int)) := by omega
          refine mv_callPW (st2 := [mv_I 0]) rfl (Or.inr rfl) rfl rfl rfl (sp_min_f ha40) (by first | decide | omega) ?_
          refine mv_goW 1 (pc' := if 0 = 0 then 25 else 28) (ls' := [mv_R 100, mv_I 1, mv_I (u : Int), mv_I b, mv_I 0, mv_U, mv_U, mv_U]) (st' := []) (M1 := M) rfl ?_
          refine mv_ttW (by first | decide | omega) ?_
          refine mv_goW 1 (pc' := 27) (ls' := [mv_R 100, mv_I 1, mv_I (u : Int), mv_I b, mv_I 0, mv_U, mv_U, mv_U]) (st' := [mv_I (-7)]) (M1 := M) rfl ?_
          exact mv_retW (fun n => rfl) ⟨congrArg mv_I (by first | with_reducible rfl | omega), hI⟩
        · refine mv_goW 3 (pc' := if b < 4 then 28 else 25) (ls' := [mv_R 0, mv_I 1, mv_I (u : Int), mv_I b, mv_I 0, mv_U, mv_U]) (st' := []) (M1 := M) rfl ?_
          refine mv_ffW (by omega) ?_
          refine mv_goW 1 (pc' := 27) (ls' := [mv_R 0, mv_I 1, mv_I (u : Int), mv_I b, mv_I 0, mv_U, mv_U]) (st' := [mv_I (-7)]) (M1 := M) rfl ?_
          refine mv_retW (fun n => rfl) ⟨_, rfl, ?_⟩
          refine mv_goW 3 (pc' := 3) (ls' := [mv_R 100, mv_I 1, mv_I (u : Int), mv_I b, mv_U, mv_U, mv_U, mv_U]) (st' := [mv_I (u : Int), mv_I 1, mv_R 100]) (M1 := M) rfl ?_
          have ha41 : (so ≠ -1 ∧ (z : Int) ≤ V 0 8) ∧ 0 ≤ (u : Int) ∧ (u : Int) < V 0 9 := by omega
          refine mv_callPW (st2 := [mv_I 0]) rfl (Or.inl rfl) rfl rfl rfl (sp_mrj_t (S := 1) (by decide) hm ho hs2 hz2 ha41) (by first | decide | omega) ?_
          refine mv_goW 3 (pc' := if 0 = 0 then 16 else 13) (ls' := [mv_R 100, mv_I 1, mv_I (u : Int), mv_I b, mv_I 0, mv_U, mv_U, mv_U]) (st' := []) (M1 := M) rfl ?_
          refine mv_ttW (by first | decide | omega) ?_
          refine mv_goW 3 (pc' := 19) (ls' := [mv_R 100, mv_I 1, mv_I (u : Int), mv_I b, mv_I 0, mv_U, mv_U, mv_U]) (st' := [mv_I 3, mv_I 0, mv_I b]) (M1 := M) rfl ?_
          have ha42 : ¬ ((0 : Int) ≤ b ∧ b ≤ (3 : Int)) := by omega
          refine mv_callPW (st2 := [mv_I 0]) rfl (Or.inr rfl) rfl rfl rfl (sp_min_f ha42) (by first | decide | omega) ?_
          refine mv_goW 1 (pc' := if 0 = 0 then 25 else 28) (ls' := [mv_R 100, mv_I 1, mv_I (u : Int), mv_I b, mv_I 0, mv_U, mv_U, mv_U]) (st' := []) (M1 := M) rfl ?_
          refine mv_ttW (by first | decide | omega) ?_
          refine mv_goW 1 (pc' := 27) (ls' := [mv_R 100, mv_I 1, mv_I (u : Int), mv_I b, mv_I 0, mv_U, mv_U, mv_U]) (st' := [mv_I (-7)]) (M1 := M) rfl ?_
          exact mv_retW (fun n => rfl) ⟨congrArg mv_I (by first | with_reducible rfl | omega), hI⟩
      · refine mv_callPW (st2 := [mv_I (sp_rfv so (z : Int) (V 0 8))]) rfl (Or.inl rfl) rfl rfl rfl (sp_crj_1_f hc ho hs1 hz1 ha37) (by first | decide | omega) ?_
        refine mv_goW 3 (pc' := if (sp_rfv so (z : Int) (V 0 8)) = 0 then 16 else 13) (ls' := [mv_R 0, mv_I 1, mv_I (u : Int), mv_I b, mv_I (sp_rfv so (z : Int) (V 0 8)), mv_U, mv_U]) (st' := []) (M1 := M) rfl ?_
        refine mv_ffW (by omega) ?_
        refine mv_goW 1 (pc' := 15) (ls' := [mv_R 0, mv_I 1, mv_I (u : Int), mv_I b, mv_I (sp_rfv so (z : Int) (V 0 8)), mv_U, mv_U]) (st' := [mv_I (sp_rfv so (z : Int) (V 0 8))]) (M1 := M) rfl ?_
        refine mv_retW (fun n => rfl) ⟨_, rfl, ?_⟩
        refine mv_goW 3 (pc' := 3) (ls' := [mv_R 100, mv_I 1, mv_I (u : Int), mv_I b, mv_U, mv_U, mv_U, mv_U]) (st' := [mv_I (u : Int), mv_I 1, mv_R 100]) (M1 := M) rfl ?_
        have ha43 : ¬ ((so ≠ -1 ∧ (z : Int) ≤ V 0 8) ∧ 0 ≤ (u : Int) ∧ (u : Int) < V 0 9) := by omega
        refine mv_callPW (st2 := [mv_I (sp_rfv so (z : Int) (V 0 8))]) rfl (Or.inl rfl) rfl rfl rfl (sp_mrj_f (S := 1) (by decide) hm ho hs2 hz2 ha43) (by first | decide | omega) ?_
        refine mv_goW 3 (pc' := if (sp_rfv so (z : Int) (V 0 8)) = 0 then 16 else 13) (ls' := [mv_R 100, mv_I 1, mv_I (u : Int), mv_I b, mv_I (sp_rfv so (z : Int) (V 0 8)), mv_U, mv_U, mv_U]) (st' := []) (M1 := M) rfl ?_
        refine mv_ffW (by omega) ?_
        refine mv_goW 1 (pc' := 15) (ls' := [mv_R 100, mv_I 1, mv_I (u : Int), mv_I b, mv_I (sp_rfv so (z : Int) (V 0 8)), mv_U, mv_U, mv_U]) (st' := [mv_I (sp_rfv so (z : Int) (V 0 8))]) (M1 := M) rfl ?_
        exact mv_retW (fun n => rfl) ⟨congrArg mv_I (by first | with_reducible rfl | omega), hI⟩
  · refine mv_goW 3 (pc' := 3) (ls' := [mv_R 0, mv_I 1, mv_I a, mv_I b, mv_U, mv_U, mv_U]) (st' := [mv_I a, mv_I 1, mv_R 0]) (M1 := M) rfl ?_
    have ha44 : ¬ ((so ≠ -1 ∧ (z : Int) ≤ V 0 8) ∧ 0 ≤ a ∧ a < V 0 9) := by omega
    refine mv_callPW (st2 := [mv_I (sp_rfv so (z : Int) (V 0 8))]) rfl (Or.inl rfl) rfl rfl rfl (sp_crj_1_f hc ho hs1 hz1 ha44) (by first | decide | omega) ?_
    refine mv_goW 3 (pc' := if (sp_rfv so (z : Int) (V 0 8)) = 0 then 16 else 13) (ls' := [mv_R 0, mv_I 1, mv_I a, mv_I b, mv_I (sp_rfv so (z : Int) (V 0 8)), mv_U, mv_U]) (st' := []) (M1 := M) rfl ?_
    refine mv_ffW (by omega) ?_
    refine mv_goW 1 (pc' := 15) (ls' := [mv_R 0, mv_I 1, mv_I a, mv_I b, mv_I (sp_rfv so (z : Int) (V 0 8)), mv_U, mv_U]) (st' := [mv_I (sp_rfv so (z : Int) (V 0 8))]) (M1 := M) rfl ?_
    refine mv_retW (fun n => rfl) ⟨_, rfl, ?_⟩
    refine mv_goW 3 (pc' := 3) (ls' := [mv_R 100, mv_I 1, mv_I a, mv_I b, mv_U, mv_U, mv_U, mv_U]) (st' := [mv_I a, mv_I 1, mv_R 100]) (M1 := M) rfl ?_
    have ha45 : ¬ ((so ≠ -1 ∧ (z : Int) ≤ V 0 8) ∧ 0 ≤ a ∧ a < V 0 9) := by omega
    refine mv_callPW (st2 := [mv_I (sp_rfv so (z : Int) (V 0 8))]) rfl (Or.inl rfl) rfl rfl rfl (sp_mrj_f (S := 1) (by decide) hm ho hs2 hz2 ha45) (by first | decide | omega) ?_
    refine mv_goW 3 (pc' := if (sp_rfv so (z : Int) (V 0 8)) = 0 then 16 else 13) (ls' := [mv_R 100, mv_I 1, mv_I a, mv_I b, mv_I (sp_rfv so (z : Int) (V 0 8)), mv_U, mv_U, mv_U]) (st' := []) (M1 := M) rfl ?_
    refine mv_ffW (by omega) ?_
    refine mv_goW 1 (pc' := 15) (ls' := [mv_R 100, mv_I 1, mv_I a, mv_I b, mv_I (sp_rfv so (z : Int) (V 0 8)), mv_U, mv_U, mv_U]) (st' := [mv_I (sp_rfv so (z : Int) (V 0 8))]) (M1 := M) rfl ?_
    exact mv_retW (fun n => rfl) ⟨congrArg mv_I (by first | with_reducible rfl | omega), hI⟩
theorem sp_k22_2 (a b : Int) : sp_call 83 176 [mv_I 2, mv_I a, mv_I b] [mv_I 2, mv_I a, mv_I b] := by
  refine sp_mkW (lc := [mv_R 0, mv_I 2, mv_I a, mv_I b, mv_U, mv_U, mv_U]) (lm := [mv_R 100, mv_I 2, mv_I a, mv_I b, mv_U, mv_U, mv_U, mv_U]) rfl rfl (fun M hI => ?_)
  have hI2 := hI
  obtain ⟨V, P, nt, B, K, t, h⟩ := hI2
  have h' := h
  obtain ⟨⟨hc, hm, ho⟩, ⟨hy, hl, hn1, hn⟩, ⟨hct, hmt, hn7, hn12⟩, _⟩ := h'
  have h8 := sp_ok_s8 ho
  have h9 := sp_ok_s9 ho
  obtain ⟨so, sz, ⟨hs1, hs2, so0, so1⟩, ⟨hz1, hz2, sz0, sz1⟩, hcl⟩ := sp_sh_get h 2 (by decide)
  obtain ⟨z, rfl⟩ : ∃ x : Nat, sz = (x : Int) := ⟨sz.toNat, by omega⟩
  have hnz := sp_rfv_n so z (V 0 8)
  by_cases h0 : 0 ≤ a
  · obtain ⟨u, rfl⟩ : ∃ x : Nat, a = (x : Int) := ⟨a.toNat, by omega⟩
    by_cases h1 : 0 ≤ b ∧ b ≤ 3
    · obtain ⟨k, rfl⟩ : ∃ x : Nat, b = (x : Int) := ⟨b.toNat, by omega⟩
      refine mv_goW 3 (pc' := 3) (ls' := [mv_R 0, mv_I 2, mv_I (u : Int), mv_I (k : Int), mv_U, mv_U, mv_U]) (st' := [mv_I (u : Int), mv_I 2, mv_R 0]) (M1 := M) rfl ?_
      by_cases ha46 : (so ≠ -1 ∧ (z : Int) ≤ V 0 8) ∧ 0 ≤ (u : Int) ∧ (u : Int) < V 0 9
      · refine mv_callPW (st2 := [mv_I 0]) rfl (Or.inl rfl) rfl rfl rfl (sp_crj_2_t hc ho hs1 hz1 ha46) (by first | decide | omega) ?_
        refine mv_goW 3 (pc' := if 0 = 0 then 16 else 13) (ls' := [mv_R 0, mv_I 2, mv_I (u : Int), mv_I (k : Int), mv_I 0, mv_U, mv_U]) (st' := []) (M1 := M) rfl ?_
        refine mv_ttW (by first | decide | omega) ?_
        refine mv_goW 2 (pc' := if (k : Int) < 0 then 25 else 20) (ls' := [mv_R 0, mv_I 2, mv_I (u : Int), mv_I (k : Int), mv_I 0, mv_U, mv_U]) (st' := []) (M1 := M) rfl ?_
        refine mv_ffW (by omega) ?_
        refine mv_goW 3 (pc' := if (k : Int) < 4 then 28 else 25) (ls' := [mv_R 0, mv_I 2, mv_I (u : Int), mv_I (k : Int), mv_I 0, mv_U, mv_U]) (st' := []) (M1 := M) rfl ?_
        refine mv_ttW (by omega) ?_
        refine mv_goW 4 (pc' := 36) (ls' := [mv_R 0, mv_I 2, mv_I (u : Int), mv_I (k : Int), mv_I 0, mv_U, mv_U]) (st' := [mv_R 30, mv_R 50]) (M1 := M) rfl ?_
        refine mv_callW (st2 := []) rfl (Or.inl rfl) rfl rfl rfl (sp_become_50_30 hc (by omega) (by omega)) (by first | decide | omega) (fun Ma47 hm48 => ?_)
        have hb := hm48
        refine mv_goW 4 (pc' := 45) (ls' := [mv_R 0, mv_I 2, mv_I (u : Int), mv_I (k : Int), mv_I 0, mv_I 0, mv_I 0]) (st' := []) (M1 := Ma47) rfl ?_
        have huv : (u : Int) < V 0 9 := by omega
        have hzv : (z : Int) ≤ V 0 8 := by omega
        refine sp_cmk_2 (d := 12) (V := V) (M0 := Ma47) (g := fun j => M 119 (40 * 2 + j)) ho hl hn (sp_cts_ag hct hb.1 hn (fun i h1 h2 => by simp only [List.mem_cons, List.not_mem_nil, or_false]; omega)) huv (by omega) (by rw [hb.1 _ (by decide)]; exact hz1) hzv (fun j hj => by rw [hb.1 _ (by decide)]; exact hcl j (by omega)) (fun M2 hw => ?_) 10 0 Ma47 V (by omega) hb.2 (fun _ => rfl) mv_ag.rf
        have hw2 : mv_ag [36, 37, 50, 51, 52, 53, 54, 55, 56, 57] M M2 := (hb.1.wd (by decide)).tr (hw.wd (by decide))
        have hm := sp_m_ag2 hm hw2 (by decide)
        have hmt := sp_mts_ag hmt hw2 (by decide)
        have hs2 : M2 117 2 = so := by rw [hw2 117 (by decide)]; exact hs2
        have hz2 : M2 118 2 = (z : Int) := by rw [hw2 118 (by decide)]; exact hz2
        refine mv_goW 1 (pc' := 101) (ls' := [mv_R 0, mv_I 2, mv_I (u : Int), mv_I (k : Int), mv_I 0, mv_I (sp_bits (sp_pa V P (fun j => M 119 (40 * 2 + j)) z u 3 (4 * u + k)) 10), mv_I 10]) (st' := [mv_I (sp_bits (sp_pa V P (fun j => M 119 (40 * 2 + j)) z u 3 (4 * u + k)) 10)]) (M1 := M2) rfl ?_
        refine mv_retW (fun n => rfl) ⟨_, rfl, ?_⟩
        refine mv_goW 3 (pc' := 3) (ls' := [mv_R 100, mv_I 2, mv_I (u : Int), mv_I (k : Int), mv_U, mv_U, mv_U, mv_U]) (st' := [mv_I (u : Int), mv_I 2, mv_R 100]) (M1 := M2) rfl ?_
        have ha49 : (so ≠ -1 ∧ (z : Int) ≤ V 0 8) ∧ 0 ≤ (u : Int) ∧ (u : Int) < V 0 9 := by omega
        refine mv_callPW (st2 := [mv_I 0]) rfl (Or.inl rfl) rfl rfl rfl (sp_mrj_t (S := 2) (by decide) hm ho hs2 hz2 ha49) (by first | decide | omega) ?_
        refine mv_goW 3 (pc' := if 0 = 0 then 16 else 13) (ls' := [mv_R 100, mv_I 2, mv_I (u : Int), mv_I (k : Int), mv_I 0, mv_U, mv_U, mv_U]) (st' := []) (M1 := M2) rfl ?_
        refine mv_ttW (by first | decide | omega) ?_
        refine mv_goW 3 (pc' := 19) (ls' := [mv_R 100, mv_I 2, mv_I (u : Int), mv_I (k : Int), mv_I 0, mv_U, mv_U, mv_U]) (st' := [mv_I 3, mv_I 0, mv_I (k : Int)]) (M1 := M2) rfl ?_
        have ha50 : (0 : Int) ≤ (k : Int) ∧ (k : Int) ≤ (3 : Int) := by omega
        refine mv_callPW (st2 := [mv_I 1]) rfl (Or.inr rfl) rfl rfl rfl (sp_min_t ha50) (by first | decide | omega) ?_
        refine mv_goW 1 (pc' := if 1 = 0 then 25 else 28) (ls' := [mv_R 100, mv_I 2, mv_I (u : Int), mv_I (k : Int), mv_I 0, mv_U, mv_U, mv_U]) (st' := []) (M1 := M2) rfl ?_
        refine mv_ffW (by first | decide | omega) ?_
        refine mv_goW 7 (pc' := 37) (ls' := [mv_R 100, mv_I 2, mv_I (u : Int), mv_I (k : Int), mv_I 0, mv_U, mv_U, mv_U]) (st' := [mv_I (mv_w ((mv_w (4 * (u : Int))) + (k : Int))), mv_R 105]) (M1 := M2) rfl ?_
        rw [show mv_w ((mv_w (4 * (u : Int))) + (k : Int)) = ((4 * u + k : Nat) : Int) from by (rw [show mv_w (4 * (u : Int)) = 4 * (u : Int) from mv_w_id (by omega) (by omega), show mv_w ((4 * (u : Int)) + (k : Int)) = (4 * (u : Int)) + (k : Int) from mv_w_id (by omega) (by omega)]) <;> omega]
        refine mv_goW 1 (pc' := if 0 ≤ ((4 * u + k : Nat) : Int) ∧ ((4 * u + k : Nat) : Int) < 24 then 38 else mv_bad) (ls' := [mv_R 100, mv_I 2, mv_I (u : Int), mv_I (k : Int), mv_I 0, mv_U, mv_U, mv_U]) (st' := [mv_I (M2 105 (4 * u + k))]) (M1 := M2) rfl ?_
        refine mv_ttW (by omega) ?_
        have hr5 := sp_ok_3 ho (4 * u + k) (by omega)
        rw [show M2 105 (4 * u + k) = V 3 (4 * u + k) from by exact sp_m_3 hm (4 * u + k) (by omega)]
        refine mv_goW 5 (pc' := 46) (ls' := [mv_R 100, mv_I 2, mv_I (u : Int), mv_I (k : Int), mv_I 0, mv_I (V 3 (4 * u + k)), mv_I 0, mv_I 0]) (st' := []) (M1 := M2) rfl ?_
        refine sp_mmk (d := 12) (V := V) (M0 := M2) (S := 2) (g := fun j => M 119 (40 * 2 + j)) ho hl hn hmt huv (by omega) (by decide) hz2 hzv (fun j hj => by rw [hw2 119 (by decide)]) (fun M3 Vc hm3 hVc3 hy => ?_) 10 0 M2 V (by omega) hm (fun _ => rfl) mv_ag.rf
        refine mv_goW 8 (pc' := 105) (ls' := [mv_R 100, mv_I 2, mv_I (u : Int), mv_I (k : Int), mv_I 0, mv_I (V 3 (4 * u + k)), mv_I (sp_bits (sp_pa V P (fun j => M 119 (40 * 2 + j)) z u 3 (4 * u + k)) 10), mv_I 10]) (st' := [mv_I (V 3 (4 * u + k)), mv_I (mv_w ((mv_w (4 * (u : Int))) + (k : Int))), mv_R 105]) (M1 := M3) rfl ?_
        rw [show mv_w ((mv_w (4 * (u : Int))) + (k : Int)) = ((4 * u + k : Nat) : Int) from by (rw [show mv_w (4 * (u : Int)) = 4 * (u : Int) from mv_w_id (by omega) (by omega), show mv_w ((4 * (u : Int)) + (k : Int)) = (4 * (u : Int)) + (k : Int) from mv_w_id (by omega) (by omega)]) <;> omega]
        refine mv_goW 1 (pc' := if 0 ≤ ((4 * u + k : Nat) : Int) ∧ ((4 * u + k : Nat) : Int) < 24 then 106 else mv_bad) (ls' := [mv_R 100, mv_I 2, mv_I (u : Int), mv_I (k : Int), mv_I 0, mv_I (V 3 (4 * u + k)), mv_I (sp_bits (sp_pa V P (fun j => M 119 (40 * 2 + j)) z u 3 (4 * u + k)) 10), mv_I 10]) (st' := []) (M1 := (mv_st M3 105 (mv_up (M3 105) (4 * u + k) (V 3 (4 * u + k))))) rfl ?_
        refine mv_ttW (by omega) ?_
        refine mv_goW 1 (pc' := 108) (ls' := [mv_R 100, mv_I 2, mv_I (u : Int), mv_I (k : Int), mv_I 0, mv_I (V 3 (4 * u + k)), mv_I (sp_bits (sp_pa V P (fun j => M 119 (40 * 2 + j)) z u 3 (4 * u + k)) 10), mv_I 10]) (st' := [mv_I (sp_bits (sp_pa V P (fun j => M 119 (40 * 2 + j)) z u 3 (4 * u + k)) 10)]) (M1 := (mv_st M3 105 (mv_up (M3 105) (4 * u + k) (V 3 (4 * u + k))))) rfl ?_
        exact mv_retW (fun n => rfl) ⟨congrArg mv_I (by first | with_reducible rfl | omega), sp_bend h hw2 ((hy.wd (by decide)).st (by decide)) (by have e : M3 100 = M2 100 := hy 100 (by decide); exact ⟨congrFun e 9, congrFun e 12, congrFun e 14⟩) (by have q := sp_m_alt3 (i := 4 * u + k) (x := V 3 (4 * u + k)) hm3; rw [hVc3, sp_alt_id] at q; exact q)⟩
      · refine mv_callPW (st2 := [mv_I (sp_rfv so (z : Int) (V 0 8))]) rfl (Or.inl rfl) rfl rfl rfl (sp_crj_2_f hc ho hs1 hz1 ha46) (by first | decide | omega) ?_
        refine mv_goW 3 (pc' := if (sp_rfv so (z : Int) (V 0 8)) = 0 then 16 else 13) (ls' := [mv_R 0, mv_I 2, mv_I (u : Int), mv_I (k : Int), mv_I (sp_rfv so (z : Int) (V 0 8)), mv_U, mv_U]) (st' := []) (M1 := M) rfl ?_
        refine mv_ffW (by omega) ?_
        refine mv_goW 1 (pc' := 15) (ls' := [mv_R 0, mv_I 2, mv_I (u : Int), mv_I (k : Int), mv_I (sp_rfv so (z : Int) (V 0 8)), mv_U, mv_U]) (st' := [mv_I (sp_rfv so (z : Int) (V 0 8))]) (M1 := M) rfl ?_
        refine mv_retW (fun n => rfl) ⟨_, rfl, ?_⟩
        refine mv_goW 3 (pc' := 3) (ls' := [mv_R 100, mv_I 2, mv_I (u : Int), mv_I (k : Int), mv_U, mv_U, mv_U, mv_U]) (st' := [mv_I (u : Int), mv_I 2, mv_R 100]) (M1 := M) rfl ?_
        have ha51 : ¬ ((so ≠ -1 ∧ (z : Int) ≤ V 0 8) ∧ 0 ≤ (u : Int) ∧ (u : Int) < V 0 9) := by omega
        refine mv_callPW (st2 := [mv_I (sp_rfv so (z : Int) (V 0 8))]) rfl (Or.inl rfl) rfl rfl rfl (sp_mrj_f (S := 2) (by decide) hm ho hs2 hz2 ha51) (by first | decide | omega) ?_
        refine mv_goW 3 (pc' := if (sp_rfv so (z : Int) (V 0 8)) = 0 then 16 else 13) (ls' := [mv_R 100, mv_I 2, mv_I (u : Int), mv_I (k : Int), mv_I (sp_rfv so (z : Int) (V 0 8)), mv_U, mv_U, mv_U]) (st' := []) (M1 := M) rfl ?_
        refine mv_ffW (by omega) ?_
        refine mv_goW 1 (pc' := 15) (ls' := [mv_R 100, mv_I 2, mv_I (u : Int), mv_I (k : Int), mv_I (sp_rfv so (z : Int) (V 0 8)), mv_U, mv_U, mv_U]) (st' := [mv_I (sp_rfv so (z : Int) (V 0 8))]) (M1 := M) rfl ?_
        exact mv_retW (fun n => rfl) ⟨congrArg mv_I (by first | with_reducible rfl | omega), hI⟩
    · refine mv_goW 3 (pc' := 3) (ls' := [mv_R 0, mv_I 2, mv_I (u : Int), mv_I b, mv_U, mv_U, mv_U]) (st' := [mv_I (u : Int), mv_I 2, mv_R 0]) (M1 := M) rfl ?_
      by_cases ha52 : (so ≠ -1 ∧ (z : Int) ≤ V 0 8) ∧ 0 ≤ (u : Int) ∧ (u : Int) < V 0 9
      · refine mv_callPW (st2 := [mv_I 0]) rfl (Or.inl rfl) rfl rfl rfl (sp_crj_2_t hc ho hs1 hz1 ha52) (by first | decide | omega) ?_
        refine mv_goW 3 (pc' := if 0 = 0 then 16 else 13) (ls' := [mv_R 0, mv_I 2, mv_I (u : Int), mv_I b, mv_I 0, mv_U, mv_U]) (st' := []) (M1 := M) rfl ?_
        refine mv_ttW (by first | decide | omega) ?_
        refine mv_goW 2 (pc' := if b < 0 then 25 else 20) (ls' := [mv_R 0, mv_I 2, mv_I (u : Int), mv_I b, mv_I 0, mv_U, mv_U]) (st' := []) (M1 := M) rfl ?_
        refine mv_spW (fun ha53 => ?_) (fun ha53 => ?_)
        · refine mv_goW 1 (pc' := 27) (ls' := [mv_R 0, mv_I 2, mv_I (u : Int), mv_I b, mv_I 0, mv_U, mv_U]) (st' := [mv_I (-7)]) (M1 := M) rfl ?_
          refine mv_retW (fun n => rfl) ⟨_, rfl, ?_⟩
          refine mv_goW 3 (pc' := 3) (ls' := [mv_R 100, mv_I 2, mv_I (u : Int), mv_I b, mv_U, mv_U, mv_U, mv_U]) (st' := [mv_I (u : Int), mv_I 2, mv_R 100]) (M1 := M) rfl ?_
          have ha54 : (so ≠ -1 ∧ (z : Int) ≤ V 0 8) ∧ 0 ≤ (u : Int) ∧ (u : Int) < V 0 9 := by omega
          refine mv_callPW (st2 := [mv_I 0]) rfl (Or.inl rfl) rfl rfl rfl (sp_mrj_t (S := 2) (by decide) hm ho hs2 hz2 ha54) (by first | decide | omega) ?_
          refine mv_goW 3 (pc' := if 0 = 0 then 16 else 13) (ls' := [mv_R 100, mv_I 2, mv_I (u : Int), mv_I b, mv_I 0, mv_U, mv_U, mv_U]) (st' := []) (M1 := M) rfl ?_
          refine mv_ttW (by first | decide | omega) ?_
          refine mv_goW 3 (pc' := 19) (ls' := [mv_R 100, mv_I 2, mv_I (u : Int), mv_I b, mv_I 0, mv_U, mv_U, mv_U]) (st' := [mv_I 3, mv_I 0, mv_I b]) (M1 := M) rfl ?_
          have ha55 : ¬ ((0 : Int) ≤ b ∧ b ≤ (3 : Int)) := by omega
          refine mv_callPW (st2 := [mv_I 0]) rfl (Or.inr rfl) rfl rfl rfl (sp_min_f ha55) (by first | decide | omega) ?_
          refine mv_goW 1 (pc' := if 0 = 0 then 25 else 28) (ls' := [mv_R 100, mv_I 2, mv_I (u : Int), mv_I b, mv_I 0, mv_U, mv_U, mv_U]) (st' := []) (M1 := M) rfl ?_
          refine mv_ttW (by first | decide | omega) ?_
          refine mv_goW 1 (pc' := 27) (ls' := [mv_R 100, mv_I 2, mv_I (u : Int), mv_I b, mv_I 0, mv_U, mv_U, mv_U]) (st' := [mv_I (-7)]) (M1 := M) rfl ?_
          exact mv_retW (fun n => rfl) ⟨congrArg mv_I (by first | with_reducible rfl | omega), hI⟩
        · refine mv_goW 3 (pc' := if b < 4 then 28 else 25) (ls' := [mv_R 0, mv_I 2, mv_I (u : Int), mv_I b, mv_I 0, mv_U, mv_U]) (st' := []) (M1 := M) rfl ?_
          refine mv_ffW (by omega) ?_
          refine mv_goW 1 (pc' := 27) (ls' := [mv_R 0, mv_I 2, mv_I (u : Int), mv_I b, mv_I 0, mv_U, mv_U]) (st' := [mv_I (-7)]) (M1 := M) rfl ?_
          refine mv_retW (fun n => rfl) ⟨_, rfl, ?_⟩
          refine mv_goW 3 (pc' := 3) (ls' := [mv_R 100, mv_I 2, mv_I (u : Int), mv_I b, mv_U, mv_U, mv_U, mv_U]) (st' := [mv_I (u : Int), mv_I 2, mv_R 100]) (M1 := M) rfl ?_
          have ha56 : (so ≠ -1 ∧ (z : Int) ≤ V 0 8) ∧ 0 ≤ (u : Int) ∧ (u : Int) < V 0 9 := by omega
          refine mv_callPW (st2 := [mv_I 0]) rfl (Or.inl rfl) rfl rfl rfl (sp_mrj_t (S := 2) (by decide) hm ho hs2 hz2 ha56) (by first | decide | omega) ?_
          refine mv_goW 3 (pc' := if 0 = 0 then 16 else 13) (ls' := [mv_R 100, mv_I 2, mv_I (u : Int), mv_I b, mv_I 0, mv_U, mv_U, mv_U]) (st' := []) (M1 := M) rfl ?_
          refine mv_ttW (by first | decide | omega) ?_
          refine mv_goW 3 (pc' := 19) (ls' := [mv_R 100, mv_I 2, mv_I (u : Int), mv_I b, mv_I 0, mv_U, mv_U, mv_U]) (st' := [mv_I 3, mv_I 0, mv_I b]) (M1 := M) rfl ?_
          have ha57 : ¬ ((0 : Int) ≤ b ∧ b ≤ (3 : Int)) := by omega
          refine mv_callPW (st2 := [mv_I 0]) rfl (Or.inr rfl) rfl rfl rfl (sp_min_f ha57) (by first | decide | omega) ?_
          refine mv_goW 1 (pc' := if 0 = 0 then 25 else 28) (ls' := [mv_R 100, mv_I 2, mv_I (u : Int), mv_I b, mv_I 0, mv_U, mv_U, mv_U]) (st' := []) (M1 := M) rfl ?_
          refine mv_ttW (by first | decide | omega) ?_
          refine mv_goW 1 (pc' := 27) (ls' := [mv_R 100, mv_I 2, mv_I (u : Int), mv_I b, mv_I 0, mv_U, mv_U, mv_U]) (st' := [mv_I (-7)]) (M1 := M) rfl ?_
          exact mv_retW (fun n => rfl) ⟨congrArg mv_I (by first | with_reducible rfl | omega), hI⟩
      · refine mv_callPW (st2 := [mv_I (sp_rfv so (z : Int) (V 0 8))]) rfl (Or.inl rfl) rfl rfl rfl (sp_crj_2_f hc ho hs1 hz1 ha52) (by first | decide | omega) ?_
        refine mv_goW 3 (pc' := if (sp_rfv so (z : Int) (V 0 8)) = 0 then 16 else 13) (ls' := [mv_R 0, mv_I 2, mv_I (u : Int), mv_I b, mv_I (sp_rfv so (z : Int) (V 0 8)), mv_U, mv_U]) (st' := []) (M1 := M) rfl ?_
        refine mv_ffW (by omega) ?_
        refine mv_goW 1 (pc' := 15) (ls' := [mv_R 0, mv_I 2, mv_I (u : Int), mv_I b, mv_I (sp_rfv so (z : Int) (V 0 8)), mv_U, mv_U]) (st' := [mv_I (sp_rfv so (z : Int) (V 0 8))]) (M1 := M) rfl ?_
        refine mv_retW (fun n => rfl) ⟨_, rfl, ?_⟩
        refine mv_goW 3 (pc' := 3) (ls' := [mv_R 100, mv_I 2, mv_I (u : Int), mv_I b, mv_U, mv_U, mv_U, mv_U]) (st' := [mv_I (u : Int), mv_I 2, mv_R 100]) (M1 := M) rfl ?_
        have ha58 : ¬ ((so ≠ -1 ∧ (z : Int) ≤ V 0 8) ∧ 0 ≤ (u : Int) ∧ (u : Int) < V 0 9) := by omega
        refine mv_callPW (st2 := [mv_I (sp_rfv so (z : Int) (V 0 8))]) rfl (Or.inl rfl) rfl rfl rfl (sp_mrj_f (S := 2) (by decide) hm ho hs2 hz2 ha58) (by first | decide | omega) ?_
        refine mv_goW 3 (pc' := if (sp_rfv so (z : Int) (V 0 8)) = 0 then 16 else 13) (ls' := [mv_R 100, mv_I 2, mv_I (u : Int), mv_I b, mv_I (sp_rfv so (z : Int) (V 0 8)), mv_U, mv_U, mv_U]) (st' := []) (M1 := M) rfl ?_
        refine mv_ffW (by omega) ?_
        refine mv_goW 1 (pc' := 15) (ls' := [mv_R 100, mv_I 2, mv_I (u : Int), mv_I b, mv_I (sp_rfv so (z : Int) (V 0 8)), mv_U, mv_U, mv_U]) (st' := [mv_I (sp_rfv so (z : Int) (V 0 8))]) (M1 := M) rfl ?_
        exact mv_retW (fun n => rfl) ⟨congrArg mv_I (by first | with_reducible rfl | omega), hI⟩
  · refine mv_goW 3 (pc' := 3) (ls' := [mv_R 0, mv_I 2, mv_I a, mv_I b, mv_U, mv_U, mv_U]) (st' := [mv_I a, mv_I 2, mv_R 0]) (M1 := M) rfl ?_
    have ha59 : ¬ ((so ≠ -1 ∧ (z : Int) ≤ V 0 8) ∧ 0 ≤ a ∧ a < V 0 9) := by omega
    refine mv_callPW (st2 := [mv_I (sp_rfv so (z : Int) (V 0 8))]) rfl (Or.inl rfl) rfl rfl rfl (sp_crj_2_f hc ho hs1 hz1 ha59) (by first | decide | omega) ?_
    refine mv_goW 3 (pc' := if (sp_rfv so (z : Int) (V 0 8)) = 0 then 16 else 13) (ls' := [mv_R 0, mv_I 2, mv_I a, mv_I b, mv_I (sp_rfv so (z : Int) (V 0 8)), mv_U, mv_U]) (st' := []) (M1 := M) rfl ?_
    refine mv_ffW (by omega) ?_
    refine mv_goW 1 (pc' := 15) (ls' := [mv_R 0, mv_I 2, mv_I a, mv_I b, mv_I (sp_rfv so (z : Int) (V 0 8)), mv_U, mv_U]) (st' := [mv_I (sp_rfv so (z : Int) (V 0 8))]) (M1 := M) rfl ?_
    refine mv_retW (fun n => rfl) ⟨_, rfl, ?_⟩
    refine mv_goW 3 (pc' := 3) (ls' := [mv_R 100, mv_I 2, mv_I a, mv_I b, mv_U, mv_U, mv_U, mv_U]) (st' := [mv_I a, mv_I 2, mv_R 100]) (M1 := M) rfl ?_
    have ha60 : ¬ ((so ≠ -1 ∧ (z : Int) ≤ V 0 8) ∧ 0 ≤ a ∧ a < V 0 9) := by omega
    refine mv_callPW (st2 := [mv_I (sp_rfv so (z : Int) (V 0 8))]) rfl (Or.inl rfl) rfl rfl rfl (sp_mrj_f (S := 2) (by decide) hm ho hs2 hz2 ha60) (by first | decide | omega) ?_
    refine mv_goW 3 (pc' := if (sp_rfv so (z : Int) (V 0 8)) = 0 then 16 else 13) (ls' := [mv_R 100, mv_I 2, mv_I a, mv_I b, mv_I (sp_rfv so (z : Int) (V 0 8)), mv_U, mv_U, mv_U]) (st' := []) (M1 := M) rfl ?_
    refine mv_ffW (by omega) ?_
    refine mv_goW 1 (pc' := 15) (ls' := [mv_R 100, mv_I 2, mv_I a, mv_I b, mv_I (sp_rfv so (z : Int) (V 0 8)), mv_U, mv_U, mv_U]) (st' := [mv_I (sp_rfv so (z : Int) (V 0 8))]) (M1 := M) rfl ?_
    exact mv_retW (fun n => rfl) ⟨congrArg mv_I (by first | with_reducible rfl | omega), hI⟩
theorem sp_k22_3 (a b : Int) : sp_call 83 176 [mv_I 3, mv_I a, mv_I b] [mv_I 3, mv_I a, mv_I b] := by
  refine sp_mkW (lc := [mv_R 0, mv_I 3, mv_I a, mv_I b, mv_U, mv_U, mv_U]) (lm := [mv_R 100, mv_I 3, mv_I a, mv_I b, mv_U, mv_U, mv_U, mv_U]) rfl rfl (fun M hI => ?_)
  have hI2 := hI
  obtain ⟨V, P, nt, B, K, t, h⟩ := hI2
  have h' := h
  obtain ⟨⟨hc, hm, ho⟩, ⟨hy, hl, hn1, hn⟩, ⟨hct, hmt, hn7, hn12⟩, _⟩ := h'
  have h8 := sp_ok_s8 ho
  have h9 := sp_ok_s9 ho
  obtain ⟨so, sz, ⟨hs1, hs2, so0, so1⟩, ⟨hz1, hz2, sz0, sz1⟩, hcl⟩ := sp_sh_get h 3 (by decide)
  obtain ⟨z, rfl⟩ : ∃ x : Nat, sz = (x : Int) := ⟨sz.toNat, by omega⟩
  have hnz := sp_rfv_n so z (V 0 8)
  by_cases h0 : 0 ≤ a
  · obtain ⟨u, rfl⟩ : ∃ x : Nat, a = (x : Int) := ⟨a.toNat, by omega⟩
    by_cases h1 : 0 ≤ b ∧ b ≤ 3
    · obtain ⟨k, rfl⟩ : ∃ x : Nat, b = (x : Int) := ⟨b.toNat, by omega⟩
      refine mv_goW 3 (pc' := 3) (ls' := [mv_R 0, mv_I 3, mv_I (u : Int), mv_I (k : Int), mv_U, mv_U, mv_U]) (st' := [mv_I (u : Int), mv_I 3, mv_R 0]) (M1 := M) rfl ?_
      by_cases ha61 : (so ≠ -1 ∧ (z : Int) ≤ V 0 8) ∧ 0 ≤ (u : Int) ∧ (u : Int) < V 0 9
      · refine mv_callPW (st2 := [mv_I 0]) rfl (Or.inl rfl) rfl rfl rfl (sp_crj_3_t hc ho hs1 hz1 ha61) (by first | decide | omega) ?_
        refine mv_goW 3 (pc' := if 0 = 0 then 16 else 13) (ls' := [mv_R 0, mv_I 3, mv_I (u : Int), mv_I (k : Int), mv_I 0, mv_U, mv_U]) (st' := []) (M1 := M) rfl ?_
        refine mv_ttW (by first | decide | omega) ?_
        refine mv_goW 2 (pc' := if (k : Int) < 0 then 25 else 20) (ls' := [mv_R 0, mv_I 3, mv_I (u : Int), mv_I (k : Int), mv_I 0, mv_U, mv_U]) (st' := []) (M1 := M) rfl ?_
        refine mv_ffW (by omega) ?_
        refine mv_goW 3 (pc' := if (k : Int) < 4 then 28 else 25) (ls' := [mv_R 0, mv_I 3, mv_I (u : Int), mv_I (k : Int), mv_I 0, mv_U, mv_U]) (st' := []) (M1 := M) rfl ?_
        refine mv_ttW (by omega) ?_
        refine mv_goW 4 (pc' := 36) (ls' := [mv_R 0, mv_I 3, mv_I (u : Int), mv_I (k : Int), mv_I 0, mv_U, mv_U]) (st' := [mv_R 30, mv_R 50]) (M1 := M) rfl ?_
        refine mv_callW (st2 := []) rfl (Or.inl rfl) rfl rfl rfl (sp_become_50_30 hc (by omega) (by omega)) (by first | decide | omega) (fun Ma62 hm63 => ?_)
        have hb := hm63
        refine mv_goW 4 (pc' := 45) (ls' := [mv_R 0, mv_I 3, mv_I (u : Int), mv_I (k : Int), mv_I 0, mv_I 0, mv_I 0]) (st' := []) (M1 := Ma62) rfl ?_
        have huv : (u : Int) < V 0 9 := by omega
        have hzv : (z : Int) ≤ V 0 8 := by omega
        refine sp_cmk_3 (d := 12) (V := V) (M0 := Ma62) (g := fun j => M 119 (40 * 3 + j)) ho hl hn (sp_cts_ag hct hb.1 hn (fun i h1 h2 => by simp only [List.mem_cons, List.not_mem_nil, or_false]; omega)) huv (by omega) (by rw [hb.1 _ (by decide)]; exact hz1) hzv (fun j hj => by rw [hb.1 _ (by decide)]; exact hcl j (by omega)) (fun M2 hw => ?_) 10 0 Ma62 V (by omega) hb.2 (fun _ => rfl) mv_ag.rf
        have hw2 : mv_ag [36, 37, 50, 51, 52, 53, 54, 55, 56, 57] M M2 := (hb.1.wd (by decide)).tr (hw.wd (by decide))
        have hm := sp_m_ag2 hm hw2 (by decide)
        have hmt := sp_mts_ag hmt hw2 (by decide)
        have hs2 : M2 117 3 = so := by rw [hw2 117 (by decide)]; exact hs2
        have hz2 : M2 118 3 = (z : Int) := by rw [hw2 118 (by decide)]; exact hz2
        refine mv_goW 1 (pc' := 101) (ls' := [mv_R 0, mv_I 3, mv_I (u : Int), mv_I (k : Int), mv_I 0, mv_I (sp_bits (sp_pa V P (fun j => M 119 (40 * 3 + j)) z u 3 (4 * u + k)) 10), mv_I 10]) (st' := [mv_I (sp_bits (sp_pa V P (fun j => M 119 (40 * 3 + j)) z u 3 (4 * u + k)) 10)]) (M1 := M2) rfl ?_
        refine mv_retW (fun n => rfl) ⟨_, rfl, ?_⟩
        refine mv_goW 3 (pc' := 3) (ls' := [mv_R 100, mv_I 3, mv_I (u : Int), mv_I (k : Int), mv_U, mv_U, mv_U, mv_U]) (st' := [mv_I (u : Int), mv_I 3, mv_R 100]) (M1 := M2) rfl ?_
        have ha64 : (so ≠ -1 ∧ (z : Int) ≤ V 0 8) ∧ 0 ≤ (u : Int) ∧ (u : Int) < V 0 9 := by omega
        refine mv_callPW (st2 := [mv_I 0]) rfl (Or.inl rfl) rfl rfl rfl (sp_mrj_t (S := 3) (by decide) hm ho hs2 hz2 ha64) (by first | decide | omega) ?_
        refine mv_goW 3 (pc' := if 0 = 0 then 16 else 13) (ls' := [mv_R 100, mv_I 3, mv_I (u : Int), mv_I (k : Int), mv_I 0, mv_U, mv_U, mv_U]) (st' := []) (M1 := M2) rfl ?_
        refine mv_ttW (by first | decide | omega) ?_
        refine mv_goW 3 (pc' := 19) (ls' := [mv_R 100, mv_I 3, mv_I (u : Int), mv_I (k : Int), mv_I 0, mv_U, mv_U, mv_U]) (st' := [mv_I 3, mv_I 0, mv_I (k : Int)]) (M1 := M2) rfl ?_
        have ha65 : (0 : Int) ≤ (k : Int) ∧ (k : Int) ≤ (3 : Int) := by omega
        refine mv_callPW (st2 := [mv_I 1]) rfl (Or.inr rfl) rfl rfl rfl (sp_min_t ha65) (by first | decide | omega) ?_
        refine mv_goW 1 (pc' := if 1 = 0 then 25 else 28) (ls' := [mv_R 100, mv_I 3, mv_I (u : Int), mv_I (k : Int), mv_I 0, mv_U, mv_U, mv_U]) (st' := []) (M1 := M2) rfl ?_
        refine mv_ffW (by first | decide | omega) ?_
        refine mv_goW 7 (pc' := 37) (ls' := [mv_R 100, mv_I 3, mv_I (u : Int), mv_I (k : Int), mv_I 0, mv_U, mv_U, mv_U]) (st' := [mv_I (mv_w ((mv_w (4 * (u : Int))) + (k : Int))), mv_R 105]) (M1 := M2) rfl ?_
        rw [show mv_w ((mv_w (4 * (u : Int))) + (k : Int)) = ((4 * u + k : Nat) : Int) from by (rw [show mv_w (4 * (u : Int)) = 4 * (u : Int) from mv_w_id (by omega) (by omega), show mv_w ((4 * (u : Int)) + (k : Int)) = (4 * (u : Int)) + (k : Int) from mv_w_id (by omega) (by omega)]) <;> omega]
        refine mv_goW 1 (pc' := if 0 ≤ ((4 * u + k : Nat) : Int) ∧ ((4 * u + k : Nat) : Int) < 24 then 38 else mv_bad) (ls' := [mv_R 100, mv_I 3, mv_I (u : Int), mv_I (k : Int), mv_I 0, mv_U, mv_U, mv_U]) (st' := [mv_I (M2 105 (4 * u + k))]) (M1 := M2) rfl ?_
        refine mv_ttW (by omega) ?_
        have hr7 := sp_ok_3 ho (4 * u + k) (by omega)
        rw [show M2 105 (4 * u + k) = V 3 (4 * u + k) from by exact sp_m_3 hm (4 * u + k) (by omega)]
        refine mv_goW 5 (pc' := 46) (ls' := [mv_R 100, mv_I 3, mv_I (u : Int), mv_I (k : Int), mv_I 0, mv_I (V 3 (4 * u + k)), mv_I 0, mv_I 0]) (st' := []) (M1 := M2) rfl ?_
        refine sp_mmk (d := 12) (V := V) (M0 := M2) (S := 3) (g := fun j => M 119 (40 * 3 + j)) ho hl hn hmt huv (by omega) (by decide) hz2 hzv (fun j hj => by rw [hw2 119 (by decide)]) (fun M3 Vc hm3 hVc3 hy => ?_) 10 0 M2 V (by omega) hm (fun _ => rfl) mv_ag.rf
        refine mv_goW 8 (pc' := 105) (ls' := [mv_R 100, mv_I 3, mv_I (u : Int), mv_I (k : Int), mv_I 0, mv_I (V 3 (4 * u + k)), mv_I (sp_bits (sp_pa V P (fun j => M 119 (40 * 3 + j)) z u 3 (4 * u + k)) 10), mv_I 10]) (st' := [mv_I (V 3 (4 * u + k)), mv_I (mv_w ((mv_w (4 * (u : Int))) + (k : Int))), mv_R 105]) (M1 := M3) rfl ?_
        rw [show mv_w ((mv_w (4 * (u : Int))) + (k : Int)) = ((4 * u + k : Nat) : Int) from by (rw [show mv_w (4 * (u : Int)) = 4 * (u : Int) from mv_w_id (by omega) (by omega), show mv_w ((4 * (u : Int)) + (k : Int)) = (4 * (u : Int)) + (k : Int) from mv_w_id (by omega) (by omega)]) <;> omega]
        refine mv_goW 1 (pc' := if 0 ≤ ((4 * u + k : Nat) : Int) ∧ ((4 * u + k : Nat) : Int) < 24 then 106 else mv_bad) (ls' := [mv_R 100, mv_I 3, mv_I (u : Int), mv_I (k : Int), mv_I 0, mv_I (V 3 (4 * u + k)), mv_I (sp_bits (sp_pa V P (fun j => M 119 (40 * 3 + j)) z u 3 (4 * u + k)) 10), mv_I 10]) (st' := []) (M1 := (mv_st M3 105 (mv_up (M3 105) (4 * u + k) (V 3 (4 * u + k))))) rfl ?_
        refine mv_ttW (by omega) ?_
        refine mv_goW 1 (pc' := 108) (ls' := [mv_R 100, mv_I 3, mv_I (u : Int), mv_I (k : Int), mv_I 0, mv_I (V 3 (4 * u + k)), mv_I (sp_bits (sp_pa V P (fun j => M 119 (40 * 3 + j)) z u 3 (4 * u + k)) 10), mv_I 10]) (st' := [mv_I (sp_bits (sp_pa V P (fun j => M 119 (40 * 3 + j)) z u 3 (4 * u + k)) 10)]) (M1 := (mv_st M3 105 (mv_up (M3 105) (4 * u + k) (V 3 (4 * u + k))))) rfl ?_
        exact mv_retW (fun n => rfl) ⟨congrArg mv_I (by first | with_reducible rfl | omega), sp_bend h hw2 ((hy.wd (by decide)).st (by decide)) (by have e : M3 100 = M2 100 := hy 100 (by decide); exact ⟨congrFun e 9, congrFun e 12, congrFun e 14⟩) (by have q := sp_m_alt3 (i := 4 * u + k) (x := V 3 (4 * u + k)) hm3; rw [hVc3, sp_alt_id] at q; exact q)⟩
      · refine mv_callPW (st2 := [mv_I (sp_rfv so (z : Int) (V 0 8))]) rfl (Or.inl rfl) rfl rfl rfl (sp_crj_3_f hc ho hs1 hz1 ha61) (by first | decide | omega) ?_
        refine mv_goW 3 (pc' := if (sp_rfv so (z : Int) (V 0 8)) = 0 then 16 else 13) (ls' := [mv_R 0, mv_I 3, mv_I (u : Int), mv_I (k : Int), mv_I (sp_rfv so (z : Int) (V 0 8)), mv_U, mv_U]) (st' := []) (M1 := M) rfl ?_
        refine mv_ffW (by omega) ?_
        refine mv_goW 1 (pc' := 15) (ls' := [mv_R 0, mv_I 3, mv_I (u : Int), mv_I (k : Int), mv_I (sp_rfv so (z : Int) (V 0 8)), mv_U, mv_U]) (st' := [mv_I (sp_rfv so (z : Int) (V 0 8))]) (M1 := M) rfl ?_
        refine mv_retW (fun n => rfl) ⟨_, rfl, ?_⟩
        refine mv_goW 3 (pc' := 3) (ls' := [mv_R 100, mv_I 3, mv_I (u : Int), mv_I (k : Int), mv_U, mv_U, mv_U, mv_U]) (st' := [mv_I (u : Int), mv_I 3, mv_R 100]) (M1 := M) rfl ?_
        have ha66 : ¬ ((so ≠ -1 ∧ (z : Int) ≤ V 0 8) ∧ 0 ≤ (u : Int) ∧ (u : Int) < V 0 9) := by omega
        refine mv_callPW (st2 := [mv_I (sp_rfv so (z : Int) (V 0 8))]) rfl (Or.inl rfl) rfl rfl rfl (sp_mrj_f (S := 3) (by decide) hm ho hs2 hz2 ha66) (by first | decide | omega) ?_
        refine mv_goW 3 (pc' := if (sp_rfv so (z : Int) (V 0 8)) = 0 then 16 else 13) (ls' := [mv_R 100, mv_I 3, mv_I (u : Int), mv_I (k : Int), mv_I (sp_rfv so (z : Int) (V 0 8)), mv_U, mv_U, mv_U]) (st' := []) (M1 := M) rfl ?_
        refine mv_ffW (by omega) ?_
        refine mv_goW 1 (pc' := 15) (ls' := [mv_R 100, mv_I 3, mv_I (u : Int), mv_I (k : Int), mv_I (sp_rfv so (z : Int) (V 0 8)), mv_U, mv_U, mv_U]) (st' := [mv_I (sp_rfv so (z : Int) (V 0 8))]) (M1 := M) rfl ?_
        exact mv_retW (fun n => rfl) ⟨congrArg mv_I (by first | with_reducible rfl | omega), hI⟩
    · refine mv_goW 3 (pc' := 3) (ls' := [mv_R 0, mv_I 3, mv_I (u : Int), mv_I b, mv_U, mv_U, mv_U]) (st' := [mv_I (u : Int), mv_I 3, mv_R 0]) (M1 := M) rfl ?_
      by_cases ha67 : (so ≠ -1 ∧ (z : Int) ≤ V 0 8) ∧ 0 ≤ (u : Int) ∧ (u : Int) < V 0 9
      · refine mv_callPW (st2 := [mv_I 0]) rfl (Or.inl rfl) rfl rfl rfl (sp_crj_3_t hc ho hs1 hz1 ha67) (by first | decide | omega) ?_
        refine mv_goW 3 (pc' := if 0 = 0 then 16 else 13) (ls' := [mv_R 0, mv_I 3, mv_I (u : Int), mv_I b, mv_I 0, mv_U, mv_U]) (st' := []) (M1 := M) rfl ?_
        refine mv_ttW (by first | decide | omega) ?_
        refine mv_goW 2 (pc' := if b < 0 then 25 else 20) (ls' := [mv_R 0, mv_I 3, mv_I (u : Int), mv_I b, mv_I 0, mv_U, mv_U]) (st' := []) (M1 := M) rfl ?_
        refine mv_spW (fun ha68 => ?_) (fun ha68 => ?_)
        · refine mv_goW 1 (pc' := 27) (ls' := [mv_R 0, mv_I 3, mv_I (u : Int), mv_I b, mv_I 0, mv_U, mv_U]) (st' := [mv_I (-7)]) (M1 := M) rfl ?_
          refine mv_retW (fun n => rfl) ⟨_, rfl, ?_⟩
          refine mv_goW 3 (pc' := 3) (ls' := [mv_R 100, mv_I 3, mv_I (u : Int), mv_I b, mv_U, mv_U, mv_U, mv_U]) (st' := [mv_I (u : Int), mv_I 3, mv_R 100]) (M1 := M) rfl ?_
          have ha69 : (so ≠ -1 ∧ (z : Int) ≤ V 0 8) ∧ 0 ≤ (u : Int) ∧ (u : Int) < V 0 9 := by omega
          refine mv_callPW (st2 := [mv_I 0]) rfl (Or.inl rfl) rfl rfl rfl (sp_mrj_t (S := 3) (by decide) hm ho hs2 hz2 ha69) (by first | decide | omega) ?_
          refine mv_goW 3 (pc' := if 0 = 0 then 16 else 13) (ls' := [mv_R 100, mv_I 3, mv_I (u : Int), mv_I b, mv_I 0, mv_U, mv_U, mv_U]) (st' := []) (M1 := M) rfl ?_
          refine mv_ttW (by first | decide | omega) ?_
          refine mv_goW 3 (pc' := 19) (ls' := [mv_R 100, mv_I 3, mv_I (u : Int), mv_I b, mv_I 0, mv_U, mv_U, mv_U]) (st' := [mv_I 3, mv_I 0, mv_I b]) (M1 := M) rfl ?_
          have ha70 : ¬ ((0 : Int) ≤ b ∧ b ≤ (3 : Int)) := by omega
          refine mv_callPW (st2 := [mv_I 0]) rfl (Or.inr rfl) rfl rfl rfl (sp_min_f ha70) (by first | decide | omega) ?_
          refine mv_goW 1 (pc' := if 0 = 0 then 25 else 28) (ls' := [mv_R 100, mv_I 3, mv_I (u : Int), mv_I b, mv_I 0, mv_U, mv_U, mv_U]) (st' := []) (M1 := M) rfl ?_
          refine mv_ttW (by first | decide | omega) ?_
          refine mv_goW 1 (pc' := 27) (ls' := [mv_R 100, mv_I 3, mv_I (u : Int), mv_I b, mv_I 0, mv_U, mv_U, mv_U]) (st' := [mv_I (-7)]) (M1 := M) rfl ?_
          exact mv_retW (fun n => rfl) ⟨congrArg mv_I (by first | with_reducible rfl | omega), hI⟩
        · refine mv_goW 3 (pc' := if b < 4 then 28 else 25) (ls' := [mv_R 0, mv_I 3, mv_I (u : Int), mv_I b, mv_I 0, mv_U, mv_U]) (st' := []) (M1 := M) rfl ?_
          refine mv_ffW (by omega) ?_
          refine mv_goW 1 (pc' := 27) (ls' := [mv_R 0, mv_I 3, mv_I (u : Int), mv_I b, mv_I 0, mv_U, mv_U]) (st' := [mv_I (-7)]) (M1 := M) rfl ?_
          refine mv_retW (fun n => rfl) ⟨_, rfl, ?_⟩
          refine mv_goW 3 (pc' := 3) (ls' := [mv_R 100, mv_I 3, mv_I (u : Int), mv_I b, mv_U, mv_U, mv_U, mv_U]) (st' := [mv_I (u : Int), mv_I 3, mv_R 100]) (M1 := M) rfl ?_
          have ha71 : (so ≠ -1 ∧ (z : Int) ≤ V 0 8) ∧ 0 ≤ (u : Int) ∧ (u : Int) < V 0 9 := by omega
          refine mv_callPW (st2 := [mv_I 0]) rfl (Or.inl rfl) rfl rfl rfl (sp_mrj_t (S := 3) (by decide) hm ho hs2 hz2 ha71) (by first | decide | omega) ?_
          refine mv_goW 3 (pc' := if 0 = 0 then 16 else 13) (ls' := [mv_R 100, mv_I 3, mv_I (u : Int), mv_I b, mv_I 0, mv_U, mv_U, mv_U]) (st' := []) (M1 := M) rfl ?_
          refine mv_ttW (by first | decide | omega) ?_
          refine mv_goW 3 (pc' := 19) (ls' := [mv_R 100, mv_I 3, mv_I (u : Int), mv_I b, mv_I 0, mv_U, mv_U, mv_U]) (st' := [mv_I 3, mv_I 0, mv_I b]) (M1 := M) rfl ?_
          have ha72 : ¬ ((0 : Int) ≤ b ∧ b ≤ (3 : Int)) := by omega
          refine mv_callPW (st2 := [mv_I 0]) rfl (Or.inr rfl) rfl rfl rfl (sp_min_f ha72) (by first | decide | omega) ?_
          refine mv_goW 1 (pc' := if 0 = 0 then 25 else 28) (ls' := [mv_R 100, mv_I 3, mv_I (u : Int), mv_I b, mv_I 0, mv_U, mv_U, mv_U]) (st' := []) (M1 := M) rfl ?_
          refine mv_ttW (by first | decide | omega) ?_
          refine mv_goW 1 (pc' := 27) (ls' := [mv_R 100, mv_I 3, mv_I (u : Int), mv_I b, mv_I 0, mv_U, mv_U, mv_U]) (st' := [mv_I (-7)]) (M1 := M) rfl ?_
          exact mv_retW (fun n => rfl) ⟨congrArg mv_I (by first | with_reducible rfl | omega), hI⟩
      · refine mv_callPW (st2 := [mv_I (sp_rfv so (z : Int) (V 0 8))]) rfl (Or.inl rfl) rfl rfl rfl (sp_crj_3_f hc ho hs1 hz1 ha67) (by first | decide | omega) ?_
        refine mv_goW 3 (pc' := if (sp_rfv so (z : Int) (V 0 8)) = 0 then 16 else 13) (ls' := [mv_R 0, mv_I 3, mv_I (u : Int), mv_I b, mv_I (sp_rfv so (z : Int) (V 0 8)), mv_U, mv_U]) (st' := []) (M1 := M) rfl ?_
        refine mv_ffW (by omega) ?_
        refine mv_goW 1 (pc' := 15) (ls' := [mv_R 0, mv_I 3, mv_I (u : Int), mv_I b, mv_I (sp_rfv so (z : Int) (V 0 8)), mv_U, mv_U]) (st' := [mv_I (sp_rfv so (z : Int) (V 0 8))]) (M1 := M) rfl ?_
        refine mv_retW (fun n => rfl) ⟨_, rfl, ?_⟩
        refine mv_goW 3 (pc' := 3) (ls' := [mv_R 100, mv_I 3, mv_I (u : Int), mv_I b, mv_U, mv_U, mv_U, mv_U]) (st' := [mv_I (u : Int), mv_I 3, mv_R 100]) (M1 := M) rfl ?_
        have ha73 : ¬ ((so ≠ -1 ∧ (z : Int) ≤ V 0 8) ∧ 0 ≤ (u : Int) ∧ (u : Int) < V 0 9) := by omega
        refine mv_callPW (st2 := [mv_I (sp_rfv so (z : Int) (V 0 8))]) rfl (Or.inl rfl) rfl rfl rfl (sp_mrj_f (S := 3) (by decide) hm ho hs2 hz2 ha73) (by first | decide | omega) ?_
        refine mv_goW 3 (pc' := if (sp_rfv so (z : Int) (V 0 8)) = 0 then 16 else 13) (ls' := [mv_R 100, mv_I 3, mv_I (u : Int), mv_I b, mv_I (sp_rfv so (z : Int) (V 0 8)), mv_U, mv_U, mv_U]) (st' := []) (M1 := M) rfl ?_
        refine mv_ffW (by omega) ?_
        refine mv_goW 1 (pc' := 15) (ls' := [mv_R 100, mv_I 3, mv_I (u : Int), mv_I b, mv_I (sp_rfv so (z : Int) (V 0 8)), mv_U, mv_U, mv_U]) (st' := [mv_I (sp_rfv so (z : Int) (V 0 8))]) (M1 := M) rfl ?_
        exact mv_retW (fun n => rfl) ⟨congrArg mv_I (by first | with_reducible rfl | omega), hI⟩
  · refine mv_goW 3 (pc' := 3) (ls' := [mv_R 0, mv_I 3, mv_I a, mv_I b, mv_U, mv_U, mv_U]) (st' := [mv_I a, mv_I 3, mv_R 0]) (M1 := M) rfl ?_
    have ha74 : ¬ ((so ≠ -1 ∧ (z : Int) ≤ V 0 8) ∧ 0 ≤ a ∧ a < V 0 9) := by omega
    refine mv_callPW (st2 := [mv_I (sp_rfv so (z : Int) (V 0 8))]) rfl (Or.inl rfl) rfl rfl rfl (sp_crj_3_f hc ho hs1 hz1 ha74) (by first | decide | omega) ?_
    refine mv_goW 3 (pc' := if (sp_rfv so (z : Int) (V 0 8)) = 0 then 16 else 13) (ls' := [mv_R 0, mv_I 3, mv_I a, mv_I b, mv_I (sp_rfv so (z : Int) (V 0 8)), mv_U, mv_U]) (st' := []) (M1 := M) rfl ?_
    refine mv_ffW (by omega) ?_
    refine mv_goW 1 (pc' := 15) (ls' := [mv_R 0, mv_I 3, mv_I a, mv_I b, mv_I (sp_rfv so (z : Int) (V 0 8)), mv_U, mv_U]) (st' := [mv_I (sp_rfv so (z : Int) (V 0 8))]) (M1 := M) rfl ?_
    refine mv_retW (fun n => rfl) ⟨_, rfl, ?_⟩
    refine mv_goW 3 (pc' := 3) (ls' := [mv_R 100, mv_I 3, mv_I a, mv_I b, mv_U, mv_U, mv_U, mv_U]) (st' := [mv_I a, mv_I 3, mv_R 100]) (M1 := M) rfl ?_
    have ha75 : ¬ ((so ≠ -1 ∧ (z : Int) ≤ V 0 8) ∧ 0 ≤ a ∧ a < V 0 9) := by omega
    refine mv_callPW (st2 := [mv_I (sp_rfv so (z : Int) (V 0 8))]) rfl (Or.inl rfl) rfl rfl rfl (sp_mrj_f (S := 3) (by decide) hm ho hs2 hz2 ha75) (by first | decide | omega) ?_
    refine mv_goW 3 (pc' := if (sp_rfv so (z : Int) (V 0 8)) = 0 then 16 else 13) (ls' := [mv_R 100, mv_I 3, mv_I a, mv_I b, mv_I (sp_rfv so (z : Int) (V 0 8)), mv_U, mv_U, mv_U]) (st' := []) (M1 := M) rfl ?_
    refine mv_ffW (by omega) ?_
    refine mv_goW 1 (pc' := 15) (ls' := [mv_R 100, mv_I 3, mv_I a, mv_I b, mv_I (sp_rfv so (z : Int) (V 0 8)), mv_U, mv_U, mv_U]) (st' := [mv_I (sp_rfv so (z : Int) (V 0 8))]) (M1 := M) rfl ?_
    exact mv_retW (fun n => rfl) ⟨congrArg mv_I (by first | with_reducible rfl | omega), hI⟩
theorem sp_k22_n (s a b : Int) (hs : ¬ (0 ≤ s ∧ s ≤ 3)) : sp_call 83 176 [mv_I s, mv_I a, mv_I b] [mv_I s, mv_I a, mv_I b] := by
  refine sp_mkW (lc := [mv_R 0, mv_I s, mv_I a, mv_I b, mv_U, mv_U, mv_U]) (lm := [mv_R 100, mv_I s, mv_I a, mv_I b, mv_U, mv_U, mv_U, mv_U]) rfl rfl (fun M hI => ?_)
  refine mv_goW 3 (pc' := 3) (ls' := [mv_R 0, mv_I s, mv_I a, mv_I b, mv_U, mv_U, mv_U]) (st' := [mv_I a, mv_I s, mv_R 0]) (M1 := M) rfl ?_
  refine mv_callPW (st2 := [mv_I (-2)]) rfl (Or.inl rfl) rfl rfl rfl (sp_crj_n hs) (by first | decide | omega) ?_
  refine mv_goW 3 (pc' := if (-2) = 0 then 16 else 13) (ls' := [mv_R 0, mv_I s, mv_I a, mv_I b, mv_I (-2), mv_U, mv_U]) (st' := []) (M1 := M) rfl ?_
  refine mv_ffW (by first | decide | omega) ?_
  refine mv_goW 1 (pc' := 15) (ls' := [mv_R 0, mv_I s, mv_I a, mv_I b, mv_I (-2), mv_U, mv_U]) (st' := [mv_I (-2)]) (M1 := M) rfl ?_
  refine mv_retW (fun n => rfl) ⟨_, rfl, ?_⟩
  refine mv_goW 3 (pc' := 3) (ls' := [mv_R 100, mv_I s, mv_I a, mv_I b, mv_U, mv_U, mv_U, mv_U]) (st' := [mv_I a, mv_I s, mv_R 100]) (M1 := M) rfl ?_
  refine mv_callPW (st2 := [mv_I (-2)]) rfl (Or.inl rfl) rfl rfl rfl (sp_mrj_n hs) (by first | decide | omega) ?_
  refine mv_goW 3 (pc' := if (-2) = 0 then 16 else 13) (ls' := [mv_R 100, mv_I s, mv_I a, mv_I b, mv_I (-2), mv_U, mv_U, mv_U]) (st' := []) (M1 := M) rfl ?_
  refine mv_ffW (by first | decide | omega) ?_
  refine mv_goW 1 (pc' := 15) (ls' := [mv_R 100, mv_I s, mv_I a, mv_I b, mv_I (-2), mv_U, mv_U, mv_U]) (st' := [mv_I (-2)]) (M1 := M) rfl ?_
  exact mv_retW (fun n => rfl) ⟨congrArg mv_I (by first | with_reducible rfl | omega), hI⟩
theorem sp_k22 (s a b : Int) : sp_call 83 176 [mv_I s, mv_I a, mv_I b] [mv_I s, mv_I a, mv_I b] :=
  sp_s4 (Q := fun s => sp_call 83 176 [mv_I s, mv_I a, mv_I b] [mv_I s, mv_I a, mv_I b]) (sp_k22_0 a b) (sp_k22_1 a b) (sp_k22_2 a b) (sp_k22_3 a b) (sp_k22_n s a b)
