/-! laws -/
theorem sp_clw_0 {V M0 : mv_M} {P : Nat → Nat → List Int} {n : Int} {u z d : Nat} {g : Nat → Int} {Q : mv_V → mv_M → Prop} (ho : sp_ok V) (hl : V 0 11 < n) (hn : n ≤ 6) (hP : sp_cts M0 P n) (hu : (u : Int) < V 0 9) (hn1 : 1 ≤ n) (hT0 : M0 0 7 = n) (hz : M0 71 2 = (z : Int)) (hz8 : (z : Int) ≤ V 0 8) (hg : ∀ j, j < z → M0 72 j = g j)
    (hQ : ∀ M2, mv_ag [50, 51, 52, 53, 54, 55, 56, 57] M0 M2 → mv_W (d + 8) 86 80 [mv_R 0, mv_I 0, mv_I (u : Int), mv_I 0, mv_I (sp_bits (sp_pa V P g z u 0 11) n.toNat), mv_I (n.toNat : Int)] [] M2 Q) :
    ∀ (r m : Nat) (M Vc : mv_M), m + r = n.toNat → sp_c 50 M Vc → (∀ x, sp_alt Vc 0 11 x = sp_alt V 0 11 x) → mv_ag [50, 51, 52, 53, 54, 55, 56, 57] M0 M → mv_W (d + 8) 86 30 [mv_R 0, mv_I 0, mv_I (u : Int), mv_I 0, mv_I (sp_bits (sp_pa V P g z u 0 11) m), mv_I (m : Int)] [] M Q := by
  have h9 := sp_ok_s9 ho
  intro r
  induction r with
  | zero =>
    intro m M Vc hk hcv hVc hag
    have hk : m = n.toNat := by omega
    have hT : M 0 7 = n := by rw [hag 0 (by decide)]; exact hT0
    refine mv_goW 3 (pc' := 36) (ls' := [mv_R 0, mv_I 0, mv_I (u : Int), mv_I 0, mv_I (sp_bits (sp_pa V P g z u 0 11) m), mv_I (m : Int)]) (st' := [mv_I (M 0 7), mv_I (m : Int)]) (M1 := M) rfl ?_
    rw [show M 0 7 = n from by exact hT]
    refine mv_goW 1 (pc' := if (m : Int) < n then 39 else 80) (ls' := [mv_R 0, mv_I 0, mv_I (u : Int), mv_I 0, mv_I (sp_bits (sp_pa V P g z u 0 11) m), mv_I (m : Int)]) (st' := []) (M1 := M) rfl ?_
    refine mv_ffW (by omega) ?_
    subst hk
    exact hQ M hag
  | succ r ih =>
    intro m M Vc hk hcv hVc hag
    have hT : M 0 7 = n := by rw [hag 0 (by decide)]; exact hT0
    refine mv_goW 3 (pc' := 36) (ls' := [mv_R 0, mv_I 0, mv_I (u : Int), mv_I 0, mv_I (sp_bits (sp_pa V P g z u 0 11) m), mv_I (m : Int)]) (st' := [mv_I (M 0 7), mv_I (m : Int)]) (M1 := M) rfl ?_
    rw [show M 0 7 = n from by exact hT]
    refine mv_goW 1 (pc' := if (m : Int) < n then 39 else 80) (ls' := [mv_R 0, mv_I 0, mv_I (u : Int), mv_I 0, mv_I (sp_bits (sp_pa V P g z u 0 11) m), mv_I (m : Int)]) (st' := []) (M1 := M) rfl ?_
    refine mv_ttW (by omega) ?_
    refine mv_goW 4 (pc' := 48) (ls' := [mv_R 0, mv_I 0, mv_I (u : Int), mv_I 0, mv_I (sp_bits (sp_pa V P g z u 0 11) m), mv_I (m : Int)]) (st' := []) (M1 := (mv_st M 50 (mv_up (M 50) 11 (m : Int)))) rfl ?_
    have hcX : sp_c 50 (mv_st M 50 (mv_up (M 50) 11 (m : Int))) (sp_alt V 0 11 (m : Int)) := by rw [← hVc (m : Int)]; exact sp_c_alt11 (w := 50) hcv
    have hagX : mv_ag [50, 51, 52, 53, 54, 55, 56, 57] M0 (mv_st M 50 (mv_up (M 50) 11 (m : Int))) := hag.st (by decide)
    refine mv_goW 4 (pc' := 54) (ls' := [mv_R 0, mv_I 0, mv_I (u : Int), mv_I 0, mv_I (sp_bits (sp_pa V P g z u 0 11) m), mv_I (m : Int)]) (st' := [mv_I 0, mv_R 0, mv_R 50]) (M1 := (mv_st M 50 (mv_up (M 50) 11 (m : Int)))) rfl ?_
    refine mv_callPW (st2 := [mv_R 71, mv_R 50]) rfl (Or.inl rfl) rfl rfl rfl (sp_sheetAt_0) (by first | decide | omega) ?_
    refine mv_goW 1 (pc' := 58) (ls' := [mv_R 0, mv_I 0, mv_I (u : Int), mv_I 0, mv_I (sp_bits (sp_pa V P g z u 0 11) m), mv_I (m : Int)]) (st' := [mv_I (u : Int), mv_R 71, mv_R 50]) (M1 := (mv_st M 50 (mv_up (M 50) 11 (m : Int)))) rfl ?_
    refine mv_callW (st2 := [mv_I (sp_pa V P g z u 0 11 m)]) rfl (Or.inr rfl) rfl rfl rfl (sp_cfa_0 (V := V) (g := g) (u := u) (r := 0) (i := 11) (x := m) hcX (sp_ok_alt11 ho (by omega)) (show (m : Int) < n from by omega) hn (sp_cts_ag hP hagX hn (fun i h1 h2 => by simp only [List.mem_cons, List.not_mem_nil, or_false]; omega)) hu (by rw [hagX _ (by decide)]; exact hz) hz8 (fun j hj => by rw [hagX _ (by decide)]; exact hg j hj)) (by first | decide | omega) (fun Ma1 hm2 => ?_)
    have hx := hm2
    refine mv_goW 2 (pc' := if (sp_pa V P g z u 0 11 m) = (-1) then 65 else 74) (ls' := [mv_R 0, mv_I 0, mv_I (u : Int), mv_I 0, mv_I (sp_bits (sp_pa V P g z u 0 11) m), mv_I (m : Int)]) (st' := []) (M1 := Ma1) rfl ?_
    refine mv_spW (fun ha3 => ?_) (fun ha3 => ?_)
    · refine mv_goW 8 (pc' := 30) (ls' := [mv_R 0, mv_I 0, mv_I (u : Int), mv_I 0, mv_I (mv_or (sp_bits (sp_pa V P g z u 0 11) m) (mv_shl 1 (m : Int))), mv_I (mv_w ((m : Int) + 1))]) (st' := []) (M1 := Ma1) rfl ?_
      rw [show mv_w ((m : Int) + 1) = (m : Int) + 1 from mv_w_id (by omega) (by omega)]
      rw [show (m : Int) + 1 = ((m + 1 : Nat) : Int) from by omega]
      refine mv_eqsW (ls2 := [mv_R 0, mv_I 0, mv_I (u : Int), mv_I 0, mv_I (sp_bits (sp_pa V P g z u 0 11) (m + 1)), mv_I (((m + 1 : Nat) : Int))]) (by rw [show mv_or (sp_bits (sp_pa V P g z u 0 11) m) (mv_shl 1 (m : Int)) = sp_bits (sp_pa V P g z u 0 11) (m + 1) from by simp only [sp_bits]; split <;> first | with_reducible rfl | omega]) rfl rfl (ih (m + 1) _ (sp_alt V 0 11 (m : Int)) (by omega) (sp_c_ag hcX hx (by decide)) (sp_alt_alt V 0 11 (m : Int)) (hagX.tr (hx.wd (by decide))))
    · refine mv_goW 2 (pc' := 30) (ls' := [mv_R 0, mv_I 0, mv_I (u : Int), mv_I 0, mv_I (sp_bits (sp_pa V P g z u 0 11) m), mv_I (mv_w ((m : Int) + 1))]) (st' := []) (M1 := Ma1) rfl ?_
      rw [show mv_w ((m : Int) + 1) = (m : Int) + 1 from mv_w_id (by omega) (by omega)]
      rw [show (m : Int) + 1 = ((m + 1 : Nat) : Int) from by omega]
      refine mv_eqsW (ls2 := [mv_R 0, mv_I 0, mv_I (u : Int), mv_I 0, mv_I (sp_bits (sp_pa V P g z u 0 11) (m + 1)), mv_I (((m + 1 : Nat) : Int))]) (by rw [show sp_bits (sp_pa V P g z u 0 11) m = sp_bits (sp_pa V P g z u 0 11) (m + 1) from by simp only [sp_bits]; split <;> first | with_reducible rfl | omega]) rfl rfl (ih (m + 1) _ (sp_alt V 0 11 (m : Int)) (by omega) (sp_c_ag hcX hx (by decide)) (sp_alt_alt V 0 11 (m : Int)) (hagX.tr (hx.wd (by decide))))
theorem sp_clw_1 {V M0 : mv_M} {P : Nat → Nat → List Int} {n : Int} {u z d : Nat} {g : Nat → Int} {Q : mv_V → mv_M → Prop} (ho : sp_ok V) (hl : V 0 11 < n) (hn : n ≤ 6) (hP : sp_cts M0 P n) (hu : (u : Int) < V 0 9) (hn1 : 1 ≤ n) (hT0 : M0 0 7 = n) (hz : M0 73 2 = (z : Int)) (hz8 : (z : Int) ≤ V 0 8) (hg : ∀ j, j < z → M0 74 j = g j)
    (hQ : ∀ M2, mv_ag [50, 51, 52, 53, 54, 55, 56, 57] M0 M2 → mv_W (d + 8) 86 80 [mv_R 0, mv_I 1, mv_I (u : Int), mv_I 0, mv_I (sp_bits (sp_pa V P g z u 0 11) n.toNat), mv_I (n.toNat : Int)] [] M2 Q) :
    ∀ (r m : Nat) (M Vc : mv_M), m + r = n.toNat → sp_c 50 M Vc → (∀ x, sp_alt Vc 0 11 x = sp_alt V 0 11 x) → mv_ag [50, 51, 52, 53, 54, 55, 56, 57] M0 M → mv_W (d + 8) 86 30 [mv_R 0, mv_I 1, mv_I (u : Int), mv_I 0, mv_I (sp_bits (sp_pa V P g z u 0 11) m), mv_I (m : Int)] [] M Q := by
  have h9 := sp_ok_s9 ho
  intro r
  induction r with
  | zero =>
    intro m M Vc hk hcv hVc hag
    have hk : m = n.toNat := by omega
    have hT : M 0 7 = n := by rw [hag 0 (by decide)]; exact hT0
    refine mv_goW 3 (pc' := 36) (ls' := [mv_R 0, mv_I 1, mv_I (u : Int), mv_I 0, mv_I (sp_bits (sp_pa V P g z u 0 11) m), mv_I (m : Int)]) (st' := [mv_I (M 0 7), mv_I (m : Int)]) (M1 := M) rfl ?_
    rw [show M 0 7 = n from by exact hT]
    refine mv_goW 1 (pc' := if (m : Int) < n then 39 else 80) (ls' := [mv_R 0, mv_I 1, mv_I (u : Int), mv_I 0, mv_I (sp_bits (sp_pa V P g z u 0 11) m), mv_I (m : Int)]) (st' := []) (M1 := M) rfl ?_
    refine mv_ffW (by omega) ?_
    subst hk
    exact hQ M hag
  | succ r ih =>
    intro m M Vc hk hcv hVc hag
    have hT : M 0 7 = n := by rw [hag 0 (by decide)]; exact hT0
    refine mv_goW 3 (pc' := 36) (ls' := [mv_R 0, mv_I 1, mv_I (u : Int), mv_I 0, mv_I (sp_bits (sp_pa V P g z u 0 11) m), mv_I (m : Int)]) (st' := [mv_I (M 0 7), mv_I (m : Int)]) (M1 := M) rfl ?_
    rw [show M 0 7 = n from by exact hT]
    refine mv_goW 1 (pc' := if (m : Int) < n then 39 else 80) (ls' := [mv_R 0, mv_I 1, mv_I (u : Int), mv_I 0, mv_I (sp_bits (sp_pa V P g z u 0 11) m), mv_I (m : Int)]) (st' := []) (M1 := M) rfl ?_
    refine mv_ttW (by omega) ?_
    refine mv_goW 4 (pc' := 48) (ls' := [mv_R 0, mv_I 1, mv_I (u : Int), mv_I 0, mv_I (sp_bits (sp_pa V P g z u 0 11) m), mv_I (m : Int)]) (st' := []) (M1 := (mv_st M 50 (mv_up (M 50) 11 (m : Int)))) rfl ?_
    have hcX : sp_c 50 (mv_st M 50 (mv_up (M 50) 11 (m : Int))) (sp_alt V 0 11 (m : Int)) := by rw [← hVc (m : Int)]; exact sp_c_alt11 (w := 50) hcv
    have hagX : mv_ag [50, 51, 52, 53, 54, 55, 56, 57] M0 (mv_st M 50 (mv_up (M 50) 11 (m : Int))) := hag.st (by decide)
    refine mv_goW 4 (pc' := 54) (ls' := [mv_R 0, mv_I 1, mv_I (u : Int), mv_I 0, mv_I (sp_bits (sp_pa V P g z u 0 11) m), mv_I (m : Int)]) (st' := [mv_I 1, mv_R 0, mv_R 50]) (M1 := (mv_st M 50 (mv_up (M 50) 11 (m : Int)))) rfl ?_
    refine mv_callPW (st2 := [mv_R 73, mv_R 50]) rfl (Or.inl rfl) rfl rfl rfl (sp_sheetAt_1) (by first | decide | omega) ?_
    refine mv_goW 1 (pc' := 58) (ls' := [mv_R 0, mv_I 1, mv_I (u : Int), mv_I 0, mv_I (sp_bits (sp_pa V P g z u 0 11) m), mv_I (m : Int)]) (st' := [mv_I (u : Int), mv_R 73, mv_R 50]) (M1 := (mv_st M 50 (mv_up (M 50) 11 (m : Int)))) rfl ?_
    refine mv_callW (st2 := [mv_I (sp_pa V P g z u 0 11 m)]) rfl (Or.inr rfl) rfl rfl rfl (sp_cfa_1 (V := V) (g := g) (u := u) (r := 0) (i := 11) (x := m) hcX (sp_ok_alt11 ho (by omega)) (show (m : Int) < n from by omega) hn (sp_cts_ag hP hagX hn (fun i h1 h2 => by simp only [List.mem_cons, List.not_mem_nil, or_false]; omega)) hu (by rw [hagX _ (by decide)]; exact hz) hz8 (fun j hj => by rw [hagX _ (by decide)]; exact hg j hj)) (by first | decide | omega) (fun Ma4 hm5 => ?_)
    have hx := hm5
    refine mv_goW 2 (pc' := if (sp_pa V P g z u 0 11 m) = (-1) then 65 else 74) (ls' := [mv_R 0, mv_I 1, mv_I (u : Int), mv_I 0, mv_I (sp_bits (sp_pa V P g z u 0 11) m), mv_I (m : Int)]) (st' := []) (M1 := Ma4) rfl ?_
    refine mv_spW (fun ha6 => ?_) (fun ha6 => ?_)
    · refine mv_goW 8 (pc' := 30) (ls' := [mv_R 0, mv_I 1, mv_I (u : Int), mv_I 0, mv_I (mv_or (sp_bits (sp_pa V P g z u 0 11) m) (mv_shl 1 (m : Int))), mv_I (mv_w ((m : Int) + 1))]) (st' := []) (M1 := Ma4) rfl ?_
      rw [show mv_w ((m : Int) + 1) = (m : Int) + 1 from mv_w_id (by omega) (by omega)]
      rw [show (m : Int) + 1 = ((m + 1 : Nat) : Int) from by omega]
      refine mv_eqsW (ls2 := [mv_R 0, mv_I 1, mv_I (u : Int), mv_I 0, mv_I (sp_bits (sp_pa V P g z u 0 11) (m + 1)), mv_I (((m + 1 : Nat) : Int))]) (by rw [show mv_or (sp_bits (sp_pa V P g z u 0 11) m) (mv_shl 1 (m : Int)) = sp_bits (sp_pa V P g z u 0 11) (m + 1) from by simp only [sp_bits]; split <;> first | with_reducible rfl | omega]) rfl rfl (ih (m + 1) _ (sp_alt V 0 11 (m : Int)) (by omega) (sp_c_ag hcX hx (by decide)) (sp_alt_alt V 0 11 (m : Int)) (hagX.tr (hx.wd (by decide))))
    · refine mv_goW 2 (pc' := 30) (ls' := [mv_R 0, mv_I 1, mv_I (u : Int), mv_I 0, mv_I (sp_bits (sp_pa V P g z u 0 11) m), mv_I (mv_w ((m : Int) + 1))]) (st' := []) (M1 := Ma4) rfl ?_
      rw [show mv_w ((m : Int) + 1) = (m : Int) + 1 from mv_w_id (by omega) (by omega)]
      rw [show (m : Int) + 1 = ((m + 1 : Nat) : Int) from by omega]
      refine mv_eqsW (ls2 := [mv_R 0, mv_I 1, mv_I (u : Int), mv_I 0, mv_I (sp_bits (sp_pa V P g z u 0 11) (m + 1)), mv_I (((m + 1 : Nat) : Int))]) (by rw [show sp_bits (sp_pa V P g z u 0 11) m = sp_bits (sp_pa V P g z u 0 11) (m + 1) from by simp only [sp_bits]; split <;> first | with_reducible rfl | omega]) rfl rfl (ih (m + 1) _ (sp_alt V 0 11 (m : Int)) (by omega) (sp_c_ag hcX hx (by decide)) (sp_alt_alt V 0 11 (m : Int)) (hagX.tr (hx.wd (by decide))))
theorem sp_clw_2 {V M0 : mv_M} {P : Nat → Nat → List Int} {n : Int} {u z d : Nat} {g : Nat → Int} {Q : mv_V → mv_M → Prop} (ho : sp_ok V) (hl : V 0 11 < n) (hn : n ≤ 6) (hP : sp_cts M0 P n) (hu : (u : Int) < V 0 9) (hn1 : 1 ≤ n) (hT0 : M0 0 7 = n) (hz : M0 75 2 = (z : Int)) (hz8 : (z : Int) ≤ V 0 8) (hg : ∀ j, j < z → M0 76 j = g j)
    (hQ : ∀ M2, mv_ag [50, 51, 52, 53, 54, 55, 56, 57] M0 M2 → mv_W (d + 8) 86 80 [mv_R 0, mv_I 2, mv_I (u : Int), mv_I 0, mv_I (sp_bits (sp_pa V P g z u 0 11) n.toNat), mv_I (n.toNat : Int)] [] M2 Q) :
    ∀ (r m : Nat) (M Vc : mv_M), m + r = n.toNat → sp_c 50 M Vc → (∀ x, sp_alt Vc 0 11 x = sp_alt V 0 11 x) → mv_ag [50, 51, 52, 53, 54, 55, 56, 57] M0 M → mv_W (d + 8) 86 30 [mv_R 0, mv_I 2, mv_I (u : Int), mv_I 0, mv_I (sp_bits (sp_pa V P g z u 0 11) m), mv_I (m : Int)] [] M Q := by
  have h9 := sp_ok_s9 ho
  intro r
  induction r with
  | zero =>
    intro m M Vc hk hcv hVc hag
    have hk : m = n.toNat := by omega
    have hT : M 0 7 = n := by rw [hag 0 (by decide)]; exact hT0
    refine mv_goW 3 (pc' := 36) (ls' := [mv_R 0, mv_I 2, mv_I (u : Int), mv_I 0, mv_I (sp_bits (sp_pa V P g z u 0 11) m), mv_I (m : Int)]) (st' := [mv_I (M 0 7), mv_I (m : Int)]) (M1 := M) rfl ?_
    rw [show M 0 7 = n from by exact hT]
    refine mv_goW 1 (pc' := if (m : Int) < n then 39 else 80) (ls' := [mv_R 0, mv_I 2, mv_I (u : Int), mv_I 0, mv_I (sp_bits (sp_pa V P g z u 0 11) m), mv_I (m : Int)]) (st' := []) (M1 := M) rfl ?_
    refine mv_ffW (by omega) ?_
    subst hk
    exact hQ M hag
  | succ r ih =>
    intro m M Vc hk hcv hVc hag
    have hT : M 0 7 = n := by rw [hag 0 (by decide)]; exact hT0
    refine mv_goW 3 (pc' := 36) (ls' := [mv_R 0, mv_I 2, mv_I (u : Int), mv_I 0, mv_I (sp_bits (sp_pa V P g z u 0 11) m), mv_I (m : Int)]) (st' := [mv_I (M 0 7), mv_I (m : Int)]) (M1 := M) rfl ?_
    rw [show M 0 7 = n from by exact hT]
    refine mv_goW 1 (pc' := if (m : Int) < n then 39 else 80) (ls' := [mv_R 0, mv_I 2, mv_I (u : Int), mv_I 0, mv_I (sp_bits (sp_pa V P g z u 0 11) m), mv_I (m : Int)]) (st' := []) (M1 := M) rfl ?_
    refine mv_ttW (by omega) ?_
    refine mv_goW 4 (pc' := 48) (ls' := [mv_R 0, mv_I 2, mv_I (u : Int), mv_I 0, mv_I (sp_bits (sp_pa V P g z u 0 11) m), mv_I (m : Int)]) (st' := []) (M1 := (mv_st M 50 (mv_up (M 50) 11 (m : Int)))) rfl ?_
    have hcX : sp_c 50 (mv_st M 50 (mv_up (M 50) 11 (m : Int))) (sp_alt V 0 11 (m : Int)) := by rw [← hVc (m : Int)]; exact sp_c_alt11 (w := 50) hcv
    have hagX : mv_ag [50, 51, 52, 53, 54, 55, 56, 57] M0 (mv_st M 50 (mv_up (M 50) 11 (m : Int))) := hag.st (by decide)
    refine mv_goW 4 (pc' := 54) (ls' := [mv_R 0, mv_I 2, mv_I (u : Int), mv_I 0, mv_I (sp_bits (sp_pa V P g z u 0 11) m), mv_I (m : Int)]) (st' := [mv_I 2, mv_R 0, mv_R 50]) (M1 := (mv_st M 50 (mv_up (M 50) 11 (m : Int)))) rfl ?_
    refine mv_callPW (st2 := [mv_R 75, mv_R 50]) rfl (Or.inl rfl) rfl rfl rfl (sp_sheetAt_2) (by first | decide | omega) ?_
    refine mv_goW 1 (pc' := 58) (ls' := [mv_R 0, mv_I 2, mv_I (u : Int), mv_I 0, mv_I (sp_bits (sp_pa V P g z u 0 11) m), mv_I (m : Int)]) (st' := [mv_I (u : Int), mv_R 75, mv_R 50]) (M1 := (mv_st M 50 (mv_up (M 50) 11 (m : Int)))) rfl ?_
    refine mv_callW (st2 := [mv_I (sp_pa V P g z u 0 11 m)]) rfl (Or.inr rfl) rfl rfl rfl (sp_cfa_2 (V := V) (g := g) (u := u) (r := 0) (i := 11) (x := m) hcX (sp_ok_alt11 ho (by omega)) (show (m : Int) < n from by omega) hn (sp_cts_ag hP hagX hn (fun i h1 h2 => by simp only [List.mem_cons, List.not_mem_nil, or_false]; omega)) hu (by rw [hagX _ (by decide)]; exact hz) hz8 (fun j hj => by rw [hagX _ (by decide)]; exact hg j hj)) (by first | decide | omega) (fun Ma7 hm8 => ?_)
    have hx := hm8
    refine mv_goW 2 (pc' := if (sp_pa V P g z u 0 11 m) = (-1) then 65 else 74) (ls' := [mv_R 0, mv_I 2, mv_I (u : Int), mv_I 0, mv_I (sp_bits (sp_pa V P g z u 0 11) m), mv_I (m : Int)]) (st' := []) (M1 := Ma7) rfl ?_
    refine mv_spW (fun ha9 => ?_) (fun ha9 => ?_)
    · refine mv_goW 8 (pc' := 30) (ls' := [mv_R 0, mv_I 2, mv_I (u : Int), mv_I 0, mv_I (mv_or (sp_bits (sp_pa V P g z u 0 11) m) (mv_shl 1 (m : Int))), mv_I (mv_w ((m : Int) + 1))]) (st' := []) (M1 := Ma7) rfl ?_
      rw [show mv_w ((m : Int) + 1) = (m : Int) + 1 from mv_w_id (by omega) (by omega)]
      rw [show (m : Int) + 1 = ((m + 1 : Nat) : Int) from by omega]
      refine mv_eqsW (ls2 := [mv_R 0, mv_I 2, mv_I (u : Int), mv_I 0, mv_I (sp_bits (sp_pa V P g z u 0 11) (m + 1)), mv_I (((m + 1 : Nat) : Int))]) (by rw [show mv_or (sp_bits (sp_pa V P g z u 0 11) m) (mv_shl 1 (m : Int)) = sp_bits (sp_pa V P g z u 0 11) (m + 1) from by simp only [sp_bits]; split <;> first | with_reducible rfl | omega]) rfl rfl (ih (m + 1) _ (sp_alt V 0 11 (m : Int)) (by omega) (sp_c_ag hcX hx (by decide)) (sp_alt_alt V 0 11 (m : Int)) (hagX.tr (hx.wd (by decide))))
    · refine mv_goW 2 (pc' := 30) (ls' := [mv_R 0, mv_I 2, mv_I (u : Int), mv_I 0, mv_I (sp_bits (sp_pa V P g z u 0 11) m), mv_I (mv_w ((m : Int) + 1))]) (st' := []) (M1 := Ma7) rfl ?_
      rw [show mv_w ((m : Int) + 1) = (m : Int) + 1 from mv_w_id (by omega) (by omega)]
      rw [show (m : Int) + 1 = ((m + 1 : Nat) : Int) from by omega]
      refine mv_eqsW (ls2 := [mv_R 0, mv_I 2, mv_I (u : Int), mv_I 0, mv_I (sp_bits (sp_pa V P g z u 0 11) (m + 1)), mv_I (((m + 1 : Nat) : Int))]) (by rw [show sp_bits (sp_pa V P g z u 0 11) m = sp_bits (sp_pa V P g z u 0 11) (m + 1) from by simp only [sp_bits]; split <;> first | with_reducible rfl | omega]) rfl rfl (ih (m + 1) _ (sp_alt V 0 11 (m : Int)) (by omega) (sp_c_ag hcX hx (by decide)) (sp_alt_alt V 0 11 (m : Int)) (hagX.tr (hx.wd (by decide))))
theorem sp_clw_3 {V M0 : mv_M} {P : Nat → Nat → List Int} {n : Int} {u z d : Nat} {g : Nat → Int} {Q : mv_V → mv_M → Prop} (ho : sp_ok V) (hl : V 0 11 < n) (hn : n ≤ 6) (hP : sp_cts M0 P n) (hu : (u : Int) < V 0 9) (hn1 : 1 ≤ n) (hT0 : M0 0 7 = n) (hz : M0 77 2 = (z : Int)) (hz8 : (z : Int) ≤ V 0 8) (hg : ∀ j, j < z → M0 78 j = g j)
    (hQ : ∀ M2, mv_ag [50, 51, 52, 53, 54, 55, 56, 57] M0 M2 → mv_W (d + 8) 86 80 [mv_R 0, mv_I 3, mv_I (u : Int), mv_I 0, mv_I (sp_bits (sp_pa V P g z u 0 11) n.toNat), mv_I (n.toNat : Int)] [] M2 Q) :
    ∀ (r m : Nat) (M Vc : mv_M), m + r = n.toNat → sp_c 50 M Vc → (∀ x, sp_alt Vc 0 11 x = sp_alt V 0 11 x) → mv_ag [50, 51, 52, 53, 54, 55, 56, 57] M0 M → mv_W (d + 8) 86 30 [mv_R 0, mv_I 3, mv_I (u : Int), mv_I 0, mv_I (sp_bits (sp_pa V P g z u 0 11) m), mv_I (m : Int)] [] M Q := by
  have h9 := sp_ok_s9 ho
  intro r
  induction r with
  | zero =>
    intro m M Vc hk hcv hVc hag
    have hk : m = n.toNat := by omega
    have hT : M 0 7 = n := by rw [hag 0 (by decide)]; exact hT0
    refine mv_goW 3 (pc' := 36) (ls' := [mv_R 0, mv_I 3, mv_I (u : Int), mv_I 0, mv_I (sp_bits (sp_pa V P g z u 0 11) m), mv_I (m : Int)]) (st' := [mv_I (M 0 7), mv_I (m : Int)]) (M1 := M) rfl ?_
    rw [show M 0 7 = n from by exact hT]
    refine mv_goW 1 (pc' := if (m : Int) < n then 39 else 80) (ls' := [mv_R 0, mv_I 3, mv_I (u : Int), mv_I 0, mv_I (sp_bits (sp_pa V P g z u 0 11) m), mv_I (m : Int)]) (st' := []) (M1 := M) rfl ?_
    refine mv_ffW (by omega) ?_
    subst hk
    exact hQ M hag
  | succ r ih =>
    intro m M Vc hk hcv hVc hag
    have hT : M 0 7 = n := by rw [hag 0 (by decide)]; exact hT0
    refine mv_goW 3 (pc' := 36) (ls' := [mv_R 0, mv_I 3, mv_I (u : Int), mv_I 0, mv_I (sp_bits (sp_pa V P g z u 0 11) m), mv_I (m : Int)]) (st' := [mv_I (M 0 7), mv_I (m : Int)]) (M1 := M) rfl ?_
    rw [show M 0 7 = n from by exact hT]
    refine mv_goW 1 (pc' := if (m : Int) < n then 39 else 80) (ls' := [mv_R 0, mv_I 3, mv_I (u : Int), mv_I 0, mv_I (sp_bits (sp_pa V P g z u 0 11) m), mv_I (m : Int)]) (st' := []) (M1 := M) rfl ?_
    refine mv_ttW (by omega) ?_
    refine mv_goW 4 (pc' := 48) (ls' := [mv_R 0, mv_I 3, mv_I (u : Int), mv_I 0, mv_I (sp_bits (sp_pa V P g z u 0 11) m), mv_I (m : Int)]) (st' := []) (M1 := (mv_st M 50 (mv_up (M 50) 11 (m : Int)))) rfl ?_
    have hcX : sp_c 50 (mv_st M 50 (mv_up (M 50) 11 (m : Int))) (sp_alt V 0 11 (m : Int)) := by rw [← hVc (m : Int)]; exact sp_c_alt11 (w := 50) hcv
    have hagX : mv_ag [50, 51, 52, 53, 54, 55, 56, 57] M0 (mv_st M 50 (mv_up (M 50) 11 (m : Int))) := hag.st (by decide)
    refine mv_goW 4 (pc' := 54) (ls' := [mv_R 0, mv_I 3, mv_I (u : Int), mv_I 0, mv_I (sp_bits (sp_pa V P g z u 0 11) m), mv_I (m : Int)]) (st' := [mv_I 3, mv_R 0, mv_R 50]) (M1 := (mv_st M 50 (mv_up (M 50) 11 (m : Int)))) rfl ?_
    refine mv_callPW (st2 := [mv_R 77, mv_R 50]) rfl (Or.inl rfl) rfl rfl rfl (sp_sheetAt_3) (by first | decide | omega) ?_
    refine mv_goW 1 (pc' := 58) (ls' := [mv_R 0, mv_I 3, mv_I (u : Int), mv_I 0, mv_I (sp_bits (sp_pa V P g z u 0 11) m), mv_I (m : Int)]) (st' := [mv_I (u : Int), mv_R 77, mv_R 50]) (M1 := (mv_st M 50 (mv_up (M 50) 11 (m : Int)))) rfl ?_
    refine mv_callW (st2 := [mv_I (sp_pa V P g z u 0 11 m)]) rfl (Or.inr rfl) rfl rfl rfl (sp_cfa_3 (V := V) (g := g) (u := u) (r := 0) (i := 11) (x := m) hcX (sp_ok_alt11 ho (by omega)) (show (m : Int) < n from by omega) hn (sp_cts_ag hP hagX hn (fun i h1 h2 => by simp only [List.mem_cons, List.not_mem_nil, or_false]; omega)) hu (by rw [hagX _ (by decide)]; exact hz) hz8 (fun j hj => by rw [hagX _ (by decide)]; exact hg j hj)) (by first | decide | omega) (fun Ma10 hm11 => ?_)
    have hx := hm11
    refine mv_goW 2 (pc' := if (sp_pa V P g z u 0 11 m) = (-1) then 65 else 74) (ls' := [mv_R 0, mv_I 3, mv_I (u : Int), mv_I 0, mv_I (sp_bits (sp_pa V P g z u 0 11) m), mv_I (m : Int)]) (st' := []) (M1 := Ma10) rfl ?_
    refine mv_spW (fun ha12 => ?_) (fun ha12 => ?_)
    · refine mv_goW 8 (pc' := 30) (ls' := [mv_R 0, mv_I 3, mv_I (u : Int), mv_I 0, mv_I (mv_or (sp_bits (sp_pa V P g z u 0 11) m) (mv_shl 1 (m : Int))), mv_I (mv_w ((m : Int) + 1))]) (st' := []) (M1 := Ma10) rfl ?_
      rw [show mv_w ((m : Int) + 1) = (m : Int) + 1 from mv_w_id (by omega) (by omega)]
      rw [show (m : Int) + 1 = ((m + 1 : Nat) : Int) from by omega]
      refine mv_eqsW (ls2 := [mv_R 0, mv_I 3, mv_I (u : Int), mv_I 0, mv_I (sp_bits (sp_pa V P g z u 0 11) (m + 1)), mv_I (((m + 1 : Nat) : Int))]) (by rw [show mv_or (sp_bits (sp_pa V P g z u 0 11) m) (mv_shl 1 (m : Int)) = sp_bits (sp_pa V P g z u 0 11) (m + 1) from by simp only [sp_bits]; split <;> first | with_reducible rfl | omega]) rfl rfl (ih (m + 1) _ (sp_alt V 0 11 (m : Int)) (by omega) (sp_c_ag hcX hx (by decide)) (sp_alt_alt V 0 11 (m : Int)) (hagX.tr (hx.wd (by decide))))
    · refine mv_goW 2 (pc' := 30) (ls' := [mv_R 0, mv_I 3, mv_I (u : Int), mv_I 0, mv_I (sp_bits (sp_pa V P g z u 0 11) m), mv_I (mv_w ((m : Int) + 1))]) (st' := []) (M1 := Ma10) rfl ?_
      rw [show mv_w ((m : Int) + 1) = (m : Int) + 1 from mv_w_id (by omega) (by omega)]
      rw [show (m : Int) + 1 = ((m + 1 : Nat) : Int) from by omega]
      refine mv_eqsW (ls2 := [mv_R 0, mv_I 3, mv_I (u : Int), mv_I 0, mv_I (sp_bits (sp_pa V P g z u 0 11) (m + 1)), mv_I (((m + 1 : Nat) : Int))]) (by rw [show sp_bits (sp_pa V P g z u 0 11) m = sp_bits (sp_pa V P g z u 0 11) (m + 1) from by simp only [sp_bits]; split <;> first | with_reducible rfl | omega]) rfl rfl (ih (m + 1) _ (sp_alt V 0 11 (m : Int)) (by omega) (sp_c_ag hcX hx (by decide)) (sp_alt_alt V 0 11 (m : Int)) (hagX.tr (hx.wd (by decide))))
theorem sp_mlw {V M0 : mv_M} {P : Nat → Nat → List Int} {n : Int} {u z d S : Nat} {g : Nat → Int} {Q : mv_V → mv_M → Prop} (ho : sp_ok V) (hl : V 0 11 < n) (hn : n ≤ 6) (hP : sp_mts M0 P n) (hu : (u : Int) < V 0 9) (hn1 : 1 ≤ n) (hT0 : M0 100 12 = n) (hS : S < 4) (hz : M0 118 S = (z : Int)) (hz8 : (z : Int) ≤ V 0 8) (hg : ∀ j, j < z → M0 119 (40 * S + j) = g j)
    (hQ : ∀ M2 Vc, sp_m M2 Vc → (∀ x, sp_alt Vc 0 11 x = sp_alt V 0 11 x) → mv_ag [100, 130, 131] M0 M2 → (∀ j, j ≠ 13 → M2 100 j = M0 100 j) → mv_W (d + 8) 179 69 [mv_R 100, mv_I (S : Int), mv_I (u : Int), mv_I 0, mv_I (V 0 11), mv_I (sp_bits (sp_pa V P g z u 0 11) n.toNat), mv_I (n.toNat : Int)] [] M2 Q) :
    ∀ (r m : Nat) (M Vc : mv_M), m + r = n.toNat → sp_m M Vc → (∀ x, sp_alt Vc 0 11 x = sp_alt V 0 11 x) → mv_ag [100, 130, 131] M0 M → (∀ j, j ≠ 13 → M 100 j = M0 100 j) → mv_W (d + 8) 179 25 [mv_R 100, mv_I (S : Int), mv_I (u : Int), mv_I 0, mv_I (V 0 11), mv_I (sp_bits (sp_pa V P g z u 0 11) m), mv_I (m : Int)] [] M Q := by
  have h9 := sp_ok_s9 ho
  intro r
  induction r with
  | zero =>
    intro m M Vc hk hmv hVc hag h100
    have hk : m = n.toNat := by omega
    have hT : M 100 12 = n := by rw [h100 12 (by decide)]; exact hT0
    refine mv_goW 3 (pc' := 31) (ls' := [mv_R 100, mv_I (S : Int), mv_I (u : Int), mv_I 0, mv_I (V 0 11), mv_I (sp_bits (sp_pa V P g z u 0 11) m), mv_I (m : Int)]) (st' := [mv_I (M 100 12), mv_I (m : Int)]) (M1 := M) rfl ?_
    rw [show M 100 12 = n from by exact hT]
    refine mv_goW 1 (pc' := if (m : Int) < n then 34 else 69) (ls' := [mv_R 100, mv_I (S : Int), mv_I (u : Int), mv_I 0, mv_I (V 0 11), mv_I (sp_bits (sp_pa V P g z u 0 11) m), mv_I (m : Int)]) (st' := []) (M1 := M) rfl ?_
    refine mv_ffW (by omega) ?_
    subst hk
    exact hQ M Vc hmv hVc hag h100
  | succ r ih =>
    intro m M Vc hk hmv hVc hag h100
    have hT : M 100 12 = n := by rw [h100 12 (by decide)]; exact hT0
    refine mv_goW 3 (pc' := 31) (ls' := [mv_R 100, mv_I (S : Int), mv_I (u : Int), mv_I 0, mv_I (V 0 11), mv_I (sp_bits (sp_pa V P g z u 0 11) m), mv_I (m : Int)]) (st' := [mv_I (M 100 12), mv_I (m : Int)]) (M1 := M) rfl ?_
    rw [show M 100 12 = n from by exact hT]
    refine mv_goW 1 (pc' := if (m : Int) < n then 34 else 69) (ls' := [mv_R 100, mv_I (S : Int), mv_I (u : Int), mv_I 0, mv_I (V 0 11), mv_I (sp_bits (sp_pa V P g z u 0 11) m), mv_I (m : Int)]) (st' := []) (M1 := M) rfl ?_
    refine mv_ttW (by omega) ?_
    refine mv_goW 3 (pc' := 40) (ls' := [mv_R 100, mv_I (S : Int), mv_I (u : Int), mv_I 0, mv_I (V 0 11), mv_I (sp_bits (sp_pa V P g z u 0 11) m), mv_I (m : Int)]) (st' := []) (M1 := (mv_st M 100 (mv_up (M 100) 13 (m : Int)))) rfl ?_
    have hmX : sp_m (mv_st M 100 (mv_up (M 100) 13 (m : Int))) (sp_alt V 0 11 (m : Int)) := by rw [← hVc (m : Int)]; exact sp_m_alt11 hmv
    have hagX : mv_ag [100, 130, 131] M0 (mv_st M 100 (mv_up (M 100) 13 (m : Int))) := hag.st (by decide)
    have h100X : ∀ j, j ≠ 13 → (mv_st M 100 (mv_up (M 100) 13 (m : Int))) 100 j = M0 100 j := fun j hj => (mv_up_n _ _ hj).trans (h100 j hj)
    refine mv_goW 4 (pc' := 45) (ls' := [mv_R 100, mv_I (S : Int), mv_I (u : Int), mv_I 0, mv_I (V 0 11), mv_I (sp_bits (sp_pa V P g z u 0 11) m), mv_I (m : Int)]) (st' := [mv_I (u : Int), mv_I (S : Int), mv_R 100, mv_I (sp_bits (sp_pa V P g z u 0 11) m)]) (M1 := (mv_st M 100 (mv_up (M 100) 13 (m : Int)))) rfl ?_
    refine mv_callW (st2 := [mv_I (sp_pa V P g z u 0 11 m), mv_I (sp_bits (sp_pa V P g z u 0 11) m)]) rfl (Or.inl rfl) rfl rfl rfl (sp_mfa (V := V) (g := g) (u := u) (r := 0) (i := 11) (x := m) hS hmX (sp_ok_alt11 ho (by omega)) (show (m : Int) < n from by omega) (sp_mts_ag hP hagX (by decide)) hu (by rw [hagX _ (by decide)]; exact hz) hz8 (fun j hj => by rw [hagX _ (by decide)]; exact hg j hj)) (by first | decide | omega) (fun Ma13 hm14 => ?_)
    have hx := hm14
    refine mv_goW 2 (pc' := if (sp_pa V P g z u 0 11 m) = (-1) then 52 else 59) (ls' := [mv_R 100, mv_I (S : Int), mv_I (u : Int), mv_I 0, mv_I (V 0 11), mv_I (sp_bits (sp_pa V P g z u 0 11) m), mv_I (m : Int)]) (st' := [mv_I (sp_bits (sp_pa V P g z u 0 11) m)]) (M1 := Ma13) rfl ?_
    refine mv_spW (fun ha15 => ?_) (fun ha15 => ?_)
    · refine mv_goW 8 (pc' := 25) (ls' := [mv_R 100, mv_I (S : Int), mv_I (u : Int), mv_I 0, mv_I (V 0 11), mv_I (mv_or (sp_bits (sp_pa V P g z u 0 11) m) (mv_shl 1 (m : Int))), mv_I (mv_w ((m : Int) + 1))]) (st' := []) (M1 := Ma13) rfl ?_
      rw [show mv_w ((m : Int) + 1) = (m : Int) + 1 from mv_w_id (by omega) (by omega)]
      rw [show (m : Int) + 1 = ((m + 1 : Nat) : Int) from by omega]
      refine mv_eqsW (ls2 := [mv_R 100, mv_I (S : Int), mv_I (u : Int), mv_I 0, mv_I (V 0 11), mv_I (sp_bits (sp_pa V P g z u 0 11) (m + 1)), mv_I (((m + 1 : Nat) : Int))]) (by rw [show mv_or (sp_bits (sp_pa V P g z u 0 11) m) (mv_shl 1 (m : Int)) = sp_bits (sp_pa V P g z u 0 11) (m + 1) from by (try rw [sp_bits_0]); simp only [sp_bits]; split <;> first | with_reducible rfl | omega]) rfl rfl (ih (m + 1) _ (sp_alt V 0 11 (m : Int)) (by omega) (sp_m_ag hmX hx (by rw [hx 100 (by decide)]; exact ⟨rfl, rfl, rfl, rfl⟩) (by decide)) (sp_alt_alt V 0 11 (m : Int)) (hagX.tr (hx.wd (by decide))) (fun j hj => by rw [hx 100 (by decide)]; exact h100X j hj))
    · refine mv_goW 5 (pc' := 25) (ls' := [mv_R 100, mv_I (S : Int), mv_I (u : Int), mv_I 0, mv_I (V 0 11), mv_I (mv_or (sp_bits (sp_pa V P g z u 0 11) m) 0), mv_I (mv_w ((m : Int) + 1))]) (st' := []) (M1 := Ma13) rfl ?_
      rw [show mv_w ((m : Int) + 1) = (m : Int) + 1 from mv_w_id (by omega) (by omega)]
      rw [show (m : Int) + 1 = ((m + 1 : Nat) : Int) from by omega]
      refine mv_eqsW (ls2 := [mv_R 100, mv_I (S : Int), mv_I (u : Int), mv_I 0, mv_I (V 0 11), mv_I (sp_bits (sp_pa V P g z u 0 11) (m + 1)), mv_I (((m + 1 : Nat) : Int))]) (by rw [show mv_or (sp_bits (sp_pa V P g z u 0 11) m) 0 = sp_bits (sp_pa V P g z u 0 11) (m + 1) from by (try rw [sp_bits_0]); simp only [sp_bits]; split <;> first | with_reducible rfl | omega]) rfl rfl (ih (m + 1) _ (sp_alt V 0 11 (m : Int)) (by omega) (sp_m_ag hmX hx (by rw [hx 100 (by decide)]; exact ⟨rfl, rfl, rfl, rfl⟩) (by decide)) (sp_alt_alt V 0 11 (m : Int)) (hagX.tr (hx.wd (by decide))) (fun j hj => by rw [hx 100 (by decide)]; exact h100X j hj))
theorem sp_k25_0 (a : Int) : sp_call 86 179 [mv_I 0, mv_I a] [mv_I 0, mv_I a] := by
  refine sp_mkW (lc := [mv_R 0, mv_I 0, mv_I a, mv_U, mv_U, mv_U]) (lm := [mv_R 100, mv_I 0, mv_I a, mv_U, mv_U, mv_U, mv_U]) rfl rfl (fun M hI => ?_)
  have hI2 := hI
  obtain ⟨V, P, nt, B, K, t, h⟩ := hI2
  have h' := h
  obtain ⟨⟨hc, hm, ho⟩, ⟨hy, hl, hn1, hn⟩, ⟨hct, hmt, hn7, hn12⟩, _⟩ := h'
  have h8 := sp_ok_s8 ho
  have h9 := sp_ok_s9 ho
  obtain ⟨so, sz, ⟨hs1, hs2, so0, so1⟩, ⟨hz1, hz2, sz0, sz1⟩, hcl⟩ := sp_sh_get h 0 (by decide)
  obtain ⟨z, rfl⟩ : ∃ x : Nat, sz = (x : Int) := ⟨sz.toNat, by omega⟩
  have hnz := sp_rfv_n so z (V 0 8)
  by_cases h0 : 0 ≤ a
  · obtain ⟨u, rfl⟩ : ∃ x : Nat, a = (x : Int) := ⟨a.toNat, by omega⟩
    refine mv_goW 3 (pc' := 3) (ls' := [mv_R 0, mv_I 0, mv_I (u : Int), mv_U, mv_U, mv_U]) (st' := [mv_I (u : Int), mv_I 0, mv_R 0]) (M1 := M) rfl ?_
    by_cases ha16 : (so ≠ -1 ∧ (z : Int) ≤ V 0 8) ∧ 0 ≤ (u : Int) ∧ (u : Int) < V 0 9
    · refine mv_callPW (st2 := [mv_I 0]) rfl (Or.inl rfl) rfl rfl rfl (sp_crj_0_t hc ho hs1 hz1 ha16) (by first | decide | omega) ?_
      refine mv_goW 3 (pc' := if 0 = 0 then 13 else 11) (ls' := [mv_R 0, mv_I 0, mv_I (u : Int), mv_I 0, mv_U, mv_U]) (st' := []) (M1 := M) rfl ?_
      refine mv_ttW (by first | decide | omega) ?_
      refine mv_goW 4 (pc' := 21) (ls' := [mv_R 0, mv_I 0, mv_I (u : Int), mv_I 0, mv_U, mv_U]) (st' := [mv_R 30, mv_R 50]) (M1 := M) rfl ?_
      refine mv_callW (st2 := []) rfl (Or.inl rfl) rfl rfl rfl (sp_become_50_30 hc (by omega) (by omega)) (by first | decide | omega) (fun Ma17 hm18 => ?_)
      have hb := hm18
      refine mv_goW 4 (pc' := 30) (ls' := [mv_R 0, mv_I 0, mv_I (u : Int), mv_I 0, mv_I 0, mv_I 0]) (st' := []) (M1 := Ma17) rfl ?_
      have huv : (u : Int) < V 0 9 := by omega
      have hzv : (z : Int) ≤ V 0 8 := by omega
      refine sp_clw_0 (d := 12) (V := V) (M0 := Ma17) (g := fun j => M 119 (40 * 0 + j)) ho hl hn (sp_cts_ag hct hb.1 hn (fun i h1 h2 => by simp only [List.mem_cons, List.not_mem_nil, or_false]; omega)) huv hn1 (by rw [hb.1 0 (by decide)]; exact hn7) (by rw [hb.1 _ (by decide)]; exact hz1) hzv (fun j hj => by rw [hb.1 _ (by decide)]; exact hcl j (by omega)) (fun M2 hw => ?_) nt.toNat 0 Ma17 V (by omega) hb.2 (fun _ => rfl) mv_ag.rf
      have hw2 : mv_ag [36, 37, 50, 51, 52, 53, 54, 55, 56, 57] M M2 := (hb.1.wd (by decide)).tr (hw.wd (by decide))
      have hm := sp_m_ag2 hm hw2 (by decide)
      have hmt := sp_mts_ag hmt hw2 (by decide)
      have hs2 : M2 117 0 = so := by rw [hw2 117 (by decide)]; exact hs2
      have hz2 : M2 118 0 = (z : Int) := by rw [hw2 118 (by decide)]; exact hz2
      refine mv_goW 1 (pc' := 82) (ls' := [mv_R 0, mv_I 0, mv_I (u : Int), mv_I 0, mv_I (sp_bits (sp_pa V P (fun j => M 119 (40 * 0 + j)) z u 0 11) nt.toNat), mv_I ((nt.toNat : Nat) : Int)]) (st' := [mv_I (sp_bits (sp_pa V P (fun j => M 119 (40 * 0 + j)) z u 0 11) nt.toNat)]) (M1 := M2) rfl ?_
      rw [show ((nt.toNat : Nat) : Int) = (nt.toNat : Int) from by omega]
      refine mv_retW (fun n => rfl) ⟨_, rfl, ?_⟩
      refine mv_goW 3 (pc' := 3) (ls' := [mv_R 100, mv_I 0, mv_I (u : Int), mv_U, mv_U, mv_U, mv_U]) (st' := [mv_I (u : Int), mv_I 0, mv_R 100]) (M1 := M2) rfl ?_
      have ha19 : (so ≠ -1 ∧ (z : Int) ≤ V 0 8) ∧ 0 ≤ (u : Int) ∧ (u : Int) < V 0 9 := by omega
      refine mv_callPW (st2 := [mv_I 0]) rfl (Or.inl rfl) rfl rfl rfl (sp_mrj_t (S := 0) (by decide) hm ho hs2 hz2 ha19) (by first | decide | omega) ?_
      refine mv_goW 3 (pc' := if 0 = 0 then 13 else 11) (ls' := [mv_R 100, mv_I 0, mv_I (u : Int), mv_I 0, mv_U, mv_U, mv_U]) (st' := []) (M1 := M2) rfl ?_
      refine mv_ttW (by first | decide | omega) ?_
      refine mv_goW 2 (pc' := 17) (ls' := [mv_R 100, mv_I 0, mv_I (u : Int), mv_I 0, mv_U, mv_U, mv_U]) (st' := [mv_I (M2 100 13)]) (M1 := M2) rfl ?_
      have hr1 := sp_ok_s11 ho
      rw [show M2 100 13 = V 0 11 from by exact sp_m_s11 hm]
      refine mv_goW 5 (pc' := 25) (ls' := [mv_R 100, mv_I 0, mv_I (u : Int), mv_I 0, mv_I (V 0 11), mv_I 0, mv_I 0]) (st' := []) (M1 := M2) rfl ?_
      refine sp_mlw (d := 12) (V := V) (M0 := M2) (S := 0) (g := fun j => M 119 (40 * 0 + j)) ho hl hn hmt huv hn1 (by rw [hw2 100 (by decide)]; exact hn12) (by decide) hz2 hzv (fun j hj => by rw [hw2 119 (by decide)]) (fun M3 Vc hm3 hVc3 hy h100 => ?_) nt.toNat 0 M2 V (by omega) hm (fun _ => rfl) mv_ag.rf (fun _ _ => rfl)
      refine mv_goW 4 (pc' := 77) (ls' := [mv_R 100, mv_I 0, mv_I (u : Int), mv_I 0, mv_I (V 0 11), mv_I (sp_bits (sp_pa V P (fun j => M 119 (40 * 0 + j)) z u 0 11) nt.toNat), mv_I ((nt.toNat : Nat) : Int)]) (st' := [mv_I (sp_bits (sp_pa V P (fun j => M 119 (40 * 0 + j)) z u 0 11) nt.toNat)]) (M1 := (mv_st M3 100 (mv_up (M3 100) 13 (V 0 11)))) rfl ?_
      rw [show ((nt.toNat : Nat) : Int) = (nt.toNat : Int) from by omega]
      exact mv_retW (fun n => rfl) ⟨congrArg mv_I (by first | with_reducible rfl | omega), sp_bend h hw2 ((hy.wd (by decide)).st (by decide)) ⟨h100 9 (by decide), h100 12 (by decide), h100 14 (by decide)⟩ (by have q := sp_m_alt11 (x := V 0 11) hm3; rw [hVc3, sp_alt_id] at q; exact q)⟩
    · refine mv_callPW (st2 := [mv_I (sp_rfv so (z : Int) (V 0 8))]) rfl (Or.inl rfl) rfl rfl rfl (sp_crj_0_f hc ho hs1 hz1 ha16) (by first | decide | omega) ?_
      refine mv_goW 3 (pc' := if (sp_rfv so (z : Int) (V 0 8)) = 0 then 13 else 11) (ls' := [mv_R 0, mv_I 0, mv_I (u : Int), mv_I (sp_rfv so (z : Int) (V 0 8)), mv_U, mv_U]) (st' := []) (M1 := M) rfl ?_
      refine mv_ffW (by omega) ?_
      refine mv_goW 1 (pc' := 12) (ls' := [mv_R 0, mv_I 0, mv_I (u : Int), mv_I (sp_rfv so (z : Int) (V 0 8)), mv_U, mv_U]) (st' := [mv_I (sp_rfv so (z : Int) (V 0 8))]) (M1 := M) rfl ?_
      refine mv_retW (fun n => rfl) ⟨_, rfl, ?_⟩
      refine mv_goW 3 (pc' := 3) (ls' := [mv_R 100, mv_I 0, mv_I (u : Int), mv_U, mv_U, mv_U, mv_U]) (st' := [mv_I (u : Int), mv_I 0, mv_R 100]) (M1 := M) rfl ?_
      have ha20 : ¬ ((so ≠ -1 ∧ (z : Int) ≤ V 0 8) ∧ 0 ≤ (u : Int) ∧ (u : Int) < V 0 9) := by omega
      refine mv_callPW (st2 := [mv_I (sp_rfv so (z : Int) (V 0 8))]) rfl (Or.inl rfl) rfl rfl rfl (sp_mrj_f (S := 0) (by decide) hm ho hs2 hz2 ha20) (by first | decide | omega) ?_
      refine mv_goW 3 (pc' := if (sp_rfv so (z : Int) (V 0 8)) = 0 then 13 else 11) (ls' := [mv_R 100, mv_I 0, mv_I (u : Int), mv_I (sp_rfv so (z : Int) (V 0 8)), mv_U, mv_U, mv_U]) (st' := []) (M1 := M) rfl ?_
      refine mv_ffW (by omega) ?_
      refine mv_goW 1 (pc' := 12) (ls' := [mv_R 100, mv_I 0, mv_I (u : Int), mv_I (sp_rfv so (z : Int) (V 0 8)), mv_U, mv_U, mv_U]) (st' := [mv_I (sp_rfv so (z : Int) (V 0 8))]) (M1 := M) rfl ?_
      exact mv_retW (fun n => rfl) ⟨congrArg mv_I (by first | with_reducible rfl | omega), hI⟩
  · refine mv_goW 3 (pc' := 3) (ls' := [mv_R 0, mv_I 0, mv_I a, mv_U, mv_U, mv_U]) (st' := [mv_I a, mv_I 0, mv_R 0]) (M1 := M) rfl ?_
    have ha21 : ¬ ((so ≠ -1 ∧ (z : Int) ≤ V 0 8) ∧ 0 ≤ a ∧ a < V 0 9) := by omega
    refine mv_callPW (st2 := [mv_I (sp_rfv so (z : Int) (V 0 8))]) rfl (Or.inl rfl) rfl rfl rfl (sp_crj_0_f hc ho hs1 hz1 ha21) (by first | decide | omega) ?_
    refine mv_goW 3 (pc' := if (sp_rfv so (z : Int) (V 0 8)) = 0 then 13 else 11) (ls' := [mv_R 0, mv_I 0, mv_I a, mv_I (sp_rfv so (z : Int) (V 0 8)), mv_U, mv_U]) (st' := []) (M1 := M) rfl ?_
    refine mv_ffW (by omega) ?_
    refine mv_goW 1 (pc' := 12) (ls' := [mv_R 0, mv_I 0, mv_I a, mv_I (sp_rfv so (z : Int) (V 0 8)), mv_U, mv_U]) (st' := [mv_I (sp_rfv so (z : Int) (V 0 8))]) (M1 := M) rfl ?_
    refine mv_retW (fun n => rfl) ⟨_, rfl, ?_⟩
    refine mv_goW 3 (pc' := 3) (ls' := [mv_R 100, mv_I 0, mv_I a, mv_U, mv_U, mv_U, mv_U]) (st' := [mv_I a, mv_I 0, mv_R 100]) (M1 := M) rfl ?_
    have ha22 : ¬ ((so ≠ -1 ∧ (z : Int) ≤ V 0 8) ∧ 0 ≤ a ∧ a < V 0 9) := by omega
    refine mv_callPW (st2 := [mv_I (sp_rfv so (z : Int) (V 0 8))]) rfl (Or.inl rfl) rfl rfl rfl (sp_mrj_f (S := 0) (by decide) hm ho hs2 hz2 ha22) (by first | decide | omega) ?_
    refine mv_goW 3 (pc' := if (sp_rfv so (z : Int) (V 0 8)) = 0 then 13 else 11) (ls' := [mv_R 100, mv_I 0, mv_I a, mv_I (sp_rfv so (z : Int) (V 0 8)), mv_U, mv_U, mv_U]) (st' := []) (M1 := M) rfl ?_
    refine mv_ffW (by omega) ?_
    refine mv_goW 1 (pc' := 12) (ls' := [mv_R 100, mv_I 0, mv_I a, mv_I (sp_rfv so (z : Int) (V 0 8)), mv_U, mv_U, mv_U]) (st' := [mv_I (sp_rfv so (z : Int) (V 0 8))]) (M1 := M) rfl ?_
    exact mv_retW (fun n => rfl) ⟨congrArg mv_I (by first | with_reducible rfl | omega), hI⟩
theorem sp_k25_1 (a : Int) : sp_call 86 179 [mv_I 1, mv_I a] [mv_I 1, mv_I a] := by
  refine sp_mkW (lc := [mv_R 0, mv_I 1, mv_I a, mv_U, mv_U, mv_U]) (lm := [mv_R 100, mv_I 1, mv_I a, mv_U, mv_U, mv_U, mv_U]) rfl rfl (fun M hI => ?_)
  have hI2 := hI
  obtain ⟨V, P, nt, B, K, t, h⟩ := hI2
  have h' := h
  obtain ⟨⟨hc, hm, ho⟩, ⟨hy, hl, hn1, hn⟩, ⟨hct, hmt, hn7, hn12⟩, _⟩ := h'
  have h8 := sp_ok_s8 ho
  have h9 := sp_ok_s9 ho
  obtain ⟨so, sz, ⟨hs1, hs2, so0, so1⟩, ⟨hz1, hz2, sz0, sz1⟩, hcl⟩ := sp_sh_get h 1 (by decide)
  obtain ⟨z, rfl⟩ : ∃ x : Nat, sz = (x : Int) := ⟨sz.toNat, by omega⟩
  have hnz := sp_rfv_n so z (V 0 8)
  by_cases h0 : 0 ≤ a
  · obtain ⟨u, rfl⟩ : ∃ x : Nat, a = (x : Int) := ⟨a.toNat, by omega⟩
    refine mv_goW 3 (pc' := 3) (ls' := [mv_R 0, mv_I 1, mv_I (u : Int), mv_U, mv_U, mv_U]) (st' := [mv_I (u : Int), mv_I 1, mv_R 0]) (M1 := M) rfl ?_
    by_cases ha23 : (so ≠ -1 ∧ (z : Int) ≤ V 0 8) ∧ 0 ≤ (u : Int) ∧ (u : Int) < V 0 9
    · refine mv_callPW (st2 := [mv_I 0]) rfl (Or.inl rfl) rfl rfl rfl (sp_crj_1_t hc ho hs1 hz1 ha23) (by first | decide | omega) ?_
      refine mv_goW 3 (pc' := if 0 = 0 then 13 else 11) (ls' := [mv_R 0, mv_I 1, mv_I (u : Int), mv_I 0, mv_U, mv_U]) (st' := []) (M1 := M) rfl ?_
      refine mv_ttW (by first | decide | omega) ?_
      refine mv_goW 4 (pc' := 21) (ls' := [mv_R 0, mv_I 1, mv_I (u : Int), mv_I 0, mv_U, mv_U]) (st' := [mv_R 30, mv_R 50]) (M1 := M) rfl ?_
      refine mv_callW (st2 := []) rfl (Or.inl rfl) rfl rfl rfl (sp_become_50_30 hc (by omega) (by omega)) (by first | decide | omega) (fun Ma24 hm25 => ?_)
      have hb := hm25
      refine mv_goW 4 (pc' := 30) (ls' := [mv_R 0, mv_I 1, mv_I (u : Int), mv_I 0, mv_I 0, mv_I 0]) (st' := []) (M1 := Ma24) rfl ?_
      have huv : (u : Int) < V 0 9 := by omega
      have hzv : (z : Int) ≤ V 0 8 := by omega
      refine sp_clw_1 (d := 12) (V := V) (M0 := Ma24) (g := fun j => M 119 (40 * 1 + j)) ho hl hn (sp_cts_ag hct hb.1 hn (fun i h1 h2 => by simp only [List.mem_cons, List.not_mem_nil, or_false]; omega)) huv hn1 (by rw [hb.1 0 (by decide)]; exact hn7) (by rw [hb.1 _ (by decide)]; exact hz1) hzv (fun j hj => by rw [hb.1 _ (by decide)]; exact hcl j (by omega)) (fun M2 hw => ?_) nt.toNat 0 Ma24 V (by omega) hb.2 (fun _ => rfl) mv_ag.rf
      have hw2 : mv_ag [36, 37, 50, 51, 52, 53, 54, 55, 56, 57] M M2 := (hb.1.wd (by decide)).tr (hw.wd (by decide))
      have hm := sp_m_ag2 hm hw2 (by decide)
      have hmt := sp_mts_ag hmt hw2 (by decide)
      have hs2 : M2 117 1 = so := by rw [hw2 117 (by decide)]; exact hs2
      have hz2 : M2 118 1 = (z : Int) := by rw [hw2 118 (by decide)]; exact hz2
      refine mv_goW 1 (pc' := 82) (ls' := [mv_R 0, mv_I 1, mv_I (u : Int), mv_I 0, mv_I (sp_bits (sp_pa V P (fun j => M 119 (40 * 1 + j)) z u 0 11) nt.toNat), mv_I ((nt.toNat : Nat) : Int)]) (st' := [mv_I (sp_bits (sp_pa V P (fun j => M 119 (40 * 1 + j)) z u 0 11) nt.toNat)]) (M1 := M2) rfl ?_
      rw [show ((nt.toNat : Nat) : Int) = (nt.toNat : Int) from by omega]
      refine mv_retW (fun n => rfl) ⟨_, rfl, ?_⟩
      refine mv_goW 3 (pc' := 3) (ls' := [mv_R 100, mv_I 1, mv_I (u : Int), mv_U, mv_U, mv_U, mv_U]) (st' := [mv_I (u : Int), mv_I 1, mv_R 100]) (M1 := M2) rfl ?_
      have ha26 : (so ≠ -1 ∧ (z : Int) ≤ V 0 8) ∧ 0 ≤ (u : Int) ∧ (u : Int) < V 0 9 := by omega
      refine mv_callPW (st2 := [mv_I 0]) rfl (Or.inl rfl) rfl rfl rfl (sp_mrj_t (S := 1) (by decide) hm ho hs2 hz2 ha26) (by first | decide | omega) ?_
      refine mv_goW 3 (pc' := if 0 = 0 then 13 else 11) (ls' := [mv_R 100, mv_I 1, mv_I (u : Int), mv_I 0, mv_U, mv_U, mv_U]) (st' := []) (M1 := M2) rfl ?_
      refine mv_ttW (by first | decide | omega) ?_
      refine mv_goW 2 (pc' := 17) (ls' := [mv_R 100, mv_I 1, mv_I (u : Int), mv_I 0, mv_U, mv_U, mv_U]) (st' := [mv_I (M2 100 13)]) (M1 := M2) rfl ?_
      have hr3 := sp_ok_s11 ho
      rw [show M2 100 13 = V 0 11 from by exact sp_m_s11 hm]
      refine mv_goW 5 (pc' := 25) (ls' := [mv_R 100, mv_I 1, mv_I (u : Int), mv_I 0, mv_I (V 0 11), mv_I 0, mv_I 0]) (st' := []) (M1 := M2) rfl ?_
      refine sp_mlw (d := 12) (V := V) (M0 := M2) (S := 1) (g := fun j => M 119 (40 * 1 + j)) ho hl hn hmt huv hn1 (by rw [hw2 100 (by decide)]; exact hn12) (by decide) hz2 hzv (fun j hj => by rw [hw2 119 (by decide)]) (fun M3 Vc hm3 hVc3 hy h100 => ?_) nt.toNat 0 M2 V (by omega) hm (fun _ => rfl) mv_ag.rf (fun _ _ => rfl)
      refine mv_goW 4 (pc' := 77) (ls' := [mv_R 100, mv_I 1, mv_I (u : Int), mv_I 0, mv_I (V 0 11), mv_I (sp_bits (sp_pa V P (fun j => M 119 (40 * 1 + j)) z u 0 11) nt.toNat), mv_I ((nt.toNat : Nat) : Int)]) (st' := [mv_I (sp_bits (sp_pa V P (fun j => M 119 (40 * 1 + j)) z u 0 11) nt.toNat)]) (M1 := (mv_st M3 100 (mv_up (M3 100) 13 (V 0 11)))) rfl ?_
      rw [show ((nt.toNat : Nat) : Int) = (nt.toNat : Int) from by omega]
      exact mv_retW (fun n => rfl) ⟨congrArg mv_I (by first | with_reducible rfl | omega), sp_bend h hw2 ((hy.wd (by decide)).st (by decide)) ⟨h100 9 (by decide), h100 12 (by decide), h100 14 (by decide)⟩ (by have q := sp_m_alt11 (x := V 0 11) hm3; rw [hVc3, sp_alt_id] at q; exact q)⟩
    · refine mv_callPW (st2 := [mv_I (sp_rfv so (z : Int) (V 0 8))]) rfl (Or.inl rfl) rfl rfl rfl (sp_crj_1_f hc ho hs1 hz1 ha23) (by first | decide | omega) ?_
      refine mv_goW 3 (pc' := if (sp_rfv so (z : Int) (V 0 8)) = 0 then 13 else 11) (ls' := [mv_R 0, mv_I 1, mv_I (u : Int), mv_I (sp_rfv so (z : Int) (V 0 8)), mv_U, mv_U]) (st' := []) (M1 := M) rfl ?_
      refine mv_ffW (by omega) ?_
      refine mv_goW 1 (pc' := 12) (ls' := [mv_R 0, mv_I 1, mv_I (u : Int), mv_I (sp_rfv so (z : Int) (V 0 8)), mv_U, mv_U]) (st' := [mv_I (sp_rfv so (z : Int) (V 0 8))]) (M1 := M) rfl ?_
      refine mv_retW (fun n => rfl) ⟨_, rfl, ?_⟩
      refine mv_goW 3 (pc' := 3) (ls' := [mv_R 100, mv_I 1, mv_I (u : Int), mv_U, mv_U, mv_U, mv_U]) (st' := [mv_I (u : Int), mv_I 1, mv_R 100]) (M1 := M) rfl ?_
      have ha27 : ¬ ((so ≠ -1 ∧ (z : Int) ≤ V 0 8) ∧ 0 ≤ (u : Int) ∧ (u : Int) < V 0 9) := by omega
      refine mv_callPW (st2 := [mv_I (sp_rfv so (z : Int) (V 0 8))]) rfl (Or.inl rfl) rfl rfl rfl (sp_mrj_f (S := 1) (by decide) hm ho hs2 hz2 ha27) (by first | decide | omega) ?_
      refine mv_goW 3 (pc' := if (sp_rfv so (z : Int) (V 0 8)) = 0 then 13 else 11) (ls' := [mv_R 100, mv_I 1, mv_I (u : Int), mv_I (sp_rfv so (z : Int) (V 0 8)), mv_U, mv_U, mv_U]) (st' := []) (M1 := M) rfl ?_
      refine mv_ffW (by omega) ?_
      refine mv_goW 1 (pc' := 12) (ls' := [mv_R 100, mv_I 1, mv_I (u : Int), mv_I (sp_rfv so (z : Int) (V 0 8)), mv_U, mv_U, mv_U]) (st' := [mv_I (sp_rfv so (z : Int) (V 0 8))]) (M1 := M) rfl ?_
      exact mv_retW (fun n => rfl) ⟨congrArg mv_I (by first | with_reducible rfl | omega), hI⟩
  · refine mv_goW 3 (pc' := 3) (ls' := [mv_R 0, mv_I 1, mv_I a, mv_U, mv_U, mv_U]) (st' := [mv_I a, mv_I 1, mv_R 0]) (M1 := M) rfl ?_
    have ha28 : ¬ ((so ≠ -1 ∧ (z : Int) ≤ V 0 8) ∧ 0 ≤ a ∧ a < V 0 9) := by omega
    refine mv_callPW (st2 := [mv_I (sp_rfv so (z : Int) (V 0 8))]) rfl (Or.inl rfl) rfl rfl rfl (sp_crj_1_f hc ho hs1 hz1 ha28) (by first | decide | omega) ?_
    refine mv_goW 3 (pc' := if (sp_rfv so (z : Int) (V 0 8)) = 0 then 13 else 11) (ls' := [mv_R 0, mv_I 1, mv_I a, mv_I (sp_rfv so (z : Int) (V 0 8)), mv_U, mv_U]) (st' := []) (M1 := M) rfl ?_
    refine mv_ffW (by omega) ?_
    refine mv_goW 1 (pc' := 12) (ls' := [mv_R 0, mv_I 1, mv_I a, mv_I (sp_rfv so (z : Int) (V 0 8)), mv_U, mv_U]) (st' := [mv_I (sp_rfv so (z : Int) (V 0 8))]) (M1 := M) rfl ?_
    refine mv_retW (fun n => rfl) ⟨_, rfl, ?_⟩
    refine mv_goW 3 (pc' := 3) (ls' := [mv_R 100, mv_I 1, mv_I a, mv_U, mv_U, mv_U, mv_U]) (st' := [mv_I a, mv_I 1, mv_R 100]) (M1 := M) rfl ?_
    have ha29 : ¬ ((so ≠ -1 ∧ (z : Int) ≤ V 0 8) ∧ 0 ≤ a ∧ a < V 0 9) := by omega
    refine mv_callPW (st2 := [mv_I (sp_rfv so (z : Int) (V 0 8))]) rfl (Or.inl rfl) rfl rfl rfl (sp_mrj_f (S := 1) (by decide) hm ho hs2 hz2 ha29) (by first | decide | omega) ?_
    refine mv_goW 3 (pc' := if (sp_rfv so (z : Int) (V 0 8)) = 0 then 13 else 11) (ls' := [mv_R 100, mv_I 1, mv_I a, mv_I (sp_rfv so (z : Int) (V 0 8)), mv_U, mv_U, mv_U]) (st' := []) (M1 := M) rfl ?_
    refine mv_ffW (by omega) ?_
    refine mv_goW 1 (pc' := 12) (ls' := [mv_R 100, mv_I 1, mv_I a, mv_I (sp_rfv so (z : Int) (V 0 8)), mv_U, mv_U, mv_U]) (st' := [mv_I (sp_rfv so (z : Int) (V 0 8))]) (M1 := M) rfl ?_
    exact mv_retW (fun n => rfl) ⟨congrArg mv_I (by first | with_reducible rfl | omega), hI⟩
theorem sp_k25_2 (a : Int) : sp_call 86 179 [mv_I 2, mv_I a] [mv_I 2, mv_I a] := by
  refine sp_mkW (lc := [mv_R 0, mv_I 2, mv_I a, mv_U, mv_U, mv_U]) (lm := [mv_R 100, mv_I 2, mv_I a, mv_U, mv_U, mv_U, mv_U]) rfl rfl (fun M hI => ?_)
  have hI2 := hI
  obtain ⟨V, P, nt, B, K, t, h⟩ := hI2
  have h' := h
  obtain ⟨⟨hc, hm, ho⟩, ⟨hy, hl, hn1, hn⟩, ⟨hct, hmt, hn7, hn12⟩, _⟩ := h'
  have h8 := sp_ok_s8 ho
  have h9 := sp_ok_s9 ho
  obtain ⟨so, sz, ⟨hs1, hs2, so0, so1⟩, ⟨hz1, hz2, sz0, sz1⟩, hcl⟩ := sp_sh_get h 2 (by decide)
  obtain ⟨z, rfl⟩ : ∃ x : Nat, sz = (x : Int) := ⟨sz.toNat, by omega⟩
  have hnz := sp_rfv_n so z (V 0 8)
  by_cases h0 : 0 ≤ a
  · obtain ⟨u, rfl⟩ : ∃ x : Nat, a = (x : Int) := ⟨a.toNat, by omega⟩
    refine mv_goW 3 (pc' := 3) (ls' := [mv_R 0, mv_I 2, mv_I (u : Int), mv_U, mv_U, mv_U]) (st' := [mv_I (u : Int), mv_I 2, mv_R 0]) (M1 := M) rfl ?_
    by_cases ha30 : (so ≠ -1 ∧ (z : Int) ≤ V 0 8) ∧ 0 ≤ (u : Int) ∧ (u : Int) < V 0 9
    · refine mv_callPW (st2 := [mv_I 0]) rfl (Or.inl rfl) rfl rfl rfl (sp_crj_2_t hc ho hs1 hz1 ha30) (by first | decide | omega) ?_
      refine mv_goW 3 (pc' := if 0 = 0 then 13 else 11) (ls' := [mv_R 0, mv_I 2, mv_I (u : Int), mv_I 0, mv_U, mv_U]) (st' := []) (M1 := M) rfl ?_
      refine mv_ttW (by first | decide | omega) ?_
      refine mv_goW 4 (pc' := 21) (ls' := [mv_R 0, mv_I 2, mv_I (u : Int), mv_I 0, mv_U, mv_U]) (st' := [mv_R 30, mv_R 50]) (M1 := M) rfl ?_
      refine mv_callW (st2 := []) rfl (Or.inl rfl) rfl rfl rfl (sp_become_50_30 hc (by omega) (by omega)) (by first | decide | omega) (fun Ma31 hm32 => ?_)
      have hb := hm32
      refine mv_goW 4 (pc' := 30) (ls' := [mv_R 0, mv_I 2, mv_I (u : Int), mv_I 0, mv_I 0, mv_I 0]) (st' := []) (M1 := Ma31) rfl ?_
      have huv : (u : Int) < V 0 9 := by omega
      have hzv : (z : Int) ≤ V 0 8 := by omega
      refine sp_clw_2 (d := 12) (V := V) (M0 := Ma31) (g := fun j => M 119 (40 * 2 + j)) ho hl hn (sp_cts_ag hct hb.1 hn (fun i h1 h2 => by simp only [List.mem_cons, List.not_mem_nil, or_false]; omega)) huv hn1 (by rw [hb.1 0 (by decide)]; exact hn7) (by rw [hb.1 _ (by decide)]; exact hz1) hzv (fun j hj => by rw [hb.1 _ (by decide)]; exact hcl j (by omega)) (fun M2 hw => ?_) nt.toNat 0 Ma31 V (by omega) hb.2 (fun _ => rfl) mv_ag.rf
      have hw2 : mv_ag [36, 37, 50, 51, 52, 53, 54, 55, 56, 57] M M2 := (hb.1.wd (by decide)).tr (hw.wd (by decide))
      have hm := sp_m_ag2 hm hw2 (by decide)
      have hmt := sp_mts_ag hmt hw2 (by decide)
      have hs2 : M2 117 2 = so := by rw [hw2 117 (by decide)]; exact hs2
      have hz2 : M2 118 2 = (z : Int) := by rw [hw2 118 (by decide)]; exact hz2
      refine mv_goW 1 (pc' := 82) (ls' := [mv_R 0, mv_I 2, mv_I (u : Int), mv_I 0, mv_I (sp_bits (sp_pa V P (fun j => M 119 (40 * 2 + j)) z u 0 11) nt.toNat), mv_I ((nt.toNat : Nat) : Int)]) (st' := [mv_I (sp_bits (sp_pa V P (fun j => M 119 (40 * 2 + j)) z u 0 11) nt.toNat)]) (M1 := M2) rfl ?_
      rw [show ((nt.toNat : Nat) : Int) = (nt.toNat : Int) from by omega]
      refine mv_retW (fun n => rfl) ⟨_, rfl, ?_⟩
      refine mv_goW 3 (pc' := 3) (ls' := [mv_R 100, mv_I 2, mv_I (u : Int), mv_U, mv_U, mv_U, mv_U]) (st' := [mv_I (u : Int), mv_I 2, mv_R 100]) (M1 := M2) rfl ?_
      have ha33 : (so ≠ -1 ∧ (z : Int) ≤ V 0 8) ∧ 0 ≤ (u : Int) ∧ (u : Int) < V 0 9 := by omega
      refine mv_callPW (st2 := [mv_I 0]) rfl (Or.inl rfl) rfl rfl rfl (sp_mrj_t (S := 2) (by decide) hm ho hs2 hz2 ha33) (by first | decide | omega) ?_
      refine mv_goW 3 (pc' := if 0 = 0 then 13 else 11) (ls' := [mv_R 100, mv_I 2, mv_I (u : Int), mv_I 0, mv_U, mv_U, mv_U]) (st' := []) (M1 := M2) rfl ?_
      refine mv_ttW (by first | decide | omega) ?_
      refine mv_goW 2 (pc' := 17) (ls' := [mv_R 100, mv_I 2, mv_I (u : Int), mv_I 0, mv_U, mv_U, mv_U]) (st' := [mv_I (M2 100 13)]) (M1 := M2) rfl ?_
      have hr5 := sp_ok_s11 ho
      rw [show M2 100 13 = V 0 11 from by exact sp_m_s11 hm]
      refine mv_goW 5 (pc' := 25) (ls' := [mv_R 100, mv_I 2, mv_I (u : Int), mv_I 0, mv_I (V 0 11), mv_I 0, mv_I 0]) (st' := []) (M1 := M2) rfl ?_
      refine sp_mlw (d := 12) (V := V) (M0 := M2) (S := 2) (g := fun j => M 119 (40 * 2 + j)) ho hl hn hmt huv hn1 (by rw [hw2 100 (by decide)]; exact hn12) (by decide) hz2 hzv (fun j hj => by rw [hw2 119 (by decide)]) (fun M3 Vc hm3 hVc3 hy h100 => ?_) nt.toNat 0 M2 V (by omega) hm (fun _ => rfl) mv_ag.rf (fun _ _ => rfl)
      refine mv_goW 4 (pc' := 77) (ls' := [mv_R 100, mv_I 2, mv_I (u : Int), mv_I 0, mv_I (V 0 11), mv_I (sp_bits (sp_pa V P (fun j => M 119 (40 * 2 + j)) z u 0 11) nt.toNat), mv_I ((nt.toNat : Nat) : Int)]) (st' := [mv_I (sp_bits (sp_pa V P (fun j => M 119 (40 * 2 + j)) z u 0 11) nt.toNat)]) (M1 := (mv_st M3 100 (mv_up (M3 100) 13 (V 0 11)))) rfl ?_
      rw [show ((nt.toNat : Nat) : Int) = (nt.toNat : Int) from by omega]
      exact mv_retW (fun n => rfl) ⟨congrArg mv_I (by first | with_reducible rfl | omega), sp_bend h hw2 ((hy.wd (by decide)).st (by decide)) ⟨h100 9 (by decide), h100 12 (by decide), h100 14 (by decide)⟩ (by have q := sp_m_alt11 (x := V 0 11) hm3; rw [hVc3, sp_alt_id] at q; exact q)⟩
    · refine mv_callPW (st2 := [mv_I (sp_rfv so (z : Int) (V 0 8))]) rfl (Or.inl rfl) rfl rfl rfl (sp_crj_2_f hc ho hs1 hz1 ha30) (by first | decide | omega) ?_
      refine mv_goW 3 (pc' := if (sp_rfv so (z : Int) (V 0 8)) = 0 then 13 else 11) (ls' := [mv_R 0, mv_I 2, mv_I (u : Int), mv_I (sp_rfv so (z : Int) (V 0 8)), mv_U, mv_U]) (st' := []) (M1 := M) rfl ?_
      refine mv_ffW (by omega) ?_
      refine mv_goW 1 (pc' := 12) (ls' := [mv_R 0, mv_I 2, mv_I (u : Int), mv_I (sp_rfv so (z : Int) (V 0 8)), mv_U, mv_U]) (st' := [mv_I (sp_rfv so (z : Int) (V 0 8))]) (M1 := M) rfl ?_
      refine mv_retW (fun n => rfl) ⟨_, rfl, ?_⟩
      refine mv_goW 3 (pc' := 3) (ls' := [mv_R 100, mv_I 2, mv_I (u : Int), mv_U, mv_U, mv_U, mv_U]) (st' := [mv_I (u : Int), mv_I 2, mv_R 100]) (M1 := M) rfl ?_
      have ha34 : ¬ ((so ≠ -1 ∧ (z : Int) ≤ V 0 8) ∧ 0 ≤ (u : Int) ∧ (u : Int) < V 0 9) := by omega
      refine mv_callPW (st2 := [mv_I (sp_rfv so (z : Int) (V 0 8))]) rfl (Or.inl rfl) rfl rfl rfl (sp_mrj_f (S := 2) (by decide) hm ho hs2 hz2 ha34) (by first | decide | omega) ?_
      refine mv_goW 3 (pc' := if (sp_rfv so (z : Int) (V 0 8)) = 0 then 13 else 11) (ls' := [mv_R 100, mv_I 2, mv_I (u : Int), mv_I (sp_rfv so (z : Int) (V 0 8)), mv_U, mv_U, mv_U]) (st' := []) (M1 := M) rfl ?_
      refine mv_ffW (by omega) ?_
      refine mv_goW 1 (pc' := 12) (ls' := [mv_R 100, mv_I 2, mv_I (u : Int), mv_I (sp_rfv so (z : Int) (V 0 8)), mv_U, mv_U, mv_U]) (st' := [mv_I (sp_rfv so (z : Int) (V 0 8))]) (M1 := M) rfl ?_
      exact mv_retW (fun n => rfl) ⟨congrArg mv_I (by first | with_reducible rfl | omega), hI⟩
  · refine mv_goW 3 (pc' := 3) (ls' := [mv_R 0, mv_I 2, mv_I a, mv_U, mv_U, mv_U]) (st' := [mv_I a, mv_I 2, mv_R 0]) (M1 := M) rfl ?_
    have ha35 : ¬ ((so ≠ -1 ∧ (z : Int) ≤ V 0 8) ∧ 0 ≤ a ∧ a < V 0 9) := by omega
    refine mv_callPW (st2 := [mv_I (sp_rfv so (z : Int) (V 0 8))]) rfl (Or.inl rfl) rfl rfl rfl (sp_crj_2_f hc ho hs1 hz1 ha35) (by first | decide | omega) ?_
    refine mv_goW 3 (pc' := if (sp_rfv so (z : Int) (V 0 8)) = 0 then 13 else 11) (ls' := [mv_R 0, mv_I 2, mv_I a, mv_I (sp_rfv so (z : Int) (V 0 8)), mv_U, mv_U]) (st' := []) (M1 := M) rfl ?_
    refine mv_ffW (by omega) ?_
    refine mv_goW 1 (pc' := 12) (ls' := [mv_R 0, mv_I 2, mv_I a, mv_I (sp_rfv so (z : Int) (V 0 8)), mv_U, mv_U]) (st' := [mv_I (sp_rfv so (z : Int) (V 0 8))]) (M1 := M) rfl ?_
    refine mv_retW (fun n => rfl) ⟨_, rfl, ?_⟩
    refine mv_goW 3 (pc' := 3) (ls' := [mv_R 100, mv_I 2, mv_I a, mv_U, mv_U, mv_U, mv_U]) (st' := [mv_I a, mv_I 2, mv_R 100]) (M1 := M) rfl ?_
    have ha36 : ¬ ((so ≠ -1 ∧ (z : Int) ≤ V 0 8) ∧ 0 ≤ a ∧ a < V 0 9) := by omega
    refine mv_callPW (st2 := [mv_I (sp_rfv so (z : Int) (V 0 8))]) rfl (Or.inl rfl) rfl rfl rfl (sp_mrj_f (S := 2) (by decide) hm ho hs2 hz2 ha36) (by first | decide | omega) ?_
    refine mv_goW 3 (pc' := if (sp_rfv so (z : Int) (V 0 8)) = 0 then 13 else 11) (ls' := [mv_R 100, mv_I 2, mv_I a, mv_I (sp_rfv so (z : Int) (V 0 8)), mv_U, mv_U, mv_U]) (st' := []) (M1 := M) rfl ?_
    refine mv_ffW (by omega) ?_
    refine mv_goW 1 (pc' := 12) (ls' := [mv_R 100, mv_I 2, mv_I a, mv_I (sp_rfv so (z : Int) (V 0 8)), mv_U, mv_U, mv_U]) (st' := [mv_I (sp_rfv so (z : Int) (V 0 8))]) (M1 := M) rfl ?_
    exact mv_retW (fun n => rfl) ⟨congrArg mv_I (by first | with_reducible rfl | omega), hI⟩
theorem sp_k25_3 (a : Int) : sp_call 86 179 [mv_I 3, mv_I a] [mv_I 3, mv_I a] := by
  refine sp_mkW (lc := [mv_R 0, mv_I 3, mv_I a, mv_U, mv_U, mv_U]) (lm := [mv_R 100, mv_I 3, mv_I a, mv_U, mv_U, mv_U, mv_U]) rfl rfl (fun M hI => ?_)
  have hI2 := hI
  obtain ⟨V, P, nt, B, K, t, h⟩ := hI2
  have h' := h
  obtain ⟨⟨hc, hm, ho⟩, ⟨hy, hl, hn1, hn⟩, ⟨hct, hmt, hn7, hn12⟩, _⟩ := h'
  have h8 := sp_ok_s8 ho
  have h9 := sp_ok_s9 ho
  obtain ⟨so, sz, ⟨hs1, hs2, so0, so1⟩, ⟨hz1, hz2, sz0, sz1⟩, hcl⟩ := sp_sh_get h 3 (by decide)
  obtain ⟨z, rfl⟩ : ∃ x : Nat, sz = (x : Int) := ⟨sz.toNat, by omega⟩
  have hnz := sp_rfv_n so z (V 0 8)
  by_cases h0 : 0 ≤ a
  · obtain ⟨u, rfl⟩ : ∃ x : Nat, a = (x : Int) := ⟨a.toNat, by omega⟩
    refine mv_goW 3 (pc' := 3) (ls' := [mv_R 0, mv_I 3, mv_I (u : Int), mv_U, mv_U, mv_U]) (st' := [mv_I (u : Int), mv_I 3, mv_R 0]) (M1 := M) rfl ?_
    by_cases ha37 : (so ≠ -1 ∧ (z : Int) ≤ V 0 8) ∧ 0 ≤ (u : Int) ∧ (u : Int) < V 0 9
    · refine mv_callPW (st2 := [mv_I 0]) rfl (Or.inl rfl) rfl rfl rfl (sp_crj_3_t hc ho hs1 hz1 ha37) (by first | decide | omega) ?_
      refine mv_goW 3 (pc' := if 0 = 0 then 13 else 11) (ls' := [mv_R 0, mv_I 3, mv_I (u : Int), mv_I 0, mv_U, mv_U]) (st' := []) (M1 := M) rfl ?_
      refine mv_ttW (by first | decide | omega) ?_
      refine mv_goW 4 (pc' := 21) (ls' := [mv_R 0, mv_I 3, mv_I (u : Int), mv_I 0, mv_U, mv_U]) (st' := [mv_R 30, mv_R 50]) (M1 := M) rfl ?_
      refine mv_callW (st2 := []) rfl (Or.inl rfl) rfl rfl rfl (sp_become_50_30 hc (by omega) (by omega)) (by first | decide | omega) (fun Ma38 hm39 => ?_)
      have hb := hm39
      refine mv_goW 4 (pc' := 30) (ls' := [mv_R 0, mv_I 3, mv_I (u : Int), mv_I 0, mv_I 0, mv_I 0]) (st' := []) (M1 := Ma38) rfl ?_
      have huv : (u : Int) < V 0 9 := by omega
      have hzv : (z : Int) ≤ V 0 8 := by omega
      refine sp_clw_3 (d := 12) (V := V) (M0 := Ma38) (g := fun j => M 119 (40 * 3 + j)) ho hl hn (sp_cts_ag hct hb.1 hn (fun i h1 h2 => by simp only [List.mem_cons, List.not_mem_nil, or_false]; omega)) huv hn1 (by rw [hb.1 0 (by decide)]; exact hn7) (by rw [hb.1 _ (by decide)]; exact hz1) hzv (fun j hj => by rw [hb.1 _ (by decide)]; exact hcl j (by omega)) (fun M2 hw => ?_) nt.toNat 0 Ma38 V (by omega) hb.2 (fun _ => rfl) mv_ag.rf
      have hw2 : mv_ag [36, 37, 50, 51, 52, 53, 54, 55, 56, 57] M M2 := (hb.1.wd (by decide)).tr (hw.wd (by decide))
      have hm := sp_m_ag2 hm hw2 (by decide)
      have hmt := sp_mts_ag hmt hw2 (by decide)
      have hs2 : M2 117 3 = so := by rw [hw2 117 (by decide)]; exact hs2
      have hz2 : M2 118 3 = (z : Int) := by rw [hw2 118 (by decide)]; exact hz2
      refine mv_goW 1 (pc' := 82) (ls' := [mv_R 0, mv_I 3, mv_I (u : Int), mv_I 0, mv_I (sp_bits (sp_pa V P (fun j => M 119 (40 * 3 + j)) z u 0 11) nt.toNat), mv_I ((nt.toNat : Nat) : Int)]) (st' := [mv_I (sp_bits (sp_pa V P (fun j => M 119 (40 * 3 + j)) z u 0 11) nt.toNat)]) (M1 := M2) rfl ?_
      rw [show ((nt.toNat : Nat) : Int) = (nt.toNat : Int) from by omega]
      refine mv_retW (fun n => rfl) ⟨_, rfl, ?_⟩
      refine mv_goW 3 (pc' := 3) (ls' := [mv_R 100, mv_I 3, mv_I (u : Int), mv_U, mv_U, mv_U, mv_U]) (st' := [mv_I (u : Int), mv_I 3, mv_R 100]) (M1 := M2) rfl ?_
      have ha40 : (so ≠ -1 ∧ (z : Int) ≤ V 0 8) ∧ 0 ≤ (u : Int) ∧ (u : Int) < V 0 9 := by omega
      refine mv_callPW (st2 := [mv_I 0]) rfl (Or.inl rfl) rfl rfl rfl (sp_mrj_t (S := 3) (by decide) hm ho hs2 hz2 ha40) (by first | decide | omega) ?_
      refine mv_goW 3 (pc' := if 0 = 0 then 13 else 11) (ls' := [mv_R 100, mv_I 3, mv_I (u : Int), mv_I 0, mv_U, mv_U, mv_U]) (st' := []) (M1 := M2) rfl ?_
      refine mv_ttW (by first | decide | omega) ?_
      refine mv_goW 2 (pc' := 17) (ls' := [mv_R 100, mv_I 3, mv_I (u : Int), mv_I 0, mv_U, mv_U, mv_U]) (st' := [mv_I (M2 100 13)]) (M1 := M2) rfl ?_
      have hr7 := sp_ok_s11 ho
      rw [show M2 100 13 = V 0 11 from by exact sp_m_s11 hm]
      refine mv_goW 5 (pc' := 25) (ls' := [mv_R 100, mv_I 3, mv_I (u : Int), mv_I 0, mv_I (V 0 11), mv_I 0, mv_I 0]) (st' := []) (M1 := M2) rfl ?_
      refine sp_mlw (d := 12) (V := V) (M0 := M2) (S := 3) (g := fun j => M 119 (40 * 3 + j)) ho hl hn hmt huv hn1 (by rw [hw2 100 (by decide)]; exact hn12) (by decide) hz2 hzv (fun j hj => by rw [hw2 119 (by decide)]) (fun M3 Vc hm3 hVc3 hy h100 => ?_) nt.toNat 0 M2 V (by omega) hm (fun _ => rfl) mv_ag.rf (fun _ _ => rfl)
      refine mv_goW 4 (pc' := 77) (ls' := [mv_R 100, mv_I 3, mv_I (u : Int), mv_I 0, mv_I (V 0 11), mv_I (sp_bits (sp_pa V P (fun j => M 119 (40 * 3 + j)) z u 0 11) nt.toNat), mv_I ((nt.toNat : Nat) : Int)]) (st' := [mv_I (sp_bits (sp_pa V P (fun j => M 119 (40 * 3 + j)) z u 0 11) nt.toNat)]) (M1 := (mv_st M3 100 (mv_up (M3 100) 13 (V 0 11)))) rfl ?_
      rw [show ((nt.toNat : Nat) : Int) = (nt.toNat : Int) from by omega]
      exact mv_retW (fun n => rfl) ⟨congrArg mv_I (by first | with_reducible rfl | omega), sp_bend h hw2 ((hy.wd (by decide)).st (by decide)) ⟨h100 9 (by decide), h100 12 (by decide), h100 14 (by decide)⟩ (by have q := sp_m_alt11 (x := V 0 11) hm3; rw [hVc3, sp_alt_id] at q; exact q)⟩
    · refine mv_callPW (st2 := [mv_I (sp_rfv so (z : Int) (V 0 8))]) rfl (Or.inl rfl) rfl rfl rfl (sp_crj_3_f hc ho hs1 hz1 ha37) (by first | decide | omega) ?_
      refine mv_goW 3 (pc' := if (sp_rfv so (z : Int) (V 0 8)) = 0 then 13 else 11) (ls' := [mv_R 0, mv_I 3, mv_I (u : Int), mv_I (sp_rfv so (z : Int) (V 0 8)), mv_U, mv_U]) (st' := []) (M1 := M) rfl ?_
      refine mv_ffW (by omega) ?_
      refine mv_goW 1 (pc' := 12) (ls' := [mv_R 0, mv_I 3, mv_I (u : Int), mv_I (sp_rfv so (z : Int) (V 0 8)), mv_U, mv_U]) (st' := [mv_I (sp_rfv so (z : Int) (V 0 8))]) (M1 := M) rfl ?_
      refine mv_retW (fun n => rfl) ⟨_, rfl, ?_⟩
      refine mv_goW 3 (pc' := 3) (ls' := [mv_R 100, mv_I 3, mv_I (u : Int), mv_U, mv_U, mv_U, mv_U]) (st' := [mv_I (u : Int), mv_I 3, mv_R 100]) (M1 := M) rfl ?_
      have ha41 : ¬ ((so ≠ -1 ∧ (z : Int) ≤ V 0 8) ∧ 0 ≤ (u : Int) ∧ (u : Int) < V 0 9) := by omega
      refine mv_callPW (st2 := [mv_I (sp_rfv so (z : Int) (V 0 8))]) rfl (Or.inl rfl) rfl rfl rfl (sp_mrj_f (S := 3) (by decide) hm ho hs2 hz2 ha41) (by first | decide | omega) ?_
      refine mv_goW 3 (pc' := if (sp_rfv so (z : Int) (V 0 8)) = 0 then 13 else 11) (ls' := [mv_R 100, mv_I 3, mv_I (u : Int), mv_I (sp_rfv so (z : Int) (V 0 8)), mv_U, mv_U, mv_U]) (st' := []) (M1 := M) rfl ?_
      refine mv_ffW (by omega) ?_
      refine mv_goW 1 (pc' := 12) (ls' := [mv_R 100, mv_I 3, mv_I (u : Int), mv_I (sp_rfv so (z : Int) (V 0 8)), mv_U, mv_U, mv_U]) (st' := [mv_I (sp_rfv so (z : Int) (V 0 8))]) (M1 := M) rfl ?_
      exact mv_retW (fun n => rfl) ⟨congrArg mv_I (by first | with_reducible rfl | omega), hI⟩
  · refine mv_goW 3 (pc' := 3) (ls' := [mv_R 0, mv_I 3, mv_I a, mv_U, mv_U, mv_U]) (st' := [mv_I a, mv_I 3, mv_R 0]) (M1 := M) rfl ?_
    have ha42 : ¬ ((so ≠ -1 ∧ (z : Int) ≤ V 0 8) ∧ 0 ≤ a ∧ a < V 0 9) := by omega
    refine mv_callPW (st2 := [mv_I (sp_rfv so (z : Int) (V 0 8))]) rfl (Or.inl rfl) rfl rfl rfl (sp_crj_3_f hc ho hs1 hz1 ha42) (by first | decide | omega) ?_
    refine mv_goW 3 (pc' := if (sp_rfv so (z : Int) (V 0 8)) = 0 then 13 else 11) (ls' := [mv_R 0, mv_I 3, mv_I a, mv_I (sp_rfv so (z : Int) (V 0 8)), mv_U, mv_U]) (st' := []) (M1 := M) rfl ?_
    refine mv_ffW (by omega) ?_
    refine mv_goW 1 (pc' := 12) (ls' := [mv_R 0, mv_I 3, mv_I a, mv_I (sp_rfv so (z : Int) (V 0 8)), mv_U, mv_U]) (st' := [mv_I (sp_rfv so (z : Int) (V 0 8))]) (M1 := M) rfl ?_
    refine mv_retW (fun n => rfl) ⟨_, rfl, ?_⟩
    refine mv_goW 3 (pc' := 3) (ls' := [mv_R 100, mv_I 3, mv_I a, mv_U, mv_U, mv_U, mv_U]) (st' := [mv_I a, mv_I 3, mv_R 100]) (M1 := M) rfl ?_
    have ha43 : ¬ ((so ≠ -1 ∧ (z : Int) ≤ V 0 8) ∧ 0 ≤ a ∧ a < V 0 9) := by omega
    refine mv_callPW (st2 := [mv_I (sp_rfv so (z : Int) (V 0 8))]) rfl (Or.inl rfl) rfl rfl rfl (sp_mrj_f (S := 3) (by decide) hm ho hs2 hz2 ha43) (by first | decide | omega) ?_
    refine mv_goW 3 (pc' := if (sp_rfv so (z : Int) (V 0 8)) = 0 then 13 else 11) (ls' := [mv_R 100, mv_I 3, mv_I a, mv_I (sp_rfv so (z : Int) (V 0 8)), mv_U, mv_U, mv_U]) (st' := []) (M1 := M) rfl ?_
    refine mv_ffW (by omega) ?_
    refine mv_goW 1 (pc' := 12) (ls' := [mv_R 100, mv_I 3, mv_I a, mv_I (sp_rfv so (z : Int) (V 0 8)), mv_U, mv_U, mv_U]) (st' := [mv_I (sp_rfv so (z : Int) (V 0 8))]) (M1 := M) rfl ?_
    exact mv_retW (fun n => rfl) ⟨congrArg mv_I (by first | with_reducible rfl | omega), hI⟩
theorem sp_k25_n (s a : Int) (hs : ¬ (0 ≤ s ∧ s ≤ 3)) : sp_call 86 179 [mv_I s, mv_I a] [mv_I s, mv_I a] := by
  refine sp_mkW (lc := [mv_R 0, mv_I s, mv_I a, mv_U, mv_U, mv_U]) (lm := [mv_R 100, mv_I s, mv_I a, mv_U, mv_U, mv_U, mv_U]) rfl rfl (fun M hI => ?_)
  refine mv_goW 3 (pc' := 3) (ls' := [mv_R 0, mv_I s, mv_I a, mv_U, mv_U, mv_U]) (st' := [mv_I a, mv_I s, mv_R 0]) (M1 := M) rfl ?_
  refine mv_callPW (st2 := [mv_I (-2)]) rfl (Or.inl rfl) rfl rfl rfl (sp_crj_n hs) (by first | decide | omega) ?_
  refine mv_goW 3 (pc' := if (-2) = 0 then 13 else 11) (ls' := [mv_R 0, mv_I s, mv_I a, mv_I (-2), mv_U, mv_U]) (st' := []) (M1 := M) rfl ?_
  refine mv_ffW (by first | decide | omega) ?_
  refine mv_goW 1 (pc' := 12) (ls' := [mv_R 0, mv_I s, mv_I a, mv_I (-2), mv_U, mv_U]) (st' := [mv_I (-2)]) (M1 := M) rfl ?_
  refine mv_retW (fun n => rfl) ⟨_, rfl, ?_⟩
  refine mv_goW 3 (pc' := 3) (ls' := [mv_R 100, mv_I s, mv_I a, mv_U, mv_U, mv_U, mv_U]) (st' := [mv_I a, mv_I s, mv_R 100]) (M1 := M) rfl ?_
  refine mv_callPW (st2 := [mv_I (-2)]) rfl (Or.inl rfl) rfl rfl rfl (sp_mrj_n hs) (by first | decide | omega) ?_
  refine mv_goW 3 (pc' := if (-2) = 0 then 13 else 11) (ls' := [mv_R 100, mv_I s, mv_I a, mv_I (-2), mv_U, mv_U, mv_U]) (st' := []) (M1 := M) rfl ?_
  refine mv_ffW (by first | decide | omega) ?_
  refine mv_goW 1 (pc' := 12) (ls' := [mv_R 100, mv_I s, mv_I a, mv_I (-2), mv_U, mv_U, mv_U]) (st' := [mv_I (-2)]) (M1 := M) rfl ?_
  exact mv_retW (fun n => rfl) ⟨congrArg mv_I (by first | with_reducible rfl | omega), hI⟩
theorem sp_k25 (s a : Int) : sp_call 86 179 [mv_I s, mv_I a] [mv_I s, mv_I a] :=
  sp_s4 (Q := fun s => sp_call 86 179 [mv_I s, mv_I a] [mv_I s, mv_I a]) (sp_k25_0 a) (sp_k25_1 a) (sp_k25_2 a) (sp_k25_3 a) (sp_k25_n s a)
