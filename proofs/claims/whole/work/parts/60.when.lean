/-! when -/
def sp_yc (p : Nat → Int) : Nat → Int
  | 0 => 0
  | k + 1 => if p k = -1 then sp_yc p k + 1 else sp_yc p k
def sp_yf (p : Nat → Int) : Nat → Int
  | 0 => -1
  | k + 1 => if p k = -1 then (if sp_yf p k = -1 then (k : Int) else sp_yf p k) else sp_yf p k
theorem sp_yc_b (p : Nat → Int) : ∀ k : Nat, 0 ≤ sp_yc p k ∧ sp_yc p k ≤ k
  | 0 => by simp [sp_yc]
  | k + 1 => by
    have h := sp_yc_b p k
    simp only [sp_yc]
    split <;> omega
theorem sp_cwn_0 {V M0 : mv_M} {P : Nat → Nat → List Int} {n : Int} {u z d : Nat} {g : Nat → Int} {Q : mv_V → mv_M → Prop} (ho : sp_ok V) (hl : V 0 11 < n) (hn : n ≤ 6) (hP : sp_cts M0 P n) (hu : (u : Int) < V 0 9) {w : Int} (hz : M0 71 2 = (z : Int)) (hz8 : (z : Int) ≤ V 0 8) (hg : ∀ j, j < z → M0 72 j = g j)
    (hQ : ∀ M2, mv_ag [50, 51, 52, 53, 54, 55, 56, 57] M0 M2 → mv_W (d + 8) 84 103 [mv_R 0, mv_I 0, mv_I (u : Int), mv_I (w), mv_I 0, mv_I (sp_yf (sp_pa V P g z u 0 10) 100), mv_I (sp_yc (sp_pa V P g z u 0 10) 100), mv_I (100 : Int)] [] M2 Q) :
    ∀ (r m : Nat) (M Vc : mv_M), m + r = 100 → sp_c 50 M Vc → (∀ x, sp_alt Vc 0 10 x = sp_alt V 0 10 x) → mv_ag [50, 51, 52, 53, 54, 55, 56, 57] M0 M → mv_W (d + 8) 84 46 [mv_R 0, mv_I 0, mv_I (u : Int), mv_I (w), mv_I 0, mv_I (sp_yf (sp_pa V P g z u 0 10) m), mv_I (sp_yc (sp_pa V P g z u 0 10) m), mv_I (m : Int)] [] M Q := by
  have h9 := sp_ok_s9 ho
  intro r
  induction r with
  | zero =>
    intro m M Vc hk hcv hVc hag
    have hk : m = 100 := by omega
    subst hk
    refine mv_goW 3 (pc' := if 99 < ((100 : Nat) : Int) then 103 else 53) (ls' := [mv_R 0, mv_I 0, mv_I (u : Int), mv_I w, mv_I 0, mv_I (sp_yf (sp_pa V P g z u 0 10) 100), mv_I (sp_yc (sp_pa V P g z u 0 10) 100), mv_I ((100 : Nat) : Int)]) (st' := []) (M1 := M) rfl ?_
    refine mv_ttW (by omega) ?_
    exact hQ M hag
  | succ r ih =>
    intro m M Vc hk hcv hVc hag
    have hb0 := sp_yc_b (sp_pa V P g z u 0 10) m
    refine mv_goW 3 (pc' := if 99 < (m : Int) then 103 else 53) (ls' := [mv_R 0, mv_I 0, mv_I (u : Int), mv_I w, mv_I 0, mv_I (sp_yf (sp_pa V P g z u 0 10) m), mv_I (sp_yc (sp_pa V P g z u 0 10) m), mv_I (m : Int)]) (st' := []) (M1 := M) rfl ?_
    refine mv_ffW (by omega) ?_
    refine mv_goW 4 (pc' := 62) (ls' := [mv_R 0, mv_I 0, mv_I (u : Int), mv_I w, mv_I 0, mv_I (sp_yf (sp_pa V P g z u 0 10) m), mv_I (sp_yc (sp_pa V P g z u 0 10) m), mv_I (m : Int)]) (st' := []) (M1 := (mv_st M 50 (mv_up (M 50) 10 (m : Int)))) rfl ?_
    have hcX : sp_c 50 (mv_st M 50 (mv_up (M 50) 10 (m : Int))) (sp_alt V 0 10 (m : Int)) := by rw [← hVc (m : Int)]; exact sp_c_alt10 (w := 50) hcv
    have hagX : mv_ag [50, 51, 52, 53, 54, 55, 56, 57] M0 (mv_st M 50 (mv_up (M 50) 10 (m : Int))) := hag.st (by decide)
    refine mv_goW 4 (pc' := 68) (ls' := [mv_R 0, mv_I 0, mv_I (u : Int), mv_I w, mv_I 0, mv_I (sp_yf (sp_pa V P g z u 0 10) m), mv_I (sp_yc (sp_pa V P g z u 0 10) m), mv_I (m : Int)]) (st' := [mv_I 0, mv_R 0, mv_R 50]) (M1 := (mv_st M 50 (mv_up (M 50) 10 (m : Int)))) rfl ?_
    refine mv_callPW (st2 := [mv_R 71, mv_R 50]) rfl (Or.inl rfl) rfl rfl rfl (sp_sheetAt_0) (by first | decide | omega) ?_
    refine mv_goW 1 (pc' := 72) (ls' := [mv_R 0, mv_I 0, mv_I (u : Int), mv_I w, mv_I 0, mv_I (sp_yf (sp_pa V P g z u 0 10) m), mv_I (sp_yc (sp_pa V P g z u 0 10) m), mv_I (m : Int)]) (st' := [mv_I (u : Int), mv_R 71, mv_R 50]) (M1 := (mv_st M 50 (mv_up (M 50) 10 (m : Int)))) rfl ?_
    refine mv_callW (st2 := [mv_I (sp_pa V P g z u 0 10 m)]) rfl (Or.inr rfl) rfl rfl rfl (sp_cfa_0 (V := V) (g := g) (u := u) (r := 0) (i := 10) (x := m) hcX (sp_ok_alt10 ho (by omega)) hl hn (sp_cts_ag hP hagX hn (fun i h1 h2 => by simp only [List.mem_cons, List.not_mem_nil, or_false]; omega)) hu (by rw [hagX _ (by decide)]; exact hz) hz8 (fun j hj => by rw [hagX _ (by decide)]; exact hg j hj)) (by first | decide | omega) (fun Ma1 hm2 => ?_)
    have hx := hm2
    refine mv_goW 2 (pc' := if (sp_pa V P g z u 0 10 m) = (-1) then 79 else 97) (ls' := [mv_R 0, mv_I 0, mv_I (u : Int), mv_I w, mv_I 0, mv_I (sp_yf (sp_pa V P g z u 0 10) m), mv_I (sp_yc (sp_pa V P g z u 0 10) m), mv_I (m : Int)]) (st' := []) (M1 := Ma1) rfl ?_
    refine mv_spW (fun ha3 => ?_) (fun ha3 => ?_)
    · refine mv_goW 4 (pc' := if (sp_yf (sp_pa V P g z u 0 10) m) = (-1) then 88 else 93) (ls' := [mv_R 0, mv_I 0, mv_I (u : Int), mv_I w, mv_I 0, mv_I (sp_yf (sp_pa V P g z u 0 10) m), mv_I (mv_w ((sp_yc (sp_pa V P g z u 0 10) m) + 1)), mv_I (m : Int)]) (st' := []) (M1 := Ma1) rfl ?_
      rw [show mv_w ((sp_yc (sp_pa V P g z u 0 10) m) + 1) = (sp_yc (sp_pa V P g z u 0 10) m) + 1 from mv_w_id (by omega) (by omega)]
      refine mv_spW (fun ha4 => ?_) (fun ha4 => ?_)
      · refine mv_goW 5 (pc' := 46) (ls' := [mv_R 0, mv_I 0, mv_I (u : Int), mv_I w, mv_I 0, mv_I (m : Int), mv_I ((sp_yc (sp_pa V P g z u 0 10) m) + 1), mv_I (mv_w ((m : Int) + 1))]) (st' := []) (M1 := Ma1) rfl ?_
        rw [show mv_w ((m : Int) + 1) = (m : Int) + 1 from mv_w_id (by omega) (by omega)]
        rw [show (m : Int) + 1 = ((m + 1 : Nat) : Int) from by omega]
        refine mv_eqsW (ls2 := [mv_R 0, mv_I 0, mv_I (u : Int), mv_I (w), mv_I 0, mv_I (sp_yf (sp_pa V P g z u 0 10) (m + 1)), mv_I (sp_yc (sp_pa V P g z u 0 10) (m + 1)), mv_I (((m + 1 : Nat) : Int))]) (by rw [show (m : Int) = sp_yf (sp_pa V P g z u 0 10) (m + 1) from by simp only [sp_yf]; split <;> (try split) <;> first | with_reducible rfl | omega, show (sp_yc (sp_pa V P g z u 0 10) m) + 1 = sp_yc (sp_pa V P g z u 0 10) (m + 1) from by simp only [sp_yc]; split <;> omega]) rfl rfl (ih (m + 1) _ (sp_alt V 0 10 (m : Int)) (by omega) (sp_c_ag hcX hx (by decide)) (sp_alt_alt V 0 10 (m : Int)) (hagX.tr (hx.wd (by decide))))
      · refine mv_goW 4 (pc' := 46) (ls' := [mv_R 0, mv_I 0, mv_I (u : Int), mv_I w, mv_I 0, mv_I (sp_yf (sp_pa V P g z u 0 10) m), mv_I ((sp_yc (sp_pa V P g z u 0 10) m) + 1), mv_I (mv_w ((m : Int) + 1))]) (st' := []) (M1 := Ma1) rfl ?_
        rw [show mv_w ((m : Int) + 1) = (m : Int) + 1 from mv_w_id (by omega) (by omega)]
        rw [show (m : Int) + 1 = ((m + 1 : Nat) : Int) from by omega]
        refine mv_eqsW (ls2 := [mv_R 0, mv_I 0, mv_I (u : Int), mv_I (w), mv_I 0, mv_I (sp_yf (sp_pa V P g z u 0 10) (m + 1)), mv_I (sp_yc (sp_pa V P g z u 0 10) (m + 1)), mv_I (((m + 1 : Nat) : Int))]) (by rw [show sp_yf (sp_pa V P g z u 0 10) m = sp_yf (sp_pa V P g z u 0 10) (m + 1) from by simp only [sp_yf]; split <;> (try split) <;> first | with_reducible rfl | omega, show (sp_yc (sp_pa V P g z u 0 10) m) + 1 = sp_yc (sp_pa V P g z u 0 10) (m + 1) from by simp only [sp_yc]; split <;> omega]) rfl rfl (ih (m + 1) _ (sp_alt V 0 10 (m : Int)) (by omega) (sp_c_ag hcX hx (by decide)) (sp_alt_alt V 0 10 (m : Int)) (hagX.tr (hx.wd (by decide))))
    · refine mv_goW 2 (pc' := 46) (ls' := [mv_R 0, mv_I 0, mv_I (u : Int), mv_I w, mv_I 0, mv_I (sp_yf (sp_pa V P g z u 0 10) m), mv_I (sp_yc (sp_pa V P g z u 0 10) m), mv_I (mv_w ((m : Int) + 1))]) (st' := []) (M1 := Ma1) rfl ?_
      rw [show mv_w ((m : Int) + 1) = (m : Int) + 1 from mv_w_id (by omega) (by omega)]
      rw [show (m : Int) + 1 = ((m + 1 : Nat) : Int) from by omega]
      refine mv_eqsW (ls2 := [mv_R 0, mv_I 0, mv_I (u : Int), mv_I (w), mv_I 0, mv_I (sp_yf (sp_pa V P g z u 0 10) (m + 1)), mv_I (sp_yc (sp_pa V P g z u 0 10) (m + 1)), mv_I (((m + 1 : Nat) : Int))]) (by rw [show sp_yf (sp_pa V P g z u 0 10) m = sp_yf (sp_pa V P g z u 0 10) (m + 1) from by simp only [sp_yf]; split <;> (try split) <;> first | with_reducible rfl | omega, show sp_yc (sp_pa V P g z u 0 10) m = sp_yc (sp_pa V P g z u 0 10) (m + 1) from by simp only [sp_yc]; split <;> omega]) rfl rfl (ih (m + 1) _ (sp_alt V 0 10 (m : Int)) (by omega) (sp_c_ag hcX hx (by decide)) (sp_alt_alt V 0 10 (m : Int)) (hagX.tr (hx.wd (by decide))))
theorem sp_cwn_1 {V M0 : mv_M} {P : Nat → Nat → List Int} {n : Int} {u z d : Nat} {g : Nat → Int} {Q : mv_V → mv_M → Prop} (ho : sp_ok V) (hl : V 0 11 < n) (hn : n ≤ 6) (hP : sp_cts M0 P n) (hu : (u : Int) < V 0 9) {w : Int} (hz : M0 73 2 = (z : Int)) (hz8 : (z : Int) ≤ V 0 8) (hg : ∀ j, j < z → M0 74 j = g j)
    (hQ : ∀ M2, mv_ag [50, 51, 52, 53, 54, 55, 56, 57] M0 M2 → mv_W (d + 8) 84 103 [mv_R 0, mv_I 1, mv_I (u : Int), mv_I (w), mv_I 0, mv_I (sp_yf (sp_pa V P g z u 0 10) 100), mv_I (sp_yc (sp_pa V P g z u 0 10) 100), mv_I (100 : Int)] [] M2 Q) :
    ∀ (r m : Nat) (M Vc : mv_M), m + r = 100 → sp_c 50 M Vc → (∀ x, sp_alt Vc 0 10 x = sp_alt V 0 10 x) → mv_ag [50, 51, 52, 53, 54, 55, 56, 57] M0 M → mv_W (d + 8) 84 46 [mv_R 0, mv_I 1, mv_I (u : Int), mv_I (w), mv_I 0, mv_I (sp_yf (sp_pa V P g z u 0 10) m), mv_I (sp_yc (sp_pa V P g z u 0 10) m), mv_I (m : Int)] [] M Q := by
  have h9 := sp_ok_s9 ho
  intro r
  induction r with
  | zero =>
    intro m M Vc hk hcv hVc hag
    have hk : m = 100 := by omega
    subst hk
    refine mv_goW 3 (pc' := if 99 < ((100 : Nat) : Int) then 103 else 53) (ls' := [mv_R 0, mv_I 1, mv_I (u : Int), mv_I w, mv_I 0, mv_I (sp_yf (sp_pa V P g z u 0 10) 100), mv_I (sp_yc (sp_pa V P g z u 0 10) 100), mv_I ((100 : Nat) : Int)]) (st' := []) (M1 := M) rfl ?_
    refine mv_ttW (by omega) ?_
    exact hQ M hag
  | succ r ih =>
    intro m M Vc hk hcv hVc hag
    have hb0 := sp_yc_b (sp_pa V P g z u 0 10) m
    refine mv_goW 3 (pc' := if 99 < (m : Int) then 103 else 53) (ls' := [mv_R 0, mv_I 1, mv_I (u : Int), mv_I w, mv_I 0, mv_I (sp_yf (sp_pa V P g z u 0 10) m), mv_I (sp_yc (sp_pa V P g z u 0 10) m), mv_I (m : Int)]) (st' := []) (M1 := M) rfl ?_
    refine mv_ffW (by omega) ?_
    refine mv_goW 4 (pc' := 62) (ls' := [mv_R 0, mv_I 1, mv_I (u : Int), mv_I w, mv_I 0, mv_I (sp_yf (sp_pa V P g z u 0 10) m), mv_I (sp_yc (sp_pa V P g z u 0 10) m), mv_I (m : Int)]) (st' := []) (M1 := (mv_st M 50 (mv_up (M 50) 10 (m : Int)))) rfl ?_
    have hcX : sp_c 50 (mv_st M 50 (mv_up (M 50) 10 (m : Int))) (sp_alt V 0 10 (m : Int)) := by rw [← hVc (m : Int)]; exact sp_c_alt10 (w := 50) hcv
    have hagX : mv_ag [50, 51, 52, 53, 54, 55, 56, 57] M0 (mv_st M 50 (mv_up (M 50) 10 (m : Int))) := hag.st (by decide)
    refine mv_goW 4 (pc' := 68) (ls' := [mv_R 0, mv_I 1, mv_I (u : Int), mv_I w, mv_I 0, mv_I (sp_yf (sp_pa V P g z u 0 10) m), mv_I (sp_yc (sp_pa V P g z u 0 10) m), mv_I (m : Int)]) (st' := [mv_I 1, mv_R 0, mv_R 50]) (M1 := (mv_st M 50 (mv_up (M 50) 10 (m : Int)))) rfl ?_
    refine mv_callPW (st2 := [mv_R 73, mv_R 50]) rfl (Or.inl rfl) rfl rfl rfl (sp_sheetAt_1) (by first | decide | omega) ?_
    refine mv_goW 1 (pc' := 72) (ls' := [mv_R 0, mv_I 1, mv_I (u : Int), mv_I w, mv_I 0, mv_I (sp_yf (sp_pa V P g z u 0 10) m), mv_I (sp_yc (sp_pa V P g z u 0 10) m), mv_I (m : Int)]) (st' := [mv_I (u : Int), mv_R 73, mv_R 50]) (M1 := (mv_st M 50 (mv_up (M 50) 10 (m : Int)))) rfl ?_
    refine mv_callW (st2 := [mv_I (sp_pa V P g z u 0 10 m)]) rfl (Or.inr rfl) rfl rfl rfl (sp_cfa_1 (V := V) (g := g) (u := u) (r := 0) (i := 10) (x := m) hcX (sp_ok_alt10 ho (by omega)) hl hn (sp_cts_ag hP hagX hn (fun i h1 h2 => by simp only [List.mem_cons, List.not_mem_nil, or_false]; omega)) hu (by rw [hagX _ (by decide)]; exact hz) hz8 (fun j hj => by rw [hagX _ (by decide)]; exact hg j hj)) (by first | decide | omega) (fun Ma5 hm6 => ?_)
    have hx := hm6
    refine mv_goW 2 (pc' := if (sp_pa V P g z u 0 10 m) = (-1) then 79 else 97) (ls' := [mv_R 0, mv_I 1, mv_I (u : Int), mv_I w, mv_I 0, mv_I (sp_yf (sp_pa V P g z u 0 10) m), mv_I (sp_yc (sp_pa V P g z u 0 10) m), mv_I (m : Int)]) (st' := []) (M1 := Ma5) rfl ?_
    refine mv_spW (fun ha7 => ?_) (fun ha7 => ?_)
    · refine mv_goW 4 (pc' := if (sp_yf (sp_pa V P g z u 0 10) m) = (-1) then 88 else 93) (ls' := [mv_R 0, mv_I 1, mv_I (u : Int), mv_I w, mv_I 0, mv_I (sp_yf (sp_pa V P g z u 0 10) m), mv_I (mv_w ((sp_yc (sp_pa V P g z u 0 10) m) + 1)), mv_I (m : Int)]) (st' := []) (M1 := Ma5) rfl ?_
      rw [show mv_w ((sp_yc (sp_pa V P g z u 0 10) m) + 1) = (sp_yc (sp_pa V P g z u 0 10) m) + 1 from mv_w_id (by omega) (by omega)]
      refine mv_spW (fun ha8 => ?_) (fun ha8 => ?_)
      · refine mv_goW 5 (pc' := 46) (ls' := [mv_R 0, mv_I 1, mv_I (u : Int), mv_I w, mv_I 0, mv_I (m : Int), mv_I ((sp_yc (sp_pa V P g z u 0 10) m) + 1), mv_I (mv_w ((m : Int) + 1))]) (st' := []) (M1 := Ma5) rfl ?_
        rw [show mv_w ((m : Int) + 1) = (m : Int) + 1 from mv_w_id (by omega) (by omega)]
        rw [show (m : Int) + 1 = ((m + 1 : Nat) : Int) from by omega]
        refine mv_eqsW (ls2 := [mv_R 0, mv_I 1, mv_I (u : Int), mv_I (w), mv_I 0, mv_I (sp_yf (sp_pa V P g z u 0 10) (m + 1)), mv_I (sp_yc (sp_pa V P g z u 0 10) (m + 1)), mv_I (((m + 1 : Nat) : Int))]) (by rw [show (m : Int) = sp_yf (sp_pa V P g z u 0 10) (m + 1) from by simp only [sp_yf]; split <;> (try split) <;> first | with_reducible rfl | omega, show (sp_yc (sp_pa V P g z u 0 10) m) + 1 = sp_yc (sp_pa V P g z u 0 10) (m + 1) from by simp only [sp_yc]; split <;> omega]) rfl rfl (ih (m + 1) _ (sp_alt V 0 10 (m : Int)) (by omega) (sp_c_ag hcX hx (by decide)) (sp_alt_alt V 0 10 (m : Int)) (hagX.tr (hx.wd (by decide))))
      · refine mv_goW 4 (pc' := 46) (ls' := [mv_R 0, mv_I 1, mv_I (u : Int), mv_I w, mv_I 0, mv_I (sp_yf (sp_pa V P g z u 0 10) m), mv_I ((sp_yc (sp_pa V P g z u 0 10) m) + 1), mv_I (mv_w ((m : Int) + 1))]) (st' := []) (M1 := Ma5) rfl ?_
        rw [show mv_w ((m : Int) + 1) = (m : Int) + 1 from mv_w_id (by omega) (by omega)]
        rw [show (m : Int) + 1 = ((m + 1 : Nat) : Int) from by omega]
        refine mv_eqsW (ls2 := [mv_R 0, mv_I 1, mv_I (u : Int), mv_I (w), mv_I 0, mv_I (sp_yf (sp_pa V P g z u 0 10) (m + 1)), mv_I (sp_yc (sp_pa V P g z u 0 10) (m + 1)), mv_I (((m + 1 : Nat) : Int))]) (by rw [show sp_yf (sp_pa V P g z u 0 10) m = sp_yf (sp_pa V P g z u 0 10) (m + 1) from by simp only [sp_yf]; split <;> (try split) <;> first | with_reducible rfl | omega, show (sp_yc (sp_pa V P g z u 0 10) m) + 1 = sp_yc (sp_pa V P g z u 0 10) (m + 1) from by simp only [sp_yc]; split <;> omega]) rfl rfl (ih (m + 1) _ (sp_alt V 0 10 (m : Int)) (by omega) (sp_c_ag hcX hx (by decide)) (sp_alt_alt V 0 10 (m : Int)) (hagX.tr (hx.wd (by decide))))
    · refine mv_goW 2 (pc' := 46) (ls' := [mv_R 0, mv_I 1, mv_I (u : Int), mv_I w, mv_I 0, mv_I (sp_yf (sp_pa V P g z u 0 10) m), mv_I (sp_yc (sp_pa V P g z u 0 10) m), mv_I (mv_w ((m : Int) + 1))]) (st' := []) (M1 := Ma5) rfl ?_
      rw [show mv_w ((m : Int) + 1) = (m : Int) + 1 from mv_w_id (by omega) (by omega)]
      rw [show (m : Int) + 1 = ((m + 1 : Nat) : Int) from by omega]
      refine mv_eqsW (ls2 := [mv_R 0, mv_I 1, mv_I (u : Int), mv_I (w), mv_I 0, mv_I (sp_yf (sp_pa V P g z u 0 10) (m + 1)), mv_I (sp_yc (sp_pa V P g z u 0 10) (m + 1)), mv_I (((m + 1 : Nat) : Int))]) (by rw [show sp_yf (sp_pa V P g z u 0 10) m = sp_yf (sp_pa V P g z u 0 10) (m + 1) from by simp only [sp_yf]; split <;> (try split) <;> first | with_reducible rfl | omega, show sp_yc (sp_pa V P g z u 0 10) m = sp_yc (sp_pa V P g z u 0 10) (m + 1) from by simp only [sp_yc]; split <;> omega]) rfl rfl (ih (m + 1) _ (sp_alt V 0 10 (m : Int)) (by omega) (sp_c_ag hcX hx (by decide)) (sp_alt_alt V 0 10 (m : Int)) (hagX.tr (hx.wd (by decide))))
theorem sp_cwn_2 {V M0 : mv_M} {P : Nat → Nat → List Int} {n : Int} {u z d : Nat} {g : Nat → Int} {Q : mv_V → mv_M → Prop} (ho : sp_ok V) (hl : V 0 11 < n) (hn : n ≤ 6) (hP : sp_cts M0 P n) (hu : (u : Int) < V 0 9) {w : Int} (hz : M0 75 2 = (z : Int)) (hz8 : (z : Int) ≤ V 0 8) (hg : ∀ j, j < z → M0 76 j = g j)
    (hQ : ∀ M2, mv_ag [50, 51, 52, 53, 54, 55, 56, 57] M0 M2 → mv_W (d + 8) 84 103 [mv_R 0, mv_I 2, mv_I (u : Int), mv_I (w), mv_I 0, mv_I (sp_yf (sp_pa V P g z u 0 10) 100), mv_I (sp_yc (sp_pa V P g z u 0 10) 100), mv_I (100 : Int)] [] M2 Q) :
    ∀ (r m : Nat) (M Vc : mv_M), m + r = 100 → sp_c 50 M Vc → (∀ x, sp_alt Vc 0 10 x = sp_alt V 0 10 x) → mv_ag [50, 51, 52, 53, 54, 55, 56, 57] M0 M → mv_W (d + 8) 84 46 [mv_R 0, mv_I 2, mv_I (u : Int), mv_I (w), mv_I 0, mv_I (sp_yf (sp_pa V P g z u 0 10) m), mv_I (sp_yc (sp_pa V P g z u 0 10) m), mv_I (m : Int)] [] M Q := by
  have h9 := sp_ok_s9 ho
  intro r
  induction r with
  | zero =>
    intro m M Vc hk hcv hVc hag
    have hk : m = 100 := by omega
    subst hk
    refine mv_goW 3 (pc' := if 99 < ((100 : Nat) : Int) then 103 else 53) (ls' := [mv_R 0, mv_I 2, mv_I (u : Int), mv_I w, mv_I 0, mv_I (sp_yf (sp_pa V P g z u 0 10) 100), mv_I (sp_yc (sp_pa V P g z u 0 10) 100), mv_I ((100 : Nat) : Int)]) (st' := []) (M1 := M) rfl ?_
    refine mv_ttW (by omega) ?_
    exact hQ M hag
  | succ r ih =>
    intro m M Vc hk hcv hVc hag
    have hb0 := sp_yc_b (sp_pa V P g z u 0 10) m
    refine mv_goW 3 (pc' := if 99 < (m : Int) then 103 else 53) (ls' := [mv_R 0, mv_I 2, mv_I (u : Int), mv_I w, mv_I 0, mv_I (sp_yf (sp_pa V P g z u 0 10) m), mv_I (sp_yc (sp_pa V P g z u 0 10) m), mv_I (m : Int)]) (st' := []) (M1 := M) rfl ?_
    refine mv_ffW (by omega) ?_
    refine mv_goW 4 (pc' := 62) (ls' := [mv_R 0, mv_I 2, mv_I (u : Int), mv_I w, mv_I 0, mv_I (sp_yf (sp_pa V P g z u 0 10) m), mv_I (sp_yc (sp_pa V P g z u 0 10) m), mv_I (m : Int)]) (st' := []) (M1 := (mv_st M 50 (mv_up (M 50) 10 (m : Int)))) rfl ?_
    have hcX : sp_c 50 (mv_st M 50 (mv_up (M 50) 10 (m : Int))) (sp_alt V 0 10 (m : Int)) := by rw [← hVc (m : Int)]; exact sp_c_alt10 (w := 50) hcv
    have hagX : mv_ag [50, 51, 52, 53, 54, 55, 56, 57] M0 (mv_st M 50 (mv_up (M 50) 10 (m : Int))) := hag.st (by decide)
    refine mv_goW 4 (pc' := 68) (ls' := [mv_R 0, mv_I 2, mv_I (u : Int), mv_I w, mv_I 0, mv_I (sp_yf (sp_pa V P g z u 0 10) m), mv_I (sp_yc (sp_pa V P g z u 0 10) m), mv_I (m : Int)]) (st' := [mv_I 2, mv_R 0, mv_R 50]) (M1 := (mv_st M 50 (mv_up (M 50) 10 (m : Int)))) rfl ?_
    refine mv_callPW (st2 := [mv_R 75, mv_R 50]) rfl (Or.inl rfl) rfl rfl rfl (sp_sheetAt_2) (by first | decide | omega) ?_
    refine mv_goW 1 (pc' := 72) (ls' := [mv_R 0, mv_I 2, mv_I (u : Int), mv_I w, mv_I 0, mv_I (sp_yf (sp_pa V P g z u 0 10) m), mv_I (sp_yc (sp_pa V P g z u 0 10) m), mv_I (m : Int)]) (st' := [mv_I (u : Int), mv_R 75, mv_R 50]) (M1 := (mv_st M 50 (mv_up (M 50) 10 (m : Int)))) rfl ?_
    refine mv_callW (st2 := [mv_I (sp_pa V P g z u 0 10 m)]) rfl (Or.inr rfl) rfl rfl rfl (sp_cfa_2 (V := V) (g := g) (u := u) (r := 0) (i := 10) (x := m) hcX (sp_ok_alt10 ho (by omega)) hl hn (sp_cts_ag hP hagX hn (fun i h1 h2 => by simp only [List.mem_cons, List.not_mem_nil, or_false]; omega)) hu (by rw [hagX _ (by decide)]; exact hz) hz8 (fun j hj => by rw [hagX _ (by decide)]; exact hg j hj)) (by first | decide | omega) (fun Ma9 hm10 => ?_)
    have hx := hm10
    refine mv_goW 2 (pc' := if (sp_pa V P g z u 0 10 m) = (-1) then 79 else 97) (ls' := [mv_R 0, mv_I 2, mv_I (u : Int), mv_I w, mv_I 0, mv_I (sp_yf (sp_pa V P g z u 0 10) m), mv_I (sp_yc (sp_pa V P g z u 0 10) m), mv_I (m : Int)]) (st' := []) (M1 := Ma9) rfl ?_
    refine mv_spW (fun ha11 => ?_) (fun ha11 => ?_)
    · refine mv_goW 4 (pc' := if (sp_yf (sp_pa V P g z u 0 10) m) = (-1) then 88 else 93) (ls' := [mv_R 0, mv_I 2, mv_I (u : Int), mv_I w, mv_I 0, mv_I (sp_yf (sp_pa V P g z u 0 10) m), mv_I (mv_w ((sp_yc (sp_pa V P g z u 0 10) m) + 1)), mv_I (m : Int)]) (st' := []) (M1 := Ma9) rfl ?_
      rw [show mv_w ((sp_yc (sp_pa V P g z u 0 10) m) + 1) = (sp_yc (sp_pa V P g z u 0 10) m) + 1 from mv_w_id (by omega) (by omega)]
      refine mv_spW (fun ha12 => ?_) (fun ha12 => ?_)
      · refine mv_goW 5 (pc' := 46) (ls' := [mv_R 0, mv_I 2, mv_I (u : Int), mv_I w, mv_I 0, mv_I (m : Int), mv_I ((sp_yc (sp_pa V P g z u 0 10) m) + 1), mv_I (mv_w ((m : Int) + 1))]) (st' := []) (M1 := Ma9) rfl ?_
        rw [show mv_w ((m : Int) + 1) = (m : Int) + 1 from mv_w_id (by omega) (by omega)]
        rw [show (m : Int) + 1 = ((m + 1 : Nat) : Int) from by omega]
        refine mv_eqsW (ls2 := [mv_R 0, mv_I 2, mv_I (u : Int), mv_I (w), mv_I 0, mv_I (sp_yf (sp_pa V P g z u 0 10) (m + 1)), mv_I (sp_yc (sp_pa V P g z u 0 10) (m + 1)), mv_I (((m + 1 : Nat) : Int))]) (by rw [show (m : Int) = sp_yf (sp_pa V P g z u 0 10) (m + 1) from by simp only [sp_yf]; split <;> (try split) <;> first | with_reducible rfl | omega, show (sp_yc (sp_pa V P g z u 0 10) m) + 1 = sp_yc (sp_pa V P g z u 0 10) (m + 1) from by simp only [sp_yc]; split <;> omega]) rfl rfl (ih (m + 1) _ (sp_alt V 0 10 (m : Int)) (by omega) (sp_c_ag hcX hx (by decide)) (sp_alt_alt V 0 10 (m : Int)) (hagX.tr (hx.wd (by decide))))
      · refine mv_goW 4 (pc' := 46) (ls' := [mv_R 0, mv_I 2, mv_I (u : Int), mv_I w, mv_I 0, mv_I (sp_yf (sp_pa V P g z u 0 10) m), mv_I ((sp_yc (sp_pa V P g z u 0 10) m) + 1), mv_I (mv_w ((m : Int) + 1))]) (st' := []) (M1 := Ma9) rfl ?_
        rw [show mv_w ((m : Int) + 1) = (m : Int) + 1 from mv_w_id (by omega) (by omega)]
        rw [show (m : Int) + 1 = ((m + 1 : Nat) : Int) from by omega]
        refine mv_eqsW (ls2 := [mv_R 0, mv_I 2, mv_I (u : Int), mv_I (w), mv_I 0, mv_I (sp_yf (sp_pa V P g z u 0 10) (m + 1)), mv_I (sp_yc (sp_pa V P g z u 0 10) (m + 1)), mv_I (((m + 1 : Nat) : Int))]) (by rw [show sp_yf (sp_pa V P g z u 0 10) m = sp_yf (sp_pa V P g z u 0 10) (m + 1) from by simp only [sp_yf]; split <;> (try split) <;> first | with_reducible rfl | omega, show (sp_yc (sp_pa V P g z u 0 10) m) + 1 = sp_yc (sp_pa V P g z u 0 10) (m + 1) from by simp only [sp_yc]; split <;> omega]) rfl rfl (ih (m + 1) _ (sp_alt V 0 10 (m : Int)) (by omega) (sp_c_ag hcX hx (by decide)) (sp_alt_alt V 0 10 (m : Int)) (hagX.tr (hx.wd (by decide))))
    · refine mv_goW 2 (pc' := 46) (ls' := [mv_R 0, mv_I 2, mv_I (u : Int), mv_I w, mv_I 0, mv_I (sp_yf (sp_pa V P g z u 0 10) m), mv_I (sp_yc (sp_pa V P g z u 0 10) m), mv_I (mv_w ((m : Int) + 1))]) (st' := []) (M1 := Ma9) rfl ?_
      rw [show mv_w ((m : Int) + 1) = (m : Int) + 1 from mv_w_id (by omega) (by omega)]
      rw [show (m : Int) + 1 = ((m + 1 : Nat) : Int) from by omega]
      refine mv_eqsW (ls2 := [mv_R 0, mv_I 2, mv_I (u : Int), mv_I (w), mv_I 0, mv_I (sp_yf (sp_pa V P g z u 0 10) (m + 1)), mv_I (sp_yc (sp_pa V P g z u 0 10) (m + 1)), mv_I (((m + 1 : Nat) : Int))]) (by rw [show sp_yf (sp_pa V P g z u 0 10) m = sp_yf (sp_pa V P g z u 0 10) (m + 1) from by simp only [sp_yf]; split <;> (try split) <;> first | with_reducible rfl | omega, show sp_yc (sp_pa V P g z u 0 10) m = sp_yc (sp_pa V P g z u 0 10) (m + 1) from by simp only [sp_yc]; split <;> omega]) rfl rfl (ih (m + 1) _ (sp_alt V 0 10 (m : Int)) (by omega) (sp_c_ag hcX hx (by decide)) (sp_alt_alt V 0 10 (m : Int)) (hagX.tr (hx.wd (by decide))))
theorem sp_cwn_3 {V M0 : mv_M} {P : Nat → Nat → List Int} {n : Int} {u z d : Nat} {g : Nat → Int} {Q : mv_V → mv_M → Prop} (ho : sp_ok V) (hl : V 0 11 < n) (hn : n ≤ 6) (hP : sp_cts M0 P n) (hu : (u : Int) < V 0 9) {w : Int} (hz : M0 77 2 = (z : Int)) (hz8 : (z : Int) ≤ V 0 8) (hg : ∀ j, j < z → M0 78 j = g j)
    (hQ : ∀ M2, mv_ag [50, 51, 52, 53, 54, 55, 56, 57] M0 M2 → mv_W (d + 8) 84 103 [mv_R 0, mv_I 3, mv_I (u : Int), mv_I (w), mv_I 0, mv_I (sp_yf (sp_pa V P g z u 0 10) 100), mv_I (sp_yc (sp_pa V P g z u 0 10) 100), mv_I (100 : Int)] [] M2 Q) :
    ∀ (r m : Nat) (M Vc : mv_M), m + r = 100 → sp_c 50 M Vc → (∀ x, sp_alt Vc 0 10 x = sp_alt V 0 10 x) → mv_ag [50, 51, 52, 53, 54, 55, 56, 57] M0 M → mv_W (d + 8) 84 46 [mv_R 0, mv_I 3, mv_I (u : Int), mv_I (w), mv_I 0, mv_I (sp_yf (sp_pa V P g z u 0 10) m), mv_I (sp_yc (sp_pa V P g z u 0 10) m), mv_I (m : Int)] [] M Q := by
  have h9 := sp_ok_s9 ho
  intro r
  induction r with
  | zero =>
    intro m M Vc hk hcv hVc hag
    have hk : m = 100 := by omega
    subst hk
    refine mv_goW 3 (pc' := if 99 < ((100 : Nat) : Int) then 103 else 53) (ls' := [mv_R 0, mv_I 3, mv_I (u : Int), mv_I w, mv_I 0, mv_I (sp_yf (sp_pa V P g z u 0 10) 100), mv_I (sp_yc (sp_pa V P g z u 0 10) 100), mv_I ((100 : Nat) : Int)]) (st' := []) (M1 := M) rfl ?_
    refine mv_ttW (by omega) ?_
    exact hQ M hag
  | succ r ih =>
    intro m M Vc hk hcv hVc hag
    have hb0 := sp_yc_b (sp_pa V P g z u 0 10) m
    refine mv_goW 3 (pc' := if 99 < (m : Int) then 103 else 53) (ls' := [mv_R 0, mv_I 3, mv_I (u : Int), mv_I w, mv_I 0, mv_I (sp_yf (sp_pa V P g z u 0 10) m), mv_I (sp_yc (sp_pa V P g z u 0 10) m), mv_I (m : Int)]) (st' := []) (M1 := M) rfl ?_
    refine mv_ffW (by omega) ?_
    refine mv_goW 4 (pc' := 62) (ls' := [mv_R 0, mv_I 3, mv_I (u : Int), mv_I w, mv_I 0, mv_I (sp_yf (sp_pa V P g z u 0 10) m), mv_I (sp_yc (sp_pa V P g z u 0 10) m), mv_I (m : Int)]) (st' := []) (M1 := (mv_st M 50 (mv_up (M 50) 10 (m : Int)))) rfl ?_
    have hcX : sp_c 50 (mv_st M 50 (mv_up (M 50) 10 (m : Int))) (sp_alt V 0 10 (m : Int)) := by rw [← hVc (m : Int)]; exact sp_c_alt10 (w := 50) hcv
    have hagX : mv_ag [50, 51, 52, 53, 54, 55, 56, 57] M0 (mv_st M 50 (mv_up (M 50) 10 (m : Int))) := hag.st (by decide)
    refine mv_goW 4 (pc' := 68) (ls' := [mv_R 0, mv_I 3, mv_I (u : Int), mv_I w, mv_I 0, mv_I (sp_yf (sp_pa V P g z u 0 10) m), mv_I (sp_yc (sp_pa V P g z u 0 10) m), mv_I (m : Int)]) (st' := [mv_I 3, mv_R 0, mv_R 50]) (M1 := (mv_st M 50 (mv_up (M 50) 10 (m : Int)))) rfl ?_
    refine mv_callPW (st2 := [mv_R 77, mv_R 50]) rfl (Or.inl rfl) rfl rfl rfl (sp_sheetAt_3) (by first | decide | omega) ?_
    refine mv_goW 1 (pc' := 72) (ls' := [mv_R 0, mv_I 3, mv_I (u : Int), mv_I w, mv_I 0, mv_I (sp_yf (sp_pa V P g z u 0 10) m), mv_I (sp_yc (sp_pa V P g z u 0 10) m), mv_I (m : Int)]) (st' := [mv_I (u : Int), mv_R 77, mv_R 50]) (M1 := (mv_st M 50 (mv_up (M 50) 10 (m : Int)))) rfl ?_
    refine mv_callW (st2 := [mv_I (sp_pa V P g z u 0 10 m)]) rfl (Or.inr rfl) rfl rfl rfl (sp_cfa_3 (V := V) (g := g) (u := u) (r := 0) (i := 10) (x := m) hcX (sp_ok_alt10 ho (by omega)) hl hn (sp_cts_ag hP hagX hn (fun i h1 h2 => by simp only [List.mem_cons, List.not_mem_nil, or_false]; omega)) hu (by rw [hagX _ (by decide)]; exact hz) hz8 (fun j hj => by rw [hagX _ (by decide)]; exact hg j hj)) (by first | decide | omega) (fun Ma13 hm14 => ?_)
    have hx := hm14
    refine mv_goW 2 (pc' := if (sp_pa V P g z u 0 10 m) = (-1) then 79 else 97) (ls' := [mv_R 0, mv_I 3, mv_I (u : Int), mv_I w, mv_I 0, mv_I (sp_yf (sp_pa V P g z u 0 10) m), mv_I (sp_yc (sp_pa V P g z u 0 10) m), mv_I (m : Int)]) (st' := []) (M1 := Ma13) rfl ?_
    refine mv_spW (fun ha15 => ?_) (fun ha15 => ?_)
    · refine mv_goW 4 (pc' := if (sp_yf (sp_pa V P g z u 0 10) m) = (-1) then 88 else 93) (ls' := [mv_R 0, mv_I 3, mv_I (u : Int), mv_I w, mv_I 0, mv_I (sp_yf (sp_pa V P g z u 0 10) m), mv_I (mv_w ((sp_yc (sp_pa V P g z u 0 10) m) + 1)), mv_I (m : Int)]) (st' := []) (M1 := Ma13) rfl ?_
      rw [show mv_w ((sp_yc (sp_pa V P g z u 0 10) m) + 1) = (sp_yc (sp_pa V P g z u 0 10) m) + 1 from mv_w_id (by omega) (by omega)]
      refine mv_spW (fun ha16 => ?_) (fun ha16 => ?_)
      · refine mv_goW 5 (pc' := 46) (ls' := [mv_R 0, mv_I 3, mv_I (u : Int), mv_I w, mv_I 0, mv_I (m : Int), mv_I ((sp_yc (sp_pa V P g z u 0 10) m) + 1), mv_I (mv_w ((m : Int) + 1))]) (st' := []) (M1 := Ma13) rfl ?_
        rw [show mv_w ((m : Int) + 1) = (m : Int) + 1 from mv_w_id (by omega) (by omega)]
        rw [show (m : Int) + 1 = ((m + 1 : Nat) : Int) from by omega]
        refine mv_eqsW (ls2 := [mv_R 0, mv_I 3, mv_I (u : Int), mv_I (w), mv_I 0, mv_I (sp_yf (sp_pa V P g z u 0 10) (m + 1)), mv_I (sp_yc (sp_pa V P g z u 0 10) (m + 1)), mv_I (((m + 1 : Nat) : Int))]) (by rw [show (m : Int) = sp_yf (sp_pa V P g z u 0 10) (m + 1) from by simp only [sp_yf]; split <;> (try split) <;> first | with_reducible rfl | omega, show (sp_yc (sp_pa V P g z u 0 10) m) + 1 = sp_yc (sp_pa V P g z u 0 10) (m + 1) from by simp only [sp_yc]; split <;> omega]) rfl rfl (ih (m + 1) _ (sp_alt V 0 10 (m : Int)) (by omega) (sp_c_ag hcX hx (by decide)) (sp_alt_alt V 0 10 (m : Int)) (hagX.tr (hx.wd (by decide))))
      · refine mv_goW 4 (pc' := 46) (ls' := [mv_R 0, mv_I 3, mv_I (u : Int), mv_I w, mv_I 0, mv_I (sp_yf (sp_pa V P g z u 0 10) m), mv_I ((sp_yc (sp_pa V P g z u 0 10) m) + 1), mv_I (mv_w ((m : Int) + 1))]) (st' := []) (M1 := Ma13) rfl ?_
        rw [show mv_w ((m : Int) + 1) = (m : Int) + 1 from mv_w_id (by omega) (by omega)]
        rw [show (m : Int) + 1 = ((m + 1 : Nat) : Int) from by omega]
        refine mv_eqsW (ls2 := [mv_R 0, mv_I 3, mv_I (u : Int), mv_I (w), mv_I 0, mv_I (sp_yf (sp_pa V P g z u 0 10) (m + 1)), mv_I (sp_yc (sp_pa V P g z u 0 10) (m + 1)), mv_I (((m + 1 : Nat) : Int))]) (by rw [show sp_yf (sp_pa V P g z u 0 10) m = sp_yf (sp_pa V P g z u 0 10) (m + 1) from by simp only [sp_yf]; split <;> (try split) <;> first | with_reducible rfl | omega, show (sp_yc (sp_pa V P g z u 0 10) m) + 1 = sp_yc (sp_pa V P g z u 0 10) (m + 1) from by simp only [sp_yc]; split <;> omega]) rfl rfl (ih (m + 1) _ (sp_alt V 0 10 (m : Int)) (by omega) (sp_c_ag hcX hx (by decide)) (sp_alt_alt V 0 10 (m : Int)) (hagX.tr (hx.wd (by decide))))
    · refine mv_goW 2 (pc' := 46) (ls' := [mv_R 0, mv_I 3, mv_I (u : Int), mv_I w, mv_I 0, mv_I (sp_yf (sp_pa V P g z u 0 10) m), mv_I (sp_yc (sp_pa V P g z u 0 10) m), mv_I (mv_w ((m : Int) + 1))]) (st' := []) (M1 := Ma13) rfl ?_
      rw [show mv_w ((m : Int) + 1) = (m : Int) + 1 from mv_w_id (by omega) (by omega)]
      rw [show (m : Int) + 1 = ((m + 1 : Nat) : Int) from by omega]
      refine mv_eqsW (ls2 := [mv_R 0, mv_I 3, mv_I (u : Int), mv_I (w), mv_I 0, mv_I (sp_yf (sp_pa V P g z u 0 10) (m + 1)), mv_I (sp_yc (sp_pa V P g z u 0 10) (m + 1)), mv_I (((m + 1 : Nat) : Int))]) (by rw [show sp_yf (sp_pa V P g z u 0 10) m = sp_yf (sp_pa V P g z u 0 10) (m + 1) from by simp only [sp_yf]; split <;> (try split) <;> first | with_reducible rfl | omega, show sp_yc (sp_pa V P g z u 0 10) m = sp_yc (sp_pa V P g z u 0 10) (m + 1) from by simp only [sp_yc]; split <;> omega]) rfl rfl (ih (m + 1) _ (sp_alt V 0 10 (m : Int)) (by omega) (sp_c_ag hcX hx (by decide)) (sp_alt_alt V 0 10 (m : Int)) (hagX.tr (hx.wd (by decide))))
theorem sp_mwn {V M0 : mv_M} {P : Nat → Nat → List Int} {n : Int} {u z d S : Nat} {g : Nat → Int} {Q : mv_V → mv_M → Prop} (ho : sp_ok V) (hl : V 0 11 < n) (hn : n ≤ 6) (hP : sp_mts M0 P n) (hu : (u : Int) < V 0 9) {w : Int} (hS : S < 4) (hz : M0 118 S = (z : Int)) (hz8 : (z : Int) ≤ V 0 8) (hg : ∀ j, j < z → M0 119 (40 * S + j) = g j)
    (hQ : ∀ M2 Vc, ∀ l9, sp_m M2 Vc → (∀ x, sp_alt Vc 0 10 x = sp_alt V 0 10 x) → mv_ag [100, 130, 131] M0 M2 → (∀ j, j ≠ 7 → M2 100 j = M0 100 j) → mv_W (d + 8) 177 114 [mv_R 100, mv_I (S : Int), mv_I (u : Int), mv_I (w), mv_I 0, mv_I (V 0 10), mv_I (sp_yc (sp_pa V P g z u 0 10) 100), mv_I (sp_yf (sp_pa V P g z u 0 10) 100), mv_I (100 : Int), l9] [] M2 Q) :
    ∀ (r m : Nat) (M Vc : mv_M) (l9 : mv_V), m + r = 100 → sp_m M Vc → (∀ x, sp_alt Vc 0 10 x = sp_alt V 0 10 x) → mv_ag [100, 130, 131] M0 M → (∀ j, j ≠ 7 → M 100 j = M0 100 j) → mv_W (d + 8) 177 43 [mv_R 100, mv_I (S : Int), mv_I (u : Int), mv_I (w), mv_I 0, mv_I (V 0 10), mv_I (sp_yc (sp_pa V P g z u 0 10) m), mv_I (sp_yf (sp_pa V P g z u 0 10) m), mv_I (m : Int), l9] [] M Q := by
  have h9 := sp_ok_s9 ho
  intro r
  induction r with
  | zero =>
    intro m M Vc l9 hk hmv hVc hag h100
    have hk : m = 100 := by omega
    subst hk
    refine mv_goW 3 (pc' := if 99 < ((100 : Nat) : Int) then 114 else 50) (ls' := [mv_R 100, mv_I (S : Int), mv_I (u : Int), mv_I w, mv_I 0, mv_I (V 0 10), mv_I (sp_yc (sp_pa V P g z u 0 10) 100), mv_I (sp_yf (sp_pa V P g z u 0 10) 100), mv_I ((100 : Nat) : Int), l9]) (st' := []) (M1 := M) rfl ?_
    refine mv_ttW (by omega) ?_
    exact hQ M Vc l9 hmv hVc hag h100
  | succ r ih =>
    intro m M Vc l9 hk hmv hVc hag h100
    have hb0 := sp_yc_b (sp_pa V P g z u 0 10) m
    refine mv_goW 3 (pc' := if 99 < (m : Int) then 114 else 50) (ls' := [mv_R 100, mv_I (S : Int), mv_I (u : Int), mv_I w, mv_I 0, mv_I (V 0 10), mv_I (sp_yc (sp_pa V P g z u 0 10) m), mv_I (sp_yf (sp_pa V P g z u 0 10) m), mv_I (m : Int), l9]) (st' := []) (M1 := M) rfl ?_
    refine mv_ffW (by omega) ?_
    refine mv_goW 3 (pc' := 56) (ls' := [mv_R 100, mv_I (S : Int), mv_I (u : Int), mv_I w, mv_I 0, mv_I (V 0 10), mv_I (sp_yc (sp_pa V P g z u 0 10) m), mv_I (sp_yf (sp_pa V P g z u 0 10) m), mv_I (m : Int), l9]) (st' := []) (M1 := (mv_st M 100 (mv_up (M 100) 7 (m : Int)))) rfl ?_
    have hmX : sp_m (mv_st M 100 (mv_up (M 100) 7 (m : Int))) (sp_alt V 0 10 (m : Int)) := by rw [← hVc (m : Int)]; exact sp_m_alt10 hmv
    have hagX : mv_ag [100, 130, 131] M0 (mv_st M 100 (mv_up (M 100) 7 (m : Int))) := hag.st (by decide)
    have h100X : ∀ j, j ≠ 7 → (mv_st M 100 (mv_up (M 100) 7 (m : Int))) 100 j = M0 100 j := fun j hj => (mv_up_n _ _ hj).trans (h100 j hj)
    refine mv_goW 3 (pc' := 59) (ls' := [mv_R 100, mv_I (S : Int), mv_I (u : Int), mv_I w, mv_I 0, mv_I (V 0 10), mv_I (sp_yc (sp_pa V P g z u 0 10) m), mv_I (sp_yf (sp_pa V P g z u 0 10) m), mv_I (m : Int), l9]) (st' := [mv_I (u : Int), mv_I (S : Int), mv_R 100]) (M1 := (mv_st M 100 (mv_up (M 100) 7 (m : Int)))) rfl ?_
    refine mv_callW (st2 := [mv_I (sp_pa V P g z u 0 10 m)]) rfl (Or.inl rfl) rfl rfl rfl (sp_mfa (V := V) (g := g) (u := u) (r := 0) (i := 10) (x := m) hS hmX (sp_ok_alt10 ho (by omega)) hl (sp_mts_ag hP hagX (by decide)) hu (by rw [hagX _ (by decide)]; exact hz) hz8 (fun j hj => by rw [hagX _ (by decide)]; exact hg j hj)) (by first | decide | omega) (fun Ma17 hm18 => ?_)
    have hx := hm18
    refine mv_goW 2 (pc' := if (sp_pa V P g z u 0 10 m) = (-1) then 66 else 70) (ls' := [mv_R 100, mv_I (S : Int), mv_I (u : Int), mv_I w, mv_I 0, mv_I (V 0 10), mv_I (sp_yc (sp_pa V P g z u 0 10) m), mv_I (sp_yf (sp_pa V P g z u 0 10) m), mv_I (m : Int), l9]) (st' := []) (M1 := Ma17) rfl ?_
    refine mv_spW (fun ha19 => ?_) (fun ha19 => ?_)
    · refine mv_goW 6 (pc' := if 1 = 0 then 84 else 80) (ls' := [mv_R 100, mv_I (S : Int), mv_I (u : Int), mv_I w, mv_I 0, mv_I (V 0 10), mv_I (sp_yc (sp_pa V P g z u 0 10) m), mv_I (sp_yf (sp_pa V P g z u 0 10) m), mv_I (m : Int), mv_I 1]) (st' := [mv_I (sp_yc (sp_pa V P g z u 0 10) m)]) (M1 := Ma17) rfl ?_
      refine mv_ffW (by first | decide | omega) ?_
      refine mv_goW 6 (pc' := if 1 = 0 then 104 else 93) (ls' := [mv_R 100, mv_I (S : Int), mv_I (u : Int), mv_I w, mv_I 0, mv_I (V 0 10), mv_I (mv_w ((sp_yc (sp_pa V P g z u 0 10) m) + 1)), mv_I (sp_yf (sp_pa V P g z u 0 10) m), mv_I (m : Int), mv_I 1]) (st' := []) (M1 := Ma17) rfl ?_
      rw [show mv_w ((sp_yc (sp_pa V P g z u 0 10) m) + 1) = (sp_yc (sp_pa V P g z u 0 10) m) + 1 from mv_w_id (by omega) (by omega)]
      refine mv_ffW (by first | decide | omega) ?_
      refine mv_goW 3 (pc' := if (sp_yf (sp_pa V P g z u 0 10) m) = (-1) then 99 else 104) (ls' := [mv_R 100, mv_I (S : Int), mv_I (u : Int), mv_I w, mv_I 0, mv_I (V 0 10), mv_I ((sp_yc (sp_pa V P g z u 0 10) m) + 1), mv_I (sp_yf (sp_pa V P g z u 0 10) m), mv_I (m : Int), mv_I 1]) (st' := []) (M1 := Ma17) rfl ?_
      refine mv_spW (fun ha20 => ?_) (fun ha20 => ?_)
      · refine mv_goW 5 (pc' := 43) (ls' := [mv_R 100, mv_I (S : Int), mv_I (u : Int), mv_I w, mv_I 0, mv_I (V 0 10), mv_I ((sp_yc (sp_pa V P g z u 0 10) m) + 1), mv_I (m : Int), mv_I (mv_w ((m : Int) + 1)), mv_I 1]) (st' := []) (M1 := Ma17) rfl ?_
        rw [show mv_w ((m : Int) + 1) = (m : Int) + 1 from mv_w_id (by omega) (by omega)]
        rw [show (m : Int) + 1 = ((m + 1 : Nat) : Int) from by omega]
        refine mv_eqsW (ls2 := [mv_R 100, mv_I (S : Int), mv_I (u : Int), mv_I (w), mv_I 0, mv_I (V 0 10), mv_I (sp_yc (sp_pa V P g z u 0 10) (m + 1)), mv_I (sp_yf (sp_pa V P g z u 0 10) (m + 1)), mv_I (((m + 1 : Nat) : Int)), mv_I 1]) (by rw [show (m : Int) = sp_yf (sp_pa V P g z u 0 10) (m + 1) from by simp only [sp_yf]; split <;> (try split) <;> first | with_reducible rfl | omega, show (sp_yc (sp_pa V P g z u 0 10) m) + 1 = sp_yc (sp_pa V P g z u 0 10) (m + 1) from by simp only [sp_yc]; split <;> omega]) rfl rfl (ih (m + 1) _ (sp_alt V 0 10 (m : Int)) _ (by omega) (sp_m_ag hmX hx (by rw [hx 100 (by decide)]; exact ⟨rfl, rfl, rfl, rfl⟩) (by decide)) (sp_alt_alt V 0 10 (m : Int)) (hagX.tr (hx.wd (by decide))) (fun j hj => by rw [hx 100 (by decide)]; exact h100X j hj))
      · refine mv_goW 4 (pc' := 43) (ls' := [mv_R 100, mv_I (S : Int), mv_I (u : Int), mv_I w, mv_I 0, mv_I (V 0 10), mv_I ((sp_yc (sp_pa V P g z u 0 10) m) + 1), mv_I (sp_yf (sp_pa V P g z u 0 10) m), mv_I (mv_w ((m : Int) + 1)), mv_I 1]) (st' := []) (M1 := Ma17) rfl ?_
        rw [show mv_w ((m : Int) + 1) = (m : Int) + 1 from mv_w_id (by omega) (by omega)]
        rw [show (m : Int) + 1 = ((m + 1 : Nat) : Int) from by omega]
        refine mv_eqsW (ls2 := [mv_R 100, mv_I (S : Int), mv_I (u : Int), mv_I (w), mv_I 0, mv_I (V 0 10), mv_I (sp_yc (sp_pa V P g z u 0 10) (m + 1)), mv_I (sp_yf (sp_pa V P g z u 0 10) (m + 1)), mv_I (((m + 1 : Nat) : Int)), mv_I 1]) (by rw [show sp_yf (sp_pa V P g z u 0 10) m = sp_yf (sp_pa V P g z u 0 10) (m + 1) from by simp only [sp_yf]; split <;> (try split) <;> first | with_reducible rfl | omega, show (sp_yc (sp_pa V P g z u 0 10) m) + 1 = sp_yc (sp_pa V P g z u 0 10) (m + 1) from by simp only [sp_yc]; split <;> omega]) rfl rfl (ih (m + 1) _ (sp_alt V 0 10 (m : Int)) _ (by omega) (sp_m_ag hmX hx (by rw [hx 100 (by decide)]; exact ⟨rfl, rfl, rfl, rfl⟩) (by decide)) (sp_alt_alt V 0 10 (m : Int)) (hagX.tr (hx.wd (by decide))) (fun j hj => by rw [hx 100 (by decide)]; exact h100X j hj))
    · refine mv_goW 5 (pc' := if 0 = 0 then 84 else 80) (ls' := [mv_R 100, mv_I (S : Int), mv_I (u : Int), mv_I w, mv_I 0, mv_I (V 0 10), mv_I (sp_yc (sp_pa V P g z u 0 10) m), mv_I (sp_yf (sp_pa V P g z u 0 10) m), mv_I (m : Int), mv_I 0]) (st' := [mv_I (sp_yc (sp_pa V P g z u 0 10) m)]) (M1 := Ma17) rfl ?_
      refine mv_ttW (by first | decide | omega) ?_
      refine mv_goW 5 (pc' := if 0 = 0 then 104 else 93) (ls' := [mv_R 100, mv_I (S : Int), mv_I (u : Int), mv_I w, mv_I 0, mv_I (V 0 10), mv_I (mv_w ((sp_yc (sp_pa V P g z u 0 10) m) + 0)), mv_I (sp_yf (sp_pa V P g z u 0 10) m), mv_I (m : Int), mv_I 0]) (st' := []) (M1 := Ma17) rfl ?_
      rw [show mv_w ((sp_yc (sp_pa V P g z u 0 10) m) + 0) = (sp_yc (sp_pa V P g z u 0 10) m) + 0 from mv_w_id (by omega) (by omega)]
      refine mv_ttW (by first | decide | omega) ?_
      refine mv_goW 4 (pc' := 43) (ls' := [mv_R 100, mv_I (S : Int), mv_I (u : Int), mv_I w, mv_I 0, mv_I (V 0 10), mv_I ((sp_yc (sp_pa V P g z u 0 10) m) + 0), mv_I (sp_yf (sp_pa V P g z u 0 10) m), mv_I (mv_w ((m : Int) + 1)), mv_I 0]) (st' := []) (M1 := Ma17) rfl ?_
      rw [show mv_w ((m : Int) + 1) = (m : Int) + 1 from mv_w_id (by omega) (by omega)]
      rw [show (m : Int) + 1 = ((m + 1 : Nat) : Int) from by omega]
      refine mv_eqsW (ls2 := [mv_R 100, mv_I (S : Int), mv_I (u : Int), mv_I (w), mv_I 0, mv_I (V 0 10), mv_I (sp_yc (sp_pa V P g z u 0 10) (m + 1)), mv_I (sp_yf (sp_pa V P g z u 0 10) (m + 1)), mv_I (((m + 1 : Nat) : Int)), mv_I 0]) (by rw [show sp_yf (sp_pa V P g z u 0 10) m = sp_yf (sp_pa V P g z u 0 10) (m + 1) from by simp only [sp_yf]; split <;> (try split) <;> first | with_reducible rfl | omega, show (sp_yc (sp_pa V P g z u 0 10) m) + 0 = sp_yc (sp_pa V P g z u 0 10) (m + 1) from by simp only [sp_yc]; split <;> omega]) rfl rfl (ih (m + 1) _ (sp_alt V 0 10 (m : Int)) _ (by omega) (sp_m_ag hmX hx (by rw [hx 100 (by decide)]; exact ⟨rfl, rfl, rfl, rfl⟩) (by decide)) (sp_alt_alt V 0 10 (m : Int)) (hagX.tr (hx.wd (by decide))) (fun j hj => by rw [hx 100 (by decide)]; exact h100X j hj))
theorem sp_k23_0 (a b : Int) : sp_call 84 177 [mv_I 0, mv_I a, mv_I b] [mv_I 0, mv_I a, mv_I b] := by
  refine sp_mkW (lc := [mv_R 0, mv_I 0, mv_I a, mv_I b, mv_U, mv_U, mv_U, mv_U]) (lm := [mv_R 100, mv_I 0, mv_I a, mv_I b, mv_U, mv_U, mv_U, mv_U, mv_U, mv_U]) rfl rfl (fun M hI => ?_)
  have hI2 := hI
  obtain ⟨V, P, nt, B, K, t, h⟩ := hI2
  have h' := h
  obtain ⟨⟨hc, hm, ho⟩, ⟨hy, hl, hn1, hn⟩, ⟨hct, hmt, hn7, hn12⟩, _⟩ := h'
  have h8 := sp_ok_s8 ho
  have h9 := sp_ok_s9 ho
  obtain ⟨so, sz, ⟨hs1, hs2, so0, so1⟩, ⟨hz1, hz2, sz0, sz1⟩, hcl⟩ := sp_sh_get h 0 (by decide)
  obtain ⟨z, rfl⟩ : ∃ x : Nat, sz = (x : Int) := ⟨sz.toNat, by omega⟩
  have hnz := sp_rfv_n so z (V 0 8)
  by_cases h0 : 0 ≤ a
  · obtain ⟨u, rfl⟩ : ∃ x : Nat, a = (x : Int) := ⟨a.toNat, by omega⟩
    refine mv_goW 3 (pc' := 3) (ls' := [mv_R 0, mv_I 0, mv_I (u : Int), mv_I b, mv_U, mv_U, mv_U, mv_U]) (st' := [mv_I (u : Int), mv_I 0, mv_R 0]) (M1 := M) rfl ?_
    by_cases ha21 : (so ≠ -1 ∧ (z : Int) ≤ V 0 8) ∧ 0 ≤ (u : Int) ∧ (u : Int) < V 0 9
    · refine mv_callPW (st2 := [mv_I 0]) rfl (Or.inl rfl) rfl rfl rfl (sp_crj_0_t hc ho hs1 hz1 ha21) (by first | decide | omega) ?_
      refine mv_goW 3 (pc' := if 0 = 0 then 16 else 13) (ls' := [mv_R 0, mv_I 0, mv_I (u : Int), mv_I b, mv_I 0, mv_U, mv_U, mv_U]) (st' := []) (M1 := M) rfl ?_
      refine mv_ttW (by first | decide | omega) ?_
      refine mv_goW 1 (pc' := 17) (ls' := [mv_R 0, mv_I 0, mv_I (u : Int), mv_I b, mv_I 0, mv_U, mv_U, mv_U]) (st' := [mv_I b]) (M1 := M) rfl ?_
      by_cases ha22 : b = 0 ∨ b = 1
      · refine mv_callPW (st2 := [mv_I 1]) rfl (Or.inr rfl) rfl rfl rfl (sp_eith_t ha22) (by first | decide | omega) ?_
        refine mv_goW 1 (pc' := if 1 = 0 then 23 else 26) (ls' := [mv_R 0, mv_I 0, mv_I (u : Int), mv_I b, mv_I 0, mv_U, mv_U, mv_U]) (st' := []) (M1 := M) rfl ?_
        refine mv_ffW (by first | decide | omega) ?_
        refine mv_goW 4 (pc' := 34) (ls' := [mv_R 0, mv_I 0, mv_I (u : Int), mv_I b, mv_I 0, mv_U, mv_U, mv_U]) (st' := [mv_R 30, mv_R 50]) (M1 := M) rfl ?_
        refine mv_callW (st2 := []) rfl (Or.inl rfl) rfl rfl rfl (sp_become_50_30 hc (by omega) (by omega)) (by first | decide | omega) (fun Ma23 hm24 => ?_)
        have hb := hm24
        refine mv_goW 6 (pc' := 46) (ls' := [mv_R 0, mv_I 0, mv_I (u : Int), mv_I b, mv_I 0, mv_I (-1), mv_I 0, mv_I 0]) (st' := []) (M1 := Ma23) rfl ?_
        have huv : (u : Int) < V 0 9 := by omega
        have hzv : (z : Int) ≤ V 0 8 := by omega
        refine sp_cwn_0 (d := 12) (V := V) (M0 := Ma23) (g := fun j => M 119 (40 * 0 + j)) ho hl hn (sp_cts_ag hct hb.1 hn (fun i h1 h2 => by simp only [List.mem_cons, List.not_mem_nil, or_false]; omega)) huv (by rw [hb.1 _ (by decide)]; exact hz1) hzv (fun j hj => by rw [hb.1 _ (by decide)]; exact hcl j (by omega)) (fun M2 hw => ?_) 100 0 Ma23 V (by omega) hb.2 (fun _ => rfl) mv_ag.rf
        have hw2 : mv_ag [36, 37, 50, 51, 52, 53, 54, 55, 56, 57] M M2 := (hb.1.wd (by decide)).tr (hw.wd (by decide))
        have hm := sp_m_ag2 hm hw2 (by decide)
        have hmt := sp_mts_ag hmt hw2 (by decide)
        have hs2 : M2 117 0 = so := by rw [hw2 117 (by decide)]; exact hs2
        have hz2 : M2 118 0 = (z : Int) := by rw [hw2 118 (by decide)]; exact hz2
        refine mv_goW 2 (pc' := if b = 0 then 107 else 112) (ls' := [mv_R 0, mv_I 0, mv_I (u : Int), mv_I b, mv_I 0, mv_I (sp_yf (sp_pa V P (fun j => M 119 (40 * 0 + j)) z u 0 10) 100), mv_I (sp_yc (sp_pa V P (fun j => M 119 (40 * 0 + j)) z u 0 10) 100), mv_I 100]) (st' := []) (M1 := M2) rfl ?_
        refine mv_spW (fun ha25 => ?_) (fun ha25 => ?_)
        · refine mv_goW 2 (pc' := 114) (ls' := [mv_R 0, mv_I 0, mv_I (u : Int), mv_I b, mv_I 0, mv_I (sp_yf (sp_pa V P (fun j => M 119 (40 * 0 + j)) z u 0 10) 100), mv_I (sp_yc (sp_pa V P (fun j => M 119 (40 * 0 + j)) z u 0 10) 100), mv_I 100]) (st' := [mv_I (sp_yc (sp_pa V P (fun j => M 119 (40 * 0 + j)) z u 0 10) 100)]) (M1 := M2) rfl ?_
          refine mv_retW (fun n => rfl) ⟨_, rfl, ?_⟩
          refine mv_goW 3 (pc' := 3) (ls' := [mv_R 100, mv_I 0, mv_I (u : Int), mv_I b, mv_U, mv_U, mv_U, mv_U, mv_U, mv_U]) (st' := [mv_I (u : Int), mv_I 0, mv_R 100]) (M1 := M2) rfl ?_
          have ha26 : (so ≠ -1 ∧ (z : Int) ≤ V 0 8) ∧ 0 ≤ (u : Int) ∧ (u : Int) < V 0 9 := by omega
          refine mv_callPW (st2 := [mv_I 0]) rfl (Or.inl rfl) rfl rfl rfl (sp_mrj_t (S := 0) (by decide) hm ho hs2 hz2 ha26) (by first | decide | omega) ?_
          refine mv_goW 3 (pc' := if 0 = 0 then 16 else 13) (ls' := [mv_R 100, mv_I 0, mv_I (u : Int), mv_I b, mv_I 0, mv_U, mv_U, mv_U, mv_U, mv_U]) (st' := []) (M1 := M2) rfl ?_
          refine mv_ttW (by first | decide | omega) ?_
          refine mv_goW 3 (pc' := 19) (ls' := [mv_R 100, mv_I 0, mv_I (u : Int), mv_I b, mv_I 0, mv_U, mv_U, mv_U, mv_U, mv_U]) (st' := [mv_I 1, mv_I 0, mv_I b]) (M1 := M2) rfl ?_
          have ha27 : (0 : Int) ≤ b ∧ b ≤ (1 : Int) := by omega
          refine mv_callPW (st2 := [mv_I 1]) rfl (Or.inr rfl) rfl rfl rfl (sp_min_t ha27) (by first | decide | omega) ?_
          refine mv_goW 1 (pc' := if 1 = 0 then 25 else 28) (ls' := [mv_R 100, mv_I 0, mv_I (u : Int), mv_I b, mv_I 0, mv_U, mv_U, mv_U, mv_U, mv_U]) (st' := []) (M1 := M2) rfl ?_
          refine mv_ffW (by first | decide | omega) ?_
          refine mv_goW 2 (pc' := 32) (ls' := [mv_R 100, mv_I 0, mv_I (u : Int), mv_I b, mv_I 0, mv_U, mv_U, mv_U, mv_U, mv_U]) (st' := [mv_I (M2 100 7)]) (M1 := M2) rfl ?_
          have hr1 := sp_ok_s10 ho
          rw [show M2 100 7 = V 0 10 from by exact sp_m_s10 hm]
          refine mv_goW 7 (pc' := 43) (ls' := [mv_R 100, mv_I 0, mv_I (u : Int), mv_I b, mv_I 0, mv_I (V 0 10), mv_I 0, mv_I (-1), mv_I 0, mv_U]) (st' := []) (M1 := M2) rfl ?_
          refine sp_mwn (d := 12) (V := V) (M0 := M2) (S := 0) (g := fun j => M 119 (40 * 0 + j)) ho hl hn hmt huv (by decide) hz2 hzv (fun j hj => by rw [hw2 119 (by decide)]) (fun M3 Vc l9 hm3 hVc3 hy h100 => ?_) 100 0 M2 V mv_U (by omega) hm (fun _ => rfl) mv_ag.rf (fun _ _ => rfl)
          refine mv_goW 5 (pc' := if b = 0 then 124 else 129) (ls' := [mv_R 100, mv_I 0, mv_I (u : Int), mv_I b, mv_I 0, mv_I (V 0 10), mv_I (sp_yc (sp_pa V P (fun j => M 119 (40 * 0 + j)) z u 0 10) 100), mv_I (sp_yf (sp_pa V P (fun j => M 119 (40 * 0 + j)) z u 0 10) 100), mv_I 100, l9]) (st' := []) (M1 := (mv_st M3 100 (mv_up (M3 100) 7 (V 0 10)))) rfl ?_
          refine mv_ttW (by omega) ?_
          refine mv_goW 2 (pc' := 131) (ls' := [mv_R 100, mv_I 0, mv_I (u : Int), mv_I b, mv_I 0, mv_I (V 0 10), mv_I (sp_yc (sp_pa V P (fun j => M 119 (40 * 0 + j)) z u 0 10) 100), mv_I (sp_yf (sp_pa V P (fun j => M 119 (40 * 0 + j)) z u 0 10) 100), mv_I 100, l9]) (st' := [mv_I (sp_yc (sp_pa V P (fun j => M 119 (40 * 0 + j)) z u 0 10) 100)]) (M1 := (mv_st M3 100 (mv_up (M3 100) 7 (V 0 10)))) rfl ?_
          exact mv_retW (fun n => rfl) ⟨congrArg mv_I (by first | with_reducible rfl | omega), sp_bend h hw2 ((hy.wd (by decide)).st (by decide)) ⟨h100 9 (by decide), h100 12 (by decide), h100 14 (by decide)⟩ (by have q := sp_m_alt10 (x := V 0 10) hm3; rw [hVc3, sp_alt_id] at q; exact q)⟩
        · refine mv_goW 1 (pc' := 114) (ls' := [mv_R 0, mv_I 0, mv_I (u : Int), mv_I b, mv_I 0, mv_I (sp_yf (sp_pa V P (fun j => M 119 (40 * 0 + j)) z u 0 10) 100), mv_I (sp_yc (sp_pa V P (fun j => M 119 (40 * 0 + j)) z u 0 10) 100), mv_I 100]) (st' := [mv_I (sp_yf (sp_pa V P (fun j => M 119 (40 * 0 + j)) z u 0 10) 100)]) (M1 := M2) rfl ?_
          refine mv_retW (fun n => rfl) ⟨_, rfl, ?_⟩
          refine mv_goW 3 (pc' := 3) (ls' := [mv_R 100, mv_I 0, mv_I (u : Int), mv_I b, mv_U, mv_U, mv_U, mv_U, mv_U, mv_U]) (st' := [mv_I (u : Int), mv_I 0, mv_R 100]) (M1 := M2) rfl ?_
          have ha28 : (so ≠ -1 ∧ (z : Int) ≤ V 0 8) ∧ 0 ≤ (u : Int) ∧ (u : Int) < V 0 9 := by omega
          refine mv_callPW (st2 := [mv_I 0]) rfl (Or.inl rfl) rfl rfl rfl (sp_mrj_t (S := 0) (by decide) hm ho hs2 hz2 ha28) (by first | decide | omega) ?_
          refine mv_goW 3 (pc' := if 0 = 0 then 16 else 13) (ls' := [mv_R 100, mv_I 0, mv_I (u : Int), mv_I b, mv_I 0, mv_U, mv_U, mv_U, mv_U, mv_U]) (st' := []) (M1 := M2) rfl ?_
          refine mv_ttW (by first | decide | omega) ?_
          refine mv_goW 3 (pc' := 19) (ls' := [mv_R 100, mv_I 0, mv_I (u : Int), mv_I b, mv_I 0, mv_U, mv_U, mv_U, mv_U, mv_U]) (st' := [mv_I 1, mv_I 0, mv_I b]) (M1 := M2) rfl ?_
          have ha29 : (0 : Int) ≤ b ∧ b ≤ (1 : Int) := by omega
          refine mv_callPW (st2 := [mv_I 1]) rfl (Or.inr rfl) rfl rfl rfl (sp_min_t ha29) (by first | decide | omega) ?_
          refine mv_goW 1 (pc' := if 1 = 0 then 25 else 28) (ls' := [mv_R 100, mv_I 0, mv_I (u : Int), mv_I b, mv_I 0, mv_U, mv_U, mv_U, mv_U, mv_U]) (st' := []) (M1 := M2) rfl ?_
          refine mv_ffW (by first | decide | omega) ?_
          refine mv_goW 2 (pc' := 32) (ls' := [mv_R 100, mv_I 0, mv_I (u : Int), mv_I b, mv_I 0, mv_U, mv_U, mv_U, mv_U, mv_U]) (st' := [mv_I (M2 100 7)]) (M1 := M2) rfl ?_
          have hr3 := sp_ok_s10 ho
          rw [show M2 100 7 = V 0 10 from by exact sp_m_s10 hm]
          refine mv_goW 7 (pc' := 43) (ls' := [mv_R 100, mv_I 0, mv_I (u : Int), mv_I b, mv_I 0, mv_I (V 0 10), mv_I 0, mv_I (-1), mv_I 0, mv_U]) (st' := []) (M1 := M2) rfl ?_
          refine sp_mwn (d := 12) (V := V) (M0 := M2) (S := 0) (g := fun j => M 119 (40 * 0 + j)) ho hl hn hmt huv (by decide) hz2 hzv (fun j hj => by rw [hw2 119 (by decide)]) (fun M3 Vc l9 hm3 hVc3 hy h100 => ?_) 100 0 M2 V mv_U (by omega) hm (fun _ => rfl) mv_ag.rf (fun _ _ => rfl)
          refine mv_goW 5 (pc' := if b = 0 then 124 else 129) (ls' := [mv_R 100, mv_I 0, mv_I (u : Int), mv_I b, mv_I 0, mv_I (V 0 10), mv_I (sp_yc (sp_pa V P (fun j => M 119 (40 * 0 + j)) z u 0 10) 100), mv_I (sp_yf (sp_pa V P (fun j => M 119 (40 * 0 + j)) z u 0 10) 100), mv_I 100, l9]) (st' := []) (M1 := (mv_st M3 100 (mv_up (M3 100) 7 (V 0 10)))) rfl ?_
          refine mv_ffW (by omega) ?_
          refine mv_goW 1 (pc' := 131) (ls' := [mv_R 100, mv_I 0, mv_I (u : Int), mv_I b, mv_I 0, mv_I (V 0 10), mv_I (sp_yc (sp_pa V P (fun j => M 119 (40 * 0 + j)) z u 0 10) 100), mv_I (sp_yf (sp_pa V P (fun j => M 119 (40 * 0 + j)) z u 0 10) 100), mv_I 100, l9]) (st' := [mv_I (sp_yf (sp_pa V P (fun j => M 119 (40 * 0 + j)) z u 0 10) 100)]) (M1 := (mv_st M3 100 (mv_up (M3 100) 7 (V 0 10)))) rfl ?_
          exact mv_retW (fun n => rfl) ⟨congrArg mv_I (by first | with_reducible rfl | omega), sp_bend h hw2 ((hy.wd (by decide)).st (by decide)) ⟨h100 9 (by decide), h100 12 (by decide), h100 14 (by decide)⟩ (by have q := sp_m_alt10 (x := V 0 10) hm3; rw [hVc3, sp_alt_id] at q; exact q)⟩
      · refine mv_callPW (st2 := [mv_I 0]) rfl (Or.inr rfl) rfl rfl rfl (sp_eith_f ha22) (by first | decide | omega) ?_
        refine mv_goW 1 (pc' := if 0 = 0 then 23 else 26) (ls' := [mv_R 0, mv_I 0, mv_I (u : Int), mv_I b, mv_I 0, mv_U, mv_U, mv_U]) (st' := []) (M1 := M) rfl ?_
        refine mv_ttW (by first | decide | omega) ?_
        refine mv_goW 1 (pc' := 25) (ls' := [mv_R 0, mv_I 0, mv_I (u : Int), mv_I b, mv_I 0, mv_U, mv_U, mv_U]) (st' := [mv_I (-7)]) (M1 := M) rfl ?_
        refine mv_retW (fun n => rfl) ⟨_, rfl, ?_⟩
        refine mv_goW 3 (pc' := 3) (ls' := [mv_R 100, mv_I 0, mv_I (u : Int), mv_I b, mv_U, mv_U, mv_U, mv_U, mv_U, mv_U]) (st' := [mv_I (u : Int), mv_I 0, mv_R 100]) (M1 := M) rfl ?_
        have ha30 : (so ≠ -1 ∧ (z : Int) ≤ V 0 8) ∧ 0 ≤ (u : Int) ∧ (u : Int) < V 0 9 := by omega
        refine mv_callPW (st2 := [mv_I 0]) rfl (Or.inl rfl) rfl rfl rfl (sp_mrj_t (S := 0) (by decide) hm ho hs2 hz2 ha30) (by first | decide | omega) ?_
        refine mv_goW 3 (pc' := if 0 = 0 then 16 else 13) (ls' := [mv_R 100, mv_I 0, mv_I (u : Int), mv_I b, mv_I 0, mv_U, mv_U, mv_U, mv_U, mv_U]) (st' := []) (M1 := M) rfl ?_
        refine mv_ttW (by first | decide | omega) ?_
        refine mv_goW 3 (pc' := 19) (ls' := [mv_R 100, mv_I 0, mv_I (u : Int), mv_I b, mv_I 0, mv_U, mv_U, mv_U, mv_U, mv_U]) (st' := [mv_I 1, mv_I 0, mv_I b]) (M1 := M) rfl ?_
        have ha31 : ¬ ((0 : Int) ≤ b ∧ b ≤ (1 : Int)) := by omega
        refine mv_callPW (st2 := [mv_I 0]) rfl (Or.inr rfl) rfl rfl rfl (sp_min_f ha31) (by first | decide | omega) ?_
        refine mv_goW 1 (pc' := if 0 = 0 then 25 else 28) (ls' := [mv_R 100, mv_I 0, mv_I (u : Int), mv_I b, mv_I 0, mv_U, mv_U, mv_U, mv_U, mv_U]) (st' := []) (M1 := M) rfl ?_
        refine mv_ttW (by first | decide | omega) ?_
        refine mv_goW 1 (pc' := 27) (ls' := [mv_R 100, mv_I 0, mv_I (u : Int), mv_I b, mv_I 0, mv_U, mv_U, mv_U, mv_U, mv_U]) (st' := [mv_I (-7)]) (M1 := M) rfl ?_
        exact mv_retW (fun n => rfl) ⟨congrArg mv_I (by first | with_reducible rfl | omega), hI⟩
    · refine mv_callPW (st2 := [mv_I (sp_rfv so (z : Int) (V 0 8))]) rfl (Or.inl rfl) rfl rfl rfl (sp_crj_0_f hc ho hs1 hz1 ha21) (by first | decide | omega) ?_
      refine mv_goW 3 (pc' := if (sp_rfv so (z : Int) (V 0 8)) = 0 then 16 else 13) (ls' := [mv_R 0, mv_I 0, mv_I (u : Int), mv_I b, mv_I (sp_rfv so (z : Int) (V 0 8)), mv_U, mv_U, mv_U]) (st' := []) (M1 := M) rfl ?_
      refine mv_ffW (by omega) ?_
      refine mv_goW 1 (pc' := 15) (ls' := [mv_R 0, mv_I 0, mv_I (u : Int), mv_I b, mv_I (sp_rfv so (z : Int) (V 0 8)), mv_U, mv_U, mv_U]) (st' := [mv_I (sp_rfv so (z : Int) (V 0 8))]) (M1 := M) rfl ?_
      refine mv_retW (fun n => rfl) ⟨_, rfl, ?_⟩
      refine mv_goW 3 (pc' := 3) (ls' := [mv_R 100, mv_I 0, mv_I (u : Int), mv_I b, mv_U, mv_U, mv_U, mv_U, mv_U, mv_U]) (st' := [mv_I (u : Int), mv_I 0, mv_R 100]) (M1 := M) rfl ?_
      have ha32 : ¬ ((so ≠ -1 ∧ (z : Int) ≤ V 0 8) ∧ 0 ≤ (u : Int) ∧ (u : Int) < V 0 9) := by omega
      refine mv_callPW (st2 := [mv_I (sp_rfv so (z : Int) (V 0 8))]) rfl (Or.inl rfl) rfl rfl rfl (sp_mrj_f (S := 0) (by decide) hm ho hs2 hz2 ha32) (by first | decide | omega) ?_
      refine mv_goW 3 (pc' := if (sp_rfv so (z : Int) (V 0 8)) = 0 then 16 else 13) (ls' := [mv_R 100, mv_I 0, mv_I (u : Int), mv_I b, mv_I (sp_rfv so (z : Int) (V 0 8)), mv_U, mv_U, mv_U, mv_U, mv_U]) (st' := []) (M1 := M) rfl ?_
      refine mv_ffW (by omega) ?_
      refine mv_goW 1 (pc' := 15) (ls' := [mv_R 100, mv_I 0, mv_I (u : Int), mv_I b, mv_I (sp_rfv so (z : Int) (V 0 8)), mv_U, mv_U, mv_U, mv_U, mv_U]) (st' := [mv_I (sp_rfv so (z : Int) (V 0 8))]) (M1 := M) rfl ?_
      exact mv_retW (fun n => rfl) ⟨congrArg mv_I (by first | with_reducible rfl | omega), hI⟩
  · refine mv_goW 3 (pc' := 3) (ls' := [mv_R 0, mv_I 0, mv_I a, mv_I b, mv_U, mv_U, mv_U, mv_U]) (st' := [mv_I a, mv_I 0, mv_R 0]) (M1 := M) rfl ?_
    have ha33 : ¬ ((so ≠ -1 ∧ (z : Int) ≤ V 0 8) ∧ 0 ≤ a ∧ a < V 0 9) := by omega
    refine mv_callPW (st2 := [mv_I (sp_rfv so (z : Int) (V 0 8))]) rfl (Or.inl rfl) rfl rfl rfl (sp_crj_0_f hc ho hs1 hz1 ha33) (by first | decide | omega) ?_
    refine mv_goW 3 (pc' := if (sp_rfv so (z : Int) (V 0 8)) = 0 then 16 else 13) (ls' := [mv_R 0, mv_I 0, mv_I a, mv_I b, mv_I (sp_rfv so (z : Int) (V 0 8)), mv_U, mv_U, mv_U]) (st' := []) (M1 := M) rfl ?_
    refine mv_ffW (by omega) ?_
    refine mv_goW 1 (pc' := 15) (ls' := [mv_R 0, mv_I 0, mv_I a, mv_I b, mv_I (sp_rfv so (z : Int) (V 0 8)), mv_U, mv_U, mv_U]) (st' := [mv_I (sp_rfv so (z : Int) (V 0 8))]) (M1 := M) rfl ?_
    refine mv_retW (fun n => rfl) ⟨_, rfl, ?_⟩
    refine mv_goW 3 (pc' := 3) (ls' := [mv_R 100, mv_I 0, mv_I a, mv_I b, mv_U, mv_U, mv_U, mv_U, mv_U, mv_U]) (st' := [mv_I a, mv_I 0, mv_R 100]) (M1 := M) rfl ?_
    have ha34 : ¬ ((so ≠ -1 ∧ (z : Int) ≤ V 0 8) ∧ 0 ≤ a ∧ a < V 0 9) := by omega
    refine mv_callPW (st2 := [mv_I (sp_rfv so (z : Int) (V 0 8))]) rfl (Or.inl rfl) rfl rfl rfl (sp_mrj_f (S := 0) (by decide) hm ho hs2 hz2 ha34) (by first | decide | omega) ?_
    refine mv_goW 3 (pc' := if (sp_rfv so (z : Int) (V 0 8)) = 0 then 16 else 13) (ls' := [mv_R 100, mv_I 0, mv_I a, mv_I b, mv_I (sp_rfv so (z : Int) (V 0 8)), mv_U, mv_U, mv_U, mv_U, mv_U]) (st' := []) (M1 := M) rfl ?_
    refine mv_ffW (by omega) ?_
    refine mv_goW 1 (pc' := 15) (ls' := [mv_R 100, mv_I 0, mv_I a, mv_I b, mv_I (sp_rfv so (z : Int) (V 0 8)), mv_U, mv_U, mv_U, mv_U, mv_U]) (st' := [mv_I (sp_rfv so (z : Int) (V 0 8))]) (M1 := M) rfl ?_
    exact mv_retW (fun n => rfl) ⟨congrArg mv_I (by first | with_reducible rfl | omega), hI⟩
theorem sp_k23_1 (a b : Int) : sp_call 84 177 [mv_I 1, mv_I a, mv_I b] [mv_I 1, mv_I a, mv_I b] := by
  refine sp_mkW (lc := [mv_R 0, mv_I 1, mv_I a, mv_I b, mv_U, mv_U, mv_U, mv_U]) (lm := [mv_R 100, mv_I 1, mv_I a, mv_I b, mv_U, mv_U, mv_U, mv_U, mv_U, mv_U]) rfl rfl (fun M hI => ?_)
  have hI2 := hI
  obtain ⟨V, P, nt, B, K, t, h⟩ := hI2
  have h' := h
  obtain ⟨⟨hc, hm, ho⟩, ⟨hy, hl, hn1, hn⟩, ⟨hct, hmt, hn7, hn12⟩, _⟩ := h'
  have h8 := sp_ok_s8 ho
  have h9 := sp_ok_s9 ho
  obtain ⟨so, sz, ⟨hs1, hs2, so0, so1⟩, ⟨hz1, hz2, sz0, sz1⟩, hcl⟩ := sp_sh_get h 1 (by decide)
  obtain ⟨z, rfl⟩ : ∃ x : Nat, sz = (x : Int) := ⟨sz.toNat, by omega⟩
  have hnz := sp_rfv_n so z (V 0 8)
  by_cases h0 : 0 ≤ a
  · obtain ⟨u, rfl⟩ : ∃ x : Nat, a = (x : Int) := ⟨a.toNat, by omega⟩
    refine mv_goW 3 (pc' := 3) (ls' := [mv_R 0, mv_I 1, mv_I (u : Int), mv_I b, mv_U, mv_U, mv_U, mv_U]) (st' := [mv_I (u : Int), mv_I 1, mv_R 0]) (M1 := M) rfl ?_
    by_cases ha35 : (so ≠ -1 ∧ (z : Int) ≤ V 0 8) ∧ 0 ≤ (u : Int) ∧ (u : Int) < V 0 9
    · refine mv_callPW (st2 := [mv_I 0]) rfl (Or.inl rfl) rfl rfl rfl (sp_crj_1_t hc ho hs1 hz1 ha35) (by first | decide | omega) ?_
      refine mv_goW 3 (pc' := if 0 = 0 then 16 else 13) (ls' := [mv_R 0, mv_I 1, mv_I (u : Int), mv_I b, mv_I 0, mv_U, mv_U, mv_U]) (st' := []) (M1 := M) rfl ?_
      refine mv_ttW (by first | decide | omega) ?_
      refine mv_goW 1 (pc' := 17) (ls' := [mv_R 0, mv_I 1, mv_I (u : Int), mv_I b, mv_I 0, mv_U, mv_U, mv_U]) (st' := [mv_I b]) (M1 := M) rfl ?_
      by_cases ha36 : b = 0 ∨ b = 1
      · refine mv_callPW (st2 := [mv_I 1]) rfl (Or.inr rfl) rfl rfl rfl (sp_eith_t ha36) (by first | decide | omega) ?_
        refine mv_goW 1 (pc' := if 1 = 0 then 23 else 26) (ls' := [mv_R 0, mv_I 1, mv_I (u : Int), mv_I b, mv_I 0, mv_U, mv_U, mv_U]) (st' := []) (M1 := M) rfl ?_
        refine mv_ffW (by first | decide | omega) ?_
        refine mv_goW 4 (pc' := 34) (ls' := [mv_R 0, mv_I 1, mv_I (u : Int), mv_I b, mv_I 0, mv_U, mv_U, mv_U]) (st' := [mv_R 30, mv_R 50]) (M1 := M) rfl ?_
        refine mv_callW (st2 := []) rfl (Or.inl rfl) rfl rfl rfl (sp_become_50_30 hc (by omega) (by omega)) (by first | decide | omega) (fun Ma37 hm38 => ?_)
        have hb := hm38
        refine mv_goW 6 (pc' := 46) (ls' := [mv_R 0, mv_I 1, mv_I (u : Int), mv_I b, mv_I 0, mv_I (-1), mv_I 0, mv_I 0]) (st' := []) (M1 := Ma37) rfl ?_
        have huv : (u : Int) < V 0 9 := by omega
        have hzv : (z : Int) ≤ V 0 8 := by omega
        refine sp_cwn_1 (d := 12) (V := V) (M0 := Ma37) (g := fun j => M 119 (40 * 1 + j)) ho hl hn (sp_cts_ag hct hb.1 hn (fun i h1 h2 => by simp only [List.mem_cons, List.not_mem_nil, or_false]; omega)) huv (by rw [hb.1 _ (by decide)]; exact hz1) hzv (fun j hj => by rw [hb.1 _ (by decide)]; exact hcl j (by omega)) (fun M2 hw => ?_) 100 0 Ma37 V (by omega) hb.2 (fun _ => rfl) mv_ag.rf
        have hw2 : mv_ag [36, 37, 50, 51, 52, 53, 54, 55, 56, 57] M M2 := (hb.1.wd (by decide)).tr (hw.wd (by decide))
        have hm := sp_m_ag2 hm hw2 (by decide)
        have hmt := sp_mts_ag hmt hw2 (by decide)
        have hs2 : M2 117 1 = so := by rw [hw2 117 (by decide)]; exact hs2
        have hz2 : M2 118 1 = (z : Int) := by rw [hw2 118 (by decide)]; exact hz2
        refine mv_goW 2 (pc' := if b = 0 then 107 else 112) (ls' := [mv_R 0, mv_I 1, mv_I (u : Int), mv_I b, mv_I 0, mv_I (sp_yf (sp_pa V P (fun j => M 119 (40 * 1 + j)) z u 0 10) 100), mv_I (sp_yc (sp_pa V P (fun j => M 119 (40 * 1 + j)) z u 0 10) 100), mv_I 100]) (st' := []) (M1 := M2) rfl ?_
        refine mv_spW (fun ha39 => ?_) (fun ha39 => ?_)
        · refine mv_goW 2 (pc' := 114) (ls' := [mv_R 0, mv_I 1, mv_I (u : Int), mv_I b, mv_I 0, mv_I (sp_yf (sp_pa V P (fun j => M 119 (40 * 1 + j)) z u 0 10) 100), mv_I (sp_yc (sp_pa V P (fun j => M 119 (40 * 1 + j)) z u 0 10) 100), mv_I 100]) (st' := [mv_I (sp_yc (sp_pa V P (fun j => M 119 (40 * 1 + j)) z u 0 10) 100)]) (M1 := M2) rfl ?_
          refine mv_retW (fun n => rfl) ⟨_, rfl, ?_⟩
          refine mv_goW 3 (pc' := 3) (ls' := [mv_R 100, mv_I 1, mv_I (u : Int), mv_I b, mv_U, mv_U, mv_U, mv_U, mv_U, mv_U]) (st' := [mv_I (u : Int), mv_I 1, mv_R 100]) (M1 := M2) rfl ?_
          have ha40 : (so ≠ -1 ∧ (z : Int) ≤ V 0 8) ∧ 0 ≤ (u : Int) ∧ (u : Int) < V 0 9 := by omega
          refine mv_callPW (st2 := [mv_I 0]) rfl (Or.inl rfl) rfl rfl rfl (sp_mrj_t (S := 1) (by decide) hm ho hs2 hz2 ha40) (by first | decide | omega) ?_
          refine mv_goW 3 (pc' := if 0 = 0 then 16 else 13) (ls' := [mv_R 100, mv_I 1, mv_I (u : Int), mv_I b, mv_I 0, mv_U, mv_U, mv_U, mv_U, mv_U]) (st' := []) (M1 := M2) rfl ?_
          refine mv_ttW (by first | decide | omega) ?_
          refine mv_goW 3 (pc' := 19) (ls' := [mv_R 100, mv_I 1, mv_I (u : Int), mv_I b, mv_I 0, mv_U, mv_U, mv_U, mv_U, mv_U]) (st' := [mv_I 1, mv_I 0, mv_I b]) (M1 := M2) rfl ?_
          have ha41 : (0 : Int) ≤ b ∧ b ≤ (1 : Int) := by omega
          refine mv_callPW (st2 := [mv_I 1]) rfl (Or.inr rfl) rfl rfl rfl (sp_min_t ha41) (by first | decide | omega) ?_
          refine mv_goW 1 (pc' := if 1 = 0 then 25 else 28) (ls' := [mv_R 100, mv_I 1, mv_I (u : Int), mv_I b, mv_I 0, mv_U, mv_U, mv_U, mv_U, mv_U]) (st' := []) (M1 := M2) rfl ?_
          refine mv_ffW (by first | decide | omega) ?_
          refine mv_goW 2 (pc' := 32) (ls' := [mv_R 100, mv_I 1, mv_I (u : Int), mv_I b, mv_I 0, mv_U, mv_U, mv_U, mv_U, mv_U]) (st' := [mv_I (M2 100 7)]) (M1 := M2) rfl ?_
          have hr5 := sp_ok_s10 ho
          rw [show M2 100 7 = V 0 10 from by exact sp_m_s10 hm]
          refine mv_goW 7 (pc' := 43) (ls' := [mv_R 100, mv_I 1, mv_I (u : Int), mv_I b, mv_I 0, mv_I (V 0 10), mv_I 0, mv_I (-1), mv_I 0, mv_U]) (st' := []) (M1 := M2) rfl ?_
          refine sp_mwn (d := 12) (V := V) (M0 := M2) (S := 1) (g := fun j => M 119 (40 * 1 + j)) ho hl hn hmt huv (by decide) hz2 hzv (fun j hj => by rw [hw2 119 (by decide)]) (fun M3 Vc l9 hm3 hVc3 hy h100 => ?_) 100 0 M2 V mv_U (by omega) hm (fun _ => rfl) mv_ag.rf (fun _ _ => rfl)
          refine mv_goW 5 (pc' := if b = 0 then 124 else 129) (ls' := [mv_R 100, mv_I 1, mv_I (u : Int), mv_I b, mv_I 0, mv_I (V 0 10), mv_I (sp_yc (sp_pa V P (fun j => M 119 (40 * 1 + j)) z u 0 10) 100), mv_I (sp_yf (sp_pa V P (fun j => M 119 (40 * 1 + j)) z u 0 10) 100), mv_I 100, l9]) (st' := []) (M1 := (mv_st M3 100 (mv_up (M3 100) 7 (V 0 10)))) rfl ?_
          refine mv_ttW (by omega) ?_
          refine mv_goW 2 (pc' := 131) (ls' := [mv_R 100, mv_I 1, mv_I (u : Int), mv_I b, mv_I 0, mv_I (V 0 10), mv_I (sp_yc (sp_pa V P (fun j => M 119 (40 * 1 + j)) z u 0 10) 100), mv_I (sp_yf (sp_pa V P (fun j => M 119 (40 * 1 + j)) z u 0 10) 100), mv_I 100, l9]) (st' := [mv_I (sp_yc (sp_pa V P (fun j => M 119 (40 * 1 + j)) z u 0 10) 100)]) (M1 := (mv_st M3 100 (mv_up (M3 100) 7 (V 0 10)))) rfl ?_
          exact mv_retW (fun n => rfl) ⟨congrArg mv_I (by first | with_reducible rfl | omega), sp_bend h hw2 ((hy.wd (by decide)).st (by decide)) ⟨h100 9 (by decide), h100 12 (by decide), h100 14 (by decide)⟩ (by have q := sp_m_alt10 (x := V 0 10) hm3; rw [hVc3, sp_alt_id] at q; exact q)⟩
        · refine mv_goW 1 (pc' := 114) (ls' := [mv_R 0, mv_I 1, mv_I (u : Int), mv_I b, mv_I 0, mv_I (sp_yf (sp_pa V P (fun j => M 119 (40 * 1 + j)) z u 0 10) 100), mv_I (sp_yc (sp_pa V P (fun j => M 119 (40 * 1 + j)) z u 0 10) 100), mv_I 100]) (st' := [mv_I (sp_yf (sp_pa V P (fun j => M 119 (40 * 1 + j)) z u 0 10) 100)]) (M1 := M2) rfl ?_
          refine mv_retW (fun n => rfl) ⟨_, rfl, ?_⟩
          refine mv_goW 3 (pc' := 3) (ls' := [mv_R 100, mv_I 1, mv_I (u : Int), mv_I b, mv_U, mv_U, mv_U, mv_U, mv_U, mv_U]) (st' := [mv_I (u : Int), mv_I 1, mv_R 100]) (M1 := M2) rfl ?_
          have ha42 : (so ≠ -1 ∧ (z : Int) ≤ V 0 8) ∧ 0 ≤ (u : Int) ∧ (u : Int) < V 0 9 := by omega
          refine mv_callPW (st2 := [mv_I 0]) rfl (Or.inl rfl) rfl rfl rfl (sp_mrj_t (S := 1) (by decide) hm ho hs2 hz2 ha42) (by first | decide | omega) ?_
          refine mv_goW 3 (pc' := if 0 = 0 then 16 else 13) (ls' := [mv_R 100, mv_I 1, mv_I (u : Int), mv_I b, mv_I 0, mv_U, mv_U, mv_U, mv_U, mv_U]) (st' := []) (M1 := M2) rfl ?_
          refine mv_ttW (by first | decide | omega) ?_
          refine mv_goW 3 (pc' := 19) (ls' := [mv_R 100, mv_I 1, mv_I (u : Int), mv_I b, mv_I 0, mv_U, mv_U, mv_U, mv_U, mv_U]) (st' := [mv_I 1, mv_I 0, mv_I b]) (M1 := M2) rfl ?_
          have ha43 : (0 : Int) ≤ b ∧ b ≤ (1 : Int) := by omega
          refine mv_callPW (st2 := [mv_I 1]) rfl (Or.inr rfl) rfl rfl rfl (sp_min_t ha43) (by first | decide | omega) ?_
          refine mv_goW 1 (pc' := if 1 = 0 then 25 else 28) (ls' := [mv_R 100, mv_I 1, mv_I (u : Int), mv_I b, mv_I 0, mv_U, mv_U, mv_U, mv_U, mv_U]) (st' := []) (M1 := M2) rfl ?_
          refine mv_ffW (by first | decide | omega) ?_
          refine mv_goW 2 (pc' := 32) (ls' := [mv_R 100, mv_I 1, mv_I (u : Int), mv_I b, mv_I 0, mv_U, mv_U, mv_U, mv_U, mv_U]) (st' := [mv_I (M2 100 7)]) (M1 := M2) rfl ?_
          have hr7 := sp_ok_s10 ho
          rw [show M2 100 7 = V 0 10 from by exact sp_m_s10 hm]
          refine mv_goW 7 (pc' := 43) (ls' := [mv_R 100, mv_I 1, mv_I (u : Int), mv_I b, mv_I 0, mv_I (V 0 10), mv_I 0, mv_I (-1), mv_I 0, mv_U]) (st' := []) (M1 := M2) rfl ?_
          refine sp_mwn (d := 12) (V := V) (M0 := M2) (S := 1) (g := fun j => M 119 (40 * 1 + j)) ho hl hn hmt huv (by decide) hz2 hzv (fun j hj => by rw [hw2 119 (by decide)]) (fun M3 Vc l9 hm3 hVc3 hy h100 => ?_) 100 0 M2 V mv_U (by omega) hm (fun _ => rfl) mv_ag.rf (fun _ _ => rfl)
          refine mv_goW 5 (pc' := if b = 0 then 124 else 129) (ls' := [mv_R 100, mv_I 1, mv_I (u : Int), mv_I b, mv_I 0, mv_I (V 0 10), mv_I (sp_yc (sp_pa V P (fun j => M 119 (40 * 1 + j)) z u 0 10) 100), mv_I (sp_yf (sp_pa V P (fun j => M 119 (40 * 1 + j)) z u 0 10) 100), mv_I 100, l9]) (st' := []) (M1 := (mv_st M3 100 (mv_up (M3 100) 7 (V 0 10)))) rfl ?_
          refine mv_ffW (by omega) ?_
          refine mv_goW 1 (pc' := 131) (ls' := [mv_R 100, mv_I 1, mv_I (u : Int), mv_I b, mv_I 0, mv_I (V 0 10), mv_I (sp_yc (sp_pa V P (fun j => M 119 (40 * 1 + j)) z u 0 10) 100), mv_I (sp_yf (sp_pa V P (fun j => M 119 (40 * 1 + j)) z u 0 10) 100), mv_I 100, l9]) (st' := [mv_I (sp_yf (sp_pa V P (fun j => M 119 (40 * 1 + j)) z u 0 10) 100)]) (M1 := (mv_st M3 100 (mv_up (M3 100) 7 (V 0 10)))) rfl ?_
          exact mv_retW (fun n => rfl) ⟨congrArg mv_I (by first | with_reducible rfl | omega), sp_bend h hw2 ((hy.wd (by decide)).st (by decide)) ⟨h100 9 (by decide), h100 12 (by decide), h100 14 (by decide)⟩ (by have q := sp_m_alt10 (x := V 0 10) hm3; rw [hVc3, sp_alt_id] at q; exact q)⟩
      · refine mv_callPW (st2 := [mv_I 0]) rfl (Or.inr rfl) rfl rfl rfl (sp_eith_f ha36) (by first | decide | omega) ?_
        refine mv_goW 1 (pc' := if 0 = 0 then 23 else 26) (ls' := [mv_R 0, mv_I 1, mv_I (u : Int), mv_I b, mv_I 0, mv_U, mv_U, mv_U]) (st' := []) (M1 := M) rfl ?_
        refine mv_ttW (by first | decide | omega) ?_
        refine mv_goW 1 (pc' := 25) (ls' := [mv_R 0, mv_I 1, mv_I (u : Int), mv_I b, mv_I 0, mv_U, mv_U, mv_U]) (st' := [mv_I (-7)]) (M1 := M) rfl ?_
        refine mv_retW (fun n => rfl) ⟨_, rfl, ?_⟩
        refine mv_goW 3 (pc' := 3) (ls' := [mv_R 100, mv_I 1, mv_I (u : Int), mv_I b, mv_U, mv_U, mv_U, mv_U, mv_U, mv_U]) (st' := [mv_I (u : Int), mv_I 1, mv_R 100]) (M1 := M) rfl ?_
        have ha44 : (so ≠ -1 ∧ (z : Int) ≤ V 0 8) ∧ 0 ≤ (u : Int) ∧ (u : Int) < V 0 9 := by omega
        refine mv_callPW (st2 := [mv_I 0]) rfl (Or.inl rfl) rfl rfl rfl (sp_mrj_t (S := 1) (by decide) hm ho hs2 hz2 ha44) (by first | decide | omega) ?_
        refine mv_goW 3 (pc' := if 0 = 0 then 16 else 13) (ls' := [mv_R 100, mv_I 1, mv_I (u : Int), mv_I b, mv_I 0, mv_U, mv_U, mv_U, mv_U, mv_U]) (st' := []) (M1 := M) rfl ?_
        refine mv_ttW (by first | decide | omega) ?_
        refine mv_goW 3 (pc' := 19) (ls' := [mv_R 100, mv_I 1, mv_I (u : Int), mv_I b, mv_I 0, mv_U, mv_U, mv_U, mv_U, mv_U]) (st' := [mv_I 1, mv_I 0, mv_I b]) (M1 := M) rfl ?_
        have ha45 : ¬ ((0 : Int) ≤ b ∧ b ≤ (1 : Int)) := by omega
        refine mv_callPW (st2 := [mv_I 0]) rfl (Or.inr rfl) rfl rfl rfl (sp_min_f ha45) (by first | decide | omega) ?_
        refine mv_goW 1 (pc' := if 0 = 0 then 25 else 28) (ls' := [mv_R 100, mv_I 1, mv_I (u : Int), mv_I b, mv_I 0, mv_U, mv_U, mv_U, mv_U, mv_U]) (st' := []) (M1 := M) rfl ?_
        refine mv_ttW (by first | decide | omega) ?_
        refine mv_goW 1 (pc' := 27) (ls' := [mv_R 100, mv_I 1, mv_I (u : Int), mv_I b, mv_I 0, mv_U, mv_U, mv_U, mv_U, mv_U]) (st' := [mv_I (-7)]) (M1 := M) rfl ?_
        exact mv_retW (fun n => rfl) ⟨congrArg mv_I (by first | with_reducible rfl | omega), hI⟩
    · refine mv_callPW (st2 := [mv_I (sp_rfv so (z : Int) (V 0 8))]) rfl (Or.inl rfl) rfl rfl rfl (sp_crj_1_f hc ho hs1 hz1 ha35) (by first | decide | omega) ?_
      refine mv_goW 3 (pc' := if (sp_rfv so (z : Int) (V 0 8)) = 0 then 16 else 13) (ls' := [mv_R 0, mv_I 1, mv_I (u : Int), mv_I b, mv_I (sp_rfv so (z : Int) (V 0 8)), mv_U, mv_U, mv_U]) (st' := []) (M1 := M) rfl ?_
      refine mv_ffW (by omega) ?_
      refine mv_goW 1 (pc' := 15) (ls' := [mv_R 0, mv_I 1, mv_I (u : Int), mv_I b, mv_I (sp_rfv so (z : Int) (V 0 8)), mv_U, mv_U, mv_U]) (st' := [mv_I (sp_rfv so (z : Int) (V 0 8))]) (M1 := M) rfl ?_
      refine mv_retW (fun n => rfl) ⟨_, rfl, ?_⟩
      refine mv_goW 3 (pc' := 3) (ls' := [mv_R 100, mv_I 1, mv_I (u : Int), mv_I b, mv_U, mv_U, mv_U, mv_U, mv_U, mv_U]) (st' := [mv_I (u : Int), mv_I 1, mv_R 100]) (M1 := M) rfl ?_
      have ha46 : ¬ ((so ≠ -1 ∧ (z : Int) ≤ V 0 8) ∧ 0 ≤ (u : Int) ∧ (u : Int) < V 0 9) := by omega
      refine mv_callPW (st2 := [mv_I (sp_rfv so (z : Int) (V 0 8))]) rfl (Or.inl rfl) rfl rfl rfl (sp_mrj_f (S := 1) (by decide) hm ho hs2 hz2 ha46) (by first | decide | omega) ?_
      refine mv_goW 3 (pc' := if (sp_rfv so (z : Int) (V 0 8)) = 0 then 16 else 13) (ls' := [mv_R 100, mv_I 1, mv_I (u : Int), mv_I b, mv_I (sp_rfv so (z : Int) (V 0 8)), mv_U, mv_U, mv_U, mv_U, mv_U]) (st' := []) (M1 := M) rfl ?_
      refine mv_ffW (by omega) ?_
      refine mv_goW 1 (pc' := 15) (ls' := [mv_R 100, mv_I 1, mv_I (u : Int), mv_I b, mv_I (sp_rfv so (z : Int) (V 0 8)), mv_U, mv_U, mv_U, mv_U, mv_U]) (st' := [mv_I (sp_rfv so (z : Int) (V 0 8))]) (M1 := M) rfl ?_
      exact mv_retW (fun n => rfl) ⟨congrArg mv_I (by first | with_reducible rfl | omega), hI⟩
  · refine mv_goW 3 (pc' := 3) (ls' := [mv_R 0, mv_I 1, mv_I a, mv_I b, mv_U, mv_U, mv_U, mv_U]) (st' := [mv_I a, mv_I 1, mv_R 0]) (M1 := M) rfl ?_
    have ha47 : ¬ ((so ≠ -1 ∧ (z : Int) ≤ V 0 8) ∧ 0 ≤ a ∧ a < V 0 9) := by omega
    refine mv_callPW (st2 := [mv_I (sp_rfv so (z : Int) (V 0 8))]) rfl (Or.inl rfl) rfl rfl rfl (sp_crj_1_f hc ho hs1 hz1 ha47) (by first | decide | omega) ?_
    refine mv_goW 3 (pc' := if (sp_rfv so (z : Int) (V 0 8)) = 0 then 16 else 13) (ls' := [mv_R 0, mv_I 1, mv_I a, mv_I b, mv_I (sp_rfv so (z : Int) (V 0 8)), mv_U, mv_U, mv_U]) (st' := []) (M1 := M) rfl ?_
    refine mv_ffW (by omega) ?_
    refine mv_goW 1 (pc' := 15) (ls' := [mv_R 0, mv_I 1, mv_I a, mv_I b, mv_I (sp_rfv so (z : Int) (V 0 8)), mv_U, mv_U, mv_U]) (st' := [mv_I (sp_rfv so (z : Int) (V 0 8))]) (M1 := M) rfl ?_
    refine mv_retW (fun n => rfl) ⟨_, rfl, ?_⟩
    refine mv_goW 3 (pc' := 3) (ls' := [mv_R 100, mv_I 1, mv_I a, mv_I b, mv_U, mv_U, mv_U, mv_U, mv_U, mv_U]) (st' := [mv_I a, mv_I 1, mv_R 100]) (M1 := M) rfl ?_
    have ha48 : ¬ ((so ≠ -1 ∧ (z : Int) ≤ V 0 8) ∧ 0 ≤ a ∧ a < V 0 9) := by omega
    refine mv_callPW (st2 := [mv_I (sp_rfv so (z : Int) (V 0 8))]) rfl (Or.inl rfl) rfl rfl rfl (sp_mrj_f (S := 1) (by decide) hm ho hs2 hz2 ha48) (by first | decide | omega) ?_
    refine mv_goW 3 (pc' := if (sp_rfv so (z : Int) (V 0 8)) = 0 then 16 else 13) (ls' := [mv_R 100, mv_I 1, mv_I a, mv_I b, mv_I (sp_rfv so (z : Int) (V 0 8)), mv_U, mv_U, mv_U, mv_U, mv_U]) (st' := []) (M1 := M) rfl ?_
    refine mv_ffW (by omega) ?_
    refine mv_goW 1 (pc' := 15) (ls' := [mv_R 100, mv_I 1, mv_I a, mv_I b, mv_I (sp_rfv so (z : Int) (V 0 8)), mv_U, mv_U, mv_U, mv_U, mv_U]) (st' := [mv_I (sp_rfv so (z : Int) (V 0 8))]) (M1 := M) rfl ?_
    exact mv_retW (fun n => rfl) ⟨congrArg mv_I (by first | with_reducible rfl | omega), hI⟩
theorem sp_k23_2 (a b : Int) : sp_call 84 177 [mv_I 2, mv_I a, mv_I b] [mv_I 2, mv_I a, mv_I b] := by
  refine sp_mkW (lc := [mv_R 0, mv_I 2, mv_I a, mv_I b, mv_U, mv_U, mv_U, mv_U]) (lm := [mv_R 100, mv_I 2, mv_I a, mv_I b, mv_U, mv_U, mv_U, mv_U, mv_U, mv_U]) rfl rfl (fun M hI => ?_)
  have hI2 := hI
  obtain ⟨V, P, nt, B, K, t, h⟩ := hI2
  have h' := h
  obtain ⟨⟨hc, hm, ho⟩, ⟨hy, hl, hn1, hn⟩, ⟨hct, hmt, hn7, hn12⟩, _⟩ := h'
  have h8 := sp_ok_s8 ho
  have h9 := sp_ok_s9 ho
  obtain ⟨so, sz, ⟨hs1, hs2, so0, so1⟩, ⟨hz1, hz2, sz0, sz1⟩, hcl⟩ := sp_sh_get h 2 (by decide)
  obtain ⟨z, rfl⟩ : ∃ x : Nat, sz = (x : Int) := ⟨sz.toNat, by omega⟩
  have hnz := sp_rfv_n so z (V 0 8)
  by_cases h0 : 0 ≤ a
  · obtain ⟨u, rfl⟩ : ∃ x : Nat, a = (x : Int) := ⟨a.toNat, by omega⟩
    refine mv_goW 3 (pc' := 3) (ls' := [mv_R 0, mv_I 2, mv_I (u : Int), mv_I b, mv_U, mv_U, mv_U, mv_U]) (st' := [mv_I (u : Int), mv_I 2, mv_R 0]) (M1 := M) rfl ?_
    by_cases ha49 : (so ≠ -1 ∧ (z : Int) ≤ V 0 8) ∧ 0 ≤ (u : Int) ∧ (u : Int) < V 0 9
    · refine mv_callPW (st2 := [mv_I 0]) rfl (Or.inl rfl) rfl rfl rfl (sp_crj_2_t hc ho hs1 hz1 ha49) (by first | decide | omega) ?_
      refine mv_goW 3 (pc' := if 0 = 0 then 16 else 13) (ls' := [mv_R 0, mv_I 2, mv_I (u : Int), mv_I b, mv_I 0, mv_U, mv_U, mv_U]) (st' := []) (M1 := M) rfl ?_
      refine mv_ttW (by first | decide | omega) ?_
      refine mv_goW 1 (pc' := 17) (ls' := [mv_R 0, mv_I 2, mv_I (u : Int), mv_I b, mv_I 0, mv_U, mv_U, mv_U]) (st' := [mv_I b]) (M1 := M) rfl ?_
      by_cases ha50 : b = 0 ∨ b = 1
      · refine mv_callPW (st2 := [mv_I 1]) rfl (Or.inr rfl) rfl rfl rfl (sp_eith_t ha50) (by first | decide | omega) ?_
        refine mv_goW 1 (pc' := if 1 = 0 then 23 else 26) (ls' := [mv_R 0, mv_I 2, mv_I (u : Int), mv_I b, mv_I 0, mv_U, mv_U, mv_U]) (st' := []) (M1 := M) rfl ?_
        refine mv_ffW (by first | decide | omega) ?_
        refine mv_goW 4 (pc' := 34) (ls' := [mv_R 0, mv_I 2, mv_I (u : Int), mv_I b, mv_I 0, mv_U, mv_U, mv_U]) (st' := [mv_R 30, mv_R 50]) (M1 := M) rfl ?_
        refine mv_callW (st2 := []) rfl (Or.inl rfl) rfl rfl rfl (sp_become_50_30 hc (by omega) (by omega)) (by first | decide | omega) (fun Ma51 hm52 => ?_)
        have hb := hm52
        refine mv_goW 6 (pc' := 46) (ls' := [mv_R 0, mv_I 2, mv_I (u : Int), mv_I b, mv_I 0, mv_I (-1), mv_I 0, mv_I 0]) (st' := []) (M1 := Ma51) rfl ?_
        have huv : (u : Int) < V 0 9 := by omega
        have hzv : (z : Int) ≤ V 0 8 := by omega
        refine sp_cwn_2 (d := 12) (V := V) (M0 := Ma51) (g := fun j => M 119 (40 * 2 + j)) ho hl hn (sp_cts_ag hct hb.1 hn (fun i h1 h2 => by simp only [List.mem_cons, List.not_mem_nil, or_false]; omega)) huv (by rw [hb.1 _ (by decide)]; exact hz1) hzv (fun j hj => by rw [hb.1 _ (by decide)]; exact hcl j (by omega)) (fun M2 hw => ?_) 100 0 Ma51 V (by omega) hb.2 (fun _ => rfl) mv_ag.rf
        have hw2 : mv_ag [36, 37, 50, 51, 52, 53, 54, 55, 56, 57] M M2 := (hb.1.wd (by decide)).tr (hw.wd (by decide))
        have hm := sp_m_ag2 hm hw2 (by decide)
        have hmt := sp_mts_ag hmt hw2 (by decide)
        have hs2 : M2 117 2 = so := by rw [hw2 117 (by decide)]; exact hs2
        have hz2 : M2 118 2 = (z : Int) := by rw [hw2 118 (by decide)]; exact hz2
        refine mv_goW 2 (pc' := if b = 0 then 107 else 112) (ls' := [mv_R 0, mv_I 2, mv_I (u : Int), mv_I b, mv_I 0, mv_I (sp_yf (sp_pa V P (fun j => M 119 (40 * 2 + j)) z u 0 10) 100), mv_I (sp_yc (sp_pa V P (fun j => M 119 (40 * 2 + j)) z u 0 10) 100), mv_I 100]) (st' := []) (M1 := M2) rfl ?_
        refine mv_spW (fun ha53 => ?_) (fun ha53 => ?_)
        · refine mv_goW 2 (pc' := 114) (ls' := [mv_R 0, mv_I 2, mv_I (u : Int), mv_I b, mv_I 0, mv_I (sp_yf (sp_pa V P (fun j => M 119 (40 * 2 + j)) z u 0 10) 100), mv_I (sp_yc (sp_pa V P (fun j => M 119 (40 * 2 + j)) z u 0 10) 100), mv_I 100]) (st' := [mv_I (sp_yc (sp_pa V P (fun j => M 119 (40 * 2 + j)) z u 0 10) 100)]) (M1 := M2) rfl ?_
          refine mv_retW (fun n => rfl) ⟨_, rfl, ?_⟩
          refine mv_goW 3 (pc' := 3) (ls' := [mv_R 100, mv_I 2, mv_I (u : Int), mv_I b, mv_U, mv_U, mv_U, mv_U, mv_U, mv_U]) (st' := [mv_I (u : Int), mv_I 2, mv_R 100]) (M1 := M2) rfl ?_
          have ha54 : (so ≠ -1 ∧ (z : Int) ≤ V 0 8) ∧ 0 ≤ (u : Int) ∧ (u : Int) < V 0 9 := by omega
          refine mv_callPW (st2 := [mv_I 0]) rfl (Or.inl rfl) rfl rfl rfl (sp_mrj_t (S := 2) (by decide) hm ho hs2 hz2 ha54) (by first | decide | omega) ?_
          refine mv_goW 3 (pc' := if 0 = 0 then 16 else 13) (ls' := [mv_R 100, mv_I 2, mv_I (u : Int), mv_I b, mv_I 0, mv_U, mv_U, mv_U, mv_U, mv_U]) (st' := []) (M1 := M2) rfl ?_
          refine mv_ttW (by first | decide | omega) ?_
          refine mv_goW 3 (pc' := 19) (ls' := [mv_R 100, mv_I 2, mv_I (u : Int), mv_I b, mv_I 0, mv_U, mv_U, mv_U, mv_U, mv_U]) (st' := [mv_I 1, mv_I 0, mv_I b]) (M1 := M2) rfl ?_
          have ha55 : (0 : Int) ≤ b ∧ b ≤ (1 : Int) := by omega
          refine mv_callPW (st2 := [mv_I 1]) rfl (Or.inr rfl) rfl rfl rfl (sp_min_t ha55) (by first | decide | omega) ?_
          refine mv_goW 1 (pc' := if 1 = 0 then 25 else 28) (ls' := [mv_R 100, mv_I 2, mv_I (u : Int), mv_I b, mv_I 0, mv_U, mv_U, mv_U, mv_U, mv_U]) (st' := []) (M1 := M2) rfl ?_
          refine mv_ffW (by first | decide | omega) ?_
          refine mv_goW 2 (pc' := 32) (ls' := [mv_R 100, mv_I 2, mv_I (u : Int), mv_I b, mv_I 0, mv_U, mv_U, mv_U, mv_U, mv_U]) (st' := [mv_I (M2 100 7)]) (M1 := M2) rfl ?_
          have hr9 := sp_ok_s10 ho
          rw [show M2 100 7 = V 0 10 from by exact sp_m_s10 hm]
          refine mv_goW 7 (pc' := 43) (ls' := [mv_R 100, mv_I 2, mv_I (u : Int), mv_I b, mv_I 0, mv_I (V 0 10), mv_I 0, mv_I (-1), mv_I 0, mv_U]) (st' := []) (M1 := M2) rfl ?_
          refine sp_mwn (d := 12) (V := V) (M0 := M2) (S := 2) (g := fun j => M 119 (40 * 2 + j)) ho hl hn hmt huv (by decide) hz2 hzv (fun j hj => by rw [hw2 119 (by decide)]) (fun M3 Vc l9 hm3 hVc3 hy h100 => ?_) 100 0 M2 V mv_U (by omega) hm (fun _ => rfl) mv_ag.rf (fun _ _ => rfl)
          refine mv_goW 5 (pc' := if b = 0 then 124 else 129) (ls' := [mv_R 100, mv_I 2, mv_I (u : Int), mv_I b, mv_I 0, mv_I (V 0 10), mv_I (sp_yc (sp_pa V P (fun j => M 119 (40 * 2 + j)) z u 0 10) 100), mv_I (sp_yf (sp_pa V P (fun j => M 119 (40 * 2 + j)) z u 0 10) 100), mv_I 100, l9]) (st' := []) (M1 := (mv_st M3 100 (mv_up (M3 100) 7 (V 0 10)))) rfl ?_
          refine mv_ttW (by omega) ?_
          refine mv_goW 2 (pc' := 131) (ls' := [mv_R 100, mv_I 2, mv_I (u : Int), mv_I b, mv_I 0, mv_I (V 0 10), mv_I (sp_yc (sp_pa V P (fun j => M 119 (40 * 2 + j)) z u 0 10) 100), mv_I (sp_yf (sp_pa V P (fun j => M 119 (40 * 2 + j)) z u 0 10) 100), mv_I 100, l9]) (st' := [mv_I (sp_yc (sp_pa V P (fun j => M 119 (40 * 2 + j)) z u 0 10) 100)]) (M1 := (mv_st M3 100 (mv_up (M3 100) 7 (V 0 10)))) rfl ?_
          exact mv_retW (fun n => rfl) ⟨congrArg mv_I (by first | with_reducible rfl | omega), sp_bend h hw2 ((hy.wd (by decide)).st (by decide)) ⟨h100 9 (by decide), h100 12 (by decide), h100 14 (by decide)⟩ (by have q := sp_m_alt10 (x := V 0 10) hm3; rw [hVc3, sp_alt_id] at q; exact q)⟩
        · refine mv_goW 1 (pc' := 114) (ls' := [mv_R 0, mv_I 2, mv_I (u : Int), mv_I b, mv_I 0, mv_I (sp_yf (sp_pa V P (fun j => M 119 (40 * 2 + j)) z u 0 10) 100), mv_I (sp_yc (sp_pa V P (fun j => M 119 (40 * 2 + j)) z u 0 10) 100), mv_I 100]) (st' := [mv_I (sp_yf (sp_pa V P (fun j => M 119 (40 * 2 + j)) z u 0 10) 100)]) (M1 := M2) rfl ?_
          refine mv_retW (fun n => rfl) ⟨_, rfl, ?_⟩
          refine mv_goW 3 (pc' := 3) (ls' := [mv_R 100, mv_I 2, mv_I (u : Int), mv_I b, mv_U, mv_U, mv_U, mv_U, mv_U, mv_U]) (st' := [mv_I (u : Int), mv_I 2, mv_R 100]) (M1 := M2) rfl ?_
          have ha56 : (so ≠ -1 ∧ (z : Int) ≤ V 0 8) ∧ 0 ≤ (u : Int) ∧ (u : Int) < V 0 9 := by omega
          refine mv_callPW (st2 := [mv_I 0]) rfl (Or.inl rfl) rfl rfl rfl (sp_mrj_t (S := 2) (by decide) hm ho hs2 hz2 ha56) (by first | decide | omega) ?_
          refine mv_goW 3 (pc' := if 0 = 0 then 16 else 13) (ls' := [mv_R 100, mv_I 2, mv_I (u : Int), mv_I b, mv_I 0, mv_U, mv_U, mv_U, mv_U, mv_U]) (st' := []) (M1 := M2) rfl ?_
          refine mv_ttW (by first | decide | omega) ?_
          refine mv_goW 3 (pc' := 19) (ls' := [mv_R 100, mv_I 2, mv_I (u : Int), mv_I b, mv_I 0, mv_U, mv_U, mv_U, mv_U, mv_U]) (st' := [mv_I 1, mv_I 0, mv_I b]) (M1 := M2) rfl ?_
          have ha57 : (0 : Int) ≤ b ∧ b ≤ (1 : Int) := by omega
          refine mv_callPW (st2 := [mv_I 1]) rfl (Or.inr rfl) rfl rfl rfl (sp_min_t ha57) (by first | decide | omega) ?_
          refine mv_goW 1 (pc' := if 1 = 0 then 25 else 28) (ls' := [mv_R 100, mv_I 2, mv_I (u : Int), mv_I b, mv_I 0, mv_U, mv_U, mv_U, mv_U, mv_U]) (st' := []) (M1 := M2) rfl ?_
          refine mv_ffW (by first | decide | omega) ?_
          refine mv_goW 2 (pc' := 32) (ls' := [mv_R 100, mv_I 2, mv_I (u : Int), mv_I b, mv_I 0, mv_U, mv_U, mv_U, mv_U, mv_U]) (st' := [mv_I (M2 100 7)]) (M1 := M2) rfl ?_
          have hr11 := sp_ok_s10 ho
          rw [show M2 100 7 = V 0 10 from by exact sp_m_s10 hm]
          refine mv_goW 7 (pc' := 43) (ls' := [mv_R 100, mv_I 2, mv_I (u : Int), mv_I b, mv_I 0, mv_I (V 0 10), mv_I 0, mv_I (-1), mv_I 0, mv_U]) (st' := []) (M1 := M2) rfl ?_
          refine sp_mwn (d := 12) (V := V) (M0 := M2) (S := 2) (g := fun j => M 119 (40 * 2 + j)) ho hl hn hmt huv (by decide) hz2 hzv (fun j hj => by rw [hw2 119 (by decide)]) (fun M3 Vc l9 hm3 hVc3 hy h100 => ?_) 100 0 M2 V mv_U (by omega) hm (fun _ => rfl) mv_ag.rf (fun _ _ => rfl)
          refine mv_goW 5 (pc' := if b = 0 then 124 else 129) (ls' := [mv_R 100, mv_I 2, mv_I (u : Int), mv_I b, mv_I 0, mv_I (V 0 10), mv_I (sp_yc (sp_pa V P (fun j => M 119 (40 * 2 + j)) z u 0 10) 100), mv_I (sp_yf (sp_pa V P (fun j => M 119 (40 * 2 + j)) z u 0 10) 100), mv_I 100, l9]) (st' := []) (M1 := (mv_st M3 100 (mv_up (M3 100) 7 (V 0 10)))) rfl ?_
          refine mv_ffW (by omega) ?_
          refine mv_goW 1 (pc' := 131) (ls' := [mv_R 100, mv_I 2, mv_I (u : Int), mv_I b, mv_I 0, mv_I (V 0 10), mv_I (sp_yc (sp_pa V P (fun j => M 119 (40 * 2 + j)) z u 0 10) 100), mv_I (sp_yf (sp_pa V P (fun j => M 119 (40 * 2 + j)) z u 0 10) 100), mv_I 100, l9]) (st' := [mv_I (sp_yf (sp_pa V P (fun j => M 119 (40 * 2 + j)) z u 0 10) 100)]) (M1 := (mv_st M3 100 (mv_up (M3 100) 7 (V 0 10)))) rfl ?_
          exact mv_retW (fun n => rfl) ⟨congrArg mv_I (by first | with_reducible rfl | omega), sp_bend h hw2 ((hy.wd (by decide)).st (by decide)) ⟨h100 9 (by decide), h100 12 (by decide), h100 14 (by decide)⟩ (by have q := sp_m_alt10 (x := V 0 10) hm3; rw [hVc3, sp_alt_id] at q; exact q)⟩
      · refine mv_callPW (st2 := [mv_I 0]) rfl (Or.inr rfl) rfl rfl rfl (sp_eith_f ha50) (by first | decide | omega) ?_
        refine mv_goW 1 (pc' := if 0 = 0 then 23 else 26) (ls' := [mv_R 0, mv_I 2, mv_I (u : Int), mv_I b, mv_I 0, mv_U, mv_U, mv_U]) (st' := []) (M1 := M) rfl ?_
        refine mv_ttW (by first | decide | omega) ?_
        refine mv_goW 1 (pc' := 25) (ls' := [mv_R 0, mv_I 2, mv_I (u : Int), mv_I b, mv_I 0, mv_U, mv_U, mv_U]) (st' := [mv_I (-7)]) (M1 := M) rfl ?_
        refine mv_retW (fun n => rfl) ⟨_, rfl, ?_⟩
        refine mv_goW 3 (pc' := 3) (ls' := [mv_R 100, mv_I 2, mv_I (u : Int), mv_I b, mv_U, mv_U, mv_U, mv_U, mv_U, mv_U]) (st' := [mv_I (u : Int), mv_I 2, mv_R 100]) (M1 := M) rfl ?_
        have ha58 : (so ≠ -1 ∧ (z : Int) ≤ V 0 8) ∧ 0 ≤ (u : Int) ∧ (u : Int) < V 0 9 := by omega
        refine mv_callPW (st2 := [mv_I 0]) rfl (Or.inl rfl) rfl rfl rfl (sp_mrj_t (S := 2) (by decide) hm ho hs2 hz2 ha58) (by first | decide | omega) ?_
        refine mv_goW 3 (pc' := if 0 = 0 then 16 else 13) (ls' := [mv_R 100, mv_I 2, mv_I (u : Int), mv_I b, mv_I 0, mv_U, mv_U, mv_U, mv_U, mv_U]) (st' := []) (M1 := M) rfl ?_
        refine mv_ttW (by first | decide | omega) ?_
        refine mv_goW 3 (pc' := 19) (ls' := [mv_R 100, mv_I 2, mv_I (u : Int), mv_I b, mv_I 0, mv_U, mv_U, mv_U, mv_U, mv_U]) (st' := [mv_I 1, mv_I 0, mv_I b]) (M1 := M) rfl ?_
        have ha59 : ¬ ((0 : Int) ≤ b ∧ b ≤ (1 : Int)) := by omega
        refine mv_callPW (st2 := [mv_I 0]) rfl (Or.inr rfl) rfl rfl rfl (sp_min_f ha59) (by first | decide | omega) ?_
        refine mv_goW 1 (pc' := if 0 = 0 then 25 else 28) (ls' := [mv_R 100, mv_I 2, mv_I (u : Int), mv_I b, mv_I 0, mv_U, mv_U, mv_U, mv_U, mv_U]) (st' := []) (M1 := M) rfl ?_
        refine mv_ttW (by first | decide | omega) ?_
        refine mv_goW 1 (pc' := 27) (ls' := [mv_R 100, mv_I 2, mv_I (u : Int), mv_I b, mv_I 0, mv_U, mv_U, mv_U, mv_U, mv_U]) (st' := [mv_I (-7)]) (M1 := M) rfl ?_
        exact mv_retW (fun n => rfl) ⟨congrArg mv_I (by first | with_reducible rfl | omega), hI⟩
    · refine mv_callPW (st2 := [mv_I (sp_rfv so (z : Int) (V 0 8))]) rfl (Or.inl rfl) rfl rfl rfl (sp_crj_2_f hc ho hs1 hz1 ha49) (by first | decide | omega) ?_
      refine mv_goW 3 (pc' := if (sp_rfv so (z : Int) (V 0 8)) = 0 then 16 else 13) (ls' := [mv_R 0, mv_I 2, mv_I (u : Int), mv_I b, mv_I (sp_rfv so (z : Int) (V 0 8)), mv_U, mv_U, mv_U]) (st' := []) (M1 := M) rfl ?_
      refine mv_ffW (by omega) ?_
      refine mv_goW 1 (pc' := 15) (ls' := [mv_R 0, mv_I 2, mv_I (u : Int), mv_I b, mv_I (sp_rfv so (z : Int) (V 0 8)), mv_U, mv_U, mv_U]) (st' := [mv_I (sp_rfv so (z : Int) (V 0 8))]) (M1 := M) rfl ?_
      refine mv_retW (fun n => rfl) ⟨_, rfl, ?_⟩
      refine mv_goW 3 (pc' := 3) (ls' := [mv_R 100, mv_I 2, mv_I (u : Int), mv_I b, mv_U, mv_U, mv_U, mv_U, mv_U, mv_U]) (st' := [mv_I (u : Int), mv_I 2, mv_R 100]) (M1 := M) rfl ?_
      have ha60 : ¬ ((so ≠ -1 ∧ (z : Int) ≤ V 0 8) ∧ 0 ≤ (u : Int) ∧ (u : Int) < V 0 9) := by omega
      refine mv_callPW (st2 := [mv_I (sp_rfv so (z : Int) (V 0 8))]) rfl (Or.inl rfl) rfl rfl rfl (sp_mrj_f (S := 2) (by decide) hm ho hs2 hz2 ha60) (by first | decide | omega) ?_
      refine mv_goW 3 (pc' := if (sp_rfv so (z : Int) (V 0 8)) = 0 then 16 else 13) (ls' := [mv_R 100, mv_I 2, mv_I (u : Int), mv_I b, mv_I (sp_rfv so (z : Int) (V 0 8)), mv_U, mv_U, mv_U, mv_U, mv_U]) (st' := []) (M1 := M) rfl ?_
      refine mv_ffW (by omega) ?_
      refine mv_goW 1 (pc' := 15) (ls' := [mv_R 100, mv_I 2, mv_I (u : Int), mv_I b, mv_I (sp_rfv so (z : Int) (V 0 8)), mv_U, mv_U, mv_U, mv_U, mv_U]) (st' := [mv_I (sp_rfv so (z : Int) (V 0 8))]) (M1 := M) rfl ?_
      exact mv_retW (fun n => rfl) ⟨congrArg mv_I (by first | with_reducible rfl | omega), hI⟩
  · refine mv_goW 3 (pc' := 3) (ls' := [mv_R 0, mv_I 2, mv_I a, mv_I b, mv_U, mv_U, mv_U, mv_U]) (st' := [mv_I a, mv_I 2, mv_R 0]) (M1 := M) rfl ?_
    have ha61 : ¬ ((so ≠ -1 ∧ (z : Int) ≤ V 0 8) ∧ 0 ≤ a ∧ a < V 0 9) := by omega
    refine mv_callPW (st2 := [mv_I (sp_rfv so (z : Int) (V 0 8))]) rfl (Or.inl rfl) rfl rfl rfl (sp_crj_2_f hc ho hs1 hz1 ha61) (by first | decide | omega) ?_
    refine mv_goW 3 (pc' := if (sp_rfv so (z : Int) (V 0 8)) = 0 then 16 else 13) (ls' := [mv_R 0, mv_I 2, mv_I a, mv_I b, mv_I (sp_rfv so (z : Int) (V 0 8)), mv_U, mv_U, mv_U]) (st' := []) (M1 := M) rfl ?_
    refine mv_ffW (by omega) ?_
    refine mv_goW 1 (pc' := 15) (ls' := [mv_R 0, mv_I 2, mv_I a, mv_I b, mv_I (sp_rfv so (z : Int) (V 0 8)), mv_U, mv_U, mv_U]) (st' := [mv_I (sp_rfv so (z : Int) (V 0 8))]) (M1 := M) rfl ?_
    refine mv_retW (fun n => rfl) ⟨_, rfl, ?_⟩
    refine mv_goW 3 (pc' := 3) (ls' := [mv_R 100, mv_I 2, mv_I a, mv_I b, mv_U, mv_U, mv_U, mv_U, mv_U, mv_U]) (st' := [mv_I a, mv_I 2, mv_R 100]) (M1 := M) rfl ?_
    have ha62 : ¬ ((so ≠ -1 ∧ (z : Int) ≤ V 0 8) ∧ 0 ≤ a ∧ a < V 0 9) := by omega
    refine mv_callPW (st2 := [mv_I (sp_rfv so (z : Int) (V 0 8))]) rfl (Or.inl rfl) rfl rfl rfl (sp_mrj_f (S := 2) (by decide) hm ho hs2 hz2 ha62) (by first | decide | omega) ?_
    refine mv_goW 3 (pc' := if (sp_rfv so (z : Int) (V 0 8)) = 0 then 16 else 13) (ls' := [mv_R 100, mv_I 2, mv_I a, mv_I b, mv_I (sp_rfv so (z : Int) (V 0 8)), mv_U, mv_U, mv_U, mv_U, mv_U]) (st' := []) (M1 := M) rfl ?_
    refine mv_ffW (by omega) ?_
    refine mv_goW 1 (pc' := 15) (ls' := [mv_R 100, mv_I 2, mv_I a, mv_I b, mv_I (sp_rfv so (z : Int) (V 0 8)), mv_U, mv_U, mv_U, mv_U, mv_U]) (st' := [mv_I (sp_rfv so (z : Int) (V 0 8))]) (M1 := M) rfl ?_
    exact mv_retW (fun n => rfl) ⟨congrArg mv_I (by first | with_reducible rfl | omega), hI⟩
theorem sp_k23_3 (a b : Int) : sp_call 84 177 [mv_I 3, mv_I a, mv_I b] [mv_I 3, mv_I a, mv_I b] := by
  refine sp_mkW (lc := [mv_R 0, mv_I 3, mv_I a, mv_I b, mv_U, mv_U, mv_U, mv_U]) (lm := [mv_R 100, mv_I 3, mv_I a, mv_I b, mv_U, mv_U, mv_U, mv_U, mv_U, mv_U]) rfl rfl (fun M hI => ?_)
  have hI2 := hI
  obtain ⟨V, P, nt, B, K, t, h⟩ := hI2
  have h' := h
  obtain ⟨⟨hc, hm, ho⟩, ⟨hy, hl, hn1, hn⟩, ⟨hct, hmt, hn7, hn12⟩, _⟩ := h'
  have h8 := sp_ok_s8 ho
  have h9 := sp_ok_s9 ho
  obtain ⟨so, sz, ⟨hs1, hs2, so0, so1⟩, ⟨hz1, hz2, sz0, sz1⟩, hcl⟩ := sp_sh_get h 3 (by decide)
  obtain ⟨z, rfl⟩ : ∃ x : Nat, sz = (x : Int) := ⟨sz.toNat, by omega⟩
  have hnz := sp_rfv_n so z (V 0 8)
  by_cases h0 : 0 ≤ a
  · obtain ⟨u, rfl⟩ : ∃ x : Nat, a = (x : Int) := ⟨a.toNat, by omega⟩
    refine mv_goW 3 (pc' := 3) (ls' := [mv_R 0, mv_I 3, mv_I (u : Int), mv_I b, mv_U, mv_U, mv_U, mv_U]) (st' := [mv_I (u : Int), mv_I 3, mv_R 0]) (M1 := M) rfl ?_
    by_cases ha63 : (so ≠ -1 ∧ (z : Int) ≤ V 0 8) ∧ 0 ≤ (u : Int) ∧ (u : Int) < V 0 9
    · refine mv_callPW (st2 := [mv_I 0]) rfl (Or.inl rfl) rfl rfl rfl (sp_crj_3_t hc ho hs1 hz1 ha63) (by first | decide | omega) ?_
      refine mv_goW 3 (pc' := if 0 = 0 then 16 else 13) (ls' := [mv_R 0, mv_I 3, mv_I (u : Int), mv_I b, mv_I 0, mv_U, mv_U, mv_U]) (st' := []) (M1 := M) rfl ?_
      refine mv_ttW (by first | decide | omega) ?_
      refine mv_goW 1 (pc' := 17) (ls' := [mv_R 0, mv_I 3, mv_I (u : Int), mv_I b, mv_I 0, mv_U, mv_U, mv_U]) (st' := [mv_I b]) (M1 := M) rfl ?_
      by_cases ha64 : b = 0 ∨ b = 1
      · refine mv_callPW (st2 := [mv_I 1]) rfl (Or.inr rfl) rfl rfl rfl (sp_eith_t ha64) (by first | decide | omega) ?_
        refine mv_goW 1 (pc' := if 1 = 0 then 23 else 26) (ls' := [mv_R 0, mv_I 3, mv_I (u : Int), mv_I b, mv_I 0, mv_U, mv_U, mv_U]) (st' := []) (M1 := M) rfl ?_
        refine mv_ffW (by first | decide | omega) ?_
        refine mv_goW 4 (pc' := 34) (ls' := [mv_R 0, mv_I 3, mv_I (u : Int), mv_I b, mv_I 0, mv_U, mv_U, mv_U]) (st' := [mv_R 30, mv_R 50]) (M1 := M) rfl ?_
        refine mv_callW (st2 := []) rfl (Or.inl rfl) rfl rfl rfl (sp_become_50_30 hc (by omega) (by omega)) (by first | decide | omega) (fun Ma65 hm66 => ?_)
        have hb := hm66
        refine mv_goW 6 (pc' := 46) (ls' := [mv_R 0, mv_I 3, mv_I (u : Int), mv_I b, mv_I 0, mv_I (-1), mv_I 0, mv_I 0]) (st' := []) (M1 := Ma65) rfl ?_
        have huv : (u : Int) < V 0 9 := by omega
        have hzv : (z : Int) ≤ V 0 8 := by omega
        refine sp_cwn_3 (d := 12) (V := V) (M0 := Ma65) (g := fun j => M 119 (40 * 3 + j)) ho hl hn (sp_cts_ag hct hb.1 hn (fun i h1 h2 => by simp only [List.mem_cons, List.not_mem_nil, or_false]; omega)) huv (by rw [hb.1 _ (by decide)]; exact hz1) hzv (fun j hj => by rw [hb.1 _ (by decide)]; exact hcl j (by omega)) (fun M2 hw => ?_) 100 0 Ma65 V (by omega) hb.2 (fun _ => rfl) mv_ag.rf
        have hw2 : mv_ag [36, 37, 50, 51, 52, 53, 54, 55, 56, 57] M M2 := (hb.1.wd (by decide)).tr (hw.wd (by decide))
        have hm := sp_m_ag2 hm hw2 (by decide)
        have hmt := sp_mts_ag hmt hw2 (by decide)
        have hs2 : M2 117 3 = so := by rw [hw2 117 (by decide)]; exact hs2
        have hz2 : M2 118 3 = (z : Int) := by rw [hw2 118 (by decide)]; exact hz2
        refine mv_goW 2 (pc' := if b = 0 then 107 else 112) (ls' := [mv_R 0, mv_I 3, mv_I (u : Int), mv_I b, mv_I 0, mv_I (sp_yf (sp_pa V P (fun j => M 119 (40 * 3 + j)) z u 0 10) 100), mv_I (sp_yc (sp_pa V P (fun j => M 119 (40 * 3 + j)) z u 0 10) 100), mv_I 100]) (st' := []) (M1 := M2) rfl ?_
        refine mv_spW (fun ha67 => ?_) (fun ha67 => ?_)
        · refine mv_goW 2 (pc' := 114) (ls' := [mv_R 0, mv_I 3, mv_I (u : Int), mv_I b, mv_I 0, mv_I (sp_yf (sp_pa V P (fun j => M 119 (40 * 3 + j)) z u 0 10) 100), mv_I (sp_yc (sp_pa V P (fun j => M 119 (40 * 3 + j)) z u 0 10) 100), mv_I 100]) (st' := [mv_I (sp_yc (sp_pa V P (fun j => M 119 (40 * 3 + j)) z u 0 10) 100)]) (M1 := M2) rfl ?_
          refine mv_retW (fun n => rfl) ⟨_, rfl, ?_⟩
          refine mv_goW 3 (pc' := 3) (ls' := [mv_R 100, mv_I 3, mv_I (u : Int), mv_I b, mv_U, mv_U, mv_U, mv_U, mv_U, mv_U]) (st' := [mv_I (u : Int), mv_I 3, mv_R 100]) (M1 := M2) rfl ?_
          have ha68 : (so ≠ -1 ∧ (z : Int) ≤ V 0 8) ∧ 0 ≤ (u : Int) ∧ (u : Int) < V 0 9 := by omega
          refine mv_callPW (st2 := [mv_I 0]) rfl (Or.inl rfl) rfl rfl rfl (sp_mrj_t (S := 3) (by decide) hm ho hs2 hz2 ha68) (by first | decide | omega) ?_
          refine mv_goW 3 (pc' := if 0 = 0 then 16 else 13) (ls' := [mv_R 100, mv_I 3, mv_I (u : Int), mv_I b, mv_I 0, mv_U, mv_U, mv_U, mv_U, mv_U]) (st' := []) (M1 := M2) rfl ?_
          refine mv_ttW (by first | decide | omega) ?_
          refine mv_goW 3 (pc' := 19) (ls' := [mv_R 100, mv_I 3, mv_I (u : Int), mv_I b, mv_I 0, mv_U, mv_U, mv_U, mv_U, mv_U]) (st' := [mv_I 1, mv_I 0, mv_I b]) (M1 := M2) rfl ?_
          have ha69 : (0 : Int) ≤ b ∧ b ≤ (1 : Int) := by omega
          refine mv_callPW (st2 := [mv_I 1]) rfl (Or.inr rfl) rfl rfl rfl (sp_min_t ha69) (by first | decide | omega) ?_
          refine mv_goW 1 (pc' := if 1 = 0 then 25 else 28) (ls' := [mv_R 100, mv_I 3, mv_I (u : Int), mv_I b, mv_I 0, mv_U, mv_U, mv_U, mv_U, mv_U]) (st' := []) (M1 := M2) rfl ?_
          refine mv_ffW (by first | decide | omega) ?_
          refine mv_goW 2 (pc' := 32) (ls' := [mv_R 100, mv_I 3, mv_I (u : Int), mv_I b, mv_I 0, mv_U, mv_U, mv_U, mv_U, mv_U]) (st' := [mv_I (M2 100 7)]) (M1 := M2) rfl ?_
          have hr13 := sp_ok_s10 ho
          rw [show M2 100 7 = V 0 10 from by exact sp_m_s10 hm]
          refine mv_goW 7 (pc' := 43) (ls' := [mv_R 100, mv_I 3, mv_I (u : Int), mv_I b, mv_I 0, mv_I (V 0 10), mv_I 0, mv_I (-1), mv_I 0, mv_U]) (st' := []) (M1 := M2) rfl ?_
          refine sp_mwn (d := 12) (V := V) (M0 := M2) (S := 3) (g := fun j => M 119 (40 * 3 + j)) ho hl hn hmt huv (by decide) hz2 hzv (fun j hj => by rw [hw2 119 (by decide)]) (fun M3 Vc l9 hm3 hVc3 hy h100 => ?_) 100 0 M2 V mv_U (by omega) hm (fun _ => rfl) mv_ag.rf (fun _ _ => rfl)
          refine mv_goW 5 (pc' := if b = 0 then 124 else 129) (ls' := [mv_R 100, mv_I 3, mv_I (u : Int), mv_I b, mv_I 0, mv_I (V 0 10), mv_I (sp_yc (sp_pa V P (fun j => M 119 (40 * 3 + j)) z u 0 10) 100), mv_I (sp_yf (sp_pa V P (fun j => M 119 (40 * 3 + j)) z u 0 10) 100), mv_I 100, l9]) (st' := []) (M1 := (mv_st M3 100 (mv_up (M3 100) 7 (V 0 10)))) rfl ?_
          refine mv_ttW (by omega) ?_
          refine mv_goW 2 (pc' := 131) (ls' := [mv_R 100, mv_I 3, mv_I (u : Int), mv_I b, mv_I 0, mv_I (V 0 10), mv_I (sp_yc (sp_pa V P (fun j => M 119 (40 * 3 + j)) z u 0 10) 100), mv_I (sp_yf (sp_pa V P (fun j => M 119 (40 * 3 + j)) z u 0 10) 100), mv_I 100, l9]) (st' := [mv_I (sp_yc (sp_pa V P (fun j => M 119 (40 * 3 + j)) z u 0 10) 100)]) (M1 := (mv_st M3 100 (mv_up (M3 100) 7 (V 0 10)))) rfl ?_
          exact mv_retW (fun n => rfl) ⟨congrArg mv_I (by first | with_reducible rfl | omega), sp_bend h hw2 ((hy.wd (by decide)).st (by decide)) ⟨h100 9 (by decide), h100 12 (by decide), h100 14 (by decide)⟩ (by have q := sp_m_alt10 (x := V 0 10) hm3; rw [hVc3, sp_alt_id] at q; exact q)⟩
        · refine mv_goW 1 (pc' := 114) (ls' := [mv_R 0, mv_I 3, mv_I (u : Int), mv_I b, mv_I 0, mv_I (sp_yf (sp_pa V P (fun j => M 119 (40 * 3 + j)) z u 0 10) 100), mv_I (sp_yc (sp_pa V P (fun j => M 119 (40 * 3 + j)) z u 0 10) 100), mv_I 100]) (st' := [mv_I (sp_yf (sp_pa V P (fun j => M 119 (40 * 3 + j)) z u 0 10) 100)]) (M1 := M2) rfl ?_
          refine mv_retW (fun n => rfl) ⟨_, rfl, ?_⟩
          refine mv_goW 3 (pc' := 3) (ls' := [mv_R 100, mv_I 3, mv_I (u : Int), mv_I b, mv_U, mv_U, mv_U, mv_U, mv_U, mv_U]) (st' := [mv_I (u : Int), mv_I 3, mv_R 100]) (M1 := M2) rfl ?_
          have ha70 : (so ≠ -1 ∧ (z : Int) ≤ V 0 8) ∧ 0 ≤ (u : Int) ∧ (u : Int) < V 0 9 := by omega
          refine mv_callPW (st2 := [mv_I 0]) rfl (Or.inl rfl) rfl rfl rfl (sp_mrj_t (S := 3) (by decide) hm ho hs2 hz2 ha70) (by first | decide | omega) ?_
          refine mv_goW 3 (pc' := if 0 = 0 then 16 else 13) (ls' := [mv_R 100, mv_I 3, mv_I (u : Int), mv_I b, mv_I 0, mv_U, mv_U, mv_U, mv_U, mv_U]) (st' := []) (M1 := M2) rfl ?_
          refine mv_ttW (by first | decide | omega) ?_
          refine mv_goW 3 (pc' := 19) (ls' := [mv_R 100, mv_I 3, mv_I (u : Int), mv_I b, mv_I 0, mv_U, mv_U, mv_U, mv_U, mv_U]) (st' := [mv_I 1, mv_I 0, mv_I b]) (M1 := M2) rfl ?_
          have ha71 : (0 : Int) ≤ b ∧ b ≤ (1 : Int) := by omega
          refine mv_callPW (st2 := [mv_I 1]) rfl (Or.inr rfl) rfl rfl rfl (sp_min_t ha71) (by first | decide | omega) ?_
          refine mv_goW 1 (pc' := if 1 = 0 then 25 else 28) (ls' := [mv_R 100, mv_I 3, mv_I (u : Int), mv_I b, mv_I 0, mv_U, mv_U, mv_U, mv_U, mv_U]) (st' := []) (M1 := M2) rfl ?_
          refine mv_ffW (by first | decide | omega) ?_
          refine mv_goW 2 (pc' := 32) (ls' := [mv_R 100, mv_I 3, mv_I (u : Int), mv_I b, mv_I 0, mv_U, mv_U, mv_U, mv_U, mv_U]) (st' := [mv_I (M2 100 7)]) (M1 := M2) rfl ?_
          have hr15 := sp_ok_s10 ho
          rw [show M2 100 7 = V 0 10 from by exact sp_m_s10 hm]
          refine mv_goW 7 (pc' := 43) (ls' := [mv_R 100, mv_I 3, mv_I (u : Int), mv_I b, mv_I 0, mv_I (V 0 10), mv_I 0, mv_I (-1), mv_I 0, mv_U]) (st' := []) (M1 := M2) rfl ?_
          refine sp_mwn (d := 12) (V := V) (M0 := M2) (S := 3) (g := fun j => M 119 (40 * 3 + j)) ho hl hn hmt huv (by decide) hz2 hzv (fun j hj => by rw [hw2 119 (by decide)]) (fun M3 Vc l9 hm3 hVc3 hy h100 => ?_) 100 0 M2 V mv_U (by omega) hm (fun _ => rfl) mv_ag.rf (fun _ _ => rfl)
          refine mv_goW 5 (pc' := if b = 0 then 124 else 129) (ls' := [mv_R 100, mv_I 3, mv_I (u : Int), mv_I b, mv_I 0, mv_I (V 0 10), mv_I (sp_yc (sp_pa V P (fun j => M 119 (40 * 3 + j)) z u 0 10) 100), mv_I (sp_yf (sp_pa V P (fun j => M 119 (40 * 3 + j)) z u 0 10) 100), mv_I 100, l9]) (st' := []) (M1 := (mv_st M3 100 (mv_up (M3 100) 7 (V 0 10)))) rfl ?_
          refine mv_ffW (by omega) ?_
          refine mv_goW 1 (pc' := 131) (ls' := [mv_R 100, mv_I 3, mv_I (u : Int), mv_I b, mv_I 0, mv_I (V 0 10), mv_I (sp_yc (sp_pa V P (fun j => M 119 (40 * 3 + j)) z u 0 10) 100), mv_I (sp_yf (sp_pa V P (fun j => M 119 (40 * 3 + j)) z u 0 10) 100), mv_I 100, l9]) (st' := [mv_I (sp_yf (sp_pa V P (fun j => M 119 (40 * 3 + j)) z u 0 10) 100)]) (M1 := (mv_st M3 100 (mv_up (M3 100) 7 (V 0 10)))) rfl ?_
          exact mv_retW (fun n => rfl) ⟨congrArg mv_I (by first | with_reducible rfl | omega), sp_bend h hw2 ((hy.wd (by decide)).st (by decide)) ⟨h100 9 (by decide), h100 12 (by decide), h100 14 (by decide)⟩ (by have q := sp_m_alt10 (x := V 0 10) hm3; rw [hVc3, sp_alt_id] at q; exact q)⟩
      · refine mv_callPW (st2 := [mv_I 0]) rfl (Or.inr rfl) rfl rfl rfl (sp_eith_f ha64) (by first | decide | omega) ?_
        refine mv_goW 1 (pc' := if 0 = 0 then 23 else 26) (ls' := [mv_R 0, mv_I 3, mv_I (u : Int), mv_I b, mv_I 0, mv_U, mv_U, mv_U]) (st' := []) (M1 := M) rfl ?_
        refine mv_ttW (by first | decide | omega) ?_
        refine mv_goW 1 (pc' := 25) (ls' := [mv_R 0, mv_I 3, mv_I (u : Int), mv_I b, mv_I 0, mv_U, mv_U, mv_U]) (st' := [mv_I (-7)]) (M1 := M) rfl ?_
        refine mv_retW (fun n => rfl) ⟨_, rfl, ?_⟩
        refine mv_goW 3 (pc' := 3) (ls' := [mv_R 100, mv_I 3, mv_I (u : Int), mv_I b, mv_U, mv_U, mv_U, mv_U, mv_U, mv_U]) (st' := [mv_I (u : Int), mv_I 3, mv_R 100]) (M1 := M) rfl ?_
        have ha72 : (so ≠ -1 ∧ (z : Int) ≤ V 0 8) ∧ 0 ≤ (u : Int) ∧ (u : Int) < V 0 9 := by omega
        refine mv_callPW (st2 := [mv_I 0]) rfl (Or.inl rfl) rfl rfl rfl (sp_mrj_t (S := 3) (by decide) hm ho hs2 hz2 ha72) (by first | decide | omega) ?_
        refine mv_goW 3 (pc' := if 0 = 0 then 16 else 13) (ls' := [mv_R 100, mv_I 3, mv_I (u : Int), mv_I b, mv_I 0, mv_U, mv_U, mv_U, mv_U, mv_U]) (st' := []) (M1 := M) rfl ?_
        refine mv_ttW (by first | decide | omega) ?_
        refine mv_goW 3 (pc' := 19) (ls' := [mv_R 100, mv_I 3, mv_I (u : Int), mv_I b, mv_I 0, mv_U, mv_U, mv_U, mv_U, mv_U]) (st' := [mv_I 1, mv_I 0, mv_I b]) (M1 := M) rfl ?_
        have ha73 : ¬ ((0 : Int) ≤ b ∧ b ≤ (1 : Int)) := by omega
        refine mv_callPW (st2 := [mv_I 0]) rfl (Or.inr rfl) rfl rfl rfl (sp_min_f ha73) (by first | decide | omega) ?_
        refine mv_goW 1 (pc' := if 0 = 0 then 25 else 28) (ls' := [mv_R 100, mv_I 3, mv_I (u : Int), mv_I b, mv_I 0, mv_U, mv_U, mv_U, mv_U, mv_U]) (st' := []) (M1 := M) rfl ?_
        refine mv_ttW (by first | decide | omega) ?_
        refine mv_goW 1 (pc' := 27) (ls' := [mv_R 100, mv_I 3, mv_I (u : Int), mv_I b, mv_I 0, mv_U, mv_U, mv_U, mv_U, mv_U]) (st' := [mv_I (-7)]) (M1 := M) rfl ?_
        exact mv_retW (fun n => rfl) ⟨congrArg mv_I (by first | with_reducible rfl | omega), hI⟩
    · refine mv_callPW (st2 := [mv_I (sp_rfv so (z : Int) (V 0 8))]) rfl (Or.inl rfl) rfl rfl rfl (sp_crj_3_f hc ho hs1 hz1 ha63) (by first | decide | omega) ?_
      refine mv_goW 3 (pc' := if (sp_rfv so (z : Int) (V 0 8)) = 0 then 16 else 13) (ls' := [mv_R 0, mv_I 3, mv_I (u : Int), mv_I b, mv_I (sp_rfv so (z : Int) (V 0 8)), mv_U, mv_U, mv_U]) (st' := []) (M1 := M) rfl ?_
      refine mv_ffW (by omega) ?_
      refine mv_goW 1 (pc' := 15) (ls' := [mv_R 0, mv_I 3, mv_I (u : Int), mv_I b, mv_I (sp_rfv so (z : Int) (V 0 8)), mv_U, mv_U, mv_U]) (st' := [mv_I (sp_rfv so (z : Int) (V 0 8))]) (M1 := M) rfl ?_
      refine mv_retW (fun n => rfl) ⟨_, rfl, ?_⟩
      refine mv_goW 3 (pc' := 3) (ls' := [mv_R 100, mv_I 3, mv_I (u : Int), mv_I b, mv_U, mv_U, mv_U, mv_U, mv_U, mv_U]) (st' := [mv_I (u : Int), mv_I 3, mv_R 100]) (M1 := M) rfl ?_
      have ha74 : ¬ ((so ≠ -1 ∧ (z : Int) ≤ V 0 8) ∧ 0 ≤ (u : Int) ∧ (u : Int) < V 0 9) := by omega
      refine mv_callPW (st2 := [mv_I (sp_rfv so (z : Int) (V 0 8))]) rfl (Or.inl rfl) rfl rfl rfl (sp_mrj_f (S := 3) (by decide) hm ho hs2 hz2 ha74) (by first | decide | omega) ?_
      refine mv_goW 3 (pc' := if (sp_rfv so (z : Int) (V 0 8)) = 0 then 16 else 13) (ls' := [mv_R 100, mv_I 3, mv_I (u : Int), mv_I b, mv_I (sp_rfv so (z : Int) (V 0 8)), mv_U, mv_U, mv_U, mv_U, mv_U]) (st' := []) (M1 := M) rfl ?_
      refine mv_ffW (by omega) ?_
      refine mv_goW 1 (pc' := 15) (ls' := [mv_R 100, mv_I 3, mv_I (u : Int), mv_I b, mv_I (sp_rfv so (z : Int) (V 0 8)), mv_U, mv_U, mv_U, mv_U, mv_U]) (st' := [mv_I (sp_rfv so (z : Int) (V 0 8))]) (M1 := M) rfl ?_
      exact mv_retW (fun n => rfl) ⟨congrArg mv_I (by first | with_reducible rfl | omega), hI⟩
  · refine mv_goW 3 (pc' := 3) (ls' := [mv_R 0, mv_I 3, mv_I a, mv_I b, mv_U, mv_U, mv_U, mv_U]) (st' := [mv_I a, mv_I 3, mv_R 0]) (M1 := M) rfl ?_
    have ha75 : ¬ ((so ≠ -1 ∧ (z : Int) ≤ V 0 8) ∧ 0 ≤ a ∧ a < V 0 9) := by omega
    refine mv_callPW (st2 := [mv_I (sp_rfv so (z : Int) (V 0 8))]) rfl (Or.inl rfl) rfl rfl rfl (sp_crj_3_f hc ho hs1 hz1 ha75) (by first | decide | omega) ?_
    refine mv_goW 3 (pc' := if (sp_rfv so (z : Int) (V 0 8)) = 0 then 16 else 13) (ls' := [mv_R 0, mv_I 3, mv_I a, mv_I b, mv_I (sp_rfv so (z : Int) (V 0 8)), mv_U, mv_U, mv_U]) (st' := []) (M1 := M) rfl ?_
    refine mv_ffW (by omega) ?_
    refine mv_goW 1 (pc' := 15) (ls' := [mv_R 0, mv_I 3, mv_I a, mv_I b, mv_I (sp_rfv so (z : Int) (V 0 8)), mv_U, mv_U, mv_U]) (st' := [mv_I (sp_rfv so (z : Int) (V 0 8))]) (M1 := M) rfl ?_
    refine mv_retW (fun n => rfl) ⟨_, rfl, ?_⟩
    refine mv_goW 3 (pc' := 3) (ls' := [mv_R 100, mv_I 3, mv_I a, mv_I b, mv_U, mv_U, mv_U, mv_U, mv_U, mv_U]) (st' := [mv_I a, mv_I 3, mv_R 100]) (M1 := M) rfl ?_
    have ha76 : ¬ ((so ≠ -1 ∧ (z : Int) ≤ V 0 8) ∧ 0 ≤ a ∧ a < V 0 9) := by omega
    refine mv_callPW (st2 := [mv_I (sp_rfv so (z : Int) (V 0 8))]) rfl (Or.inl rfl) rfl rfl rfl (sp_mrj_f (S := 3) (by decide) hm ho hs2 hz2 ha76) (by first | decide | omega) ?_
    refine mv_goW 3 (pc' := if (sp_rfv so (z : Int) (V 0 8)) = 0 then 16 else 13) (ls' := [mv_R 100, mv_I 3, mv_I a, mv_I b, mv_I (sp_rfv so (z : Int) (V 0 8)), mv_U, mv_U, mv_U, mv_U, mv_U]) (st' := []) (M1 := M) rfl ?_
    refine mv_ffW (by omega) ?_
    refine mv_goW 1 (pc' := 15) (ls' := [mv_R 100, mv_I 3, mv_I a, mv_I b, mv_I (sp_rfv so (z : Int) (V 0 8)), mv_U, mv_U, mv_U, mv_U, mv_U]) (st' := [mv_I (sp_rfv so (z : Int) (V 0 8))]) (M1 := M) rfl ?_
    exact mv_retW (fun n => rfl) ⟨congrArg mv_I (by first | with_reducible rfl | omega), hI⟩
theorem sp_k23_n (s a b : Int) (hs : ¬ (0 ≤ s ∧ s ≤ 3)) : sp_call 84 177 [mv_I s, mv_I a, mv_I b] [mv_I s, mv_I a, mv_I b] := by
  refine sp_mkW (lc := [mv_R 0, mv_I s, mv_I a, mv_I b, mv_U, mv_U, mv_U, mv_U]) (lm := [mv_R 100, mv_I s, mv_I a, mv_I b, mv_U, mv_U, mv_U, mv_U, mv_U, mv_U]) rfl rfl (fun M hI => ?_)
  refine mv_goW 3 (pc' := 3) (ls' := [mv_R 0, mv_I s, mv_I a, mv_I b, mv_U, mv_U, mv_U, mv_U]) (st' := [mv_I a, mv_I s, mv_R 0]) (M1 := M) rfl ?_
  refine mv_callPW (st2 := [mv_I (-2)]) rfl (Or.inl rfl) rfl rfl rfl (sp_crj_n hs) (by first | decide | omega) ?_
  refine mv_goW 3 (pc' := if (-2) = 0 then 16 else 13) (ls' := [mv_R 0, mv_I s, mv_I a, mv_I b, mv_I (-2), mv_U, mv_U, mv_U]) (st' := []) (M1 := M) rfl ?_
  refine mv_ffW (by first | decide | omega) ?_
  refine mv_goW 1 (pc' := 15) (ls' := [mv_R 0, mv_I s, mv_I a, mv_I b, mv_I (-2), mv_U, mv_U, mv_U]) (st' := [mv_I (-2)]) (M1 := M) rfl ?_
  refine mv_retW (fun n => rfl) ⟨_, rfl, ?_⟩
  refine mv_goW 3 (pc' := 3) (ls' := [mv_R 100, mv_I s, mv_I a, mv_I b, mv_U, mv_U, mv_U, mv_U, mv_U, mv_U]) (st' := [mv_I a, mv_I s, mv_R 100]) (M1 := M) rfl ?_
  refine mv_callPW (st2 := [mv_I (-2)]) rfl (Or.inl rfl) rfl rfl rfl (sp_mrj_n hs) (by first | decide | omega) ?_
  refine mv_goW 3 (pc' := if (-2) = 0 then 16 else 13) (ls' := [mv_R 100, mv_I s, mv_I a, mv_I b, mv_I (-2), mv_U, mv_U, mv_U, mv_U, mv_U]) (st' := []) (M1 := M) rfl ?_
  refine mv_ffW (by first | decide | omega) ?_
  refine mv_goW 1 (pc' := 15) (ls' := [mv_R 100, mv_I s, mv_I a, mv_I b, mv_I (-2), mv_U, mv_U, mv_U, mv_U, mv_U]) (st' := [mv_I (-2)]) (M1 := M) rfl ?_
  exact mv_retW (fun n => rfl) ⟨congrArg mv_I (by first | with_reducible rfl | omega), hI⟩
theorem sp_k23 (s a b : Int) : sp_call 84 177 [mv_I s, mv_I a, mv_I b] [mv_I s, mv_I a, mv_I b] :=
  sp_s4 (Q := fun s => sp_call 84 177 [mv_I s, mv_I a, mv_I b] [mv_I s, mv_I a, mv_I b]) (sp_k23_0 a b) (sp_k23_1 a b) (sp_k23_2 a b) (sp_k23_3 a b) (sp_k23_n s a b)
