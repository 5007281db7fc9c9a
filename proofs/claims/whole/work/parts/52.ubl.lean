/-! unclesBy: the loops -/
theorem sp_cub_0 {V M0 : mv_M} {f : Nat → Int} {a sz : Int} {fr n d : Nat} {Q : mv_V → mv_M → Prop} (ho : sp_ok V) (hz1 : M0 71 2 = sz) (z1 : 0 ≤ sz ∧ sz ≤ 40) (hf : ∀ j : Nat, (fr : Int) + j < 40 → M0 72 (fr + j) = f j) (hn : n ≤ 6)
    (hQ1 : ∀ M2, (∀ j : Nat, j < n → (fr : Int) + 2 * j + 2 ≤ sz) → mv_ag [30, 33, 34, 35] M0 M2 → sp_c 30 M2 (sp_ubV V f n) → Q (mv_I (sp_ubC V f n)) M2)
    (hQ2 : ∀ k : Nat, k < n → (∀ j : Nat, j < k → (fr : Int) + 2 * j + 2 ≤ sz) → ¬ ((fr : Int) + 2 * k + 2 ≤ sz) → ∀ M2, mv_ag [30, 33, 34, 35] M0 M2 → sp_c 30 M2 (sp_ubV V f k) → Q (mv_I (-12)) M2) :
    ∀ (r k : Nat) (M : mv_M), k + r = n → mv_ag [30, 33, 34, 35] M0 M → sp_c 30 M (sp_ubV V f k) → (∀ j : Nat, j < k → (fr : Int) + 2 * j + 2 ≤ sz) →
      mv_W (d + 3) 95 65 [mv_R 0, mv_I 0, mv_I a, mv_I (fr : Int), mv_I (n : Int), mv_R 71, mv_I (sp_ubC V f k), mv_I (k : Int)] [] M Q := by
  intro r
  induction r with
  | zero =>
    intro k M hk hag hcv hC
    have hk : k = n := by omega
    subst hk
    refine mv_goW 3 (pc' := if (k : Int) < (k : Int) then 72 else 135) (ls' := [mv_R 0, mv_I 0, mv_I a, mv_I (fr : Int), mv_I (k : Int), mv_R 71, mv_I (sp_ubC V f k), mv_I (k : Int)]) (st' := []) (M1 := M) rfl ?_
    refine mv_ffW (by omega) ?_
    refine mv_goW 1 (pc' := 137) (ls' := [mv_R 0, mv_I 0, mv_I a, mv_I (fr : Int), mv_I (k : Int), mv_R 71, mv_I (sp_ubC V f k), mv_I (k : Int)]) (st' := [mv_I (sp_ubC V f k)]) (M1 := M) rfl ?_
    exact mv_retW (fun n => rfl) (hQ1 M hC hag hcv)
  | succ r ih =>
    intro k M hk hag hcv hC
    have hb := sp_ubC_b V f k
    have hM : M 72 = M0 72 := hag _ (by decide)
    refine mv_goW 3 (pc' := if (k : Int) < (n : Int) then 72 else 135) (ls' := [mv_R 0, mv_I 0, mv_I a, mv_I (fr : Int), mv_I (n : Int), mv_R 71, mv_I (sp_ubC V f k), mv_I (k : Int)]) (st' := []) (M1 := M) rfl ?_
    refine mv_ttW (by omega) ?_
    refine mv_goW 7 (pc' := 81) (ls' := [mv_R 0, mv_I 0, mv_I a, mv_I (fr : Int), mv_I (n : Int), mv_R 71, mv_I (sp_ubC V f k), mv_I (k : Int)]) (st' := [mv_I (mv_w ((mv_w (2 * (k : Int))) + 2)), mv_I (fr : Int), mv_R 71]) (M1 := M) rfl ?_
    rw [show mv_w (2 * (k : Int)) = 2 * (k : Int) from mv_w_id (by omega) (by omega)]
    rw [show mv_w ((2 * (k : Int)) + 2) = (2 * (k : Int)) + 2 from mv_w_id (by omega) (by omega)]
    rw [show (2 * (k : Int)) + 2 = ((2 * k + 2 : Nat) : Int) from by omega]
    by_cases ha1 : 0 ≤ ((2 * k + 2 : Nat) : Int) ∧ ((2 * k + 2 : Nat) : Int) ≤ sz ∧ 0 ≤ (fr : Int) ∧ (fr : Int) ≤ sz - ((2 * k + 2 : Nat) : Int)
    · refine mv_callPW (st2 := [mv_I 1]) rfl (Or.inl rfl) rfl rfl rfl (sp_hasRun_0_t (by rw [hag 71 (by decide)]; exact hz1) z1.1 z1.2 ha1) (by first | decide | omega) ?_
      refine mv_goW 1 (pc' := if 1 = 0 then 87 else 90) (ls' := [mv_R 0, mv_I 0, mv_I a, mv_I (fr : Int), mv_I (n : Int), mv_R 71, mv_I (sp_ubC V f k), mv_I (k : Int)]) (st' := []) (M1 := M) rfl ?_
      refine mv_ffW (by first | decide | omega) ?_
      refine mv_goW 9 (pc' := 105) (ls' := [mv_R 0, mv_I 0, mv_I a, mv_I (fr : Int), mv_I (n : Int), mv_R 71, mv_I (sp_ubC V f k), mv_I (k : Int)]) (st' := [mv_I (mv_w ((fr : Int) + (mv_w (2 * (k : Int))))), mv_R 72, mv_R 30]) (M1 := M) rfl ?_
      rw [show mv_w ((fr : Int) + (mv_w (2 * (k : Int)))) = ((2 * k + fr : Nat) : Int) from by (rw [show mv_w (2 * (k : Int)) = 2 * (k : Int) from mv_w_id (by omega) (by omega), show mv_w ((fr : Int) + (2 * (k : Int))) = (fr : Int) + (2 * (k : Int)) from mv_w_id (by omega) (by omega)]) <;> omega]
      refine mv_goW 1 (pc' := if 0 ≤ ((2 * k + fr : Nat) : Int) ∧ ((2 * k + fr : Nat) : Int) < 40 then 106 else mv_bad) (ls' := [mv_R 0, mv_I 0, mv_I a, mv_I (fr : Int), mv_I (n : Int), mv_R 71, mv_I (sp_ubC V f k), mv_I (k : Int)]) (st' := [mv_I (M 72 (2 * k + fr)), mv_R 30]) (M1 := M) rfl ?_
      refine mv_ttW (by omega) ?_
      rw [show M 72 (2 * k + fr) = f (2 * k) from by rw [hM, show 2 * k + fr = fr + 2 * k from by omega]; exact hf _ (by omega)]
      refine mv_goW 9 (pc' := 119) (ls' := [mv_R 0, mv_I 0, mv_I a, mv_I (fr : Int), mv_I (n : Int), mv_R 71, mv_I (sp_ubC V f k), mv_I (k : Int)]) (st' := [mv_I (mv_w ((mv_w ((fr : Int) + (mv_w (2 * (k : Int))))) + 1)), mv_R 72, mv_I (f (2 * k)), mv_R 30]) (M1 := M) rfl ?_
      rw [show mv_w ((mv_w ((fr : Int) + (mv_w (2 * (k : Int))))) + 1) = ((2 * k + fr + 1 : Nat) : Int) from by (rw [show mv_w (2 * (k : Int)) = 2 * (k : Int) from mv_w_id (by omega) (by omega), show mv_w ((fr : Int) + (2 * (k : Int))) = (fr : Int) + (2 * (k : Int)) from mv_w_id (by omega) (by omega), show mv_w (((fr : Int) + (2 * (k : Int))) + 1) = ((fr : Int) + (2 * (k : Int))) + 1 from mv_w_id (by omega) (by omega)]) <;> omega]
      refine mv_goW 1 (pc' := if 0 ≤ ((2 * k + fr + 1 : Nat) : Int) ∧ ((2 * k + fr + 1 : Nat) : Int) < 40 then 120 else mv_bad) (ls' := [mv_R 0, mv_I 0, mv_I a, mv_I (fr : Int), mv_I (n : Int), mv_R 71, mv_I (sp_ubC V f k), mv_I (k : Int)]) (st' := [mv_I (M 72 (2 * k + fr + 1)), mv_I (f (2 * k)), mv_R 30]) (M1 := M) rfl ?_
      refine mv_ttW (by omega) ?_
      rw [show M 72 (2 * k + fr + 1) = f (2 * k + 1) from by rw [hM, show 2 * k + fr + 1 = fr + (2 * k + 1) from by omega]; exact hf _ (by omega)]
      refine mv_callW (st2 := [mv_I (sp_unr (sp_ubV V f k) (f (2 * k)) (f (2 * k + 1)))]) rfl (Or.inl rfl) rfl rfl rfl (sp_cadd hcv (sp_ok_ubV ho f k)) (by first | decide | omega) (fun Ma2 hm3 => ?_)
      have hx := hm3
      refine mv_goW 1 (pc' := if (sp_unr (sp_ubV V f k) (f (2 * k)) (f (2 * k + 1))) < 0 then 129 else 126) (ls' := [mv_R 0, mv_I 0, mv_I a, mv_I (fr : Int), mv_I (n : Int), mv_R 71, mv_I (sp_ubC V f k), mv_I (k : Int)]) (st' := []) (M1 := Ma2) rfl ?_
      refine mv_spW (fun ha4 => ?_) (fun ha4 => ?_)
      · refine mv_goW 2 (pc' := 65) (ls' := [mv_R 0, mv_I 0, mv_I a, mv_I (fr : Int), mv_I (n : Int), mv_R 71, mv_I (sp_ubC V f k), mv_I (mv_w ((k : Int) + 1))]) (st' := []) (M1 := Ma2) rfl ?_
        rw [show mv_w ((k : Int) + 1) = (k : Int) + 1 from mv_w_id (by omega) (by omega)]
        rw [show (k : Int) + 1 = ((k + 1 : Nat) : Int) from by omega]
        refine mv_eqsW (ls2 := [mv_R 0, mv_I 0, mv_I a, mv_I (fr : Int), mv_I (n : Int), mv_R 71, mv_I (sp_ubC V f (k + 1)), mv_I ((k + 1 : Nat) : Int)]) (by rw [show sp_ubC V f k = sp_ubC V f (k + 1) from by simp only [sp_ubC]; split <;> omega]) rfl rfl (ih (k + 1) _ (by omega) (hag.tr hx.1) hx.2 (fun j hj => ?_))
        by_cases hjk : j = k
        · subst hjk; omega
        · exact hC j (by omega)
      · refine mv_goW 3 (pc' := 65) (ls' := [mv_R 0, mv_I 0, mv_I a, mv_I (fr : Int), mv_I (n : Int), mv_R 71, mv_I (mv_w ((sp_ubC V f k) + 1)), mv_I (mv_w ((k : Int) + 1))]) (st' := []) (M1 := Ma2) rfl ?_
        rw [show mv_w ((sp_ubC V f k) + 1) = (sp_ubC V f k) + 1 from mv_w_id (by omega) (by omega)]
        rw [show mv_w ((k : Int) + 1) = (k : Int) + 1 from mv_w_id (by omega) (by omega)]
        rw [show (k : Int) + 1 = ((k + 1 : Nat) : Int) from by omega]
        refine mv_eqsW (ls2 := [mv_R 0, mv_I 0, mv_I a, mv_I (fr : Int), mv_I (n : Int), mv_R 71, mv_I (sp_ubC V f (k + 1)), mv_I ((k + 1 : Nat) : Int)]) (by rw [show (sp_ubC V f k) + 1 = sp_ubC V f (k + 1) from by simp only [sp_ubC]; split <;> omega]) rfl rfl (ih (k + 1) _ (by omega) (hag.tr hx.1) hx.2 (fun j hj => ?_))
        by_cases hjk : j = k
        · subst hjk; omega
        · exact hC j (by omega)
    · refine mv_callPW (st2 := [mv_I 0]) rfl (Or.inl rfl) rfl rfl rfl (sp_hasRun_0_f (by rw [hag 71 (by decide)]; exact hz1) z1.1 z1.2 ha1) (by first | decide | omega) ?_
      refine mv_goW 1 (pc' := if 0 = 0 then 87 else 90) (ls' := [mv_R 0, mv_I 0, mv_I a, mv_I (fr : Int), mv_I (n : Int), mv_R 71, mv_I (sp_ubC V f k), mv_I (k : Int)]) (st' := []) (M1 := M) rfl ?_
      refine mv_ttW (by first | decide | omega) ?_
      refine mv_goW 1 (pc' := 89) (ls' := [mv_R 0, mv_I 0, mv_I a, mv_I (fr : Int), mv_I (n : Int), mv_R 71, mv_I (sp_ubC V f k), mv_I (k : Int)]) (st' := [mv_I (-12)]) (M1 := M) rfl ?_
      exact mv_retW (fun n => rfl) (hQ2 k (by omega) hC (by omega) M hag hcv)
theorem sp_cub_1 {V M0 : mv_M} {f : Nat → Int} {a sz : Int} {fr n d : Nat} {Q : mv_V → mv_M → Prop} (ho : sp_ok V) (hz1 : M0 73 2 = sz) (z1 : 0 ≤ sz ∧ sz ≤ 40) (hf : ∀ j : Nat, (fr : Int) + j < 40 → M0 74 (fr + j) = f j) (hn : n ≤ 6)
    (hQ1 : ∀ M2, (∀ j : Nat, j < n → (fr : Int) + 2 * j + 2 ≤ sz) → mv_ag [30, 33, 34, 35] M0 M2 → sp_c 30 M2 (sp_ubV V f n) → Q (mv_I (sp_ubC V f n)) M2)
    (hQ2 : ∀ k : Nat, k < n → (∀ j : Nat, j < k → (fr : Int) + 2 * j + 2 ≤ sz) → ¬ ((fr : Int) + 2 * k + 2 ≤ sz) → ∀ M2, mv_ag [30, 33, 34, 35] M0 M2 → sp_c 30 M2 (sp_ubV V f k) → Q (mv_I (-12)) M2) :
    ∀ (r k : Nat) (M : mv_M), k + r = n → mv_ag [30, 33, 34, 35] M0 M → sp_c 30 M (sp_ubV V f k) → (∀ j : Nat, j < k → (fr : Int) + 2 * j + 2 ≤ sz) →
      mv_W (d + 3) 95 65 [mv_R 0, mv_I 1, mv_I a, mv_I (fr : Int), mv_I (n : Int), mv_R 73, mv_I (sp_ubC V f k), mv_I (k : Int)] [] M Q := by
  intro r
  induction r with
  | zero =>
    intro k M hk hag hcv hC
    have hk : k = n := by omega
    subst hk
    refine mv_goW 3 (pc' := if (k : Int) < (k : Int) then 72 else 135) (ls' := [mv_R 0, mv_I 1, mv_I a, mv_I (fr : Int), mv_I (k : Int), mv_R 73, mv_I (sp_ubC V f k), mv_I (k : Int)]) (st' := []) (M1 := M) rfl ?_
    refine mv_ffW (by omega) ?_
    refine mv_goW 1 (pc' := 137) (ls' := [mv_R 0, mv_I 1, mv_I a, mv_I (fr : Int), mv_I (k : Int), mv_R 73, mv_I (sp_ubC V f k), mv_I (k : Int)]) (st' := [mv_I (sp_ubC V f k)]) (M1 := M) rfl ?_
    exact mv_retW (fun n => rfl) (hQ1 M hC hag hcv)
  | succ r ih =>
    intro k M hk hag hcv hC
    have hb := sp_ubC_b V f k
    have hM : M 74 = M0 74 := hag _ (by decide)
    refine mv_goW 3 (pc' := if (k : Int) < (n : Int) then 72 else 135) (ls' := [mv_R 0, mv_I 1, mv_I a, mv_I (fr : Int), mv_I (n : Int), mv_R 73, mv_I (sp_ubC V f k), mv_I (k : Int)]) (st' := []) (M1 := M) rfl ?_
    refine mv_ttW (by omega) ?_
    refine mv_goW 7 (pc' := 81) (ls' := [mv_R 0, mv_I 1, mv_I a, mv_I (fr : Int), mv_I (n : Int), mv_R 73, mv_I (sp_ubC V f k), mv_I (k : Int)]) (st' := [mv_I (mv_w ((mv_w (2 * (k : Int))) + 2)), mv_I (fr : Int), mv_R 73]) (M1 := M) rfl ?_
    rw [show mv_w (2 * (k : Int)) = 2 * (k : Int) from mv_w_id (by omega) (by omega)]
    rw [show mv_w ((2 * (k : Int)) + 2) = (2 * (k : Int)) + 2 from mv_w_id (by omega) (by omega)]
    rw [show (2 * (k : Int)) + 2 = ((2 * k + 2 : Nat) : Int) from by omega]
    by_cases ha5 : 0 ≤ ((2 * k + 2 : Nat) : Int) ∧ ((2 * k + 2 : Nat) : Int) ≤ sz ∧ 0 ≤ (fr : Int) ∧ (fr : Int) ≤ sz - ((2 * k + 2 : Nat) : Int)
    · refine mv_callPW (st2 := [mv_I 1]) rfl (Or.inl rfl) rfl rfl rfl (sp_hasRun_1_t (by rw [hag 73 (by decide)]; exact hz1) z1.1 z1.2 ha5) (by first | decide | omega) ?_
      refine mv_goW 1 (pc' := if 1 = 0 then 87 else 90) (ls' := [mv_R 0, mv_I 1, mv_I a, mv_I (fr : Int), mv_I (n : Int), mv_R 73, mv_I (sp_ubC V f k), mv_I (k : Int)]) (st' := []) (M1 := M) rfl ?_
      refine mv_ffW (by first | decide | omega) ?_
      refine mv_goW 9 (pc' := 105) (ls' := [mv_R 0, mv_I 1, mv_I a, mv_I (fr : Int), mv_I (n : Int), mv_R 73, mv_I (sp_ubC V f k), mv_I (k : Int)]) (st' := [mv_I (mv_w ((fr : Int) + (mv_w (2 * (k : Int))))), mv_R 74, mv_R 30]) (M1 := M) rfl ?_
      rw [show mv_w ((fr : Int) + (mv_w (2 * (k : Int)))) = ((2 * k + fr : Nat) : Int) from by (rw [show mv_w (2 * (k : Int)) = 2 * (k : Int) from mv_w_id (by omega) (by omega), show mv_w ((fr : Int) + (2 * (k : Int))) = (fr : Int) + (2 * (k : Int)) from mv_w_id (by omega) (by omega)]) <;> omega]
      refine mv_goW 1 (pc' := if 0 ≤ ((2 * k + fr : Nat) : Int) ∧ ((2 * k + fr : Nat) : Int) < 40 then 106 else mv_bad) (ls' := [mv_R 0, mv_I 1, mv_I a, mv_I (fr : Int), mv_I (n : Int), mv_R 73, mv_I (sp_ubC V f k), mv_I (k : Int)]) (st' := [mv_I (M 74 (2 * k + fr)), mv_R 30]) (M1 := M) rfl ?_
      refine mv_ttW (by omega) ?_
      rw [show M 74 (2 * k + fr) = f (2 * k) from by rw [hM, show 2 * k + fr = fr + 2 * k from by omega]; exact hf _ (by omega)]
      refine mv_goW 9 (pc' := 119) (ls' := [mv_R 0, mv_I 1, mv_I a, mv_I (fr : Int), mv_I (n : Int), mv_R 73, mv_I (sp_ubC V f k), mv_I (k : Int)]) (st' := [mv_I (mv_w ((mv_w ((fr : Int) + (mv_w (2 * (k : Int))))) + 1)), mv_R 74, mv_I (f (2 * k)), mv_R 30]) (M1 := M) rfl ?_
      rw [show mv_w ((mv_w ((fr : Int) + (mv_w (2 * (k : Int))))) + 1) = ((2 * k + fr + 1 : Nat) : Int) from by (rw [show mv_w (2 * (k : Int)) = 2 * (k : Int) from mv_w_id (by omega) (by omega), show mv_w ((fr : Int) + (2 * (k : Int))) = (fr : Int) + (2 * (k : Int)) from mv_w_id (by omega) (by omega), show mv_w (((fr : Int) + (2 * (k : Int))) + 1) = ((fr : Int) + (2 * (k : Int))) + 1 from mv_w_id (by omega) (by omega)]) <;> omega]
      refine mv_goW 1 (pc' := if 0 ≤ ((2 * k + fr + 1 : Nat) : Int) ∧ ((2 * k + fr + 1 : Nat) : Int) < 40 then 120 else mv_bad) (ls' := [mv_R 0, mv_I 1, mv_I a, mv_I (fr : Int), mv_I (n : Int), mv_R 73, mv_I (sp_ubC V f k), mv_I (k : Int)]) (st' := [mv_I (M 74 (2 * k + fr + 1)), mv_I (f (2 * k)), mv_R 30]) (M1 := M) rfl ?_
      refine mv_ttW (by omega) ?_
      rw [show M 74 (2 * k + fr + 1) = f (2 * k + 1) from by rw [hM, show 2 * k + fr + 1 = fr + (2 * k + 1) from by omega]; exact hf _ (by omega)]
      refine mv_callW (st2 := [mv_I (sp_unr (sp_ubV V f k) (f (2 * k)) (f (2 * k + 1)))]) rfl (Or.inl rfl) rfl rfl rfl (sp_cadd hcv (sp_ok_ubV ho f k)) (by first | decide | omega) (fun Ma6 hm7 => ?_)
      have hx := hm7
      refine mv_goW 1 (pc' := if (sp_unr (sp_ubV V f k) (f (2 * k)) (f (2 * k + 1))) < 0 then 129 else 126) (ls' := [mv_R 0, mv_I 1, mv_I a, mv_I (fr : Int), mv_I (n : Int), mv_R 73, mv_I (sp_ubC V f k), mv_I (k : Int)]) (st' := []) (M1 := Ma6) rfl ?_
      refine mv_spW (fun ha8 => ?_) (fun ha8 => ?_)
      · refine mv_goW 2 (pc' := 65) (ls' := [mv_R 0, mv_I 1, mv_I a, mv_I (fr : Int), mv_I (n : Int), mv_R 73, mv_I (sp_ubC V f k), mv_I (mv_w ((k : Int) + 1))]) (st' := []) (M1 := Ma6) rfl ?_
        rw [show mv_w ((k : Int) + 1) = (k : Int) + 1 from mv_w_id (by omega) (by omega)]
        rw [show (k : Int) + 1 = ((k + 1 : Nat) : Int) from by omega]
        refine mv_eqsW (ls2 := [mv_R 0, mv_I 1, mv_I a, mv_I (fr : Int), mv_I (n : Int), mv_R 73, mv_I (sp_ubC V f (k + 1)), mv_I ((k + 1 : Nat) : Int)]) (by rw [show sp_ubC V f k = sp_ubC V f (k + 1) from by simp only [sp_ubC]; split <;> omega]) rfl rfl (ih (k + 1) _ (by omega) (hag.tr hx.1) hx.2 (fun j hj => ?_))
        by_cases hjk : j = k
        · subst hjk; omega
        · exact hC j (by omega)
      · refine mv_goW 3 (pc' := 65) (ls' := [mv_R 0, mv_I 1, mv_I a, mv_I (fr : Int), mv_I (n : Int), mv_R 73, mv_I (mv_w ((sp_ubC V f k) + 1)), mv_I (mv_w ((k : Int) + 1))]) (st' := []) (M1 := Ma6) rfl ?_
        rw [show mv_w ((sp_ubC V f k) + 1) = (sp_ubC V f k) + 1 from mv_w_id (by omega) (by omega)]
        rw [show mv_w ((k : Int) + 1) = (k : Int) + 1 from mv_w_id (by omega) (by omega)]
        rw [show (k : Int) + 1 = ((k + 1 : Nat) : Int) from by omega]
        refine mv_eqsW (ls2 := [mv_R 0, mv_I 1, mv_I a, mv_I (fr : Int), mv_I (n : Int), mv_R 73, mv_I (sp_ubC V f (k + 1)), mv_I ((k + 1 : Nat) : Int)]) (by rw [show (sp_ubC V f k) + 1 = sp_ubC V f (k + 1) from by simp only [sp_ubC]; split <;> omega]) rfl rfl (ih (k + 1) _ (by omega) (hag.tr hx.1) hx.2 (fun j hj => ?_))
        by_cases hjk : j = k
        · subst hjk; omega
        · exact hC j (by omega)
    · refine mv_callPW (st2 := [mv_I 0]) rfl (Or.inl rfl) rfl rfl rfl (sp_hasRun_1_f (by rw [hag 73 (by decide)]; exact hz1) z1.1 z1.2 ha5) (by first | decide | omega) ?_
      refine mv_goW 1 (pc' := if 0 = 0 then 87 else 90) (ls' := [mv_R 0, mv_I 1, mv_I a, mv_I (fr : Int), mv_I (n : Int), mv_R 73, mv_I (sp_ubC V f k), mv_I (k : Int)]) (st' := []) (M1 := M) rfl ?_
      refine mv_ttW (by first | decide | omega) ?_
      refine mv_goW 1 (pc' := 89) (ls' := [mv_R 0, mv_I 1, mv_I a, mv_I (fr : Int), mv_I (n : Int), mv_R 73, mv_I (sp_ubC V f k), mv_I (k : Int)]) (st' := [mv_I (-12)]) (M1 := M) rfl ?_
      exact mv_retW (fun n => rfl) (hQ2 k (by omega) hC (by omega) M hag hcv)
theorem sp_cub_2 {V M0 : mv_M} {f : Nat → Int} {a sz : Int} {fr n d : Nat} {Q : mv_V → mv_M → Prop} (ho : sp_ok V) (hz1 : M0 75 2 = sz) (z1 : 0 ≤ sz ∧ sz ≤ 40) (hf : ∀ j : Nat, (fr : Int) + j < 40 → M0 76 (fr + j) = f j) (hn : n ≤ 6)
    (hQ1 : ∀ M2, (∀ j : Nat, j < n → (fr : Int) + 2 * j + 2 ≤ sz) → mv_ag [30, 33, 34, 35] M0 M2 → sp_c 30 M2 (sp_ubV V f n) → Q (mv_I (sp_ubC V f n)) M2)
    (hQ2 : ∀ k : Nat, k < n → (∀ j : Nat, j < k → (fr : Int) + 2 * j + 2 ≤ sz) → ¬ ((fr : Int) + 2 * k + 2 ≤ sz) → ∀ M2, mv_ag [30, 33, 34, 35] M0 M2 → sp_c 30 M2 (sp_ubV V f k) → Q (mv_I (-12)) M2) :
    ∀ (r k : Nat) (M : mv_M), k + r = n → mv_ag [30, 33, 34, 35] M0 M → sp_c 30 M (sp_ubV V f k) → (∀ j : Nat, j < k → (fr : Int) + 2 * j + 2 ≤ sz) →
      mv_W (d + 3) 95 65 [mv_R 0, mv_I 2, mv_I a, mv_I (fr : Int), mv_I (n : Int), mv_R 75, mv_I (sp_ubC V f k), mv_I (k : Int)] [] M Q := by
  intro r
  induction r with
  | zero =>
    intro k M hk hag hcv hC
    have hk : k = n := by omega
    subst hk
    refine mv_goW 3 (pc' := if (k : Int) < (k : Int) then 72 else 135) (ls' := [mv_R 0, mv_I 2, mv_I a, mv_I (fr : Int), mv_I (k : Int), mv_R 75, mv_I (sp_ubC V f k), mv_I (k : Int)]) (st' := []) (M1 := M) rfl ?_
    refine mv_ffW (by omega) ?_
    refine mv_goW 1 (pc' := 137) (ls' := [mv_R 0, mv_I 2, mv_I a, mv_I (fr : Int), mv_I (k : Int), mv_R 75, mv_I (sp_ubC V f k), mv_I (k : Int)]) (st' := [mv_I (sp_ubC V f k)]) (M1 := M) rfl ?_
    exact mv_retW (fun n => rfl) (hQ1 M hC hag hcv)
  | succ r ih =>
    intro k M hk hag hcv hC
    have hb := sp_ubC_b V f k
    have hM : M 76 = M0 76 := hag _ (by decide)
    refine mv_goW 3 (pc' := if (k : Int) < (n : Int) then 72 else 135) (ls' := [mv_R 0, mv_I 2, mv_I a, mv_I (fr : Int), mv_I (n : Int), mv_R 75, mv_I (sp_ubC V f k), mv_I (k : Int)]) (st' := []) (M1 := M) rfl ?_
    refine mv_ttW (by omega) ?_
    refine mv_goW 7 (pc' := 81) (ls' := [mv_R 0, mv_I 2, mv_I a, mv_I (fr : Int), mv_I (n : Int), mv_R 75, mv_I (sp_ubC V f k), mv_I (k : Int)]) (st' := [mv_I (mv_w ((mv_w (2 * (k : Int))) + 2)), mv_I (fr : Int), mv_R 75]) (M1 := M) rfl ?_
    rw [show mv_w (2 * (k : Int)) = 2 * (k : Int) from mv_w_id (by omega) (by omega)]
    rw [show mv_w ((2 * (k : Int)) + 2) = (2 * (k : Int)) + 2 from mv_w_id (by omega) (by omega)]
    rw [show (2 * (k : Int)) + 2 = ((2 * k + 2 : Nat) : Int) from by omega]
    by_cases ha9 : 0 ≤ ((2 * k + 2 : Nat) : Int) ∧ ((2 * k + 2 : Nat) : Int) ≤ sz ∧ 0 ≤ (fr : Int) ∧ (fr : Int) ≤ sz - ((2 * k + 2 : Nat) : Int)
    · refine mv_callPW (st2 := [mv_I 1]) rfl (Or.inl rfl) rfl rfl rfl (sp_hasRun_2_t (by rw [hag 75 (by decide)]; exact hz1) z1.1 z1.2 ha9) (by first | decide | omega) ?_
      refine mv_goW 1 (pc' := if 1 = 0 then 87 else 90) (ls' := [mv_R 0, mv_I 2, mv_I a, mv_I (fr : Int), mv_I (n : Int), mv_R 75, mv_I (sp_ubC V f k), mv_I (k : Int)]) (st' := []) (M1 := M) rfl ?_
      refine mv_ffW (by first | decide | omega) ?_
      refine mv_goW 9 (pc' := 105) (ls' := [mv_R 0, mv_I 2, mv_I a, mv_I (fr : Int), mv_I (n : Int), mv_R 75, mv_I (sp_ubC V f k), mv_I (k : Int)]) (st' := [mv_I (mv_w ((fr : Int) + (mv_w (2 * (k : Int))))), mv_R 76, mv_R 30]) (M1 := M) rfl ?_
      rw [show mv_w ((fr : Int) + (mv_w (2 * (k : Int)))) = ((2 * k + fr : Nat) : Int) from by (rw [show mv_w (2 * (k : Int)) = 2 * (k : Int) from mv_w_id (by omega) (by omega), show mv_w ((fr : Int) + (2 * (k : Int))) = (fr : Int) + (2 * (k : Int)) from mv_w_id (by omega) (by omega)]) <;> omega]
      refine mv_goW 1 (pc' := if 0 ≤ ((2 * k + fr : Nat) : Int) ∧ ((2 * k + fr : Nat) : Int) < 40 then 106 else mv_bad) (ls' := [mv_R 0, mv_I 2, mv_I a, mv_I (fr : Int), mv_I (n : Int), mv_R 75, mv_I (sp_ubC V f k), mv_I (k : Int)]) (st' := [mv_I (M 76 (2 * k + fr)), mv_R 30]) (M1 := M) rfl ?_
      refine mv_ttW (by omega) ?_
      rw [show M 76 (2 * k + fr) = f (2 * k) from by rw [hM, show 2 * k + fr = fr + 2 * k from by omega]; exact hf _ (by omega)]
      refine mv_goW 9 (pc' := 119) (ls' := [mv_R 0, mv_I 2, mv_I a, mv_I (fr : Int), mv_I (n : Int), mv_R 75, mv_I (sp_ubC V f k), mv_I (k : Int)]) (st' := [mv_I (mv_w ((mv_w ((fr : Int) + (mv_w (2 * (k : Int))))) + 1)), mv_R 76, mv_I (f (2 * k)), mv_R 30]) (M1 := M) rfl ?_
      rw [show mv_w ((mv_w ((fr : Int) + (mv_w (2 * (k : Int))))) + 1) = ((2 * k + fr + 1 : Nat) : Int) from by (rw [show mv_w (2 * (k : Int)) = 2 * (k : Int) from mv_w_id (by omega) (by omega), show mv_w ((fr : Int) + (2 * (k : Int))) = (fr : Int) + (2 * (k : Int)) from mv_w_id (by omega) (by omega), show mv_w (((fr : Int) + (2 * (k : Int))) + 1) = ((fr : Int) + (2 * (k : Int))) + 1 from mv_w_id (by omega) (by omega)]) <;> omega]
      refine mv_goW 1 (pc' := if 0 ≤ ((2 * k + fr + 1 : Nat) : Int) ∧ ((2 * k + fr + 1 : Nat) : Int) < 40 then 120 else mv_bad) (ls' := [mv_R 0, mv_I 2, mv_I a, mv_I (fr : Int), mv_I (n : Int), mv_R 75, mv_I (sp_ubC V f k), mv_I (k : Int)]) (st' := [mv_I (M 76 (2 * k + fr + 1)), mv_I (f (2 * k)), mv_R 30]) (M1 := M) rfl ?_
      refine mv_ttW (by omega) ?_
      rw [show M 76 (2 * k + fr + 1) = f (2 * k + 1) from by rw [hM, show 2 * k + fr + 1 = fr + (2 * k + 1) from by omega]; exact hf _ (by omega)]
      refine mv_callW (st2 := [mv_I (sp_unr (sp_ubV V f k) (f (2 * k)) (f (2 * k + 1)))]) rfl (Or.inl rfl) rfl rfl rfl (sp_cadd hcv (sp_ok_ubV ho f k)) (by first | decide | omega) (fun Ma10 hm11 => ?_)
      have hx := hm11
      refine mv_goW 1 (pc' := if (sp_unr (sp_ubV V f k) (f (2 * k)) (f (2 * k + 1))) < 0 then 129 else 126) (ls' := [mv_R 0, mv_I 2, mv_I a, mv_I (fr : Int), mv_I (n : Int), mv_R 75, mv_I (sp_ubC V f k), mv_I (k : Int)]) (st' := []) (M1 := Ma10) rfl ?_
      refine mv_spW (fun ha12 => ?_) (fun ha12 => ?_)
      · refine mv_goW 2 (pc' := 65) (ls' := [mv_R 0, mv_I 2, mv_I a, mv_I (fr : Int), mv_I (n : Int), mv_R 75, mv_I (sp_ubC V f k), mv_I (mv_w ((k : Int) + 1))]) (st' := []) (M1 := Ma10) rfl ?_
        rw [show mv_w ((k : Int) + 1) = (k : Int) + 1 from mv_w_id (by omega) (by omega)]
        rw [show (k : Int) + 1 = ((k + 1 : Nat) : Int) from by omega]
        refine mv_eqsW (ls2 := [mv_R 0, mv_I 2, mv_I a, mv_I (fr : Int), mv_I (n : Int), mv_R 75, mv_I (sp_ubC V f (k + 1)), mv_I ((k + 1 : Nat) : Int)]) (by rw [show sp_ubC V f k = sp_ubC V f (k + 1) from by simp only [sp_ubC]; split <;> omega]) rfl rfl (ih (k + 1) _ (by omega) (hag.tr hx.1) hx.2 (fun j hj => ?_))
        by_cases hjk : j = k
        · subst hjk; omega
        · exact hC j (by omega)
      · refine mv_goW 3 (pc' := 65) (ls' := [mv_R 0, mv_I 2, mv_I a, mv_I (fr : Int), mv_I (n : Int), mv_R 75, mv_I (mv_w ((sp_ubC V f k) + 1)), mv_I (mv_w ((k : Int) + 1))]) (st' := []) (M1 := Ma10) rfl ?_
        rw [show mv_w ((sp_ubC V f k) + 1) = (sp_ubC V f k) + 1 from mv_w_id (by omega) (by omega)]
        rw [show mv_w ((k : Int) + 1) = (k : Int) + 1 from mv_w_id (by omega) (by omega)]
        rw [show (k : Int) + 1 = ((k + 1 : Nat) : Int) from by omega]
        refine mv_eqsW (ls2 := [mv_R 0, mv_I 2, mv_I a, mv_I (fr : Int), mv_I (n : Int), mv_R 75, mv_I (sp_ubC V f (k + 1)), mv_I ((k + 1 : Nat) : Int)]) (by rw [show (sp_ubC V f k) + 1 = sp_ubC V f (k + 1) from by simp only [sp_ubC]; split <;> omega]) rfl rfl (ih (k + 1) _ (by omega) (hag.tr hx.1) hx.2 (fun j hj => ?_))
        by_cases hjk : j = k
        · subst hjk; omega
        · exact hC j (by omega)
    · refine mv_callPW (st2 := [mv_I 0]) rfl (Or.inl rfl) rfl rfl rfl (sp_hasRun_2_f (by rw [hag 75 (by decide)]; exact hz1) z1.1 z1.2 ha9) (by first | decide | omega) ?_
      refine mv_goW 1 (pc' := if 0 = 0 then 87 else 90) (ls' := [mv_R 0, mv_I 2, mv_I a, mv_I (fr : Int), mv_I (n : Int), mv_R 75, mv_I (sp_ubC V f k), mv_I (k : Int)]) (st' := []) (M1 := M) rfl ?_
      refine mv_ttW (by first | decide | omega) ?_
      refine mv_goW 1 (pc' := 89) (ls' := [mv_R 0, mv_I 2, mv_I a, mv_I (fr : Int), mv_I (n : Int), mv_R 75, mv_I (sp_ubC V f k), mv_I (k : Int)]) (st' := [mv_I (-12)]) (M1 := M) rfl ?_
      exact mv_retW (fun n => rfl) (hQ2 k (by omega) hC (by omega) M hag hcv)
theorem sp_cub_3 {V M0 : mv_M} {f : Nat → Int} {a sz : Int} {fr n d : Nat} {Q : mv_V → mv_M → Prop} (ho : sp_ok V) (hz1 : M0 77 2 = sz) (z1 : 0 ≤ sz ∧ sz ≤ 40) (hf : ∀ j : Nat, (fr : Int) + j < 40 → M0 78 (fr + j) = f j) (hn : n ≤ 6)
    (hQ1 : ∀ M2, (∀ j : Nat, j < n → (fr : Int) + 2 * j + 2 ≤ sz) → mv_ag [30, 33, 34, 35] M0 M2 → sp_c 30 M2 (sp_ubV V f n) → Q (mv_I (sp_ubC V f n)) M2)
    (hQ2 : ∀ k : Nat, k < n → (∀ j : Nat, j < k → (fr : Int) + 2 * j + 2 ≤ sz) → ¬ ((fr : Int) + 2 * k + 2 ≤ sz) → ∀ M2, mv_ag [30, 33, 34, 35] M0 M2 → sp_c 30 M2 (sp_ubV V f k) → Q (mv_I (-12)) M2) :
    ∀ (r k : Nat) (M : mv_M), k + r = n → mv_ag [30, 33, 34, 35] M0 M → sp_c 30 M (sp_ubV V f k) → (∀ j : Nat, j < k → (fr : Int) + 2 * j + 2 ≤ sz) →
      mv_W (d + 3) 95 65 [mv_R 0, mv_I 3, mv_I a, mv_I (fr : Int), mv_I (n : Int), mv_R 77, mv_I (sp_ubC V f k), mv_I (k : Int)] [] M Q := by
  intro r
  induction r with
  | zero =>
    intro k M hk hag hcv hC
    have hk : k = n := by omega
    subst hk
    refine mv_goW 3 (pc' := if (k : Int) < (k : Int) then 72 else 135) (ls' := [mv_R 0, mv_I 3, mv_I a, mv_I (fr : Int), mv_I (k : Int), mv_R 77, mv_I (sp_ubC V f k), mv_I (k : Int)]) (st' := []) (M1 := M) rfl ?_
    refine mv_ffW (by omega) ?_
    refine mv_goW 1 (pc' := 137) (ls' := [mv_R 0, mv_I 3, mv_I a, mv_I (fr : Int), mv_I (k : Int), mv_R 77, mv_I (sp_ubC V f k), mv_I (k : Int)]) (st' := [mv_I (sp_ubC V f k)]) (M1 := M) rfl ?_
    exact mv_retW (fun n => rfl) (hQ1 M hC hag hcv)
  | succ r ih =>
    intro k M hk hag hcv hC
    have hb := sp_ubC_b V f k
    have hM : M 78 = M0 78 := hag _ (by decide)
    refine mv_goW 3 (pc' := if (k : Int) < (n : Int) then 72 else 135) (ls' := [mv_R 0, mv_I 3, mv_I a, mv_I (fr : Int), mv_I (n : Int), mv_R 77, mv_I (sp_ubC V f k), mv_I (k : Int)]) (st' := []) (M1 := M) rfl ?_
    refine mv_ttW (by omega) ?_
    refine mv_goW 7 (pc' := 81) (ls' := [mv_R 0, mv_I 3, mv_I a, mv_I (fr : Int), mv_I (n : Int), mv_R 77, mv_I (sp_ubC V f k), mv_I (k : Int)]) (st' := [mv_I (mv_w ((mv_w (2 * (k : Int))) + 2)), mv_I (fr : Int), mv_R 77]) (M1 := M) rfl ?_
    rw [show mv_w (2 * (k : Int)) = 2 * (k : Int) from mv_w_id (by omega) (by omega)]
    rw [show mv_w ((2 * (k : Int)) + 2) = (2 * (k : Int)) + 2 from mv_w_id (by omega) (by omega)]
    rw [show (2 * (k : Int)) + 2 = ((2 * k + 2 : Nat) : Int) from by omega]
    by_cases ha13 : 0 ≤ ((2 * k + 2 : Nat) : Int) ∧ ((2 * k + 2 : Nat) : Int) ≤ sz ∧ 0 ≤ (fr : Int) ∧ (fr : Int) ≤ sz - ((2 * k + 2 : Nat) : Int)
    · refine mv_callPW (st2 := [mv_I 1]) rfl (Or.inl rfl) rfl rfl rfl (sp_hasRun_3_t (by rw [hag 77 (by decide)]; exact hz1) z1.1 z1.2 ha13) (by first | decide | omega) ?_
      refine mv_goW 1 (pc' := if 1 = 0 then 87 else 90) (ls' := [mv_R 0, mv_I 3, mv_I a, mv_I (fr : Int), mv_I (n : Int), mv_R 77, mv_I (sp_ubC V f k), mv_I (k : Int)]) (st' := []) (M1 := M) rfl ?_
      refine mv_ffW (by first | decide | omega) ?_
      refine mv_goW 9 (pc' := 105) (ls' := [mv_R 0, mv_I 3, mv_I a, mv_I (fr : Int), mv_I (n : Int), mv_R 77, mv_I (sp_ubC V f k), mv_I (k : Int)]) (st' := [mv_I (mv_w ((fr : Int) + (mv_w (2 * (k : Int))))), mv_R 78, mv_R 30]) (M1 := M) rfl ?_
      rw [show mv_w ((fr : Int) + (mv_w (2 * (k : Int)))) = ((2 * k + fr : Nat) : Int) from by (rw [show mv_w (2 * (k : Int)) = 2 * (k : Int) from mv_w_id (by omega) (by omega), show mv_w ((fr : Int) + (2 * (k : Int))) = (fr : Int) + (2 * (k : Int)) from mv_w_id (by omega) (by omega)]) <;> omega]
      refine mv_goW 1 (pc' := if 0 ≤ ((2 * k + fr : Nat) : Int) ∧ ((2 * k + fr : Nat) : Int) < 40 then 106 else mv_bad) (ls' := [mv_R 0, mv_I 3, mv_I a, mv_I (fr : Int), mv_I (n : Int), mv_R 77, mv_I (sp_ubC V f k), mv_I (k : Int)]) (st' := [mv_I (M 78 (2 * k + fr)), mv_R 30]) (M1 := M) rfl ?_
      refine mv_ttW (by omega) ?_
      rw [show M 78 (2 * k + fr) = f (2 * k) from by rw [hM, show 2 * k + fr = fr + 2 * k from by omega]; exact hf _ (by omega)]
      refine mv_goW 9 (pc' := 119) (ls' := [mv_R 0, mv_I 3, mv_I a, mv_I (fr : Int), mv_I (n : Int), mv_R 77, mv_I (sp_ubC V f k), mv_I (k : Int)]) (st' := [mv_I (mv_w ((mv_w ((fr : Int) + (mv_w (2 * (k : Int))))) + 1)), mv_R 78, mv_I (f (2 * k)), mv_R 30]) (M1 := M) rfl ?_
      rw [show mv_w ((mv_w ((fr : Int) + (mv_w (2 * (k : Int))))) + 1) = ((2 * k + fr + 1 : Nat) : Int) from by (rw [show mv_w (2 * (k : Int)) = 2 * (k : Int) from mv_w_id (by omega) (by omega), show mv_w ((fr : Int) + (2 * (k : Int))) = (fr : Int) + (2 * (k : Int)) from mv_w_id (by omega) (by omega), show mv_w (((fr : Int) + (2 * (k : Int))) + 1) = ((fr : Int) + (2 * (k : Int))) + 1 from mv_w_id (by omega) (by omega)]) <;> omega]
      refine mv_goW 1 (pc' := if 0 ≤ ((2 * k + fr + 1 : Nat) : Int) ∧ ((2 * k + fr + 1 : Nat) : Int) < 40 then 120 else mv_bad) (ls' := [mv_R 0, mv_I 3, mv_I a, mv_I (fr : Int), mv_I (n : Int), mv_R 77, mv_I (sp_ubC V f k), mv_I (k : Int)]) (st' := [mv_I (M 78 (2 * k + fr + 1)), mv_I (f (2 * k)), mv_R 30]) (M1 := M) rfl ?_
      refine mv_ttW (by omega) ?_
      rw [show M 78 (2 * k + fr + 1) = f (2 * k + 1) from by rw [hM, show 2 * k + fr + 1 = fr + (2 * k + 1) from by omega]; exact hf _ (by omega)]
      refine mv_callW (st2 := [mv_I (sp_unr (sp_ubV V f k) (f (2 * k)) (f (2 * k + 1)))]) rfl (Or.inl rfl) rfl rfl rfl (sp_cadd hcv (sp_ok_ubV ho f k)) (by first | decide | omega) (fun Ma14 hm15 => ?_)
      have hx := hm15
      refine mv_goW 1 (pc' := if (sp_unr (sp_ubV V f k) (f (2 * k)) (f (2 * k + 1))) < 0 then 129 else 126) (ls' := [mv_R 0, mv_I 3, mv_I a, mv_I (fr : Int), mv_I (n : Int), mv_R 77, mv_I (sp_ubC V f k), mv_I (k : Int)]) (st' := []) (M1 := Ma14) rfl ?_
      refine mv_spW (fun ha16 => ?_) (fun ha16 => ?_)
      · refine mv_goW 2 (pc' := 65) (ls' := [mv_R 0, mv_I 3, mv_I a, mv_I (fr : Int), mv_I (n : Int), mv_R 77, mv_I (sp_ubC V f k), mv_I (mv_w ((k : Int) + 1))]) (st' := []) (M1 := Ma14) rfl ?_
        rw [show mv_w ((k : Int) + 1) = (k : Int) + 1 from mv_w_id (by omega) (by omega)]
        rw [show (k : Int) + 1 = ((k + 1 : Nat) : Int) from by omega]
        refine mv_eqsW (ls2 := [mv_R 0, mv_I 3, mv_I a, mv_I (fr : Int), mv_I (n : Int), mv_R 77, mv_I (sp_ubC V f (k + 1)), mv_I ((k + 1 : Nat) : Int)]) (by rw [show sp_ubC V f k = sp_ubC V f (k + 1) from by simp only [sp_ubC]; split <;> omega]) rfl rfl (ih (k + 1) _ (by omega) (hag.tr hx.1) hx.2 (fun j hj => ?_))
        by_cases hjk : j = k
        · subst hjk; omega
        · exact hC j (by omega)
      · refine mv_goW 3 (pc' := 65) (ls' := [mv_R 0, mv_I 3, mv_I a, mv_I (fr : Int), mv_I (n : Int), mv_R 77, mv_I (mv_w ((sp_ubC V f k) + 1)), mv_I (mv_w ((k : Int) + 1))]) (st' := []) (M1 := Ma14) rfl ?_
        rw [show mv_w ((sp_ubC V f k) + 1) = (sp_ubC V f k) + 1 from mv_w_id (by omega) (by omega)]
        rw [show mv_w ((k : Int) + 1) = (k : Int) + 1 from mv_w_id (by omega) (by omega)]
        rw [show (k : Int) + 1 = ((k + 1 : Nat) : Int) from by omega]
        refine mv_eqsW (ls2 := [mv_R 0, mv_I 3, mv_I a, mv_I (fr : Int), mv_I (n : Int), mv_R 77, mv_I (sp_ubC V f (k + 1)), mv_I ((k + 1 : Nat) : Int)]) (by rw [show (sp_ubC V f k) + 1 = sp_ubC V f (k + 1) from by simp only [sp_ubC]; split <;> omega]) rfl rfl (ih (k + 1) _ (by omega) (hag.tr hx.1) hx.2 (fun j hj => ?_))
        by_cases hjk : j = k
        · subst hjk; omega
        · exact hC j (by omega)
    · refine mv_callPW (st2 := [mv_I 0]) rfl (Or.inl rfl) rfl rfl rfl (sp_hasRun_3_f (by rw [hag 77 (by decide)]; exact hz1) z1.1 z1.2 ha13) (by first | decide | omega) ?_
      refine mv_goW 1 (pc' := if 0 = 0 then 87 else 90) (ls' := [mv_R 0, mv_I 3, mv_I a, mv_I (fr : Int), mv_I (n : Int), mv_R 77, mv_I (sp_ubC V f k), mv_I (k : Int)]) (st' := []) (M1 := M) rfl ?_
      refine mv_ttW (by first | decide | omega) ?_
      refine mv_goW 1 (pc' := 89) (ls' := [mv_R 0, mv_I 3, mv_I a, mv_I (fr : Int), mv_I (n : Int), mv_R 77, mv_I (sp_ubC V f k), mv_I (k : Int)]) (st' := [mv_I (-12)]) (M1 := M) rfl ?_
      exact mv_retW (fun n => rfl) (hQ2 k (by omega) hC (by omega) M hag hcv)
theorem sp_mub {V M0 : mv_M} {f : Nat → Int} {a sz : Int} {S fr n d : Nat} {Q : mv_V → mv_M → Prop} (ho : sp_ok V) (hS : S < 4) (hz1 : M0 118 S = sz) (z1 : 0 ≤ sz ∧ sz ≤ 40) (hf : ∀ j : Nat, (fr : Int) + j < 40 → M0 119 (40 * S + (fr + j)) = f j) (hn : n ≤ 6) (hfr : (fr : Int) < 2147483648)
    (hQ1 : ∀ M2, (∀ j : Nat, j < n → (fr : Int) + 2 * j + 2 ≤ sz) → mv_ag [100, 102, 103, 105] M0 M2 → (∀ j, j ≠ 1 → M2 100 j = M0 100 j) → sp_m M2 (sp_ubV V f n) → Q (mv_I (sp_ubC V f n)) M2)
    (hQ2 : ∀ k : Nat, k < n → (∀ j : Nat, j < k → (fr : Int) + 2 * j + 2 ≤ sz) → ¬ ((fr : Int) + 2 * k + 2 ≤ sz) → ∀ M2, mv_ag [100, 102, 103, 105] M0 M2 → (∀ j, j ≠ 1 → M2 100 j = M0 100 j) → sp_m M2 (sp_ubV V f k) → Q (mv_I (-12)) M2) :
    ∀ (r k : Nat) (M : mv_M) (l7 l8 : mv_V), k + r = n → mv_isL l7 = false → mv_isL l8 = false → mv_ag [100, 102, 103, 105] M0 M → (∀ j, j ≠ 1 → M 100 j = M0 100 j) → sp_m M (sp_ubV V f k) → (∀ j : Nat, j < k → (fr : Int) + 2 * j + 2 ≤ sz) →
      mv_W (d + 3) 190 64 [mv_R 100, mv_I (S : Int), mv_I a, mv_I (fr : Int), mv_I (n : Int), mv_I (sp_ubC V f k), mv_I (k : Int), l7, l8] [] M Q := by
  intro r
  induction r with
  | zero =>
    intro k M l7 l8 hk hl7 hl8 hag h100 hmv hC
    have hk : k = n := by omega
    subst hk
    refine mv_goW 3 (pc' := if (k : Int) < (k : Int) then 71 else 153) (ls' := [mv_R 100, mv_I (S : Int), mv_I a, mv_I (fr : Int), mv_I (k : Int), mv_I (sp_ubC V f k), mv_I (k : Int), l7, l8]) (st' := []) (M1 := M) rfl ?_
    refine mv_ffW (by omega) ?_
    refine mv_goW 1 (pc' := 155) (ls' := [mv_R 100, mv_I (S : Int), mv_I a, mv_I (fr : Int), mv_I (k : Int), mv_I (sp_ubC V f k), mv_I (k : Int), l7, l8]) (st' := [mv_I (sp_ubC V f k)]) (M1 := M) rfl ?_
    exact mv_retW (fun n => rfl) (hQ1 M hC hag h100 hmv)
  | succ r ih =>
    intro k M l7 l8 hk hl7 hl8 hag h100 hmv hC
    have hb := sp_ubC_b V f k
    have hM : M 119 = M0 119 := hag _ (by decide)
    have hZ : M 118 S = sz := by rw [hag 118 (by decide)]; exact hz1
    by_cases hbig : (fr : Int) ≤ 2147480000
    · refine mv_goW 3 (pc' := if (k : Int) < (n : Int) then 71 else 153) (ls' := [mv_R 100, mv_I (S : Int), mv_I a, mv_I (fr : Int), mv_I (n : Int), mv_I (sp_ubC V f k), mv_I (k : Int), l7, l8]) (st' := []) (M1 := M) rfl ?_
      refine mv_ttW (by omega) ?_
      refine mv_goW 8 (pc' := if (fr : Int) < 0 then 102 else 83) (ls' := [mv_R 100, mv_I (S : Int), mv_I a, mv_I (fr : Int), mv_I (n : Int), mv_I (sp_ubC V f k), mv_I (k : Int), mv_I (mv_w ((fr : Int) + (mv_w (2 * (k : Int))))), l8]) (st' := []) (M1 := M) rfl ?_
      rw [show mv_w (2 * (k : Int)) = 2 * (k : Int) from mv_w_id (by omega) (by omega)]
      rw [show mv_w ((fr : Int) + (2 * (k : Int))) = (fr : Int) + (2 * (k : Int)) from mv_w_id (by omega) (by omega)]
      rw [show (fr : Int) + (2 * (k : Int)) = ((2 * k + fr : Nat) : Int) from by omega]
      refine mv_ffW (by omega) ?_
      refine mv_goW 3 (pc' := if ((2 * k + fr : Nat) : Int) < (fr : Int) then 102 else 89) (ls' := [mv_R 100, mv_I (S : Int), mv_I a, mv_I (fr : Int), mv_I (n : Int), mv_I (sp_ubC V f k), mv_I (k : Int), mv_I ((2 * k + fr : Nat) : Int), l8]) (st' := []) (M1 := M) rfl ?_
      refine mv_ffW (by omega) ?_
      refine mv_goW 5 (pc' := if 0 ≤ (S : Int) ∧ (S : Int) < 4 then 97 else mv_bad) (ls' := [mv_R 100, mv_I (S : Int), mv_I a, mv_I (fr : Int), mv_I (n : Int), mv_I (sp_ubC V f k), mv_I (k : Int), mv_I ((2 * k + fr : Nat) : Int), l8]) (st' := [mv_I (M 118 S), mv_I ((2 * k + fr : Nat) : Int)]) (M1 := M) rfl ?_
      refine mv_ttW (by omega) ?_
      rw [show M 118 S = sz from by exact hZ]
      refine mv_goW 3 (pc' := if (mv_w (sz - 2)) < ((2 * k + fr : Nat) : Int) then 102 else 105) (ls' := [mv_R 100, mv_I (S : Int), mv_I a, mv_I (fr : Int), mv_I (n : Int), mv_I (sp_ubC V f k), mv_I (k : Int), mv_I ((2 * k + fr : Nat) : Int), l8]) (st' := []) (M1 := M) rfl ?_
      rw [show mv_w (sz - 2) = sz - 2 from mv_w_id (by omega) (by omega)]
      refine mv_spW (fun ha17 => ?_) (fun ha17 => ?_)
      · refine mv_goW 1 (pc' := 104) (ls' := [mv_R 100, mv_I (S : Int), mv_I a, mv_I (fr : Int), mv_I (n : Int), mv_I (sp_ubC V f k), mv_I (k : Int), mv_I ((2 * k + fr : Nat) : Int), l8]) (st' := [mv_I (-12)]) (M1 := M) rfl ?_
        exact mv_retW (fun n => rfl) (hQ2 k (by omega) hC (by omega) M hag h100 hmv)
      · refine mv_goW 11 (pc' := 123) (ls' := [mv_R 100, mv_I (S : Int), mv_I a, mv_I (fr : Int), mv_I (n : Int), mv_I (sp_ubC V f k), mv_I (k : Int), mv_I ((2 * k + fr : Nat) : Int), mv_I (mv_w ((mv_w (40 * (S : Int))) + ((2 * k + fr : Nat) : Int)))]) (st' := [mv_I (mv_w ((mv_w (40 * (S : Int))) + ((2 * k + fr : Nat) : Int))), mv_R 119, mv_R 100, mv_I (sp_ubC V f k)]) (M1 := M) rfl ?_
        rw [show mv_w ((mv_w (40 * (S : Int))) + ((2 * k + fr : Nat) : Int)) = ((40 * S + 2 * k + fr : Nat) : Int) from by (rw [show mv_w (40 * (S : Int)) = 40 * (S : Int) from mv_w_id (by omega) (by omega), show mv_w ((40 * (S : Int)) + ((2 * k + fr : Nat) : Int)) = (40 * (S : Int)) + ((2 * k + fr : Nat) : Int) from mv_w_id (by omega) (by omega)]) <;> omega]
        refine mv_goW 1 (pc' := if 0 ≤ ((40 * S + 2 * k + fr : Nat) : Int) ∧ ((40 * S + 2 * k + fr : Nat) : Int) < 160 then 124 else mv_bad) (ls' := [mv_R 100, mv_I (S : Int), mv_I a, mv_I (fr : Int), mv_I (n : Int), mv_I (sp_ubC V f k), mv_I (k : Int), mv_I ((2 * k + fr : Nat) : Int), mv_I ((40 * S + 2 * k + fr : Nat) : Int)]) (st' := [mv_I (M 119 (40 * S + 2 * k + fr)), mv_R 100, mv_I (sp_ubC V f k)]) (M1 := M) rfl ?_
        refine mv_ttW (by omega) ?_
        rw [show M 119 (40 * S + 2 * k + fr) = f (2 * k) from by rw [hM, show 40 * S + 2 * k + fr = 40 * S + (fr + 2 * k) from by omega]; exact hf _ (by omega)]
        refine mv_goW 5 (pc' := 132) (ls' := [mv_R 100, mv_I (S : Int), mv_I a, mv_I (fr : Int), mv_I (n : Int), mv_I (sp_ubC V f k), mv_I (k : Int), mv_I ((2 * k + fr : Nat) : Int), mv_I ((40 * S + 2 * k + fr : Nat) : Int)]) (st' := [mv_I (mv_w (((40 * S + 2 * k + fr : Nat) : Int) + 1)), mv_R 119, mv_I (f (2 * k)), mv_R 100, mv_I (sp_ubC V f k)]) (M1 := M) rfl ?_
        rw [show mv_w (((40 * S + 2 * k + fr : Nat) : Int) + 1) = ((40 * S + 2 * k + fr + 1 : Nat) : Int) from by (rw [show mv_w (((40 * S + 2 * k + fr : Nat) : Int) + 1) = ((40 * S + 2 * k + fr : Nat) : Int) + 1 from mv_w_id (by omega) (by omega)]) <;> omega]
        refine mv_goW 1 (pc' := if 0 ≤ ((40 * S + 2 * k + fr + 1 : Nat) : Int) ∧ ((40 * S + 2 * k + fr + 1 : Nat) : Int) < 160 then 133 else mv_bad) (ls' := [mv_R 100, mv_I (S : Int), mv_I a, mv_I (fr : Int), mv_I (n : Int), mv_I (sp_ubC V f k), mv_I (k : Int), mv_I ((2 * k + fr : Nat) : Int), mv_I ((40 * S + 2 * k + fr : Nat) : Int)]) (st' := [mv_I (M 119 (40 * S + 2 * k + fr + 1)), mv_I (f (2 * k)), mv_R 100, mv_I (sp_ubC V f k)]) (M1 := M) rfl ?_
        refine mv_ttW (by omega) ?_
        rw [show M 119 (40 * S + 2 * k + fr + 1) = f (2 * k + 1) from by rw [hM, show 40 * S + 2 * k + fr + 1 = 40 * S + (fr + (2 * k + 1)) from by omega]; exact hf _ (by omega)]
        refine mv_callW (st2 := [mv_I (sp_unr (sp_ubV V f k) (f (2 * k)) (f (2 * k + 1))), mv_I (sp_ubC V f k)]) rfl (Or.inl rfl) rfl rfl rfl (sp_muni hmv (sp_ok_ubV ho f k)) (by first | decide | omega) (fun Ma18 hm19 => ?_)
        have hx := hm19
        refine mv_goW 1 (pc' := if (sp_unr (sp_ubV V f k) (f (2 * k)) (f (2 * k + 1))) < 0 then 143 else 139) (ls' := [mv_R 100, mv_I (S : Int), mv_I a, mv_I (fr : Int), mv_I (n : Int), mv_I (sp_ubC V f k), mv_I (k : Int), mv_I ((2 * k + fr : Nat) : Int), mv_I ((40 * S + 2 * k + fr : Nat) : Int)]) (st' := [mv_I (sp_ubC V f k)]) (M1 := Ma18) rfl ?_
        refine mv_spW (fun ha20 => ?_) (fun ha20 => ?_)
        · refine mv_goW 5 (pc' := 64) (ls' := [mv_R 100, mv_I (S : Int), mv_I a, mv_I (fr : Int), mv_I (n : Int), mv_I (mv_w ((sp_ubC V f k) + 0)), mv_I (mv_w ((k : Int) + 1)), mv_I ((2 * k + fr : Nat) : Int), mv_I ((40 * S + 2 * k + fr : Nat) : Int)]) (st' := []) (M1 := Ma18) rfl ?_
          rw [show mv_w ((sp_ubC V f k) + 0) = (sp_ubC V f k) + 0 from mv_w_id (by omega) (by omega)]
          rw [show mv_w ((k : Int) + 1) = (k : Int) + 1 from mv_w_id (by omega) (by omega)]
          rw [show (k : Int) + 1 = ((k + 1 : Nat) : Int) from by omega]
          refine mv_eqsW (ls2 := [mv_R 100, mv_I (S : Int), mv_I a, mv_I (fr : Int), mv_I (n : Int), mv_I (sp_ubC V f (k + 1)), mv_I ((k + 1 : Nat) : Int), mv_I ((2 * k + fr : Nat) : Int), mv_I ((40 * S + 2 * k + fr : Nat) : Int)]) (by rw [show (sp_ubC V f k) + 0 = sp_ubC V f (k + 1) from by simp only [sp_ubC]; split <;> omega]) rfl rfl (ih (k + 1) _ _ _ (by omega) rfl rfl (hag.tr hx.1.1) (fun j hj => (hx.1.2 j hj).trans (h100 j hj)) hx.2 (fun j hj => ?_))
          by_cases hjk : j = k
          · subst hjk; omega
          · exact hC j (by omega)
        · refine mv_goW 6 (pc' := 64) (ls' := [mv_R 100, mv_I (S : Int), mv_I a, mv_I (fr : Int), mv_I (n : Int), mv_I (mv_w ((sp_ubC V f k) + 1)), mv_I (mv_w ((k : Int) + 1)), mv_I ((2 * k + fr : Nat) : Int), mv_I ((40 * S + 2 * k + fr : Nat) : Int)]) (st' := []) (M1 := Ma18) rfl ?_
          rw [show mv_w ((sp_ubC V f k) + 1) = (sp_ubC V f k) + 1 from mv_w_id (by omega) (by omega)]
          rw [show mv_w ((k : Int) + 1) = (k : Int) + 1 from mv_w_id (by omega) (by omega)]
          rw [show (k : Int) + 1 = ((k + 1 : Nat) : Int) from by omega]
          refine mv_eqsW (ls2 := [mv_R 100, mv_I (S : Int), mv_I a, mv_I (fr : Int), mv_I (n : Int), mv_I (sp_ubC V f (k + 1)), mv_I ((k + 1 : Nat) : Int), mv_I ((2 * k + fr : Nat) : Int), mv_I ((40 * S + 2 * k + fr : Nat) : Int)]) (by rw [show (sp_ubC V f k) + 1 = sp_ubC V f (k + 1) from by simp only [sp_ubC]; split <;> omega]) rfl rfl (ih (k + 1) _ _ _ (by omega) rfl rfl (hag.tr hx.1.1) (fun j hj => (hx.1.2 j hj).trans (h100 j hj)) hx.2 (fun j hj => ?_))
          by_cases hjk : j = k
          · subst hjk; omega
          · exact hC j (by omega)
    · have hw : mv_w ((fr : Int) + mv_w (2 * (k : Int))) = (fr : Int) + 2 * k ∨ mv_w ((fr : Int) + mv_w (2 * (k : Int))) < fr := by
        rw [show mv_w (2 * (k : Int)) = 2 * (k : Int) from mv_w_id (by omega) (by omega)]
        unfold mv_w
        omega
      obtain ⟨iw, hiw⟩ : ∃ iw, iw = mv_w ((fr : Int) + mv_w (2 * (k : Int))) := ⟨_, rfl⟩
      rw [← hiw] at hw
      refine mv_goW 3 (pc' := if (k : Int) < (n : Int) then 71 else 153) (ls' := [mv_R 100, mv_I (S : Int), mv_I a, mv_I (fr : Int), mv_I (n : Int), mv_I (sp_ubC V f k), mv_I (k : Int), l7, l8]) (st' := []) (M1 := M) rfl ?_
      refine mv_ttW (by omega) ?_
      refine mv_goW 5 (pc' := 77) (ls' := [mv_R 100, mv_I (S : Int), mv_I a, mv_I (fr : Int), mv_I (n : Int), mv_I (sp_ubC V f k), mv_I (k : Int), l7, l8]) (st' := [mv_I (mv_w ((fr : Int) + (mv_w (2 * (k : Int)))))]) (M1 := M) rfl ?_
      rw [show mv_w ((fr : Int) + (mv_w (2 * (k : Int)))) = iw from by exact hiw.symm]
      refine mv_goW 1 (pc' := 79) (ls' := [mv_R 100, mv_I (S : Int), mv_I a, mv_I (fr : Int), mv_I (n : Int), mv_I (sp_ubC V f k), mv_I (k : Int), mv_I iw, l8]) (st' := []) (M1 := M) rfl ?_
      clear hiw
      refine mv_goW 2 (pc' := if (fr : Int) < 0 then 102 else 83) (ls' := [mv_R 100, mv_I (S : Int), mv_I a, mv_I (fr : Int), mv_I (n : Int), mv_I (sp_ubC V f k), mv_I (k : Int), mv_I iw, l8]) (st' := []) (M1 := M) rfl ?_
      refine mv_ffW (by omega) ?_
      refine mv_goW 3 (pc' := if iw < (fr : Int) then 102 else 89) (ls' := [mv_R 100, mv_I (S : Int), mv_I a, mv_I (fr : Int), mv_I (n : Int), mv_I (sp_ubC V f k), mv_I (k : Int), mv_I iw, l8]) (st' := []) (M1 := M) rfl ?_
      refine mv_spW (fun ha21 => ?_) (fun ha21 => ?_)
      · refine mv_goW 1 (pc' := 104) (ls' := [mv_R 100, mv_I (S : Int), mv_I a, mv_I (fr : Int), mv_I (n : Int), mv_I (sp_ubC V f k), mv_I (k : Int), mv_I iw, l8]) (st' := [mv_I (-12)]) (M1 := M) rfl ?_
        exact mv_retW (fun n => rfl) (hQ2 k (by omega) hC (by omega) M hag h100 hmv)
      · refine mv_goW 5 (pc' := if 0 ≤ (S : Int) ∧ (S : Int) < 4 then 97 else mv_bad) (ls' := [mv_R 100, mv_I (S : Int), mv_I a, mv_I (fr : Int), mv_I (n : Int), mv_I (sp_ubC V f k), mv_I (k : Int), mv_I iw, l8]) (st' := [mv_I (M 118 S), mv_I iw]) (M1 := M) rfl ?_
        refine mv_ttW (by omega) ?_
        rw [show M 118 S = sz from by exact hZ]
        refine mv_goW 3 (pc' := if (mv_w (sz - 2)) < iw then 102 else 105) (ls' := [mv_R 100, mv_I (S : Int), mv_I a, mv_I (fr : Int), mv_I (n : Int), mv_I (sp_ubC V f k), mv_I (k : Int), mv_I iw, l8]) (st' := []) (M1 := M) rfl ?_
        rw [show mv_w (sz - 2) = sz - 2 from mv_w_id (by omega) (by omega)]
        refine mv_ttW (by omega) ?_
        refine mv_goW 1 (pc' := 104) (ls' := [mv_R 100, mv_I (S : Int), mv_I a, mv_I (fr : Int), mv_I (n : Int), mv_I (sp_ubC V f k), mv_I (k : Int), mv_I iw, l8]) (st' := [mv_I (-12)]) (M1 := M) rfl ?_
        exact mv_retW (fun n => rfl) (hQ2 k (by omega) hC (by omega) M hag h100 hmv)
