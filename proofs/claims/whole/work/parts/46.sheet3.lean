theorem sp_msh_lp_0 {b n : Int} {d : Nat} {Q : mv_V → mv_M → Prop} : ∀ (r k : Nat) (M : mv_M), k + r = 40 → (∀ j, j < k → M 119 (40 * 0 + j) = 0) →
    (∀ M2, mv_ag [119] M M2 → (∀ j, j < 40 → M2 119 (40 * 0 + j) = 0) → (∀ j, (j < 40 * 0 ∨ 40 * 0 + 40 ≤ j) → M2 119 j = M 119 j) → mv_W d 187 96 [mv_R 100, mv_I 0, mv_I b, mv_I n, mv_I 40] [] M2 Q) → mv_W d 187 70 [mv_R 100, mv_I 0, mv_I b, mv_I n, mv_I (k : Int)] [] M Q := by
  intro r
  induction r with
  | zero =>
    intro k M hk hj e
    have hk : k = 40 := by omega
    subst hk
    refine mv_goW 3 (pc' := if ((40 : Nat) : Int) < 40 then 77 else 96) (ls' := [mv_R 100, mv_I 0, mv_I b, mv_I n, mv_I ((40 : Nat) : Int)]) (st' := []) (M1 := M) rfl ?_
    refine mv_ffW (by decide) ?_
    exact e M mv_ag.rf hj (fun _ _ => rfl)
  | succ r ih =>
    intro k M hk hj e
    refine mv_goW 3 (pc' := if (k : Int) < 40 then 77 else 96) (ls' := [mv_R 100, mv_I 0, mv_I b, mv_I n, mv_I (k : Int)]) (st' := []) (M1 := M) rfl ?_
    refine mv_ttW (by omega) ?_
    refine mv_goW 8 (pc' := 89) (ls' := [mv_R 100, mv_I 0, mv_I b, mv_I n, mv_I (k : Int)]) (st' := [mv_I 0, mv_I (mv_w ((mv_w (40 * 0)) + (k : Int))), mv_R 119]) (M1 := M) rfl ?_
    rw [show mv_w ((mv_w (40 * 0)) + (k : Int)) = (k : Int) from by (rw [show mv_w (40 * 0) = 40 * 0 from mv_w_id (by omega) (by omega), show mv_w ((40 * 0) + (k : Int)) = (40 * 0) + (k : Int) from mv_w_id (by omega) (by omega)]) <;> omega]
    refine mv_goW 1 (pc' := if 0 ≤ (k : Int) ∧ (k : Int) < 160 then 90 else mv_bad) (ls' := [mv_R 100, mv_I 0, mv_I b, mv_I n, mv_I (k : Int)]) (st' := []) (M1 := (mv_st M 119 (mv_up (M 119) k 0))) rfl ?_
    refine mv_ttW (by omega) ?_
    refine mv_goW 2 (pc' := 70) (ls' := [mv_R 100, mv_I 0, mv_I b, mv_I n, mv_I (mv_w ((k : Int) + 1))]) (st' := []) (M1 := (mv_st M 119 (mv_up (M 119) k 0))) rfl ?_
    rw [show mv_w ((k : Int) + 1) = ((k + 1 : Nat) : Int) from by (rw [show mv_w ((k : Int) + 1) = (k : Int) + 1 from mv_w_id (by omega) (by omega)]) <;> omega]
    refine ih (k + 1) _ (by omega) (fun j hj2 => ?_) (fun M2 a1 a2 a3 => e M2 (mv_ag.tr (mv_ag.st mv_ag.rf (by decide)) a1) a2 (fun j hj3 => (a3 j hj3).trans (mv_up_n _ _ (by omega))))
    show mv_up (M 119) _ 0 (40 * 0 + j) = 0
    by_cases q : j = k
    · rw [q]; unfold mv_up; rw [if_pos (by omega)]
    · rw [mv_up_n _ _ (by omega)]; exact hj j (by omega)
theorem sp_k31_0 (b m : Int) : sp_call 92 187 [mv_I 0, mv_I b, mv_I m] [mv_I 0, mv_I b, mv_I m] := by
  refine sp_mkW (lc := [mv_R 0, mv_I 0, mv_I b, mv_I m, mv_U]) (lm := [mv_R 100, mv_I 0, mv_I b, mv_I m, mv_U]) rfl rfl (fun M hI => ?_)
  have hI2 := hI
  obtain ⟨V, P, n, B, K, t, h⟩ := hI2
  by_cases hb : b = -1
  · subst hb
    refine mv_goW 2 (pc' := 2) (ls' := [mv_R 0, mv_I 0, mv_I (-1), mv_I m, mv_U]) (st' := [mv_I 0, mv_R 0]) (M1 := M) rfl ?_
    refine mv_callPW (st2 := [mv_R 71]) rfl (Or.inl rfl) rfl rfl rfl (sp_sheetAt_0) (by first | decide | omega) ?_
    refine mv_goW 6 (pc' := if (-1) < (-1) then 22 else 17) (ls' := [mv_R 0, mv_I 0, mv_I (-1), mv_I m, mv_R 71]) (st' := []) (M1 := M) rfl ?_
    refine mv_ffW (by decide) ?_
    refine mv_goW 3 (pc' := if 2 < (-1) then 22 else 25) (ls' := [mv_R 0, mv_I 0, mv_I (-1), mv_I m, mv_R 71]) (st' := []) (M1 := M) rfl ?_
    refine mv_ffW (by decide) ?_
    refine mv_goW 3 (pc' := if (-1) = (-1) then 30 else 39) (ls' := [mv_R 0, mv_I 0, mv_I (-1), mv_I m, mv_R 71]) (st' := []) (M1 := M) rfl ?_
    refine mv_ttW (by decide) ?_
    refine mv_goW 3 (pc' := 34) (ls' := [mv_R 0, mv_I 0, mv_I (-1), mv_I m, mv_R 71]) (st' := [mv_I 0, mv_I (-1), mv_R 71]) (M1 := M) rfl ?_
    refine mv_callW (st2 := []) rfl (Or.inl rfl) rfl rfl rfl (sp_shb_0) (by first | decide | omega) (fun Ma1 hm2 => ?_)
    have hx := hm2
    refine mv_goW 1 (pc' := 38) (ls' := [mv_R 0, mv_I 0, mv_I (-1), mv_I m, mv_R 71]) (st' := [mv_I 1]) (M1 := Ma1) rfl ?_
    refine mv_retW (fun n => rfl) ⟨_, rfl, ?_⟩
    refine mv_goW 3 (pc' := 3) (ls' := [mv_R 100, mv_I 0, mv_I (-1), mv_I m, mv_U]) (st' := [mv_I 3, mv_I 0, mv_I 0]) (M1 := Ma1) rfl ?_
    have ha3 : (0 : Int) ≤ (0 : Int) ∧ (0 : Int) ≤ (3 : Int) := by omega
    refine mv_callPW (st2 := [mv_I 1]) rfl (Or.inr rfl) rfl rfl rfl (sp_min_t ha3) (by first | decide | omega) ?_
    refine mv_goW 1 (pc' := if 1 = 0 then 29 else 9) (ls' := [mv_R 100, mv_I 0, mv_I (-1), mv_I m, mv_U]) (st' := []) (M1 := Ma1) rfl ?_
    refine mv_ffW (by decide) ?_
    refine mv_goW 3 (pc' := 12) (ls' := [mv_R 100, mv_I 0, mv_I (-1), mv_I m, mv_U]) (st' := [mv_I 2, mv_I (-1), mv_I (-1)]) (M1 := Ma1) rfl ?_
    have ha4 : ((-1) : Int) ≤ ((-1) : Int) ∧ ((-1) : Int) ≤ (2 : Int) := by omega
    refine mv_callPW (st2 := [mv_I 1]) rfl (Or.inr rfl) rfl rfl rfl (sp_min_t ha4) (by first | decide | omega) ?_
    refine mv_goW 1 (pc' := if 1 = 0 then 29 else 18) (ls' := [mv_R 100, mv_I 0, mv_I (-1), mv_I m, mv_U]) (st' := []) (M1 := Ma1) rfl ?_
    refine mv_ffW (by decide) ?_
    refine mv_goW 3 (pc' := if (-1) = (-1) then 32 else 23) (ls' := [mv_R 100, mv_I 0, mv_I (-1), mv_I m, mv_U]) (st' := []) (M1 := Ma1) rfl ?_
    refine mv_ttW (by decide) ?_
    refine mv_goW 3 (pc' := if (-1) = (-1) then 44 else 37) (ls' := [mv_R 100, mv_I 0, mv_I (-1), mv_I m, mv_U]) (st' := []) (M1 := Ma1) rfl ?_
    refine mv_ttW (by decide) ?_
    refine mv_goW 5 (pc' := if 0 ≤ 0 ∧ 0 < 4 then 51 else mv_bad) (ls' := [mv_R 100, mv_I 0, mv_I (-1), mv_I m, mv_U]) (st' := []) (M1 := (mv_st Ma1 117 (mv_up (Ma1 117) 0 (-1)))) rfl ?_
    refine mv_ttW (by omega) ?_
    refine mv_goW 6 (pc' := if (-1) = (-1) then 61 else 65) (ls' := [mv_R 100, mv_I 0, mv_I (-1), mv_I m, mv_U]) (st' := [mv_I 0, mv_R 118]) (M1 := (mv_st Ma1 117 (mv_up (Ma1 117) 0 (-1)))) rfl ?_
    refine mv_ttW (by decide) ?_
    refine mv_goW 3 (pc' := if 0 ≤ 0 ∧ 0 < 4 then 67 else mv_bad) (ls' := [mv_R 100, mv_I 0, mv_I (-1), mv_I m, mv_U]) (st' := []) (M1 := (mv_st (mv_st Ma1 117 (mv_up (Ma1 117) 0 (-1))) 118 (mv_up (Ma1 118) 0 0))) rfl ?_
    refine mv_ttW (by omega) ?_
    refine mv_goW 2 (pc' := 70) (ls' := [mv_R 100, mv_I 0, mv_I (-1), mv_I m, mv_I 0]) (st' := []) (M1 := (mv_st (mv_st Ma1 117 (mv_up (Ma1 117) 0 (-1))) 118 (mv_up (Ma1 118) 0 0))) rfl ?_
    refine sp_msh_lp_0 40 0 _ (by omega) (fun j hj => absurd hj (by omega)) (fun M2 hy1 hy2 hy3 => ?_)
    refine mv_goW 1 (pc' := 97) (ls' := [mv_R 100, mv_I 0, mv_I (-1), mv_I m, mv_I 40]) (st' := [mv_I 1]) (M1 := M2) rfl ?_
    exact mv_retW (fun n => rfl) ⟨congrArg mv_I (by first | with_reducible rfl | omega), sp_sh_k31 (S := 0) (by decide) h hx hy1 hy2 hy3 (by omega) (by omega)⟩
  · refine mv_goW 2 (pc' := 2) (ls' := [mv_R 0, mv_I 0, mv_I b, mv_I m, mv_U]) (st' := [mv_I 0, mv_R 0]) (M1 := M) rfl ?_
    refine mv_callPW (st2 := [mv_R 71]) rfl (Or.inl rfl) rfl rfl rfl (sp_sheetAt_0) (by first | decide | omega) ?_
    refine mv_goW 6 (pc' := if b < (-1) then 22 else 17) (ls' := [mv_R 0, mv_I 0, mv_I b, mv_I m, mv_R 71]) (st' := []) (M1 := M) rfl ?_
    refine mv_spW (fun ha5 => ?_) (fun ha5 => ?_)
    · refine mv_goW 1 (pc' := 24) (ls' := [mv_R 0, mv_I 0, mv_I b, mv_I m, mv_R 71]) (st' := [mv_I (-2)]) (M1 := M) rfl ?_
      refine mv_retW (fun n => rfl) ⟨_, rfl, ?_⟩
      refine mv_goW 3 (pc' := 3) (ls' := [mv_R 100, mv_I 0, mv_I b, mv_I m, mv_U]) (st' := [mv_I 3, mv_I 0, mv_I 0]) (M1 := M) rfl ?_
      have ha6 : (0 : Int) ≤ (0 : Int) ∧ (0 : Int) ≤ (3 : Int) := by omega
      refine mv_callPW (st2 := [mv_I 1]) rfl (Or.inr rfl) rfl rfl rfl (sp_min_t ha6) (by first | decide | omega) ?_
      refine mv_goW 1 (pc' := if 1 = 0 then 29 else 9) (ls' := [mv_R 100, mv_I 0, mv_I b, mv_I m, mv_U]) (st' := []) (M1 := M) rfl ?_
      refine mv_ffW (by decide) ?_
      refine mv_goW 3 (pc' := 12) (ls' := [mv_R 100, mv_I 0, mv_I b, mv_I m, mv_U]) (st' := [mv_I 2, mv_I (-1), mv_I b]) (M1 := M) rfl ?_
      have ha7 : ¬ (((-1) : Int) ≤ b ∧ b ≤ (2 : Int)) := by omega
      refine mv_callPW (st2 := [mv_I 0]) rfl (Or.inr rfl) rfl rfl rfl (sp_min_f ha7) (by first | decide | omega) ?_
      refine mv_goW 1 (pc' := if 0 = 0 then 29 else 18) (ls' := [mv_R 100, mv_I 0, mv_I b, mv_I m, mv_U]) (st' := []) (M1 := M) rfl ?_
      refine mv_ttW (by decide) ?_
      refine mv_goW 1 (pc' := 31) (ls' := [mv_R 100, mv_I 0, mv_I b, mv_I m, mv_U]) (st' := [mv_I (-2)]) (M1 := M) rfl ?_
      exact mv_retW (fun n => rfl) ⟨congrArg mv_I (by first | with_reducible rfl | omega), hI⟩
    · refine mv_goW 3 (pc' := if 2 < b then 22 else 25) (ls' := [mv_R 0, mv_I 0, mv_I b, mv_I m, mv_R 71]) (st' := []) (M1 := M) rfl ?_
      refine mv_spW (fun ha8 => ?_) (fun ha8 => ?_)
      · refine mv_goW 1 (pc' := 24) (ls' := [mv_R 0, mv_I 0, mv_I b, mv_I m, mv_R 71]) (st' := [mv_I (-2)]) (M1 := M) rfl ?_
        refine mv_retW (fun n => rfl) ⟨_, rfl, ?_⟩
        refine mv_goW 3 (pc' := 3) (ls' := [mv_R 100, mv_I 0, mv_I b, mv_I m, mv_U]) (st' := [mv_I 3, mv_I 0, mv_I 0]) (M1 := M) rfl ?_
        have ha9 : (0 : Int) ≤ (0 : Int) ∧ (0 : Int) ≤ (3 : Int) := by omega
        refine mv_callPW (st2 := [mv_I 1]) rfl (Or.inr rfl) rfl rfl rfl (sp_min_t ha9) (by first | decide | omega) ?_
        refine mv_goW 1 (pc' := if 1 = 0 then 29 else 9) (ls' := [mv_R 100, mv_I 0, mv_I b, mv_I m, mv_U]) (st' := []) (M1 := M) rfl ?_
        refine mv_ffW (by decide) ?_
        refine mv_goW 3 (pc' := 12) (ls' := [mv_R 100, mv_I 0, mv_I b, mv_I m, mv_U]) (st' := [mv_I 2, mv_I (-1), mv_I b]) (M1 := M) rfl ?_
        have ha10 : ¬ (((-1) : Int) ≤ b ∧ b ≤ (2 : Int)) := by omega
        refine mv_callPW (st2 := [mv_I 0]) rfl (Or.inr rfl) rfl rfl rfl (sp_min_f ha10) (by first | decide | omega) ?_
        refine mv_goW 1 (pc' := if 0 = 0 then 29 else 18) (ls' := [mv_R 100, mv_I 0, mv_I b, mv_I m, mv_U]) (st' := []) (M1 := M) rfl ?_
        refine mv_ttW (by decide) ?_
        refine mv_goW 1 (pc' := 31) (ls' := [mv_R 100, mv_I 0, mv_I b, mv_I m, mv_U]) (st' := [mv_I (-2)]) (M1 := M) rfl ?_
        exact mv_retW (fun n => rfl) ⟨congrArg mv_I (by first | with_reducible rfl | omega), hI⟩
      · refine mv_goW 3 (pc' := if b = (-1) then 30 else 39) (ls' := [mv_R 0, mv_I 0, mv_I b, mv_I m, mv_R 71]) (st' := []) (M1 := M) rfl ?_
        refine mv_ffW (by omega) ?_
        refine mv_goW 3 (pc' := if 40 < m then 45 else 48) (ls' := [mv_R 0, mv_I 0, mv_I b, mv_I m, mv_R 71]) (st' := []) (M1 := M) rfl ?_
        refine mv_spW (fun ha11 => ?_) (fun ha11 => ?_)
        · refine mv_goW 1 (pc' := 47) (ls' := [mv_R 0, mv_I 0, mv_I b, mv_I m, mv_R 71]) (st' := [mv_I (-2)]) (M1 := M) rfl ?_
          refine mv_retW (fun n => rfl) ⟨_, rfl, ?_⟩
          refine mv_goW 3 (pc' := 3) (ls' := [mv_R 100, mv_I 0, mv_I b, mv_I m, mv_U]) (st' := [mv_I 3, mv_I 0, mv_I 0]) (M1 := M) rfl ?_
          have ha12 : (0 : Int) ≤ (0 : Int) ∧ (0 : Int) ≤ (3 : Int) := by omega
          refine mv_callPW (st2 := [mv_I 1]) rfl (Or.inr rfl) rfl rfl rfl (sp_min_t ha12) (by first | decide | omega) ?_
          refine mv_goW 1 (pc' := if 1 = 0 then 29 else 9) (ls' := [mv_R 100, mv_I 0, mv_I b, mv_I m, mv_U]) (st' := []) (M1 := M) rfl ?_
          refine mv_ffW (by decide) ?_
          refine mv_goW 3 (pc' := 12) (ls' := [mv_R 100, mv_I 0, mv_I b, mv_I m, mv_U]) (st' := [mv_I 2, mv_I (-1), mv_I b]) (M1 := M) rfl ?_
          have ha13 : ((-1) : Int) ≤ b ∧ b ≤ (2 : Int) := by omega
          refine mv_callPW (st2 := [mv_I 1]) rfl (Or.inr rfl) rfl rfl rfl (sp_min_t ha13) (by first | decide | omega) ?_
          refine mv_goW 1 (pc' := if 1 = 0 then 29 else 18) (ls' := [mv_R 100, mv_I 0, mv_I b, mv_I m, mv_U]) (st' := []) (M1 := M) rfl ?_
          refine mv_ffW (by decide) ?_
          refine mv_goW 3 (pc' := if b = (-1) then 32 else 23) (ls' := [mv_R 100, mv_I 0, mv_I b, mv_I m, mv_U]) (st' := []) (M1 := M) rfl ?_
          refine mv_ffW (by omega) ?_
          refine mv_goW 3 (pc' := if 40 < m then 29 else 32) (ls' := [mv_R 100, mv_I 0, mv_I b, mv_I m, mv_U]) (st' := []) (M1 := M) rfl ?_
          refine mv_ttW (by omega) ?_
          refine mv_goW 1 (pc' := 31) (ls' := [mv_R 100, mv_I 0, mv_I b, mv_I m, mv_U]) (st' := [mv_I (-2)]) (M1 := M) rfl ?_
          exact mv_retW (fun n => rfl) ⟨congrArg mv_I (by first | with_reducible rfl | omega), hI⟩
        · refine mv_goW 2 (pc' := if m < 0 then 52 else 55) (ls' := [mv_R 0, mv_I 0, mv_I b, mv_I m, mv_R 71]) (st' := []) (M1 := M) rfl ?_
          refine mv_spW (fun ha14 => ?_) (fun ha14 => ?_)
          · refine mv_goW 1 (pc' := 54) (ls' := [mv_R 0, mv_I 0, mv_I b, mv_I m, mv_R 71]) (st' := [mv_I (-14)]) (M1 := M) rfl ?_
            refine mv_retW (fun n => rfl) ⟨_, rfl, ?_⟩
            refine mv_goW 3 (pc' := 3) (ls' := [mv_R 100, mv_I 0, mv_I b, mv_I m, mv_U]) (st' := [mv_I 3, mv_I 0, mv_I 0]) (M1 := M) rfl ?_
            have ha15 : (0 : Int) ≤ (0 : Int) ∧ (0 : Int) ≤ (3 : Int) := by omega
            refine mv_callPW (st2 := [mv_I 1]) rfl (Or.inr rfl) rfl rfl rfl (sp_min_t ha15) (by first | decide | omega) ?_
            refine mv_goW 1 (pc' := if 1 = 0 then 29 else 9) (ls' := [mv_R 100, mv_I 0, mv_I b, mv_I m, mv_U]) (st' := []) (M1 := M) rfl ?_
            refine mv_ffW (by decide) ?_
            refine mv_goW 3 (pc' := 12) (ls' := [mv_R 100, mv_I 0, mv_I b, mv_I m, mv_U]) (st' := [mv_I 2, mv_I (-1), mv_I b]) (M1 := M) rfl ?_
            have ha16 : ((-1) : Int) ≤ b ∧ b ≤ (2 : Int) := by omega
            refine mv_callPW (st2 := [mv_I 1]) rfl (Or.inr rfl) rfl rfl rfl (sp_min_t ha16) (by first | decide | omega) ?_
            refine mv_goW 1 (pc' := if 1 = 0 then 29 else 18) (ls' := [mv_R 100, mv_I 0, mv_I b, mv_I m, mv_U]) (st' := []) (M1 := M) rfl ?_
            refine mv_ffW (by decide) ?_
            refine mv_goW 3 (pc' := if b = (-1) then 32 else 23) (ls' := [mv_R 100, mv_I 0, mv_I b, mv_I m, mv_U]) (st' := []) (M1 := M) rfl ?_
            refine mv_ffW (by omega) ?_
            refine mv_goW 3 (pc' := if 40 < m then 29 else 32) (ls' := [mv_R 100, mv_I 0, mv_I b, mv_I m, mv_U]) (st' := []) (M1 := M) rfl ?_
            refine mv_ffW (by omega) ?_
            refine mv_goW 3 (pc' := if b = (-1) then 44 else 37) (ls' := [mv_R 100, mv_I 0, mv_I b, mv_I m, mv_U]) (st' := []) (M1 := M) rfl ?_
            refine mv_ffW (by omega) ?_
            refine mv_goW 2 (pc' := if m < 0 then 41 else 44) (ls' := [mv_R 100, mv_I 0, mv_I b, mv_I m, mv_U]) (st' := []) (M1 := M) rfl ?_
            refine mv_ttW (by omega) ?_
            refine mv_goW 1 (pc' := 43) (ls' := [mv_R 100, mv_I 0, mv_I b, mv_I m, mv_U]) (st' := [mv_I (-14)]) (M1 := M) rfl ?_
            exact mv_retW (fun n => rfl) ⟨congrArg mv_I (by first | with_reducible rfl | omega), hI⟩
          · refine mv_goW 3 (pc' := 59) (ls' := [mv_R 0, mv_I 0, mv_I b, mv_I m, mv_R 71]) (st' := [mv_I m, mv_I b, mv_R 71]) (M1 := M) rfl ?_
            refine mv_callW (st2 := []) rfl (Or.inl rfl) rfl rfl rfl (sp_shb_0) (by first | decide | omega) (fun Ma17 hm18 => ?_)
            have hx := hm18
            refine mv_goW 1 (pc' := 63) (ls' := [mv_R 0, mv_I 0, mv_I b, mv_I m, mv_R 71]) (st' := [mv_I 1]) (M1 := Ma17) rfl ?_
            refine mv_retW (fun n => rfl) ⟨_, rfl, ?_⟩
            refine mv_goW 3 (pc' := 3) (ls' := [mv_R 100, mv_I 0, mv_I b, mv_I m, mv_U]) (st' := [mv_I 3, mv_I 0, mv_I 0]) (M1 := Ma17) rfl ?_
            have ha19 : (0 : Int) ≤ (0 : Int) ∧ (0 : Int) ≤ (3 : Int) := by omega
            refine mv_callPW (st2 := [mv_I 1]) rfl (Or.inr rfl) rfl rfl rfl (sp_min_t ha19) (by first | decide | omega) ?_
            refine mv_goW 1 (pc' := if 1 = 0 then 29 else 9) (ls' := [mv_R 100, mv_I 0, mv_I b, mv_I m, mv_U]) (st' := []) (M1 := Ma17) rfl ?_
            refine mv_ffW (by decide) ?_
            refine mv_goW 3 (pc' := 12) (ls' := [mv_R 100, mv_I 0, mv_I b, mv_I m, mv_U]) (st' := [mv_I 2, mv_I (-1), mv_I b]) (M1 := Ma17) rfl ?_
            have ha20 : ((-1) : Int) ≤ b ∧ b ≤ (2 : Int) := by omega
            refine mv_callPW (st2 := [mv_I 1]) rfl (Or.inr rfl) rfl rfl rfl (sp_min_t ha20) (by first | decide | omega) ?_
            refine mv_goW 1 (pc' := if 1 = 0 then 29 else 18) (ls' := [mv_R 100, mv_I 0, mv_I b, mv_I m, mv_U]) (st' := []) (M1 := Ma17) rfl ?_
            refine mv_ffW (by decide) ?_
            refine mv_goW 3 (pc' := if b = (-1) then 32 else 23) (ls' := [mv_R 100, mv_I 0, mv_I b, mv_I m, mv_U]) (st' := []) (M1 := Ma17) rfl ?_
            refine mv_ffW (by omega) ?_
            refine mv_goW 3 (pc' := if 40 < m then 29 else 32) (ls' := [mv_R 100, mv_I 0, mv_I b, mv_I m, mv_U]) (st' := []) (M1 := Ma17) rfl ?_
            refine mv_ffW (by omega) ?_
            refine mv_goW 3 (pc' := if b = (-1) then 44 else 37) (ls' := [mv_R 100, mv_I 0, mv_I b, mv_I m, mv_U]) (st' := []) (M1 := Ma17) rfl ?_
            refine mv_ffW (by omega) ?_
            refine mv_goW 2 (pc' := if m < 0 then 41 else 44) (ls' := [mv_R 100, mv_I 0, mv_I b, mv_I m, mv_U]) (st' := []) (M1 := Ma17) rfl ?_
            refine mv_ffW (by omega) ?_
            refine mv_goW 5 (pc' := if 0 ≤ 0 ∧ 0 < 4 then 51 else mv_bad) (ls' := [mv_R 100, mv_I 0, mv_I b, mv_I m, mv_U]) (st' := []) (M1 := (mv_st Ma17 117 (mv_up (Ma17 117) 0 b))) rfl ?_
            refine mv_ttW (by omega) ?_
            refine mv_goW 6 (pc' := if b = (-1) then 61 else 65) (ls' := [mv_R 100, mv_I 0, mv_I b, mv_I m, mv_U]) (st' := [mv_I 0, mv_R 118]) (M1 := (mv_st Ma17 117 (mv_up (Ma17 117) 0 b))) rfl ?_
            refine mv_ffW (by omega) ?_
            refine mv_goW 2 (pc' := if 0 ≤ 0 ∧ 0 < 4 then 67 else mv_bad) (ls' := [mv_R 100, mv_I 0, mv_I b, mv_I m, mv_U]) (st' := []) (M1 := (mv_st (mv_st Ma17 117 (mv_up (Ma17 117) 0 b)) 118 (mv_up (Ma17 118) 0 m))) rfl ?_
            refine mv_ttW (by omega) ?_
            refine mv_goW 2 (pc' := 70) (ls' := [mv_R 100, mv_I 0, mv_I b, mv_I m, mv_I 0]) (st' := []) (M1 := (mv_st (mv_st Ma17 117 (mv_up (Ma17 117) 0 b)) 118 (mv_up (Ma17 118) 0 m))) rfl ?_
            refine sp_msh_lp_0 40 0 _ (by omega) (fun j hj => absurd hj (by omega)) (fun M2 hy1 hy2 hy3 => ?_)
            refine mv_goW 1 (pc' := 97) (ls' := [mv_R 100, mv_I 0, mv_I b, mv_I m, mv_I 40]) (st' := [mv_I 1]) (M1 := M2) rfl ?_
            exact mv_retW (fun n => rfl) ⟨congrArg mv_I (by first | with_reducible rfl | omega), sp_sh_k31 (S := 0) (by decide) h hx hy1 hy2 hy3 (by omega) (by omega)⟩
theorem sp_k32_0 (a v : Int) : sp_call 93 188 [mv_I 0, mv_I a, mv_I v] [mv_I 0, mv_I a, mv_I v] := by
  refine sp_mkW (lc := [mv_R 0, mv_I 0, mv_I a, mv_I v, mv_U]) (lm := [mv_R 100, mv_I 0, mv_I a, mv_I v]) rfl rfl (fun M hI => ?_)
  have hI2 := hI
  obtain ⟨V, P, n, B, K, t, h⟩ := hI2
  obtain ⟨so, sz, ⟨hs1, hs2, so0, so1⟩, ⟨hz1, hz2, sz0, sz1⟩, _⟩ := sp_sh_get h 0 (by decide)
  have hs1 : M 71 1 = so := hs1
  have hz1 : M 71 2 = sz := hz1
  by_cases h0 : 0 ≤ a
  · obtain ⟨i, rfl⟩ : ∃ c : Nat, a = (c : Int) := ⟨a.toNat, by omega⟩
    refine mv_goW 2 (pc' := 2) (ls' := [mv_R 0, mv_I 0, mv_I (i : Int), mv_I v, mv_U]) (st' := [mv_I 0, mv_R 0]) (M1 := M) rfl ?_
    refine mv_callPW (st2 := [mv_R 71]) rfl (Or.inl rfl) rfl rfl rfl (sp_sheetAt_0) (by first | decide | omega) ?_
    refine mv_goW 4 (pc' := 17) (ls' := [mv_R 0, mv_I 0, mv_I (i : Int), mv_I v, mv_R 71]) (st' := [mv_R 71]) (M1 := M) rfl ?_
    by_cases ha21 : so = -1
    · refine mv_callPW (st2 := [mv_I 1]) rfl (Or.inl rfl) rfl rfl rfl (sp_isMiss_0_t (hs1.trans ha21)) (by first | decide | omega) ?_
      refine mv_goW 1 (pc' := if 1 = 0 then 26 else 23) (ls' := [mv_R 0, mv_I 0, mv_I (i : Int), mv_I v, mv_R 71]) (st' := []) (M1 := M) rfl ?_
      refine mv_ffW (by decide) ?_
      refine mv_goW 1 (pc' := 25) (ls' := [mv_R 0, mv_I 0, mv_I (i : Int), mv_I v, mv_R 71]) (st' := [mv_I (-11)]) (M1 := M) rfl ?_
      refine mv_retW (fun n => rfl) ⟨_, rfl, ?_⟩
      refine mv_goW 3 (pc' := 3) (ls' := [mv_R 100, mv_I 0, mv_I (i : Int), mv_I v]) (st' := [mv_I 3, mv_I 0, mv_I 0]) (M1 := M) rfl ?_
      have ha22 : (0 : Int) ≤ (0 : Int) ∧ (0 : Int) ≤ (3 : Int) := by omega
      refine mv_callPW (st2 := [mv_I 1]) rfl (Or.inr rfl) rfl rfl rfl (sp_min_t ha22) (by first | decide | omega) ?_
      refine mv_goW 1 (pc' := if 1 = 0 then 9 else 12) (ls' := [mv_R 100, mv_I 0, mv_I (i : Int), mv_I v]) (st' := []) (M1 := M) rfl ?_
      refine mv_ffW (by decide) ?_
      refine mv_goW 4 (pc' := if 0 ≤ 0 ∧ 0 < 4 then 18 else mv_bad) (ls' := [mv_R 100, mv_I 0, mv_I (i : Int), mv_I v]) (st' := [mv_I (M 117 0)]) (M1 := M) rfl ?_
      refine mv_ttW (by omega) ?_
      rw [show M 117 0 = so from by exact hs2]
      refine mv_goW 2 (pc' := if so = (-1) then 22 else 25) (ls' := [mv_R 100, mv_I 0, mv_I (i : Int), mv_I v]) (st' := []) (M1 := M) rfl ?_
      refine mv_ttW (by omega) ?_
      refine mv_goW 1 (pc' := 24) (ls' := [mv_R 100, mv_I 0, mv_I (i : Int), mv_I v]) (st' := [mv_I (-11)]) (M1 := M) rfl ?_
      exact mv_retW (fun n => rfl) ⟨congrArg mv_I (by first | with_reducible rfl | omega), hI⟩
    · refine mv_callPW (st2 := [mv_I 0]) rfl (Or.inl rfl) rfl rfl rfl (sp_isMiss_0_f (fun q => ha21 (hs1.symm.trans q))) (by first | decide | omega) ?_
      refine mv_goW 1 (pc' := if 0 = 0 then 26 else 23) (ls' := [mv_R 0, mv_I 0, mv_I (i : Int), mv_I v, mv_R 71]) (st' := []) (M1 := M) rfl ?_
      refine mv_ttW (by decide) ?_
      refine mv_goW 3 (pc' := 30) (ls' := [mv_R 0, mv_I 0, mv_I (i : Int), mv_I v, mv_R 71]) (st' := [mv_I 1, mv_I (i : Int), mv_R 71]) (M1 := M) rfl ?_
      by_cases ha23 : 0 ≤ (1 : Int) ∧ (1 : Int) ≤ sz ∧ 0 ≤ (i : Int) ∧ (i : Int) ≤ sz - (1 : Int)
      · refine mv_callPW (st2 := [mv_I 1]) rfl (Or.inl rfl) rfl rfl rfl (sp_hasRun_0_t hz1 (by omega) (by omega) ha23) (by first | decide | omega) ?_
        refine mv_goW 1 (pc' := if 1 = 0 then 36 else 39) (ls' := [mv_R 0, mv_I 0, mv_I (i : Int), mv_I v, mv_R 71]) (st' := []) (M1 := M) rfl ?_
        refine mv_ffW (by decide) ?_
        refine mv_goW 3 (pc' := 43) (ls' := [mv_R 0, mv_I 0, mv_I (i : Int), mv_I v, mv_R 71]) (st' := [mv_I v, mv_I (i : Int), mv_R 71]) (M1 := M) rfl ?_
        refine mv_callW (st2 := []) rfl (Or.inl rfl) rfl rfl rfl (sp_write_0 (i := i) hs1 (by omega)) (by first | decide | omega) (fun Ma24 hm25 => ?_)
        have hx := hm25
        have hsa : Ma24 117 0 = so := by rw [hx]; exact hs2
        have hza : Ma24 118 0 = sz := by rw [hx]; exact hz2
        refine mv_goW 1 (pc' := 47) (ls' := [mv_R 0, mv_I 0, mv_I (i : Int), mv_I v, mv_R 71]) (st' := [mv_I 1]) (M1 := Ma24) rfl ?_
        refine mv_retW (fun n => rfl) ⟨_, rfl, ?_⟩
        refine mv_goW 3 (pc' := 3) (ls' := [mv_R 100, mv_I 0, mv_I (i : Int), mv_I v]) (st' := [mv_I 3, mv_I 0, mv_I 0]) (M1 := Ma24) rfl ?_
        have ha26 : (0 : Int) ≤ (0 : Int) ∧ (0 : Int) ≤ (3 : Int) := by omega
        refine mv_callPW (st2 := [mv_I 1]) rfl (Or.inr rfl) rfl rfl rfl (sp_min_t ha26) (by first | decide | omega) ?_
        refine mv_goW 1 (pc' := if 1 = 0 then 9 else 12) (ls' := [mv_R 100, mv_I 0, mv_I (i : Int), mv_I v]) (st' := []) (M1 := Ma24) rfl ?_
        refine mv_ffW (by decide) ?_
        refine mv_goW 4 (pc' := if 0 ≤ 0 ∧ 0 < 4 then 18 else mv_bad) (ls' := [mv_R 100, mv_I 0, mv_I (i : Int), mv_I v]) (st' := [mv_I (Ma24 117 0)]) (M1 := Ma24) rfl ?_
        refine mv_ttW (by omega) ?_
        rw [show Ma24 117 0 = so from by exact hsa]
        refine mv_goW 2 (pc' := if so = (-1) then 22 else 25) (ls' := [mv_R 100, mv_I 0, mv_I (i : Int), mv_I v]) (st' := []) (M1 := Ma24) rfl ?_
        refine mv_ffW (by omega) ?_
        refine mv_goW 6 (pc' := if 0 ≤ 0 ∧ 0 < 4 then 33 else mv_bad) (ls' := [mv_R 100, mv_I 0, mv_I (i : Int), mv_I v]) (st' := [mv_I (Ma24 118 0), mv_I 0, mv_I (i : Int)]) (M1 := Ma24) rfl ?_
        refine mv_ttW (by omega) ?_
        rw [show Ma24 118 0 = sz from by exact hza]
        refine mv_goW 2 (pc' := 35) (ls' := [mv_R 100, mv_I 0, mv_I (i : Int), mv_I v]) (st' := [mv_I (mv_w (sz - 1)), mv_I 0, mv_I (i : Int)]) (M1 := Ma24) rfl ?_
        rw [show mv_w (sz - 1) = sz - 1 from mv_w_id (by omega) (by omega)]
        have ha27 : (0 : Int) ≤ (i : Int) ∧ (i : Int) ≤ (sz - 1) := by omega
        refine mv_callPW (st2 := [mv_I 1]) rfl (Or.inr rfl) rfl rfl rfl (sp_min_t ha27) (by first | decide | omega) ?_
        refine mv_goW 1 (pc' := if 1 = 0 then 41 else 44) (ls' := [mv_R 100, mv_I 0, mv_I (i : Int), mv_I v]) (st' := []) (M1 := Ma24) rfl ?_
        refine mv_ffW (by decide) ?_
        refine mv_goW 11 (pc' := if 0 ≤ 0 ∧ 0 < 4 then 60 else mv_bad) (ls' := [mv_R 100, mv_I 0, mv_I (i : Int), mv_I v]) (st' := [mv_I (Ma24 117 0), mv_I (mv_w ((mv_w (40 * 0)) + (i : Int))), mv_R 119]) (M1 := Ma24) rfl ?_
        refine mv_ttW (by omega) ?_
        rw [show Ma24 117 0 = so from by exact hsa]
        refine mv_goW 1 (pc' := if so = 0 then 63 else 68) (ls' := [mv_R 100, mv_I 0, mv_I (i : Int), mv_I v]) (st' := [mv_I (mv_w ((mv_w (40 * 0)) + (i : Int))), mv_R 119]) (M1 := Ma24) rfl ?_
        rw [show mv_w (40 * 0) = 40 * 0 from mv_w_id (by omega) (by omega)]
        rw [show mv_w ((40 * 0) + (i : Int)) = (40 * 0) + (i : Int) from mv_w_id (by omega) (by omega)]
        rw [show (40 * 0) + (i : Int) = (i : Int) from by omega]
        refine mv_spW (fun ha28 => ?_) (fun ha28 => ?_)
        · refine mv_goW 4 (pc' := if 0 ≤ (i : Int) ∧ (i : Int) < 160 then 85 else mv_bad) (ls' := [mv_R 100, mv_I 0, mv_I (i : Int), mv_I v]) (st' := []) (M1 := (mv_st Ma24 119 (mv_up (Ma24 119) i (mv_i2b v)))) rfl ?_
          refine mv_ttW (by omega) ?_
          refine mv_goW 1 (pc' := 86) (ls' := [mv_R 100, mv_I 0, mv_I (i : Int), mv_I v]) (st' := [mv_I 1]) (M1 := (mv_st Ma24 119 (mv_up (Ma24 119) i (mv_i2b v)))) rfl ?_
          exact mv_retW (fun n => rfl) ⟨congrArg mv_I (by first | with_reducible rfl | omega), sp_sh_cell (S := 0) (so := so) (v := v) (i := i) (by decide) h (by omega) (by unfold sp_cut; split <;> (try split) <;> omega) hx (by omega)⟩
        · refine mv_goW 4 (pc' := if 0 ≤ 0 ∧ 0 < 4 then 74 else mv_bad) (ls' := [mv_R 100, mv_I 0, mv_I (i : Int), mv_I v]) (st' := [mv_I (Ma24 117 0), mv_I (i : Int), mv_R 119]) (M1 := Ma24) rfl ?_
          refine mv_ttW (by omega) ?_
          rw [show Ma24 117 0 = so from by exact hsa]
          refine mv_goW 2 (pc' := if so = 1 then 78 else 83) (ls' := [mv_R 100, mv_I 0, mv_I (i : Int), mv_I v]) (st' := [mv_I (i : Int), mv_R 119]) (M1 := Ma24) rfl ?_
          refine mv_spW (fun ha29 => ?_) (fun ha29 => ?_)
          · refine mv_goW 4 (pc' := if 0 ≤ (i : Int) ∧ (i : Int) < 160 then 85 else mv_bad) (ls' := [mv_R 100, mv_I 0, mv_I (i : Int), mv_I v]) (st' := []) (M1 := (mv_st Ma24 119 (mv_up (Ma24 119) i (mv_i2s v)))) rfl ?_
            refine mv_ttW (by omega) ?_
            refine mv_goW 1 (pc' := 86) (ls' := [mv_R 100, mv_I 0, mv_I (i : Int), mv_I v]) (st' := [mv_I 1]) (M1 := (mv_st Ma24 119 (mv_up (Ma24 119) i (mv_i2s v)))) rfl ?_
            exact mv_retW (fun n => rfl) ⟨congrArg mv_I (by first | with_reducible rfl | omega), sp_sh_cell (S := 0) (so := so) (v := v) (i := i) (by decide) h (by omega) (by unfold sp_cut; split <;> (try split) <;> omega) hx (by omega)⟩
          · refine mv_goW 2 (pc' := if 0 ≤ (i : Int) ∧ (i : Int) < 160 then 85 else mv_bad) (ls' := [mv_R 100, mv_I 0, mv_I (i : Int), mv_I v]) (st' := []) (M1 := (mv_st Ma24 119 (mv_up (Ma24 119) i v))) rfl ?_
            refine mv_ttW (by omega) ?_
            refine mv_goW 1 (pc' := 86) (ls' := [mv_R 100, mv_I 0, mv_I (i : Int), mv_I v]) (st' := [mv_I 1]) (M1 := (mv_st Ma24 119 (mv_up (Ma24 119) i v))) rfl ?_
            exact mv_retW (fun n => rfl) ⟨congrArg mv_I (by first | with_reducible rfl | omega), sp_sh_cell (S := 0) (so := so) (v := v) (i := i) (by decide) h (by omega) (by unfold sp_cut; split <;> (try split) <;> omega) hx (by omega)⟩
      · refine mv_callPW (st2 := [mv_I 0]) rfl (Or.inl rfl) rfl rfl rfl (sp_hasRun_0_f hz1 (by omega) (by omega) ha23) (by first | decide | omega) ?_
        refine mv_goW 1 (pc' := if 0 = 0 then 36 else 39) (ls' := [mv_R 0, mv_I 0, mv_I (i : Int), mv_I v, mv_R 71]) (st' := []) (M1 := M) rfl ?_
        refine mv_ttW (by decide) ?_
        refine mv_goW 1 (pc' := 38) (ls' := [mv_R 0, mv_I 0, mv_I (i : Int), mv_I v, mv_R 71]) (st' := [mv_I (-12)]) (M1 := M) rfl ?_
        refine mv_retW (fun n => rfl) ⟨_, rfl, ?_⟩
        refine mv_goW 3 (pc' := 3) (ls' := [mv_R 100, mv_I 0, mv_I (i : Int), mv_I v]) (st' := [mv_I 3, mv_I 0, mv_I 0]) (M1 := M) rfl ?_
        have ha30 : (0 : Int) ≤ (0 : Int) ∧ (0 : Int) ≤ (3 : Int) := by omega
        refine mv_callPW (st2 := [mv_I 1]) rfl (Or.inr rfl) rfl rfl rfl (sp_min_t ha30) (by first | decide | omega) ?_
        refine mv_goW 1 (pc' := if 1 = 0 then 9 else 12) (ls' := [mv_R 100, mv_I 0, mv_I (i : Int), mv_I v]) (st' := []) (M1 := M) rfl ?_
        refine mv_ffW (by decide) ?_
        refine mv_goW 4 (pc' := if 0 ≤ 0 ∧ 0 < 4 then 18 else mv_bad) (ls' := [mv_R 100, mv_I 0, mv_I (i : Int), mv_I v]) (st' := [mv_I (M 117 0)]) (M1 := M) rfl ?_
        refine mv_ttW (by omega) ?_
        rw [show M 117 0 = so from by exact hs2]
        refine mv_goW 2 (pc' := if so = (-1) then 22 else 25) (ls' := [mv_R 100, mv_I 0, mv_I (i : Int), mv_I v]) (st' := []) (M1 := M) rfl ?_
        refine mv_ffW (by omega) ?_
        refine mv_goW 6 (pc' := if 0 ≤ 0 ∧ 0 < 4 then 33 else mv_bad) (ls' := [mv_R 100, mv_I 0, mv_I (i : Int), mv_I v]) (st' := [mv_I (M 118 0), mv_I 0, mv_I (i : Int)]) (M1 := M) rfl ?_
        refine mv_ttW (by omega) ?_
        rw [show M 118 0 = sz from by exact hz2]
        refine mv_goW 2 (pc' := 35) (ls' := [mv_R 100, mv_I 0, mv_I (i : Int), mv_I v]) (st' := [mv_I (mv_w (sz - 1)), mv_I 0, mv_I (i : Int)]) (M1 := M) rfl ?_
        rw [show mv_w (sz - 1) = sz - 1 from mv_w_id (by omega) (by omega)]
        have ha31 : ¬ ((0 : Int) ≤ (i : Int) ∧ (i : Int) ≤ (sz - 1)) := by omega
        refine mv_callPW (st2 := [mv_I 0]) rfl (Or.inr rfl) rfl rfl rfl (sp_min_f ha31) (by first | decide | omega) ?_
        refine mv_goW 1 (pc' := if 0 = 0 then 41 else 44) (ls' := [mv_R 100, mv_I 0, mv_I (i : Int), mv_I v]) (st' := []) (M1 := M) rfl ?_
        refine mv_ttW (by decide) ?_
        refine mv_goW 1 (pc' := 43) (ls' := [mv_R 100, mv_I 0, mv_I (i : Int), mv_I v]) (st' := [mv_I (-12)]) (M1 := M) rfl ?_
        exact mv_retW (fun n => rfl) ⟨congrArg mv_I (by first | with_reducible rfl | omega), hI⟩
  · refine mv_goW 2 (pc' := 2) (ls' := [mv_R 0, mv_I 0, mv_I a, mv_I v, mv_U]) (st' := [mv_I 0, mv_R 0]) (M1 := M) rfl ?_
    refine mv_callPW (st2 := [mv_R 71]) rfl (Or.inl rfl) rfl rfl rfl (sp_sheetAt_0) (by first | decide | omega) ?_
    refine mv_goW 4 (pc' := 17) (ls' := [mv_R 0, mv_I 0, mv_I a, mv_I v, mv_R 71]) (st' := [mv_R 71]) (M1 := M) rfl ?_
    by_cases ha32 : so = -1
    · refine mv_callPW (st2 := [mv_I 1]) rfl (Or.inl rfl) rfl rfl rfl (sp_isMiss_0_t (hs1.trans ha32)) (by first | decide | omega) ?_
      refine mv_goW 1 (pc' := if 1 = 0 then 26 else 23) (ls' := [mv_R 0, mv_I 0, mv_I a, mv_I v, mv_R 71]) (st' := []) (M1 := M) rfl ?_
      refine mv_ffW (by decide) ?_
      refine mv_goW 1 (pc' := 25) (ls' := [mv_R 0, mv_I 0, mv_I a, mv_I v, mv_R 71]) (st' := [mv_I (-11)]) (M1 := M) rfl ?_
      refine mv_retW (fun n => rfl) ⟨_, rfl, ?_⟩
      refine mv_goW 3 (pc' := 3) (ls' := [mv_R 100, mv_I 0, mv_I a, mv_I v]) (st' := [mv_I 3, mv_I 0, mv_I 0]) (M1 := M) rfl ?_
      have ha33 : (0 : Int) ≤ (0 : Int) ∧ (0 : Int) ≤ (3 : Int) := by omega
      refine mv_callPW (st2 := [mv_I 1]) rfl (Or.inr rfl) rfl rfl rfl (sp_min_t ha33) (by first | decide | omega) ?_
      refine mv_goW 1 (pc' := if 1 = 0 then 9 else 12) (ls' := [mv_R 100, mv_I 0, mv_I a, mv_I v]) (st' := []) (M1 := M) rfl ?_
      refine mv_ffW (by decide) ?_
      refine mv_goW 4 (pc' := if 0 ≤ 0 ∧ 0 < 4 then 18 else mv_bad) (ls' := [mv_R 100, mv_I 0, mv_I a, mv_I v]) (st' := [mv_I (M 117 0)]) (M1 := M) rfl ?_
      refine mv_ttW (by omega) ?_
      rw [show M 117 0 = so from by exact hs2]
      refine mv_goW 2 (pc' := if so = (-1) then 22 else 25) (ls' := [mv_R 100, mv_I 0, mv_I a, mv_I v]) (st' := []) (M1 := M) rfl ?_
      refine mv_ttW (by omega) ?_
      refine mv_goW 1 (pc' := 24) (ls' := [mv_R 100, mv_I 0, mv_I a, mv_I v]) (st' := [mv_I (-11)]) (M1 := M) rfl ?_
      exact mv_retW (fun n => rfl) ⟨congrArg mv_I (by first | with_reducible rfl | omega), hI⟩
    · refine mv_callPW (st2 := [mv_I 0]) rfl (Or.inl rfl) rfl rfl rfl (sp_isMiss_0_f (fun q => ha32 (hs1.symm.trans q))) (by first | decide | omega) ?_
      refine mv_goW 1 (pc' := if 0 = 0 then 26 else 23) (ls' := [mv_R 0, mv_I 0, mv_I a, mv_I v, mv_R 71]) (st' := []) (M1 := M) rfl ?_
      refine mv_ttW (by decide) ?_
      refine mv_goW 3 (pc' := 30) (ls' := [mv_R 0, mv_I 0, mv_I a, mv_I v, mv_R 71]) (st' := [mv_I 1, mv_I a, mv_R 71]) (M1 := M) rfl ?_
      have ha34 : ¬ (0 ≤ (1 : Int) ∧ (1 : Int) ≤ sz ∧ 0 ≤ a ∧ a ≤ sz - (1 : Int)) := by omega
      refine mv_callPW (st2 := [mv_I 0]) rfl (Or.inl rfl) rfl rfl rfl (sp_hasRun_0_f hz1 (by omega) (by omega) ha34) (by first | decide | omega) ?_
      refine mv_goW 1 (pc' := if 0 = 0 then 36 else 39) (ls' := [mv_R 0, mv_I 0, mv_I a, mv_I v, mv_R 71]) (st' := []) (M1 := M) rfl ?_
      refine mv_ttW (by decide) ?_
      refine mv_goW 1 (pc' := 38) (ls' := [mv_R 0, mv_I 0, mv_I a, mv_I v, mv_R 71]) (st' := [mv_I (-12)]) (M1 := M) rfl ?_
      refine mv_retW (fun n => rfl) ⟨_, rfl, ?_⟩
      refine mv_goW 3 (pc' := 3) (ls' := [mv_R 100, mv_I 0, mv_I a, mv_I v]) (st' := [mv_I 3, mv_I 0, mv_I 0]) (M1 := M) rfl ?_
      have ha35 : (0 : Int) ≤ (0 : Int) ∧ (0 : Int) ≤ (3 : Int) := by omega
      refine mv_callPW (st2 := [mv_I 1]) rfl (Or.inr rfl) rfl rfl rfl (sp_min_t ha35) (by first | decide | omega) ?_
      refine mv_goW 1 (pc' := if 1 = 0 then 9 else 12) (ls' := [mv_R 100, mv_I 0, mv_I a, mv_I v]) (st' := []) (M1 := M) rfl ?_
      refine mv_ffW (by decide) ?_
      refine mv_goW 4 (pc' := if 0 ≤ 0 ∧ 0 < 4 then 18 else mv_bad) (ls' := [mv_R 100, mv_I 0, mv_I a, mv_I v]) (st' := [mv_I (M 117 0)]) (M1 := M) rfl ?_
      refine mv_ttW (by omega) ?_
      rw [show M 117 0 = so from by exact hs2]
      refine mv_goW 2 (pc' := if so = (-1) then 22 else 25) (ls' := [mv_R 100, mv_I 0, mv_I a, mv_I v]) (st' := []) (M1 := M) rfl ?_
      refine mv_ffW (by omega) ?_
      refine mv_goW 6 (pc' := if 0 ≤ 0 ∧ 0 < 4 then 33 else mv_bad) (ls' := [mv_R 100, mv_I 0, mv_I a, mv_I v]) (st' := [mv_I (M 118 0), mv_I 0, mv_I a]) (M1 := M) rfl ?_
      refine mv_ttW (by omega) ?_
      rw [show M 118 0 = sz from by exact hz2]
      refine mv_goW 2 (pc' := 35) (ls' := [mv_R 100, mv_I 0, mv_I a, mv_I v]) (st' := [mv_I (mv_w (sz - 1)), mv_I 0, mv_I a]) (M1 := M) rfl ?_
      rw [show mv_w (sz - 1) = sz - 1 from mv_w_id (by omega) (by omega)]
      have ha36 : ¬ ((0 : Int) ≤ a ∧ a ≤ (sz - 1)) := by omega
      refine mv_callPW (st2 := [mv_I 0]) rfl (Or.inr rfl) rfl rfl rfl (sp_min_f ha36) (by first | decide | omega) ?_
      refine mv_goW 1 (pc' := if 0 = 0 then 41 else 44) (ls' := [mv_R 100, mv_I 0, mv_I a, mv_I v]) (st' := []) (M1 := M) rfl ?_
      refine mv_ttW (by decide) ?_
      refine mv_goW 1 (pc' := 43) (ls' := [mv_R 100, mv_I 0, mv_I a, mv_I v]) (st' := [mv_I (-12)]) (M1 := M) rfl ?_
      exact mv_retW (fun n => rfl) ⟨congrArg mv_I (by first | with_reducible rfl | omega), hI⟩
theorem sp_msh_lp_1 {b n : Int} {d : Nat} {Q : mv_V → mv_M → Prop} : ∀ (r k : Nat) (M : mv_M), k + r = 40 → (∀ j, j < k → M 119 (40 * 1 + j) = 0) →
    (∀ M2, mv_ag [119] M M2 → (∀ j, j < 40 → M2 119 (40 * 1 + j) = 0) → (∀ j, (j < 40 * 1 ∨ 40 * 1 + 40 ≤ j) → M2 119 j = M 119 j) → mv_W d 187 96 [mv_R 100, mv_I 1, mv_I b, mv_I n, mv_I 40] [] M2 Q) → mv_W d 187 70 [mv_R 100, mv_I 1, mv_I b, mv_I n, mv_I (k : Int)] [] M Q := by
  intro r
  induction r with
  | zero =>
    intro k M hk hj e
    have hk : k = 40 := by omega
    subst hk
    refine mv_goW 3 (pc' := if ((40 : Nat) : Int) < 40 then 77 else 96) (ls' := [mv_R 100, mv_I 1, mv_I b, mv_I n, mv_I ((40 : Nat) : Int)]) (st' := []) (M1 := M) rfl ?_
    refine mv_ffW (by decide) ?_
    exact e M mv_ag.rf hj (fun _ _ => rfl)
  | succ r ih =>
    intro k M hk hj e
    refine mv_goW 3 (pc' := if (k : Int) < 40 then 77 else 96) (ls' := [mv_R 100, mv_I 1, mv_I b, mv_I n, mv_I (k : Int)]) (st' := []) (M1 := M) rfl ?_
    refine mv_ttW (by omega) ?_
    refine mv_goW 8 (pc' := 89) (ls' := [mv_R 100, mv_I 1, mv_I b, mv_I n, mv_I (k : Int)]) (st' := [mv_I 0, mv_I (mv_w ((mv_w (40 * 1)) + (k : Int))), mv_R 119]) (M1 := M) rfl ?_
    rw [show mv_w ((mv_w (40 * 1)) + (k : Int)) = ((k + 40 : Nat) : Int) from by (rw [show mv_w (40 * 1) = 40 * 1 from mv_w_id (by omega) (by omega), show mv_w ((40 * 1) + (k : Int)) = (40 * 1) + (k : Int) from mv_w_id (by omega) (by omega)]) <;> omega]
    refine mv_goW 1 (pc' := if 0 ≤ ((k + 40 : Nat) : Int) ∧ ((k + 40 : Nat) : Int) < 160 then 90 else mv_bad) (ls' := [mv_R 100, mv_I 1, mv_I b, mv_I n, mv_I (k : Int)]) (st' := []) (M1 := (mv_st M 119 (mv_up (M 119) (k + 40) 0))) rfl ?_
    refine mv_ttW (by omega) ?_
    refine mv_goW 2 (pc' := 70) (ls' := [mv_R 100, mv_I 1, mv_I b, mv_I n, mv_I (mv_w ((k : Int) + 1))]) (st' := []) (M1 := (mv_st M 119 (mv_up (M 119) (k + 40) 0))) rfl ?_
    rw [show mv_w ((k : Int) + 1) = ((k + 1 : Nat) : Int) from by (rw [show mv_w ((k : Int) + 1) = (k : Int) + 1 from mv_w_id (by omega) (by omega)]) <;> omega]
    refine ih (k + 1) _ (by omega) (fun j hj2 => ?_) (fun M2 a1 a2 a3 => e M2 (mv_ag.tr (mv_ag.st mv_ag.rf (by decide)) a1) a2 (fun j hj3 => (a3 j hj3).trans (mv_up_n _ _ (by omega))))
    show mv_up (M 119) _ 0 (40 * 1 + j) = 0
    by_cases q : j = k
    · rw [q]; unfold mv_up; rw [if_pos (by omega)]
    · rw [mv_up_n _ _ (by omega)]; exact hj j (by omega)
theorem sp_k31_1 (b m : Int) : sp_call 92 187 [mv_I 1, mv_I b, mv_I m] [mv_I 1, mv_I b, mv_I m] := by
  refine sp_mkW (lc := [mv_R 0, mv_I 1, mv_I b, mv_I m, mv_U]) (lm := [mv_R 100, mv_I 1, mv_I b, mv_I m, mv_U]) rfl rfl (fun M hI => ?_)
  have hI2 := hI
  obtain ⟨V, P, n, B, K, t, h⟩ := hI2
  by_cases hb : b = -1
  · subst hb
    refine mv_goW 2 (pc' := 2) (ls' := [mv_R 0, mv_I 1, mv_I (-1), mv_I m, mv_U]) (st' := [mv_I 1, mv_R 0]) (M1 := M) rfl ?_
    refine mv_callPW (st2 := [mv_R 73]) rfl (Or.inl rfl) rfl rfl rfl (sp_sheetAt_1) (by first | decide | omega) ?_
    refine mv_goW 6 (pc' := if (-1) < (-1) then 22 else 17) (ls' := [mv_R 0, mv_I 1, mv_I (-1), mv_I m, mv_R 73]) (st' := []) (M1 := M) rfl ?_
    refine mv_ffW (by decide) ?_
    refine mv_goW 3 (pc' := if 2 < (-1) then 22 else 25) (ls' := [mv_R 0, mv_I 1, mv_I (-1), mv_I m, mv_R 73]) (st' := []) (M1 := M) rfl ?_
    refine mv_ffW (by decide) ?_
    refine mv_goW 3 (pc' := if (-1) = (-1) then 30 else 39) (ls' := [mv_R 0, mv_I 1, mv_I (-1), mv_I m, mv_R 73]) (st' := []) (M1 := M) rfl ?_
    refine mv_ttW (by decide) ?_
    refine mv_goW 3 (pc' := 34) (ls' := [mv_R 0, mv_I 1, mv_I (-1), mv_I m, mv_R 73]) (st' := [mv_I 0, mv_I (-1), mv_R 73]) (M1 := M) rfl ?_
    refine mv_callW (st2 := []) rfl (Or.inl rfl) rfl rfl rfl (sp_shb_1) (by first | decide | omega) (fun Ma37 hm38 => ?_)
    have hx := hm38
    refine mv_goW 1 (pc' := 38) (ls' := [mv_R 0, mv_I 1, mv_I (-1), mv_I m, mv_R 73]) (st' := [mv_I 1]) (M1 := Ma37) rfl ?_
    refine mv_retW (fun n => rfl) ⟨_, rfl, ?_⟩
    refine mv_goW 3 (pc' := 3) (ls' := [mv_R 100, mv_I 1, mv_I (-1), mv_I m, mv_U]) (st' := [mv_I 3, mv_I 0, mv_I 1]) (M1 := Ma37) rfl ?_
    have ha39 : (0 : Int) ≤ (1 : Int) ∧ (1 : Int) ≤ (3 : Int) := by omega
    refine mv_callPW (st2 := [mv_I 1]) rfl (Or.inr rfl) rfl rfl rfl (sp_min_t ha39) (by first | decide | omega) ?_
    refine mv_goW 1 (pc' := if 1 = 0 then 29 else 9) (ls' := [mv_R 100, mv_I 1, mv_I (-1), mv_I m, mv_U]) (st' := []) (M1 := Ma37) rfl ?_
    refine mv_ffW (by decide) ?_
    refine mv_goW 3 (pc' := 12) (ls' := [mv_R 100, mv_I 1, mv_I (-1), mv_I m, mv_U]) (st' := [mv_I 2, mv_I (-1), mv_I (-1)]) (M1 := Ma37) rfl ?_
    have ha40 : ((-1) : Int) ≤ ((-1) : Int) ∧ ((-1) : Int) ≤ (2 : Int) := by omega
    refine mv_callPW (st2 := [mv_I 1]) rfl (Or.inr rfl) rfl rfl rfl (sp_min_t ha40) (by first | decide | omega) ?_
    refine mv_goW 1 (pc' := if 1 = 0 then 29 else 18) (ls' := [mv_R 100, mv_I 1, mv_I (-1), mv_I m, mv_U]) (st' := []) (M1 := Ma37) rfl ?_
    refine mv_ffW (by decide) ?_
    refine mv_goW 3 (pc' := if (-1) = (-1) then 32 else 23) (ls' := [mv_R 100, mv_I 1, mv_I (-1), mv_I m, mv_U]) (st' := []) (M1 := Ma37) rfl ?_
    refine mv_ttW (by decide) ?_
    refine mv_goW 3 (pc' := if (-1) = (-1) then 44 else 37) (ls' := [mv_R 100, mv_I 1, mv_I (-1), mv_I m, mv_U]) (st' := []) (M1 := Ma37) rfl ?_
    refine mv_ttW (by decide) ?_
    refine mv_goW 5 (pc' := if 0 ≤ 1 ∧ 1 < 4 then 51 else mv_bad) (ls' := [mv_R 100, mv_I 1, mv_I (-1), mv_I m, mv_U]) (st' := []) (M1 := (mv_st Ma37 117 (mv_up (Ma37 117) 1 (-1)))) rfl ?_
    refine mv_ttW (by omega) ?_
    refine mv_goW 6 (pc' := if (-1) = (-1) then 61 else 65) (ls' := [mv_R 100, mv_I 1, mv_I (-1), mv_I m, mv_U]) (st' := [mv_I 1, mv_R 118]) (M1 := (mv_st Ma37 117 (mv_up (Ma37 117) 1 (-1)))) rfl ?_
    refine mv_ttW (by decide) ?_
    refine mv_goW 3 (pc' := if 0 ≤ 1 ∧ 1 < 4 then 67 else mv_bad) (ls' := [mv_R 100, mv_I 1, mv_I (-1), mv_I m, mv_U]) (st' := []) (M1 := (mv_st (mv_st Ma37 117 (mv_up (Ma37 117) 1 (-1))) 118 (mv_up (Ma37 118) 1 0))) rfl ?_
    refine mv_ttW (by omega) ?_
    refine mv_goW 2 (pc' := 70) (ls' := [mv_R 100, mv_I 1, mv_I (-1), mv_I m, mv_I 0]) (st' := []) (M1 := (mv_st (mv_st Ma37 117 (mv_up (Ma37 117) 1 (-1))) 118 (mv_up (Ma37 118) 1 0))) rfl ?_
    refine sp_msh_lp_1 40 0 _ (by omega) (fun j hj => absurd hj (by omega)) (fun M2 hy1 hy2 hy3 => ?_)
    refine mv_goW 1 (pc' := 97) (ls' := [mv_R 100, mv_I 1, mv_I (-1), mv_I m, mv_I 40]) (st' := [mv_I 1]) (M1 := M2) rfl ?_
    exact mv_retW (fun n => rfl) ⟨congrArg mv_I (by first | with_reducible rfl | omega), sp_sh_k31 (S := 1) (by decide) h hx hy1 hy2 hy3 (by omega) (by omega)⟩
  · refine mv_goW 2 (pc' := 2) (ls' := [mv_R 0, mv_I 1, mv_I b, mv_I m, mv_U]) (st' := [mv_I 1, mv_R 0]) (M1 := M) rfl ?_
    refine mv_callPW (st2 := [mv_R 73]) rfl (Or.inl rfl) rfl rfl rfl (sp_sheetAt_1) (by first | decide | omega) ?_
    refine mv_goW 6 (pc' := if b < (-1) then 22 else 17) (ls' := [mv_R 0, mv_I 1, mv_I b, mv_I m, mv_R 73]) (st' := []) (M1 := M) rfl ?_
    refine mv_spW (fun ha41 => ?_) (fun ha41 => ?_)
    · refine mv_goW 1 (pc' := 24) (ls' := [mv_R 0, mv_I 1, mv_I b, mv_I m, mv_R 73]) (st' := [mv_I (-2)]) (M1 := M) rfl ?_
      refine mv_retW (fun n => rfl) ⟨_, rfl, ?_⟩
      refine mv_goW 3 (pc' := 3) (ls' := [mv_R 100, mv_I 1, mv_I b, mv_I m, mv_U]) (st' := [mv_I 3, mv_I 0, mv_I 1]) (M1 := M) rfl ?_
      have ha42 : (0 : Int) ≤ (1 : Int) ∧ (1 : Int) ≤ (3 : Int) := by omega
      refine mv_callPW (st2 := [mv_I 1]) rfl (Or.inr rfl) rfl rfl rfl (sp_min_t ha42) (by first | decide | omega) ?_
      refine mv_goW 1 (pc' := if 1 = 0 then 29 else 9) (ls' := [mv_R 100, mv_I 1, mv_I b, mv_I m, mv_U]) (st' := []) (M1 := M) rfl ?_
      refine mv_ffW (by decide) ?_
      refine mv_goW 3 (pc' := 12) (ls' := [mv_R 100, mv_I 1, mv_I b, mv_I m, mv_U]) (st' := [mv_I 2, mv_I (-1), mv_I b]) (M1 := M) rfl ?_
      have ha43 : ¬ (((-1) : Int) ≤ b ∧ b ≤ (2 : Int)) := by omega
      refine mv_callPW (st2 := [mv_I 0]) rfl (Or.inr rfl) rfl rfl rfl (sp_min_f ha43) (by first | decide | omega) ?_
      refine mv_goW 1 (pc' := if 0 = 0 then 29 else 18) (ls' := [mv_R 100, mv_I 1, mv_I b, mv_I m, mv_U]) (st' := []) (M1 := M) rfl ?_
      refine mv_ttW (by decide) ?_
      refine mv_goW 1 (pc' := 31) (ls' := [mv_R 100, mv_I 1, mv_I b, mv_I m, mv_U]) (st' := [mv_I (-2)]) (M1 := M) rfl ?_
      exact mv_retW (fun n => rfl) ⟨congrArg mv_I (by first | with_reducible rfl | omega), hI⟩
    · refine mv_goW 3 (pc' := if 2 < b then 22 else 25) (ls' := [mv_R 0, mv_I 1, mv_I b, mv_I m, mv_R 73]) (st' := []) (M1 := M) rfl ?_
      refine mv_spW (fun ha44 => ?_) (fun ha44 => ?_)
      · refine mv_goW 1 (pc' := 24) (ls' := [mv_R 0, mv_I 1, mv_I b, mv_I m, mv_R 73]) (st' := [mv_I (-2)]) (M1 := M) rfl ?_
        refine mv_retW (fun n => rfl) ⟨_, rfl, ?_⟩
        refine mv_goW 3 (pc' := 3) (ls' := [mv_R 100, mv_I 1, mv_I b, mv_I m, mv_U]) (st' := [mv_I 3, mv_I 0, mv_I 1]) (M1 := M) rfl ?_
        have ha45 : (0 : Int) ≤ (1 : Int) ∧ (1 : Int) ≤ (3 : Int) := by omega
        refine mv_callPW (st2 := [mv_I 1]) rfl (Or.inr rfl) rfl rfl rfl (sp_min_t ha45) (by first | decide | omega) ?_
        refine mv_goW 1 (pc' := if 1 = 0 then 29 else 9) (ls' := [mv_R 100, mv_I 1, mv_I b, mv_I m, mv_U]) (st' := []) (M1 := M) rfl ?_
        refine mv_ffW (by decide) ?_
        refine mv_goW 3 (pc' := 12) (ls' := [mv_R 100, mv_I 1, mv_I b, mv_I m, mv_U]) (st' := [mv_I 2, mv_I (-1), mv_I b]) (M1 := M) rfl ?_
        have ha46 : ¬ (((-1) : Int) ≤ b ∧ b ≤ (2 : Int)) := by omega
        refine mv_callPW (st2 := [mv_I 0]) rfl (Or.inr rfl) rfl rfl rfl (sp_min_f ha46) (by first | decide | omega) ?_
        refine mv_goW 1 (pc' := if 0 = 0 then 29 else 18) (ls' := [mv_R 100, mv_I 1, mv_I b, mv_I m, mv_U]) (st' := []) (M1 := M) rfl ?_
        refine mv_ttW (by decide) ?_
        refine mv_goW 1 (pc' := 31) (ls' := [mv_R 100, mv_I 1, mv_I b, mv_I m, mv_U]) (st' := [mv_I (-2)]) (M1 := M) rfl ?_
        exact mv_retW (fun n => rfl) ⟨congrArg mv_I (by first | with_reducible rfl | omega), hI⟩
      · refine mv_goW 3 (pc' := if b = (-1) then 30 else 39) (ls' := [mv_R 0, mv_I 1, mv_I b, mv_I m, mv_R 73]) (st' := []) (M1 := M) rfl ?_
        refine mv_ffW (by omega) ?_
        refine mv_goW 3 (pc' := if 40 < m then 45 else 48) (ls' := [mv_R 0, mv_I 1, mv_I b, mv_I m, mv_R 73]) (st' := []) (M1 := M) rfl ?_
        refine mv_spW (fun ha47 => ?_) (fun ha47 => ?_)
        · refine mv_goW 1 (pc' := 47) (ls' := [mv_R 0, mv_I 1, mv_I b, mv_I m, mv_R 73]) (st' := [mv_I (-2)]) (M1 := M) rfl ?_
          refine mv_retW (fun n => rfl) ⟨_, rfl, ?_⟩
          refine mv_goW 3 (pc' := 3) (ls' := [mv_R 100, mv_I 1, mv_I b, mv_I m, mv_U]) (st' := [mv_I 3, mv_I 0, mv_I 1]) (M1 := M) rfl ?_
          have ha48 : (0 : Int) ≤ (1 : Int) ∧ (1 : Int) ≤ (3 : Int) := by omega
          refine mv_callPW (st2 := [mv_I 1]) rfl (Or.inr rfl) rfl rfl rfl (sp_min_t ha48) (by first | decide | omega) ?_
          refine mv_goW 1 (pc' := if 1 = 0 then 29 else 9) (ls' := [mv_R 100, mv_I 1, mv_I b, mv_I m, mv_U]) (st' := []) (M1 := M) rfl ?_
          refine mv_ffW (by decide) ?_
          refine mv_goW 3 (pc' := 12) (ls' := [mv_R 100, mv_I 1, mv_I b, mv_I m, mv_U]) (st' := [mv_I 2, mv_I (-1), mv_I b]) (M1 := M) rfl ?_
          have ha49 : ((-1) : Int) ≤ b ∧ b ≤ (2 : Int) := by omega
          refine mv_callPW (st2 := [mv_I 1]) rfl (Or.inr rfl) rfl rfl rfl (sp_min_t ha49) (by first | decide | omega) ?_
          refine mv_goW 1 (pc' := if 1 = 0 then 29 else 18) (ls' := [mv_R 100, mv_I 1, mv_I b, mv_I m, mv_U]) (st' := []) (M1 := M) rfl ?_
          refine mv_ffW (by decide) ?_
          refine mv_goW 3 (pc' := if b = (-1) then 32 else 23) (ls' := [mv_R 100, mv_I 1, mv_I b, mv_I m, mv_U]) (st' := []) (M1 := M) rfl ?_
          refine mv_ffW (by omega) ?_
          refine mv_goW 3 (pc' := if 40 < m then 29 else 32) (ls' := [mv_R 100, mv_I 1, mv_I b, mv_I m, mv_U]) (st' := []) (M1 := M) rfl ?_
          refine mv_ttW (by omega) ?_
          refine mv_goW 1 (pc' := 31) (ls' := [mv_R 100, mv_I 1, mv_I b, mv_I m, mv_U]) (st' := [mv_I (-2)]) (M1 := M) rfl ?_
          exact mv_retW (fun n => rfl) ⟨congrArg mv_I (by first | with_reducible rfl | omega), hI⟩
        · refine mv_goW 2 (pc' := if m < 0 then 52 else 55) (ls' := [mv_R 0, mv_I 1, mv_I b, mv_I m, mv_R 73]) (st' := []) (M1 := M) rfl ?_
          refine mv_spW (fun ha50 => ?_) (fun ha50 => ?_)
          · refine mv_goW 1 (pc' := 54) (ls' := [mv_R 0, mv_I 1, mv_I b, mv_I m, mv_R 73]) (st' := [mv_I (-14)]) (M1 := M) rfl ?_
            refine mv_retW (fun n => rfl) ⟨_, rfl, ?_⟩
            refine mv_goW 3 (pc' := 3) (ls' := [mv_R 100, mv_I 1, mv_I b, mv_I m, mv_U]) (st' := [mv_I 3, mv_I 0, mv_I 1]) (M1 := M) rfl ?_
            have ha51 : (0 : Int) ≤ (1 : Int) ∧ (1 : Int) ≤ (3 : Int) := by omega
            refine mv_callPW (st2 := [mv_I 1]) rfl (Or.inr rfl) rfl rfl rfl (sp_min_t ha51) (by first | decide | omega) ?_
            refine mv_goW 1 (pc' := if 1 = 0 then 29 else 9) (ls' := [mv_R 100, mv_I 1, mv_I b, mv_I m, mv_U]) (st' := []) (M1 := M) rfl ?_
            refine mv_ffW (by decide) ?_
            refine mv_goW 3 (pc' := 12) (ls' := [mv_R 100, mv_I 1, mv_I b, mv_I m, mv_U]) (st' := [mv_I 2, mv_I (-1), mv_I b]) (M1 := M) rfl ?_
            have ha52 : ((-1) : Int) ≤ b ∧ b ≤ (2 : Int) := by omega
            refine mv_callPW (st2 := [mv_I 1]) rfl (Or.inr rfl) rfl rfl rfl (sp_min_t ha52) (by first | decide | omega) ?_
            refine mv_goW 1 (pc' := if 1 = 0 then 29 else 18) (ls' := [mv_R 100, mv_I 1, mv_I b, mv_I m, mv_U]) (st' := []) (M1 := M) rfl ?_
            refine mv_ffW (by decide) ?_
            refine mv_goW 3 (pc' := if b = (-1) then 32 else 23) (ls' := [mv_R 100, mv_I 1, mv_I b, mv_I m, mv_U]) (st' := []) (M1 := M) rfl ?_
            refine mv_ffW (by omega) ?_
            refine mv_goW 3 (pc' := if 40 < m then 29 else 32) (ls' := [mv_R 100, mv_I 1, mv_I b, mv_I m, mv_U]) (st' := []) (M1 := M) rfl ?_
            refine mv_ffW (by omega) ?_
            refine mv_goW 3 (pc' := if b = (-1) then 44 else 37) (ls' := [mv_R 100, mv_I 1, mv_I b, mv_I m, mv_U]) (st' := []) (M1 := M) rfl ?_
            refine mv_ffW (by omega) ?_
            refine mv_goW 2 (pc' := if m < 0 then 41 else 44) (ls' := [mv_R 100, mv_I 1, mv_I b, mv_I m, mv_U]) (st' := []) (M1 := M) rfl ?_
            refine mv_ttW (by omega) ?_
            refine mv_goW 1 (pc' := 43) (ls' := [mv_R 100, mv_I 1, mv_I b, mv_I m, mv_U]) (st' := [mv_I (-14)]) (M1 := M) rfl ?_
            exact mv_retW (fun n => rfl) ⟨congrArg mv_I (by first | with_reducible rfl | omega), hI⟩
          · refine mv_goW 3 (pc' := 59) (ls' := [mv_R 0, mv_I 1, mv_I b, mv_I m, mv_R 73]) (st' := [mv_I m, mv_I b, mv_R 73]) (M1 := M) rfl ?_
            refine mv_callW (st2 := []) rfl (Or.inl rfl) rfl rfl rfl (sp_shb_1) (by first | decide | omega) (fun Ma53 hm54 => ?_)
            have hx := hm54
            refine mv_goW 1 (pc' := 63) (ls' := [mv_R 0, mv_I 1, mv_I b, mv_I m, mv_R 73]) (st' := [mv_I 1]) (M1 := Ma53) rfl ?_
            refine mv_retW (fun n => rfl) ⟨_, rfl, ?_⟩
            refine mv_goW 3 (pc' := 3) (ls' := [mv_R 100, mv_I 1, mv_I b, mv_I m, mv_U]) (st' := [mv_I 3, mv_I 0, mv_I 1]) (M1 := Ma53) rfl ?_
            have ha55 : (0 : Int) ≤ (1 : Int) ∧ (1 : Int) ≤ (3 : Int) := by omega
            refine mv_callPW (st2 := [mv_I 1]) rfl (Or.inr rfl) rfl rfl rfl (sp_min_t ha55) (by first | decide | omega) ?_
            refine mv_goW 1 (pc' := if 1 = 0 then 29 else 9) (ls' := [mv_R 100, mv_I 1, mv_I b, mv_I m, mv_U]) (st' := []) (M1 := Ma53) rfl ?_
            refine mv_ffW (by decide) ?_
            refine mv_goW 3 (pc' := 12) (ls' := [mv_R 100, mv_I 1, mv_I b, mv_I m, mv_U]) (st' := [mv_I 2, mv_I (-1), mv_I b]) (M1 := Ma53) rfl ?_
            have ha56 : ((-1) : Int) ≤ b ∧ b ≤ (2 : Int) := by omega
            refine mv_callPW (st2 := [mv_I 1]) rfl (Or.inr rfl) rfl rfl rfl (sp_min_t ha56) (by first | decide | omega) ?_
            refine mv_goW 1 (pc' := if 1 = 0 then 29 else 18) (ls' := [mv_R 100, mv_I 1, mv_I b, mv_I m, mv_U]) (st' := []) (M1 := Ma53) rfl ?_
            refine mv_ffW (by decide) ?_
            refine mv_goW 3 (pc' := if b = (-1) then 32 else 23) (ls' := [mv_R 100, mv_I 1, mv_I b, mv_I m, mv_U]) (st' := []) (M1 := Ma53) rfl ?_
            refine mv_ffW (by omega) ?_
            refine mv_goW 3 (pc' := if 40 < m then 29 else 32) (ls' := [mv_R 100, mv_I 1, mv_I b, mv_I m, mv_U]) (st' := []) (M1 := Ma53) rfl ?_
            refine mv_ffW (by omega) ?_
            refine mv_goW 3 (pc' := if b = (-1) then 44 else 37) (ls' := [mv_R 100, mv_I 1, mv_I b, mv_I m, mv_U]) (st' := []) (M1 := Ma53) rfl ?_
            refine mv_ffW (by omega) ?_
            refine mv_goW 2 (pc' := if m < 0 then 41 else 44) (ls' := [mv_R 100, mv_I 1, mv_I b, mv_I m, mv_U]) (st' := []) (M1 := Ma53) rfl ?_
            refine mv_ffW (by omega) ?_
            refine mv_goW 5 (pc' := if 0 ≤ 1 ∧ 1 < 4 then 51 else mv_bad) (ls' := [mv_R 100, mv_I 1, mv_I b, mv_I m, mv_U]) (st' := []) (M1 := (mv_st Ma53 117 (mv_up (Ma53 117) 1 b))) rfl ?_
            refine mv_ttW (by omega) ?_
            refine mv_goW 6 (pc' := if b = (-1) then 61 else 65) (ls' := [mv_R 100, mv_I 1, mv_I b, mv_I m, mv_U]) (st' := [mv_I 1, mv_R 118]) (M1 := (mv_st Ma53 117 (mv_up (Ma53 117) 1 b))) rfl ?_
            refine mv_ffW (by omega) ?_
            refine mv_goW 2 (pc' := if 0 ≤ 1 ∧ 1 < 4 then 67 else mv_bad) (ls' := [mv_R 100, mv_I 1, mv_I b, mv_I m, mv_U]) (st' := []) (M1 := (mv_st (mv_st Ma53 117 (mv_up (Ma53 117) 1 b)) 118 (mv_up (Ma53 118) 1 m))) rfl ?_
            refine mv_ttW (by omega) ?_
            refine mv_goW 2 (pc' := 70) (ls' := [mv_R 100, mv_I 1, mv_I b, mv_I m, mv_I 0]) (st' := []) (M1 := (mv_st (mv_st Ma53 117 (mv_up (Ma53 117) 1 b)) 118 (mv_up (Ma53 118) 1 m))) rfl ?_
            refine sp_msh_lp_1 40 0 _ (by omega) (fun j hj => absurd hj (by omega)) (fun M2 hy1 hy2 hy3 => ?_)
            refine mv_goW 1 (pc' := 97) (ls' := [mv_R 100, mv_I 1, mv_I b, mv_I m, mv_I 40]) (st' := [mv_I 1]) (M1 := M2) rfl ?_
            exact mv_retW (fun n => rfl) ⟨congrArg mv_I (by first | with_reducible rfl | omega), sp_sh_k31 (S := 1) (by decide) h hx hy1 hy2 hy3 (by omega) (by omega)⟩
theorem sp_k32_1 (a v : Int) : sp_call 93 188 [mv_I 1, mv_I a, mv_I v] [mv_I 1, mv_I a, mv_I v] := by
  refine sp_mkW (lc := [mv_R 0, mv_I 1, mv_I a, mv_I v, mv_U]) (lm := [mv_R 100, mv_I 1, mv_I a, mv_I v]) rfl rfl (fun M hI => ?_)
  have hI2 := hI
  obtain ⟨V, P, n, B, K, t, h⟩ := hI2
  obtain ⟨so, sz, ⟨hs1, hs2, so0, so1⟩, ⟨hz1, hz2, sz0, sz1⟩, _⟩ := sp_sh_get h 1 (by decide)
  have hs1 : M 73 1 = so := hs1
  have hz1 : M 73 2 = sz := hz1
  by_cases h0 : 0 ≤ a
  · obtain ⟨i, rfl⟩ : ∃ c : Nat, a = (c : Int) := ⟨a.toNat, by omega⟩
    refine mv_goW 2 (pc' := 2) (ls' := [mv_R 0, mv_I 1, mv_I (i : Int), mv_I v, mv_U]) (st' := [mv_I 1, mv_R 0]) (M1 := M) rfl ?_
    refine mv_callPW (st2 := [mv_R 73]) rfl (Or.inl rfl) rfl rfl rfl (sp_sheetAt_1) (by first | decide | omega) ?_
    refine mv_goW 4 (pc' := 17) (ls' := [mv_R 0, mv_I 1, mv_I (i : Int), mv_I v, mv_R 73]) (st' := [mv_R 73]) (M1 := M) rfl ?_
    by_cases ha57 : so = -1
    · refine mv_callPW (st2 := [mv_I 1]) rfl (Or.inl rfl) rfl rfl rfl (sp_isMiss_1_t (hs1.trans ha57)) (by first | decide | omega) ?_
      refine mv_goW 1 (pc' := if 1 = 0 then 26 else 23) (ls' := [mv_R 0, mv_I 1, mv_I (i : Int), mv_I v, mv_R 73]) (st' := []) (M1 := M) rfl ?_
      refine mv_ffW (by decide) ?_
      refine mv_goW 1 (pc' := 25) (ls' := [mv_R 0, mv_I 1, mv_I (i : Int), mv_I v, mv_R 73]) (st' := [mv_I (-11)]) (M1 := M) rfl ?_
      refine mv_retW (fun n => rfl) ⟨_, rfl, ?_⟩
      refine mv_goW 3 (pc' := 3) (ls' := [mv_R 100, mv_I 1, mv_I (i : Int), mv_I v]) (st' := [mv_I 3, mv_I 0, mv_I 1]) (M1 := M) rfl ?_
      have ha58 : (0 : Int) ≤ (1 : Int) ∧ (1 : Int) ≤ (3 : Int) := by omega
      refine mv_callPW (st2 := [mv_I 1]) rfl (Or.inr rfl) rfl rfl rfl (sp_min_t ha58) (by first | decide | omega) ?_
      refine mv_goW 1 (pc' := if 1 = 0 then 9 else 12) (ls' := [mv_R 100, mv_I 1, mv_I (i : Int), mv_I v]) (st' := []) (M1 := M) rfl ?_
      refine mv_ffW (by decide) ?_
      refine mv_goW 4 (pc' := if 0 ≤ 1 ∧ 1 < 4 then 18 else mv_bad) (ls' := [mv_R 100, mv_I 1, mv_I (i : Int), mv_I v]) (st' := [mv_I (M 117 1)]) (M1 := M) rfl ?_
      refine mv_ttW (by omega) ?_
      rw [show M 117 1 = so from by exact hs2]
      refine mv_goW 2 (pc' := if so = (-1) then 22 else 25) (ls' := [mv_R 100, mv_I 1, mv_I (i : Int), mv_I v]) (st' := []) (M1 := M) rfl ?_
      refine mv_ttW (by omega) ?_
      refine mv_goW 1 (pc' := 24) (ls' := [mv_R 100, mv_I 1, mv_I (i : Int), mv_I v]) (st' := [mv_I (-11)]) (M1 := M) rfl ?_
      exact mv_retW (fun n => rfl) ⟨congrArg mv_I (by first | with_reducible rfl | omega), hI⟩
    · refine mv_callPW (st2 := [mv_I 0]) rfl (Or.inl rfl) rfl rfl rfl (sp_isMiss_1_f (fun q => ha57 (hs1.symm.trans q))) (by first | decide | omega) ?_
      refine mv_goW 1 (pc' := if 0 = 0 then 26 else 23) (ls' := [mv_R 0, mv_I 1, mv_I (i : Int), mv_I v, mv_R 73]) (st' := []) (M1 := M) rfl ?_
      refine mv_ttW (by decide) ?_
      refine mv_goW 3 (pc' := 30) (ls' := [mv_R 0, mv_I 1, mv_I (i : Int), mv_I v, mv_R 73]) (st' := [mv_I 1, mv_I (i : Int), mv_R 73]) (M1 := M) rfl ?_
      by_cases ha59 : 0 ≤ (1 : Int) ∧ (1 : Int) ≤ sz ∧ 0 ≤ (i : Int) ∧ (i : Int) ≤ sz - (1 : Int)
      · refine mv_callPW (st2 := [mv_I 1]) rfl (Or.inl rfl) rfl rfl rfl (sp_hasRun_1_t hz1 (by omega) (by omega) ha59) (by first | decide | omega) ?_
        refine mv_goW 1 (pc' := if 1 = 0 then 36 else 39) (ls' := [mv_R 0, mv_I 1, mv_I (i : Int), mv_I v, mv_R 73]) (st' := []) (M1 := M) rfl ?_
        refine mv_ffW (by decide) ?_
        refine mv_goW 3 (pc' := 43) (ls' := [mv_R 0, mv_I 1, mv_I (i : Int), mv_I v, mv_R 73]) (st' := [mv_I v, mv_I (i : Int), mv_R 73]) (M1 := M) rfl ?_
        refine mv_callW (st2 := []) rfl (Or.inl rfl) rfl rfl rfl (sp_write_1 (i := i) hs1 (by omega)) (by first | decide | omega) (fun Ma60 hm61 => ?_)
        have hx := hm61
        have hsa : Ma60 117 1 = so := by rw [hx]; exact hs2
        have hza : Ma60 118 1 = sz := by rw [hx]; exact hz2
        refine mv_goW 1 (pc' := 47) (ls' := [mv_R 0, mv_I 1, mv_I (i : Int), mv_I v, mv_R 73]) (st' := [mv_I 1]) (M1 := Ma60) rfl ?_
        refine mv_retW (fun n => rfl) ⟨_, rfl, ?_⟩
        refine mv_goW 3 (pc' := 3) (ls' := [mv_R 100, mv_I 1, mv_I (i : Int), mv_I v]) (st' := [mv_I 3, mv_I 0, mv_I 1]) (M1 := Ma60) rfl ?_
        have ha62 : (0 : Int) ≤ (1 : Int) ∧ (1 : Int) ≤ (3 : Int) := by omega
        refine mv_callPW (st2 := [mv_I 1]) rfl (Or.inr rfl) rfl rfl rfl (sp_min_t ha62) (by first | decide | omega) ?_
        refine mv_goW 1 (pc' := if 1 = 0 then 9 else 12) (ls' := [mv_R 100, mv_I 1, mv_I (i : Int), mv_I v]) (st' := []) (M1 := Ma60) rfl ?_
        refine mv_ffW (by decide) ?_
        refine mv_goW 4 (pc' := if 0 ≤ 1 ∧ 1 < 4 then 18 else mv_bad) (ls' := [mv_R 100, mv_I 1, mv_I (i : Int), mv_I v]) (st' := [mv_I (Ma60 117 1)]) (M1 := Ma60) rfl ?_
        refine mv_ttW (by omega) ?_
        rw [show Ma60 117 1 = so from by exact hsa]
        refine mv_goW 2 (pc' := if so = (-1) then 22 else 25) (ls' := [mv_R 100, mv_I 1, mv_I (i : Int), mv_I v]) (st' := []) (M1 := Ma60) rfl ?_
        refine mv_ffW (by omega) ?_
        refine mv_goW 6 (pc' := if 0 ≤ 1 ∧ 1 < 4 then 33 else mv_bad) (ls' := [mv_R 100, mv_I 1, mv_I (i : Int), mv_I v]) (st' := [mv_I (Ma60 118 1), mv_I 0, mv_I (i : Int)]) (M1 := Ma60) rfl ?_
        refine mv_ttW (by omega) ?_
        rw [show Ma60 118 1 = sz from by exact hza]
        refine mv_goW 2 (pc' := 35) (ls' := [mv_R 100, mv_I 1, mv_I (i : Int), mv_I v]) (st' := [mv_I (mv_w (sz - 1)), mv_I 0, mv_I (i : Int)]) (M1 := Ma60) rfl ?_
        rw [show mv_w (sz - 1) = sz - 1 from mv_w_id (by omega) (by omega)]
        have ha63 : (0 : Int) ≤ (i : Int) ∧ (i : Int) ≤ (sz - 1) := by omega
        refine mv_callPW (st2 := [mv_I 1]) rfl (Or.inr rfl) rfl rfl rfl (sp_min_t ha63) (by first | decide | omega) ?_
        refine mv_goW 1 (pc' := if 1 = 0 then 41 else 44) (ls' := [mv_R 100, mv_I 1, mv_I (i : Int), mv_I v]) (st' := []) (M1 := Ma60) rfl ?_
        refine mv_ffW (by decide) ?_
        refine mv_goW 11 (pc' := if 0 ≤ 1 ∧ 1 < 4 then 60 else mv_bad) (ls' := [mv_R 100, mv_I 1, mv_I (i : Int), mv_I v]) (st' := [mv_I (Ma60 117 1), mv_I (mv_w ((mv_w (40 * 1)) + (i : Int))), mv_R 119]) (M1 := Ma60) rfl ?_
        refine mv_ttW (by omega) ?_
        rw [show Ma60 117 1 = so from by exact hsa]
        refine mv_goW 1 (pc' := if so = 0 then 63 else 68) (ls' := [mv_R 100, mv_I 1, mv_I (i : Int), mv_I v]) (st' := [mv_I (mv_w ((mv_w (40 * 1)) + (i : Int))), mv_R 119]) (M1 := Ma60) rfl ?_
        rw [show mv_w (40 * 1) = 40 * 1 from mv_w_id (by omega) (by omega)]
        rw [show mv_w ((40 * 1) + (i : Int)) = (40 * 1) + (i : Int) from mv_w_id (by omega) (by omega)]
        rw [show (40 * 1) + (i : Int) = ((i + 40 : Nat) : Int) from by omega]
        refine mv_spW (fun ha64 => ?_) (fun ha64 => ?_)
        · refine mv_goW 4 (pc' := if 0 ≤ ((i + 40 : Nat) : Int) ∧ ((i + 40 : Nat) : Int) < 160 then 85 else mv_bad) (ls' := [mv_R 100, mv_I 1, mv_I (i : Int), mv_I v]) (st' := []) (M1 := (mv_st Ma60 119 (mv_up (Ma60 119) (i + 40) (mv_i2b v)))) rfl ?_
          refine mv_ttW (by omega) ?_
          refine mv_goW 1 (pc' := 86) (ls' := [mv_R 100, mv_I 1, mv_I (i : Int), mv_I v]) (st' := [mv_I 1]) (M1 := (mv_st Ma60 119 (mv_up (Ma60 119) (i + 40) (mv_i2b v)))) rfl ?_
          exact mv_retW (fun n => rfl) ⟨congrArg mv_I (by first | with_reducible rfl | omega), sp_sh_cell (S := 1) (so := so) (v := v) (i := i) (by decide) h (by omega) (by unfold sp_cut; split <;> (try split) <;> omega) hx (by omega)⟩
        · refine mv_goW 4 (pc' := if 0 ≤ 1 ∧ 1 < 4 then 74 else mv_bad) (ls' := [mv_R 100, mv_I 1, mv_I (i : Int), mv_I v]) (st' := [mv_I (Ma60 117 1), mv_I ((i + 40 : Nat) : Int), mv_R 119]) (M1 := Ma60) rfl ?_
          refine mv_ttW (by omega) ?_
          rw [show Ma60 117 1 = so from by exact hsa]
          refine mv_goW 2 (pc' := if so = 1 then 78 else 83) (ls' := [mv_R 100, mv_I 1, mv_I (i : Int), mv_I v]) (st' := [mv_I ((i + 40 : Nat) : Int), mv_R 119]) (M1 := Ma60) rfl ?_
          refine mv_spW (fun ha65 => ?_) (fun ha65 => ?_)
          · refine mv_goW 4 (pc' := if 0 ≤ ((i + 40 : Nat) : Int) ∧ ((i + 40 : Nat) : Int) < 160 then 85 else mv_bad) (ls' := [mv_R 100, mv_I 1, mv_I (i : Int), mv_I v]) (st' := []) (M1 := (mv_st Ma60 119 (mv_up (Ma60 119) (i + 40) (mv_i2s v)))) rfl ?_
            refine mv_ttW (by omega) ?_
            refine mv_goW 1 (pc' := 86) (ls' := [mv_R 100, mv_I 1, mv_I (i : Int), mv_I v]) (st' := [mv_I 1]) (M1 := (mv_st Ma60 119 (mv_up (Ma60 119) (i + 40) (mv_i2s v)))) rfl ?_
            exact mv_retW (fun n => rfl) ⟨congrArg mv_I (by first | with_reducible rfl | omega), sp_sh_cell (S := 1) (so := so) (v := v) (i := i) (by decide) h (by omega) (by unfold sp_cut; split <;> (try split) <;> omega) hx (by omega)⟩
          · refine mv_goW 2 (pc' := if 0 ≤ ((i + 40 : Nat) : Int) ∧ ((i + 40 : Nat) : Int) < 160 then 85 else mv_bad) (ls' := [mv_R 100, mv_I 1, mv_I (i : Int), mv_I v]) (st' := []) (M1 := (mv_st Ma60 119 (mv_up (Ma60 119) (i + 40) v))) rfl ?_
            refine mv_ttW (by omega) ?_
            refine mv_goW 1 (pc' := 86) (ls' := [mv_R 100, mv_I 1, mv_I (i : Int), mv_I v]) (st' := [mv_I 1]) (M1 := (mv_st Ma60 119 (mv_up (Ma60 119) (i + 40) v))) rfl ?_
            exact mv_retW (fun n => rfl) ⟨congrArg mv_I (by first | with_reducible rfl | omega), sp_sh_cell (S := 1) (so := so) (v := v) (i := i) (by decide) h (by omega) (by unfold sp_cut; split <;> (try split) <;> omega) hx (by omega)⟩
      · refine mv_callPW (st2 := [mv_I 0]) rfl (Or.inl rfl) rfl rfl rfl (sp_hasRun_1_f hz1 (by omega) (by omega) ha59) (by first | decide | omega) ?_
        refine mv_goW 1 (pc' := if 0 = 0 then 36 else 39) (ls' := [mv_R 0, mv_I 1, mv_I (i : Int), mv_I v, mv_R 73]) (st' := []) (M1 := M) rfl ?_
        refine mv_ttW (by decide) ?_
        refine mv_goW 1 (pc' := 38) (ls' := [mv_R 0, mv_I 1, mv_I (i : Int), mv_I v, mv_R 73]) (st' := [mv_I (-12)]) (M1 := M) rfl ?_
        refine mv_retW (fun n => rfl) ⟨_, rfl, ?_⟩
        refine mv_goW 3 (pc' := 3) (ls' := [mv_R 100, mv_I 1, mv_I (i : Int), mv_I v]) (st' := [mv_I 3, mv_I 0, mv_I 1]) (M1 := M) rfl ?_
        have ha66 : (0 : Int) ≤ (1 : Int) ∧ (1 : Int) ≤ (3 : Int) := by omega
        refine mv_callPW (st2 := [mv_I 1]) rfl (Or.inr rfl) rfl rfl rfl (sp_min_t ha66) (by first | decide | omega) ?_
        refine mv_goW 1 (pc' := if 1 = 0 then 9 else 12) (ls' := [mv_R 100, mv_I 1, mv_I (i : Int), mv_I v]) (st' := []) (M1 := M) rfl ?_
        refine mv_ffW (by decide) ?_
        refine mv_goW 4 (pc' := if 0 ≤ 1 ∧ 1 < 4 then 18 else mv_bad) (ls' := [mv_R 100, mv_I 1, mv_I (i : Int), mv_I v]) (st' := [mv_I (M 117 1)]) (M1 := M) rfl ?_
        refine mv_ttW (by omega) ?_
        rw [show M 117 1 = so from by exact hs2]
        refine mv_goW 2 (pc' := if so = (-1) then 22 else 25) (ls' := [mv_R 100, mv_I 1, mv_I (i : Int), mv_I v]) (st' := []) (M1 := M) rfl ?_
        refine mv_ffW (by omega) ?_
        refine mv_goW 6 (pc' := if 0 ≤ 1 ∧ 1 < 4 then 33 else mv_bad) (ls' := [mv_R 100, mv_I 1, mv_I (i : Int), mv_I v]) (st' := [mv_I (M 118 1), mv_I 0, mv_I (i : Int)]) (M1 := M) rfl ?_
        refine mv_ttW (by omega) ?_
        rw [show M 118 1 = sz from by exact hz2]
        refine mv_goW 2 (pc' := 35) (ls' := [mv_R 100, mv_I 1, mv_I (i : Int), mv_I v]) (st' := [mv_I (mv_w (sz - 1)), mv_I 0, mv_I (i : Int)]) (M1 := M) rfl ?_
        rw [show mv_w (sz - 1) = sz - 1 from mv_w_id (by omega) (by omega)]
        have ha67 : ¬ ((0 : Int) ≤ (i : Int) ∧ (i : Int) ≤ (sz - 1)) := by omega
        refine mv_callPW (st2 := [mv_I 0]) rfl (Or.inr rfl) rfl rfl rfl (sp_min_f ha67) (by first | decide | omega) ?_
        refine mv_goW 1 (pc' := if 0 = 0 then 41 else 44) (ls' := [mv_R 100, mv_I 1, mv_I (i : Int), mv_I v]) (st' := []) (M1 := M) rfl ?_
        refine mv_ttW (by decide) ?_
        refine mv_goW 1 (pc' := 43) (ls' := [mv_R 100, mv_I 1, mv_I (i : Int), mv_I v]) (st' := [mv_I (-12)]) (M1 := M) rfl ?_
        exact mv_retW (fun n => rfl) ⟨congrArg mv_I (by first | with_reducible rfl | omega), hI⟩
  · refine mv_goW 2 (pc' := 2) (ls' := [mv_R 0, mv_I 1, mv_I a, mv_I v, mv_U]) (st' := [mv_I 1, mv_R 0]) (M1 := M) rfl ?_
    refine mv_callPW (st2 := [mv_R 73]) rfl (Or.inl rfl) rfl rfl rfl (sp_sheetAt_1) (by first | decide | omega) ?_
    refine mv_goW 4 (pc' := 17) (ls' := [mv_R 0, mv_I 1, mv_I a, mv_I v, mv_R 73]) (st' := [mv_R 73]) (M1 := M) rfl ?_
    by_cases ha68 : so = -1
    · refine mv_callPW (st2 := [mv_I 1]) rfl (Or.inl rfl) rfl rfl rfl (sp_isMiss_1_t (hs1.trans ha68)) (by first | decide | omega) ?_
      refine mv_goW 1 (pc' := if 1 = 0 then 26 else 23) (ls' := [mv_R 0, mv_I 1, mv_I a, mv_I v, mv_R 73]) (st' := []) (M1 := M) rfl ?_
      refine mv_ffW (by decide) ?_
      refine mv_goW 1 (pc' := 25) (ls' := [mv_R 0, mv_I 1, mv_I a, mv_I v, mv_R 73]) (st' := [mv_I (-11)]) (M1 := M) rfl ?_
      refine mv_retW (fun n => rfl) ⟨_, rfl, ?_⟩
      refine mv_goW 3 (pc' := 3) (ls' := [mv_R 100, mv_I 1, mv_I a, mv_I v]) (st' := [mv_I 3, mv_I 0, mv_I 1]) (M1 := M) rfl ?_
      have ha69 : (0 : Int) ≤ (1 : Int) ∧ (1 : Int) ≤ (3 : Int) := by omega
      refine mv_callPW (st2 := [mv_I 1]) rfl (Or.inr rfl) rfl rfl rfl (sp_min_t ha69) (by first | decide | omega) ?_
      refine mv_goW 1 (pc' := if 1 = 0 then 9 else 12) (ls' := [mv_R 100, mv_I 1, mv_I a, mv_I v]) (st' := []) (M1 := M) rfl ?_
      refine mv_ffW (by decide) ?_
      refine mv_goW 4 (pc' := if 0 ≤ 1 ∧ 1 < 4 then 18 else mv_bad) (ls' := [mv_R 100, mv_I 1, mv_I a, mv_I v]) (st' := [mv_I (M 117 1)]) (M1 := M) rfl ?_
      refine mv_ttW (by omega) ?_
      rw [show M 117 1 = so from by exact hs2]
      refine mv_goW 2 (pc' := if so = (-1) then 22 else 25) (ls' := [mv_R 100, mv_I 1, mv_I a, mv_I v]) (st' := []) (M1 := M) rfl ?_
      refine mv_ttW (by omega) ?_
      refine mv_goW 1 (pc' := 24) (ls' := [mv_R 100, mv_I 1, mv_I a, mv_I v]) (st' := [mv_I (-11)]) (M1 := M) rfl ?_
      exact mv_retW (fun n => rfl) ⟨congrArg mv_I (by first | with_reducible rfl | omega), hI⟩
    · refine mv_callPW (st2 := [mv_I 0]) rfl (Or.inl rfl) rfl rfl rfl (sp_isMiss_1_f (fun q => ha68 (hs1.symm.trans q))) (by first | decide | omega) ?_
      refine mv_goW 1 (pc' := if 0 = 0 then 26 else 23) (ls' := [mv_R 0, mv_I 1, mv_I a, mv_I v, mv_R 73]) (st' := []) (M1 := M) rfl ?_
      refine mv_ttW (by decide) ?_
      refine mv_goW 3 (pc' := 30) (ls' := [mv_R 0, mv_I 1, mv_I a, mv_I v, mv_R 73]) (st' := [mv_I 1, mv_I a, mv_R 73]) (M1 := M) rfl ?_
      have ha70 : ¬ (0 ≤ (1 : Int) ∧ (1 : Int) ≤ sz ∧ 0 ≤ a ∧ a ≤ sz - (1 : Int)) := by omega
      refine mv_callPW (st2 := [mv_I 0]) rfl (Or.inl rfl) rfl rfl rfl (sp_hasRun_1_f hz1 (by omega) (by omega) ha70) (by first | decide | omega) ?_
      refine mv_goW 1 (pc' := if 0 = 0 then 36 else 39) (ls' := [mv_R 0, mv_I 1, mv_I a, mv_I v, mv_R 73]) (st' := []) (M1 := M) rfl ?_
      refine mv_ttW (by decide) ?_
      refine mv_goW 1 (pc' := 38) (ls' := [mv_R 0, mv_I 1, mv_I a, mv_I v, mv_R 73]) (st' := [mv_I (-12)]) (M1 := M) rfl ?_
      refine mv_retW (fun n => rfl) ⟨_, rfl, ?_⟩
      refine mv_goW 3 (pc' := 3) (ls' := [mv_R 100, mv_I 1, mv_I a, mv_I v]) (st' := [mv_I 3, mv_I 0, mv_I 1]) (M1 := M) rfl ?_
      have ha71 : (0 : Int) ≤ (1 : Int) ∧ (1 : Int) ≤ (3 : Int) := by omega
      refine mv_callPW (st2 := [mv_I 1]) rfl (Or.inr rfl) rfl rfl rfl (sp_min_t ha71) (by first | decide | omega) ?_
      refine mv_goW 1 (pc' := if 1 = 0 then 9 else 12) (ls' := [mv_R 100, mv_I 1, mv_I a, mv_I v]) (st' := []) (M1 := M) rfl ?_
      refine mv_ffW (by decide) ?_
      refine mv_goW 4 (pc' := if 0 ≤ 1 ∧ 1 < 4 then 18 else mv_bad) (ls' := [mv_R 100, mv_I 1, mv_I a, mv_I v]) (st' := [mv_I (M 117 1)]) (M1 := M) rfl ?_
      refine mv_ttW (by omega) ?_
      rw [show M 117 1 = so from by exact hs2]
      refine mv_goW 2 (pc' := if so = (-1) then 22 else 25) (ls' := [mv_R 100, mv_I 1, mv_I a, mv_I v]) (st' := []) (M1 := M) rfl ?_
      refine mv_ffW (by omega) ?_
      refine mv_goW 6 (pc' := if 0 ≤ 1 ∧ 1 < 4 then 33 else mv_bad) (ls' := [mv_R 100, mv_I 1, mv_I a, mv_I v]) (st' := [mv_I (M 118 1), mv_I 0, mv_I a]) (M1 := M) rfl ?_
      refine mv_ttW (by omega) ?_
      rw [show M 118 1 = sz from by exact hz2]
      refine mv_goW 2 (pc' := 35) (ls' := [mv_R 100, mv_I 1, mv_I a, mv_I v]) (st' := [mv_I (mv_w (sz - 1)), mv_I 0, mv_I a]) (M1 := M) rfl ?_
      rw [show mv_w (sz - 1) = sz - 1 from mv_w_id (by omega) (by omega)]
      have ha72 : ¬ ((0 : Int) ≤ a ∧ a ≤ (sz - 1)) := by omega
      refine mv_callPW (st2 := [mv_I 0]) rfl (Or.inr rfl) rfl rfl rfl (sp_min_f ha72) (by first | decide | omega) ?_
      refine mv_goW 1 (pc' := if 0 = 0 then 41 else 44) (ls' := [mv_R 100, mv_I 1, mv_I a, mv_I v]) (st' := []) (M1 := M) rfl ?_
      refine mv_ttW (by decide) ?_
      refine mv_goW 1 (pc' := 43) (ls' := [mv_R 100, mv_I 1, mv_I a, mv_I v]) (st' := [mv_I (-12)]) (M1 := M) rfl ?_
      exact mv_retW (fun n => rfl) ⟨congrArg mv_I (by first | with_reducible rfl | omega), hI⟩
theorem sp_msh_lp_2 {b n : Int} {d : Nat} {Q : mv_V → mv_M → Prop} : ∀ (r k : Nat) (M : mv_M), k + r = 40 → (∀ j, j < k → M 119 (40 * 2 + j) = 0) →
    (∀ M2, mv_ag [119] M M2 → (∀ j, j < 40 → M2 119 (40 * 2 + j) = 0) → (∀ j, (j < 40 * 2 ∨ 40 * 2 + 40 ≤ j) → M2 119 j = M 119 j) → mv_W d 187 96 [mv_R 100, mv_I 2, mv_I b, mv_I n, mv_I 40] [] M2 Q) → mv_W d 187 70 [mv_R 100, mv_I 2, mv_I b, mv_I n, mv_I (k : Int)] [] M Q := by
  intro r
  induction r with
  | zero =>
    intro k M hk hj e
    have hk : k = 40 := by omega
    subst hk
    refine mv_goW 3 (pc' := if ((40 : Nat) : Int) < 40 then 77 else 96) (ls' := [mv_R 100, mv_I 2, mv_I b, mv_I n, mv_I ((40 : Nat) : Int)]) (st' := []) (M1 := M) rfl ?_
    refine mv_ffW (by decide) ?_
    exact e M mv_ag.rf hj (fun _ _ => rfl)
  | succ r ih =>
    intro k M hk hj e
    refine mv_goW 3 (pc' := if (k : Int) < 40 then 77 else 96) (ls' := [mv_R 100, mv_I 2, mv_I b, mv_I n, mv_I (k : Int)]) (st' := []) (M1 := M) rfl ?_
    refine mv_ttW (by omega) ?_
    refine mv_goW 8 (pc' := 89) (ls' := [mv_R 100, mv_I 2, mv_I b, mv_I n, mv_I (k : Int)]) (st' := [mv_I 0, mv_I (mv_w ((mv_w (40 * 2)) + (k : Int))), mv_R 119]) (M1 := M) rfl ?_
    rw [show mv_w ((mv_w (40 * 2)) + (k : Int)) = ((k + 80 : Nat) : Int) from by (rw [show mv_w (40 * 2) = 40 * 2 from mv_w_id (by omega) (by omega), show mv_w ((40 * 2) + (k : Int)) = (40 * 2) + (k : Int) from mv_w_id (by omega) (by omega)]) <;> omega]
    refine mv_goW 1 (pc' := if 0 ≤ ((k + 80 : Nat) : Int) ∧ ((k + 80 : Nat) : Int) < 160 then 90 else mv_bad) (ls' := [mv_R 100, mv_I 2, mv_I b, mv_I n, mv_I (k : Int)]) (st' := []) (M1 := (mv_st M 119 (mv_up (M 119) (k + 80) 0))) rfl ?_
    refine mv_ttW (by omega) ?_
    refine mv_goW 2 (pc' := 70) (ls' := [mv_R 100, mv_I 2, mv_I b, mv_I n, mv_I (mv_w ((k : Int) + 1))]) (st' := []) (M1 := (mv_st M 119 (mv_up (M 119) (k + 80) 0))) rfl ?_
    rw [show mv_w ((k : Int) + 1) = ((k + 1 : Nat) : Int) from by (rw [show mv_w ((k : Int) + 1) = (k : Int) + 1 from mv_w_id (by omega) (by omega)]) <;> omega]
    refine ih (k + 1) _ (by omega) (fun j hj2 => ?_) (fun M2 a1 a2 a3 => e M2 (mv_ag.tr (mv_ag.st mv_ag.rf (by decide)) a1) a2 (fun j hj3 => (a3 j hj3).trans (mv_up_n _ _ (by omega))))
    show mv_up (M 119) _ 0 (40 * 2 + j) = 0
    by_cases q : j = k
    · rw [q]; unfold mv_up; rw [if_pos (by omega)]
    · rw [mv_up_n _ _ (by omega)]; exact hj j (by omega)
theorem sp_k31_2 (b m : Int) : sp_call 92 187 [mv_I 2, mv_I b, mv_I m] [mv_I 2, mv_I b, mv_I m] := by
  refine sp_mkW (lc := [mv_R 0, mv_I 2, mv_I b, mv_I m, mv_U]) (lm := [mv_R 100, mv_I 2, mv_I b, mv_I m, mv_U]) rfl rfl (fun M hI => ?_)
  have hI2 := hI
  obtain ⟨V, P, n, B, K, t, h⟩ := hI2
  by_cases hb : b = -1
  · subst hb
    refine mv_goW 2 (pc' := 2) (ls' := [mv_R 0, mv_I 2, mv_I (-1), mv_I m, mv_U]) (st' := [mv_I 2, mv_R 0]) (M1 := M) rfl ?_
    refine mv_callPW (st2 := [mv_R 75]) rfl (Or.inl rfl) rfl rfl rfl (sp_sheetAt_2) (by first | decide | omega) ?_
    refine mv_goW 6 (pc' := if (-1) < (-1) then 22 else 17) (ls' := [mv_R 0, mv_I 2, mv_I (-1), mv_I m, mv_R 75]) (st' := []) (M1 := M) rfl ?_
    refine mv_ffW (by decide) ?_
    refine mv_goW 3 (pc' := if 2 < (-1) then 22 else 25) (ls' := [mv_R 0, mv_I 2, mv_I (-1), mv_I m, mv_R 75]) (st' := []) (M1 := M) rfl ?_
    refine mv_ffW (by decide) ?_
    refine mv_goW 3 (pc' := if (-1) = (-1) then 30 else 39) (ls' := [mv_R 0, mv_I 2, mv_I (-1), mv_I m, mv_R 75]) (st' := []) (M1 := M) rfl ?_
    refine mv_ttW (by decide) ?_
    refine mv_goW 3 (pc' := 34) (ls' := [mv_R 0, mv_I 2, mv_I (-1), mv_I m, mv_R 75]) (st' := [mv_I 0, mv_I (-1), mv_R 75]) (M1 := M) rfl ?_
    refine mv_callW (st2 := []) rfl (Or.inl rfl) rfl rfl rfl (sp_shb_2) (by first | decide | omega) (fun Ma73 hm74 => ?_)
    have hx := hm74
    refine mv_goW 1 (pc' := 38) (ls' := [mv_R 0, mv_I 2, mv_I (-1), mv_I m, mv_R 75]) (st' := [mv_I 1]) (M1 := Ma73) rfl ?_
    refine mv_retW (fun n => rfl) ⟨_, rfl, ?_⟩
    refine mv_goW 3 (pc' := 3) (ls' := [mv_R 100, mv_I 2, mv_I (-1), mv_I m, mv_U]) (st' := [mv_I 3, mv_I 0, mv_I 2]) (M1 := Ma73) rfl ?_
    have ha75 : (0 : Int) ≤ (2 : Int) ∧ (2 : Int) ≤ (3 : Int) := by omega
    refine mv_callPW (st2 := [mv_I 1]) rfl (Or.inr rfl) rfl rfl rfl (sp_min_t ha75) (by first | decide | omega) ?_
    refine mv_goW 1 (pc' := if 1 = 0 then 29 else 9) (ls' := [mv_R 100, mv_I 2, mv_I (-1), mv_I m, mv_U]) (st' := []) (M1 := Ma73) rfl ?_
    refine mv_ffW (by decide) ?_
    refine mv_goW 3 (pc' := 12) (ls' := [mv_R 100, mv_I 2, mv_I (-1), mv_I m, mv_U]) (st' := [mv_I 2, mv_I (-1), mv_I (-1)]) (M1 := Ma73) rfl ?_
    have ha76 : ((-1) : Int) ≤ ((-1) : Int) ∧ ((-1) : Int) ≤ (2 : Int) := by omega
    refine mv_callPW (st2 := [mv_I 1]) rfl (Or.inr rfl) rfl rfl rfl (sp_min_t ha76) (by first | decide | omega) ?_
    refine mv_goW 1 (pc' := if 1 = 0 then 29 else 18) (ls' := [mv_R 100, mv_I 2, mv_I (-1), mv_I m, mv_U]) (st' := []) (M1 := Ma73) rfl ?_
    refine mv_ffW (by decide) ?_
    refine mv_goW 3 (pc' := if (-1) = (-1) then 32 else 23) (ls' := [mv_R 100, mv_I 2, mv_I (-1), mv_I m, mv_U]) (st' := []) (M1 := Ma73) rfl ?_
    refine mv_ttW (by decide) ?_
    refine mv_goW 3 (pc' := if (-1) = (-1) then 44 else 37) (ls' := [mv_R 100, mv_I 2, mv_I (-1), mv_I m, mv_U]) (st' := []) (M1 := Ma73) rfl ?_
    refine mv_ttW (by decide) ?_
    refine mv_goW 5 (pc' := if 0 ≤ 2 ∧ 2 < 4 then 51 else mv_bad) (ls' := [mv_R 100, mv_I 2, mv_I (-1), mv_I m, mv_U]) (st' := []) (M1 := (mv_st Ma73 117 (mv_up (Ma73 117) 2 (-1)))) rfl ?_
    refine mv_ttW (by omega) ?_
    refine mv_goW 6 (pc' := if (-1) = (-1) then 61 else 65) (ls' := [mv_R 100, mv_I 2, mv_I (-1), mv_I m, mv_U]) (st' := [mv_I 2, mv_R 118]) (M1 := (mv_st Ma73 117 (mv_up (Ma73 117) 2 (-1)))) rfl ?_
    refine mv_ttW (by decide) ?_
    refine mv_goW 3 (pc' := if 0 ≤ 2 ∧ 2 < 4 then 67 else mv_bad) (ls' := [mv_R 100, mv_I 2, mv_I (-1), mv_I m, mv_U]) (st' := []) (M1 := (mv_st (mv_st Ma73 117 (mv_up (Ma73 117) 2 (-1))) 118 (mv_up (Ma73 118) 2 0))) rfl ?_
    refine mv_ttW (by omega) ?_
    refine mv_goW 2 (pc' := 70) (ls' := [mv_R 100, mv_I 2, mv_I (-1), mv_I m, mv_I 0]) (st' := []) (M1 := (mv_st (mv_st Ma73 117 (mv_up (Ma73 117) 2 (-1))) 118 (mv_up (Ma73 118) 2 0))) rfl ?_
    refine sp_msh_lp_2 40 0 _ (by omega) (fun j hj => absurd hj (by omega)) (fun M2 hy1 hy2 hy3 => ?_)
    refine mv_goW 1 (pc' := 97) (ls' := [mv_R 100, mv_I 2, mv_I (-1), mv_I m, mv_I 40]) (st' := [mv_I 1]) (M1 := M2) rfl ?_
    exact mv_retW (fun n => rfl) ⟨congrArg mv_I (by first | with_reducible rfl | omega), sp_sh_k31 (S := 2) (by decide) h hx hy1 hy2 hy3 (by omega) (by omega)⟩
  · refine mv_goW 2 (pc' := 2) (ls' := [mv_R 0, mv_I 2, mv_I b, mv_I m, mv_U]) (st' := [mv_I 2, mv_R 0]) (M1 := M) rfl ?_
    refine mv_callPW (st2 := [mv_R 75]) rfl (Or.inl rfl) rfl rfl rfl (sp_sheetAt_2) (by first | decide | omega) ?_
    refine mv_goW 6 (pc' := if b < (-1) then 22 else 17) (ls' := [mv_R 0, mv_I 2, mv_I b, mv_I m, mv_R 75]) (st' := []) (M1 := M) rfl ?_
    refine mv_spW (fun ha77 => ?_) (fun ha77 => ?_)
    · refine mv_goW 1 (pc' := 24) (ls' := [mv_R 0, mv_I 2, mv_I b, mv_I m, mv_R 75]) (st' := [mv_I (-2)]) (M1 := M) rfl ?_
      refine mv_retW (fun n => rfl) ⟨_, rfl, ?_⟩
      refine mv_goW 3 (pc' := 3) (ls' := [mv_R 100, mv_I 2, mv_I b, mv_I m, mv_U]) (st' := [mv_I 3, mv_I 0, mv_I 2]) (M1 := M) rfl ?_
      have ha78 : (0 : Int) ≤ (2 : Int) ∧ (2 : Int) ≤ (3 : Int) := by omega
      refine mv_callPW (st2 := [mv_I 1]) rfl (Or.inr rfl) rfl rfl rfl (sp_min_t ha78) (by first | decide | omega) ?_
      refine mv_goW 1 (pc' := if 1 = 0 then 29 else 9) (ls' := [mv_R 100, mv_I 2, mv_I b, mv_I m, mv_U]) (st' := []) (M1 := M) rfl ?_
      refine mv_ffW (by decide) ?_
      refine mv_goW 3 (pc' := 12) (ls' := [mv_R 100, mv_I 2, mv_I b, mv_I m, mv_U]) (st' := [mv_I 2, mv_I (-1), mv_I b]) (M1 := M) rfl ?_
      have ha79 : ¬ (((-1) : Int) ≤ b ∧ b ≤ (2 : Int)) := by omega
      refine mv_callPW (st2 := [mv_I 0]) rfl (Or.inr rfl) rfl rfl rfl (sp_min_f ha79) (by first | decide | omega) ?_
      refine mv_goW 1 (pc' := if 0 = 0 then 29 else 18) (ls' := [mv_R 100, mv_I 2, mv_I b, mv_I m, mv_U]) (st' := []) (M1 := M) rfl ?_
      refine mv_ttW (by decide) ?_
      refine mv_goW 1 (pc' := 31) (ls' := [mv_R 100, mv_I 2, mv_I b, mv_I m, mv_U]) (st' := [mv_I (-2)]) (M1 := M) rfl ?_
      exact mv_retW (fun n => rfl) ⟨congrArg mv_I (by first | with_reducible rfl | omega), hI⟩
    · refine mv_goW 3 (pc' := if 2 < b then 22 else 25) (ls' := [mv_R 0, mv_I 2, mv_I b, mv_I m, mv_R 75]) (st' := []) (M1 := M) rfl ?_
      refine mv_spW (fun ha80 => ?_) (fun ha80 => ?_)
      · refine mv_goW 1 (pc' := 24) (ls' := [mv_R 0, mv_I 2, mv_I b, mv_I m, mv_R 75]) (st' := [mv_I (-2)]) (M1 := M) rfl ?_
        refine mv_retW (fun n => rfl) ⟨_, rfl, ?_⟩
        refine mv_goW 3 (pc' := 3) (ls' := [mv_R 100, mv_I 2, mv_I b, mv_I m, mv_U]) (st' := [mv_I 3, mv_I 0, mv_I 2]) (M1 := M) rfl ?_
        have ha81 : (0 : Int) ≤ (2 : Int) ∧ (2 : Int) ≤ (3 : Int) := by omega
        refine mv_callPW (st2 := [mv_I 1]) rfl (Or.inr rfl) rfl rfl rfl (sp_min_t ha81) (by first | decide | omega) ?_
        refine mv_goW 1 (pc' := if 1 = 0 then 29 else 9) (ls' := [mv_R 100, mv_I 2, mv_I b, mv_I m, mv_U]) (st' := []) (M1 := M) rfl ?_
        refine mv_ffW (by decide) ?_
        refine mv_goW 3 (pc' := 12) (ls' := [mv_R 100, mv_I 2, mv_I b, mv_I m, mv_U]) (st' := [mv_I 2, mv_I (-1), mv_I b]) (M1 := M) rfl ?_
        have ha82 : ¬ (((-1) : Int) ≤ b ∧ b ≤ (2 : Int)) := by omega
        refine mv_callPW (st2 := [mv_I 0]) rfl (Or.inr rfl) rfl rfl rfl (sp_min_f ha82) (by first | decide | omega) ?_
        refine mv_goW 1 (pc' := if 0 = 0 then 29 else 18) (ls' := [mv_R 100, mv_I 2, mv_I b, mv_I m, mv_U]) (st' := []) (M1 := M) rfl ?_
        refine mv_ttW (by decide) ?_
        refine mv_goW 1 (pc' := 31) (ls' := [mv_R 100, mv_I 2, mv_I b, mv_I m, mv_U]) (st' := [mv_I (-2)]) (M1 := M) rfl ?_
        exact mv_retW (fun n => rfl) ⟨congrArg mv_I (by first | with_reducible rfl | omega), hI⟩
      · refine mv_goW 3 (pc' := if b = (-1) then 30 else 39) (ls' := [mv_R 0, mv_I 2, mv_I b, mv_I m, mv_R 75]) (st' := []) (M1 := M) rfl ?_
        refine mv_ffW (by omega) ?_
        refine mv_goW 3 (pc' := if 40 < m then 45 else 48) (ls' := [mv_R 0, mv_I 2, mv_I b, mv_I m, mv_R 75]) (st' := []) (M1 := M) rfl ?_
        refine mv_spW (fun ha83 => ?_) (fun ha83 => ?_)
        · refine mv_goW 1 (pc' := 47) (ls' := [mv_R 0, mv_I 2, mv_I b, mv_I m, mv_R 75]) (st' := [mv_I (-2)]) (M1 := M) rfl ?_
          refine mv_retW (fun n => rfl) ⟨_, rfl, ?_⟩
          refine mv_goW 3 (pc' := 3) (ls' := [mv_R 100, mv_I 2, mv_I b, mv_I m, mv_U]) (st' := [mv_I 3, mv_I 0, mv_I 2]) (M1 := M) rfl ?_
          have ha84 : (0 : Int) ≤ (2 : Int) ∧ (2 : Int) ≤ (3 : Int) := by omega
          refine mv_callPW (st2 := [mv_I 1]) rfl (Or.inr rfl) rfl rfl rfl (sp_min_t ha84) (by first | decide | omega) ?_
          refine mv_goW 1 (pc' := if 1 = 0 then 29 else 9) (ls' := [mv_R 100, mv_I 2, mv_I b, mv_I m, mv_U]) (st' := []) (M1 := M) rfl ?_
          refine mv_ffW (by decide) ?_
          refine mv_goW 3 (pc' := 12) (ls' := [mv_R 100, mv_I 2, mv_I b, mv_I m, mv_U]) (st' := [mv_I 2, mv_I (-1), mv_I b]) (M1 := M) rfl ?_
          have ha85 : ((-1) : Int) ≤ b ∧ b ≤ (2 : Int) := by omega
          refine mv_callPW (st2 := [mv_I 1]) rfl (Or.inr rfl) rfl rfl rfl (sp_min_t ha85) (by first | decide | omega) ?_
          refine mv_goW 1 (pc' := if 1 = 0 then 29 else 18) (ls' := [mv_R 100, mv_I 2, mv_I b, mv_I m, mv_U]) (st' := []) (M1 := M) rfl ?_
          refine mv_ffW (by decide) ?_
          refine mv_goW 3 (pc' := if b = (-1) then 32 else 23) (ls' := [mv_R 100, mv_I 2, mv_I b, mv_I m, mv_U]) (st' := []) (M1 := M) rfl ?_
          refine mv_ffW (by omega) ?_
          refine mv_goW 3 (pc' := if 40 < m then 29 else 32) (ls' := [mv_R 100, mv_I 2, mv_I b, mv_I m, mv_U]) (st' := []) (M1 := M) rfl ?_
          refine mv_ttW (by omega) ?_
          refine mv_goW 1 (pc' := 31) (ls' := [mv_R 100, mv_I 2, mv_I b, mv_I m, mv_U]) (st' := [mv_I (-2)]) (M1 := M) rfl ?_
          exact mv_retW (fun n => rfl) ⟨congrArg mv_I (by first | with_reducible rfl | omega), hI⟩
        · refine mv_goW 2 (pc' := if m < 0 then 52 else 55) (ls' := [mv_R 0, mv_I 2, mv_I b, mv_I m, mv_R 75]) (st' := []) (M1 := M) rfl ?_
          refine mv_spW (fun ha86 => ?_) (fun ha86 => ?_)
          · refine mv_goW 1 (pc' := 54) (ls' := [mv_R 0, mv_I 2, mv_I b, mv_I m, mv_R 75]) (st' := [mv_I (-14)]) (M1 := M) rfl ?_
            refine mv_retW (fun n => rfl) ⟨_, rfl, ?_⟩
            refine mv_goW 3 (pc' := 3) (ls' := [mv_R 100, mv_I 2, mv_I b, mv_I m, mv_U]) (st' := [mv_I 3, mv_I 0, mv_I 2]) (M1 := M) rfl ?_
            have ha87 : (0 : Int) ≤ (2 : Int) ∧ (2 : Int) ≤ (3 : Int) := by omega
            refine mv_callPW (st2 := [mv_I 1]) rfl (Or.inr rfl) rfl rfl rfl (sp_min_t ha87) (by first | decide | omega) ?_
            refine mv_goW 1 (pc' := if 1 = 0 then 29 else 9) (ls' := [mv_R 100, mv_I 2, mv_I b, mv_I m, mv_U]) (st' := []) (M1 := M) rfl ?_
            refine mv_ffW (by decide) ?_
            refine mv_goW 3 (pc' := 12) (ls' := [mv_R 100, mv_I 2, mv_I b, mv_I m, mv_U]) (st' := [mv_I 2, mv_I (-1), mv_I b]) (M1 := M) rfl ?_
            have ha88 : ((-1) : Int) ≤ b ∧ b ≤ (2 : Int) := by omega
            refine mv_callPW (st2 := [mv_I 1]) rfl (Or.inr rfl) rfl rfl rfl (sp_min_t ha88) (by first | decide | omega) ?_
            refine mv_goW 1 (pc' := if 1 = 0 then 29 else 18) (ls' := [mv_R 100, mv_I 2, mv_I b, mv_I m, mv_U]) (st' := []) (M1 := M) rfl ?_
            refine mv_ffW (by decide) ?_
            refine mv_goW 3 (pc' := if b = (-1) then 32 else 23) (ls' := [mv_R 100, mv_I 2, mv_I b, mv_I m, mv_U]) (st' := []) (M1 := M) rfl ?_
            refine mv_ffW (by omega) ?_
            refine mv_goW 3 (pc' := if 40 < m then 29 else 32) (ls' := [mv_R 100, mv_I 2, mv_I b, mv_I m, mv_U]) (st' := []) (M1 := M) rfl ?_
            refine mv_ffW (by omega) ?_
            refine mv_goW 3 (pc' := if b = (-1) then 44 else 37) (ls' := [mv_R 100, mv_I 2, mv_I b, mv_I m, mv_U]) (st' := []) (M1 := M) rfl ?_
            refine mv_ffW (by omega) ?_
            refine mv_goW 2 (pc' := if m < 0 then 41 else 44) (ls' := [mv_R 100, mv_I 2, mv_I b, mv_I m, mv_U]) (st' := []) (M1 := M) rfl ?_
            refine mv_ttW (by omega) ?_
            refine mv_goW 1 (pc' := 43) (ls' := [mv_R 100, mv_I 2, mv_I b, mv_I m, mv_U]) (st' := [mv_I (-14)]) (M1 := M) rfl ?_
            exact mv_retW (fun n => rfl) ⟨congrArg mv_I (by first | with_reducible rfl | omega), hI⟩
          · refine mv_goW 3 (pc' := 59) (ls' := [mv_R 0, mv_I 2, mv_I b, mv_I m, mv_R 75]) (st' := [mv_I m, mv_I b, mv_R 75]) (M1 := M) rfl ?_
            refine mv_callW (st2 := []) rfl (Or.inl rfl) rfl rfl rfl (sp_shb_2) (by first | decide | omega) (fun Ma89 hm90 => ?_)
            have hx := hm90
            refine mv_goW 1 (pc' := 63) (ls' := [mv_R 0, mv_I 2, mv_I b, mv_I m, mv_R 75]) (st' := [mv_I 1]) (M1 := Ma89) rfl ?_
            refine mv_retW (fun n => rfl) ⟨_, rfl, ?_⟩
            refine mv_goW 3 (pc' := 3) (ls' := [mv_R 100, mv_I 2, mv_I b, mv_I m, mv_U]) (st' := [mv_I 3, mv_I 0, mv_I 2]) (M1 := Ma89) rfl ?_
            have ha91 : (0 : Int) ≤ (2 : Int) ∧ (2 : Int) ≤ (3 : Int) := by omega
            refine mv_callPW (st2 := [mv_I 1]) rfl (Or.inr rfl) rfl rfl rfl (sp_min_t ha91) (by first | decide | omega) ?_
            refine mv_goW 1 (pc' := if 1 = 0 then 29 else 9) (ls' := [mv_R 100, mv_I 2, mv_I b, mv_I m, mv_U]) (st' := []) (M1 := Ma89) rfl ?_
            refine mv_ffW (by decide) ?_
            refine mv_goW 3 (pc' := 12) (ls' := [mv_R 100, mv_I 2, mv_I b, mv_I m, mv_U]) (st' := [mv_I 2, mv_I (-1), mv_I b]) (M1 := Ma89) rfl ?_
            have ha92 : ((-1) : Int) ≤ b ∧ b ≤ (2 : Int) := by omega
            refine mv_callPW (st2 := [mv_I 1]) rfl (Or.inr rfl) rfl rfl rfl (sp_min_t ha92) (by first | decide | omega) ?_
            refine mv_goW 1 (pc' := if 1 = 0 then 29 else 18) (ls' := [mv_R 100, mv_I 2, mv_I b, mv_I m, mv_U]) (st' := []) (M1 := Ma89) rfl ?_
            refine mv_ffW (by decide) ?_
            refine mv_goW 3 (pc' := if b = (-1) then 32 else 23) (ls' := [mv_R 100, mv_I 2, mv_I b, mv_I m, mv_U]) (st' := []) (M1 := Ma89) rfl ?_
            refine mv_ffW (by omega) ?_
            refine mv_goW 3 (pc' := if 40 < m then 29 else 32) (ls' := [mv_R 100, mv_I 2, mv_I b, mv_I m, mv_U]) (st' := []) (M1 := Ma89) rfl ?_
            refine mv_ffW (by omega) ?_
            refine mv_goW 3 (pc' := if b = (-1) then 44 else 37) (ls' := [mv_R 100, mv_I 2, mv_I b, mv_I m, mv_U]) (st' := []) (M1 := Ma89) rfl ?_
            refine mv_ffW (by omega) ?_
            refine mv_goW 2 (pc' := if m < 0 then 41 else 44) (ls' := [mv_R 100, mv_I 2, mv_I b, mv_I m, mv_U]) (st' := []) (M1 := Ma89) rfl ?_
            refine mv_ffW (by omega) ?_
            refine mv_goW 5 (pc' := if 0 ≤ 2 ∧ 2 < 4 then 51 else mv_bad) (ls' := [mv_R 100, mv_I 2, mv_I b, mv_I m, mv_U]) (st' := []) (M1 := (mv_st Ma89 117 (mv_up (Ma89 117) 2 b))) rfl ?_
            refine mv_ttW (by omega) ?_
            refine mv_goW 6 (pc' := if b = (-1) then 61 else 65) (ls' := [mv_R 100, mv_I 2, mv_I b, mv_I m, mv_U]) (st' := [mv_I 2, mv_R 118]) (M1 := (mv_st Ma89 117 (mv_up (Ma89 117) 2 b))) rfl ?_
            refine mv_ffW (by omega) ?_
            refine mv_goW 2 (pc' := if 0 ≤ 2 ∧ 2 < 4 then 67 else mv_bad) (ls' := [mv_R 100, mv_I 2, mv_I b, mv_I m, mv_U]) (st' := []) (M1 := (mv_st (mv_st Ma89 117 (mv_up (Ma89 117) 2 b)) 118 (mv_up (Ma89 118) 2 m))) rfl ?_
            refine mv_ttW (by omega) ?_
            refine mv_goW 2 (pc' := 70) (ls' := [mv_R 100, mv_I 2, mv_I b, mv_I m, mv_I 0]) (st' := []) (M1 := (mv_st (mv_st Ma89 117 (mv_up (Ma89 117) 2 b)) 118 (mv_up (Ma89 118) 2 m))) rfl ?_
            refine sp_msh_lp_2 40 0 _ (by omega) (fun j hj => absurd hj (by omega)) (fun M2 hy1 hy2 hy3 => ?_)
            refine mv_goW 1 (pc' := 97) (ls' := [mv_R 100, mv_I 2, mv_I b, mv_I m, mv_I 40]) (st' := [mv_I 1]) (M1 := M2) rfl ?_
            exact mv_retW (fun n => rfl) ⟨congrArg mv_I (by first | with_reducible rfl | omega), sp_sh_k31 (S := 2) (by decide) h hx hy1 hy2 hy3 (by omega) (by omega)⟩
theorem sp_k32_2 (a v : Int) : sp_call 93 188 [mv_I 2, mv_I a, mv_I v] [mv_I 2, mv_I a, mv_I v] := by
  refine sp_mkW (lc := [mv_R 0, mv_I 2, mv_I a, mv_I v, mv_U]) (lm := [mv_R 100, mv_I 2, mv_I a, mv_I v]) rfl rfl (fun M hI => ?_)
  have hI2 := hI
  obtain ⟨V, P, n, B, K, t, h⟩ := hI2
  obtain ⟨so, sz, ⟨hs1, hs2, so0, so1⟩, ⟨hz1, hz2, sz0, sz1⟩, _⟩ := sp_sh_get h 2 (by decide)
  have hs1 : M 75 1 = so := hs1
  have hz1 : M 75 2 = sz := hz1
  by_cases h0 : 0 ≤ a
  · obtain ⟨i, rfl⟩ : ∃ c : Nat, a = (c : Int) := ⟨a.toNat, by omega⟩
    refine mv_goW 2 (pc' := 2) (ls' := [mv_R 0, mv_I 2, mv_I (i : Int), mv_I v, mv_U]) (st' := [mv_I 2, mv_R 0]) (M1 := M) rfl ?_
    refine mv_callPW (st2 := [mv_R 75]) rfl (Or.inl rfl) rfl rfl rfl (sp_sheetAt_2) (by first | decide | omega) ?_
    refine mv_goW 4 (pc' := 17) (ls' := [mv_R 0, mv_I 2, mv_I (i : Int), mv_I v, mv_R 75]) (st' := [mv_R 75]) (M1 := M) rfl ?_
    by_cases ha93 : so = -1
    · refine mv_callPW (st2 := [mv_I 1]) rfl (Or.inl rfl) rfl rfl rfl (sp_isMiss_2_t (hs1.trans ha93)) (by first | decide | omega) ?_
      refine mv_goW 1 (pc' := if 1 = 0 then 26 else 23) (ls' := [mv_R 0, mv_I 2, mv_I (i : Int), mv_I v, mv_R 75]) (st' := []) (M1 := M) rfl ?_
      refine mv_ffW (by decide) ?_
      refine mv_goW 1 (pc' := 25) (ls' := [mv_R 0, mv_I 2, mv_I (i : Int), mv_I v, mv_R 75]) (st' := [mv_I (-11)]) (M1 := M) rfl ?_
      refine mv_retW (fun n => rfl) ⟨_, rfl, ?_⟩
      refine mv_goW 3 (pc' := 3) (ls' := [mv_R 100, mv_I 2, mv_I (i : Int), mv_I v]) (st' := [mv_I 3, mv_I 0, mv_I 2]) (M1 := M) rfl ?_
      have ha94 : (0 : Int) ≤ (2 : Int) ∧ (2 : Int) ≤ (3 : Int) := by omega
      refine mv_callPW (st2 := [mv_I 1]) rfl (Or.inr rfl) rfl rfl rfl (sp_min_t ha94) (by first | decide | omega) ?_
      refine mv_goW 1 (pc' := if 1 = 0 then 9 else 12) (ls' := [mv_R 100, mv_I 2, mv_I (i : Int), mv_I v]) (st' := []) (M1 := M) rfl ?_
      refine mv_ffW (by decide) ?_
      refine mv_goW 4 (pc' := if 0 ≤ 2 ∧ 2 < 4 then 18 else mv_bad) (ls' := [mv_R 100, mv_I 2, mv_I (i : Int), mv_I v]) (st' := [mv_I (M 117 2)]) (M1 := M) rfl ?_
      refine mv_ttW (by omega) ?_
      rw [show M 117 2 = so from by exact hs2]
      refine mv_goW 2 (pc' := if so = (-1) then 22 else 25) (ls' := [mv_R 100, mv_I 2, mv_I (i : Int), mv_I v]) (st' := []) (M1 := M) rfl ?_
      refine mv_ttW (by omega) ?_
      refine mv_goW 1 (pc' := 24) (ls' := [mv_R 100, mv_I 2, mv_I (i : Int), mv_I v]) (st' := [mv_I (-11)]) (M1 := M) rfl ?_
      exact mv_retW (fun n => rfl) ⟨congrArg mv_I (by first | with_reducible rfl | omega), hI⟩
    · refine mv_callPW (st2 := [mv_I 0]) rfl (Or.inl rfl) rfl rfl rfl (sp_isMiss_2_f (fun q => ha93 (hs1.symm.trans q))) (by first | decide | omega) ?_
      refine mv_goW 1 (pc' := if 0 = 0 then 26 else 23) (ls' := [mv_R 0, mv_I 2, mv_I (i : Int), mv_I v, mv_R 75]) (st' := []) (M1 := M) rfl ?_
      refine mv_ttW (by decide) ?_
      refine mv_goW 3 (pc' := 30) (ls' := [mv_R 0, mv_I 2, mv_I (i : Int), mv_I v, mv_R 75]) (st' := [mv_I 1, mv_I (i : Int), mv_R 75]) (M1 := M) rfl ?_
      by_cases ha95 : 0 ≤ (1 : Int) ∧ (1 : Int) ≤ sz ∧ 0 ≤ (i : Int) ∧ (i : Int) ≤ sz - (1 : Int)
      · refine mv_callPW (st2 := [mv_I 1]) rfl (Or.inl rfl) rfl rfl rfl (sp_hasRun_2_t hz1 (by omega) (by omega) ha95) (by first | decide | omega) ?_
        refine mv_goW 1 (pc' := if 1 = 0 then 36 else 39) (ls' := [mv_R 0, mv_I 2, mv_I (i : Int), mv_I v, mv_R 75]) (st' := []) (M1 := M) rfl ?_
        refine mv_ffW (by decide) ?_
        refine mv_goW 3 (pc' := 43) (ls' := [mv_R 0, mv_I 2, mv_I (i : Int), mv_I v, mv_R 75]) (st' := [mv_I v, mv_I (i : Int), mv_R 75]) (M1 := M) rfl ?_
        refine mv_callW (st2 := []) rfl (Or.inl rfl) rfl rfl rfl (sp_write_2 (i := i) hs1 (by omega)) (by first | decide | omega) (fun Ma96 hm97 => ?_)
        have hx := hm97
        have hsa : Ma96 117 2 = so := by rw [hx]; exact hs2
        have hza : Ma96 118 2 = sz := by rw [hx]; exact hz2
        refine mv_goW 1 (pc' := 47) (ls' := [mv_R 0, mv_I 2, mv_I (i : Int), mv_I v, mv_R 75]) (st' := [mv_I 1]) (M1 := Ma96) rfl ?_
        refine mv_retW (fun n => rfl) ⟨_, rfl, ?_⟩
        refine mv_goW 3 (pc' := 3) (ls' := [mv_R 100, mv_I 2, mv_I (i : Int), mv_I v]) (st' := [mv_I 3, mv_I 0, mv_I 2]) (M1 := Ma96) rfl ?_
        have ha98 : (0 : Int) ≤ (2 : Int) ∧ (2 : Int) ≤ (3 : Int) := by omega
        refine mv_callPW (st2 := [mv_I 1]) rfl (Or.inr rfl) rfl rfl rfl (sp_min_t ha98) (by first | decide | omega) ?_
        refine mv_goW 1 (pc' := if 1 = 0 then 9 else 12) (ls' := [mv_R 100, mv_I 2, mv_I (i : Int), mv_I v]) (st' := []) (M1 := Ma96) rfl ?_
        refine mv_ffW (by decide) ?_
        refine mv_goW 4 (pc' := if 0 ≤ 2 ∧ 2 < 4 then 18 else mv_bad) (ls' := [mv_R 100, mv_I 2, mv_I (i : Int), mv_I v]) (st' := [mv_I (Ma96 117 2)]) (M1 := Ma96) rfl ?_
        refine mv_ttW (by omega) ?_
        rw [show Ma96 117 2 = so from by exact hsa]
        refine mv_goW 2 (pc' := if so = (-1) then 22 else 25) (ls' := [mv_R 100, mv_I 2, mv_I (i : Int), mv_I v]) (st' := []) (M1 := Ma96) rfl ?_
        refine mv_ffW (by omega) ?_
        refine mv_goW 6 (pc' := if 0 ≤ 2 ∧ 2 < 4 then 33 else mv_bad) (ls' := [mv_R 100, mv_I 2, mv_I (i : Int), mv_I v]) (st' := [mv_I (Ma96 118 2), mv_I 0, mv_I (i : Int)]) (M1 := Ma96) rfl ?_
        refine mv_ttW (by omega) ?_
        rw [show Ma96 118 2 = sz from by exact hza]
        refine mv_goW 2 (pc' := 35) (ls' := [mv_R 100, mv_I 2, mv_I (i : Int), mv_I v]) (st' := [mv_I (mv_w (sz - 1)), mv_I 0, mv_I (i : Int)]) (M1 := Ma96) rfl ?_
        rw [show mv_w (sz - 1) = sz - 1 from mv_w_id (by omega) (by omega)]
        have ha99 : (0 : Int) ≤ (i : Int) ∧ (i : Int) ≤ (sz - 1) := by omega
        refine mv_callPW (st2 := [mv_I 1]) rfl (Or.inr rfl) rfl rfl rfl (sp_min_t ha99) (by first | decide | omega) ?_
        refine mv_goW 1 (pc' := if 1 = 0 then 41 else 44) (ls' := [mv_R 100, mv_I 2, mv_I (i : Int), mv_I v]) (st' := []) (M1 := Ma96) rfl ?_
        refine mv_ffW (by decide) ?_
        refine mv_goW 11 (pc' := if 0 ≤ 2 ∧ 2 < 4 then 60 else mv_bad) (ls' := [mv_R 100, mv_I 2, mv_I (i : Int), mv_I v]) (st' := [mv_I (Ma96 117 2), mv_I (mv_w ((mv_w (40 * 2)) + (i : Int))), mv_R 119]) (M1 := Ma96) rfl ?_
        refine mv_ttW (by omega) ?_
        rw [show Ma96 117 2 = so from by exact hsa]
        refine mv_goW 1 (pc' := if so = 0 then 63 else 68) (ls' := [mv_R 100, mv_I 2, mv_I (i : Int), mv_I v]) (st' := [mv_I (mv_w ((mv_w (40 * 2)) + (i : Int))), mv_R 119]) (M1 := Ma96) rfl ?_
        rw [show mv_w (40 * 2) = 40 * 2 from mv_w_id (by omega) (by omega)]
        rw [show mv_w ((40 * 2) + (i : Int)) = (40 * 2) + (i : Int) from mv_w_id (by omega) (by omega)]
        rw [show (40 * 2) + (i : Int) = ((i + 80 : Nat) : Int) from by omega]
        refine mv_spW (fun ha100 => ?_) (fun ha100 => ?_)
        · refine mv_goW 4 (pc' := if 0 ≤ ((i + 80 : Nat) : Int) ∧ ((i + 80 : Nat) : Int) < 160 then 85 else mv_bad) (ls' := [mv_R 100, mv_I 2, mv_I (i : Int), mv_I v]) (st' := []) (M1 := (mv_st Ma96 119 (mv_up (Ma96 119) (i + 80) (mv_i2b v)))) rfl ?_
          refine mv_ttW (by omega) ?_
          refine mv_goW 1 (pc' := 86) (ls' := [mv_R 100, mv_I 2, mv_I (i : Int), mv_I v]) (st' := [mv_I 1]) (M1 := (mv_st Ma96 119 (mv_up (Ma96 119) (i + 80) (mv_i2b v)))) rfl ?_
          exact mv_retW (fun n => rfl) ⟨congrArg mv_I (by first | with_reducible rfl | omega), sp_sh_cell (S := 2) (so := so) (v := v) (i := i) (by decide) h (by omega) (by unfold sp_cut; split <;> (try split) <;> omega) hx (by omega)⟩
        · refine mv_goW 4 (pc' := if 0 ≤ 2 ∧ 2 < 4 then 74 else mv_bad) (ls' := [mv_R 100, mv_I 2, mv_I (i : Int), mv_I v]) (st' := [mv_I (Ma96 117 2), mv_I ((i + 80 : Nat) : Int), mv_R 119]) (M1 := Ma96) rfl ?_
          refine mv_ttW (by omega) ?_
          rw [show Ma96 117 2 = so from by exact hsa]
          refine mv_goW 2 (pc' := if so = 1 then 78 else 83) (ls' := [mv_R 100, mv_I 2, mv_I (i : Int), mv_I v]) (st' := [mv_I ((i + 80 : Nat) : Int), mv_R 119]) (M1 := Ma96) rfl ?_
          refine mv_spW (fun ha101 => ?_) (fun ha101 => ?_)
          · refine mv_goW 4 (pc' := if 0 ≤ ((i + 80 : Nat) : Int) ∧ ((i + 80 : Nat) : Int) < 160 then 85 else mv_bad) (ls' := [mv_R 100, mv_I 2, mv_I (i : Int), mv_I v]) (st' := []) (M1 := (mv_st Ma96 119 (mv_up (Ma96 119) (i + 80) (mv_i2s v)))) rfl ?_
            refine mv_ttW (by omega) ?_
            refine mv_goW 1 (pc' := 86) (ls' := [mv_R 100, mv_I 2, mv_I (i : Int), mv_I v]) (st' := [mv_I 1]) (M1 := (mv_st Ma96 119 (mv_up (Ma96 119) (i + 80) (mv_i2s v)))) rfl ?_
            exact mv_retW (fun n => rfl) ⟨congrArg mv_I (by first | with_reducible rfl | omega), sp_sh_cell (S := 2) (so := so) (v := v) (i := i) (by decide) h (by omega) (by unfold sp_cut; split <;> (try split) <;> omega) hx (by omega)⟩
          · refine mv_goW 2 (pc' := if 0 ≤ ((i + 80 : Nat) : Int) ∧ ((i + 80 : Nat) : Int) < 160 then 85 else mv_bad) (ls' := [mv_R 100, mv_I 2, mv_I (i : Int), mv_I v]) (st' := []) (M1 := (mv_st Ma96 119 (mv_up (Ma96 119) (i + 80) v))) rfl ?_
            refine mv_ttW (by omega) ?_
            refine mv_goW 1 (pc' := 86) (ls' := [mv_R 100, mv_I 2, mv_I (i : Int), mv_I v]) (st' := [mv_I 1]) (M1 := (mv_st Ma96 119 (mv_up (Ma96 119) (i + 80) v))) rfl ?_
            exact mv_retW (fun n => rfl) ⟨congrArg mv_I (by first | with_reducible rfl | omega), sp_sh_cell (S := 2) (so := so) (v := v) (i := i) (by decide) h (by omega) (by unfold sp_cut; split <;> (try split) <;> omega) hx (by omega)⟩
      · refine mv_callPW (st2 := [mv_I 0]) rfl (Or.inl rfl) rfl rfl rfl (sp_hasRun_2_f hz1 (by omega) (by omega) ha95) (by first | decide | omega) ?_
        refine mv_goW 1 (pc' := if 0 = 0 then 36 else 39) (ls' := [mv_R 0, mv_I 2, mv_I (i : Int), mv_I v, mv_R 75]) (st' := []) (M1 := M) rfl ?_
        refine mv_ttW (by decide) ?_
        refine mv_goW 1 (pc' := 38) (ls' := [mv_R 0, mv_I 2, mv_I (i : Int), mv_I v, mv_R 75]) (st' := [mv_I (-12)]) (M1 := M) rfl ?_
        refine mv_retW (fun n => rfl) ⟨_, rfl, ?_⟩
        refine mv_goW 3 (pc' := 3) (ls' := [mv_R 100, mv_I 2, mv_I (i : Int), mv_I v]) (st' := [mv_I 3, mv_I 0, mv_I 2]) (M1 := M) rfl ?_
        have ha102 : (0 : Int) ≤ (2 : Int) ∧ (2 : Int) ≤ (3 : Int) := by omega
        refine mv_callPW (st2 := [mv_I 1]) rfl (Or.inr rfl) rfl rfl rfl (sp_min_t ha102) (by first | decide | omega) ?_
        refine mv_goW 1 (pc' := if 1 = 0 then 9 else 12) (ls' := [mv_R 100, mv_I 2, mv_I (i : Int), mv_I v]) (st' := []) (M1 := M) rfl ?_
        refine mv_ffW (by decide) ?_
        refine mv_goW 4 (pc' := if 0 ≤ 2 ∧ 2 < 4 then 18 else mv_bad) (ls' := [mv_R 100, mv_I 2, mv_I (i : Int), mv_I v]) (st' := [mv_I (M 117 2)]) (M1 := M) rfl ?_
        refine mv_ttW (by omega) ?_
        rw [show M 117 2 = so from by exact hs2]
        refine mv_goW 2 (pc' := if so = (-1) then 22 else 25) (ls' := [mv_R 100, mv_I 2, mv_I (i : Int), mv_I v]) (st' := []) (M1 := M) rfl ?_
        refine mv_ffW (by omega) ?_
        refine mv_goW 6 (pc' := if 0 ≤ 2 ∧ 2 < 4 then 33 else mv_bad) (ls' := [mv_R 100, mv_I 2, mv_I (i : Int), mv_I v]) (st' := [mv_I (M 118 2), mv_I 0, mv_I (i : Int)]) (M1 := M) rfl ?_
        refine mv_ttW (by omega) ?_
        rw [show M 118 2 = sz from by exact hz2]
        refine mv_goW 2 (pc' := 35) (ls' := [mv_R 100, mv_I 2, mv_I (i : Int), mv_I v]) (st' := [mv_I (mv_w (sz - 1)), mv_I 0, mv_I (i : Int)]) (M1 := M) rfl ?_
        rw [show mv_w (sz - 1) = sz - 1 from mv_w_id (by omega) (by omega)]
        have ha103 : ¬ ((0 : Int) ≤ (i : Int) ∧ (i : Int) ≤ (sz - 1)) := by omega
        refine mv_callPW (st2 := [mv_I 0]) rfl (Or.inr rfl) rfl rfl rfl (sp_min_f ha103) (by first | decide | omega) ?_
        refine mv_goW 1 (pc' := if 0 = 0 then 41 else 44) (ls' := [mv_R 100, mv_I 2, mv_I (i : Int), mv_I v]) (st' := []) (M1 := M) rfl ?_
        refine mv_ttW (by decide) ?_
        refine mv_goW 1 (pc' := 43) (ls' := [mv_R 100, mv_I 2, mv_I (i : Int), mv_I v]) (st' := [mv_I (-12)]) (M1 := M) rfl ?_
        exact mv_retW (fun n => rfl) ⟨congrArg mv_I (by first | with_reducible rfl | omega), hI⟩
  · refine mv_goW 2 (pc' := 2) (ls' := [mv_R 0, mv_I 2, mv_I a, mv_I v, mv_U]) (st' := [mv_I 2, mv_R 0]) (M1 := M) rfl ?_
    refine mv_callPW (st2 := [mv_R 75]) rfl (Or.inl rfl) rfl rfl rfl (sp_sheetAt_2) (by first | decide | omega) ?_
    refine mv_goW 4 (pc' := 17) (ls' := [mv_R 0, mv_I 2, mv_I a, mv_I v, mv_R 75]) (st' := [mv_R 75]) (M1 := M) rfl ?_
    by_cases ha104 : so = -1
    · refine mv_callPW (st2 := [mv_I 1]) rfl (Or.inl rfl) rfl rfl rfl (sp_isMiss_2_t (hs1.trans ha104)) (by first | decide | omega) ?_
      refine mv_goW 1 (pc' := if 1 = 0 then 26 else 23) (ls' := [mv_R 0, mv_I 2, mv_I a, mv_I v, mv_R 75]) (st' := []) (M1 := M) rfl ?_
      refine mv_ffW (by decide) ?_
      refine mv_goW 1 (pc' := 25) (ls' := [mv_R 0, mv_I 2, mv_I a, mv_I v, mv_R 75]) (st' := [mv_I (-11)]) (M1 := M) rfl ?_
      refine mv_retW (fun n => rfl) ⟨_, rfl, ?_⟩
      refine mv_goW 3 (pc' := 3) (ls' := [mv_R 100, mv_I 2, mv_I a, mv_I v]) (st' := [mv_I 3, mv_I 0, mv_I 2]) (M1 := M) rfl ?_
      have ha105 : (0 : Int) ≤ (2 : Int) ∧ (2 : Int) ≤ (3 : Int) := by omega
      refine mv_callPW (st2 := [mv_I 1]) rfl (Or.inr rfl) rfl rfl rfl (sp_min_t ha105) (by first | decide | omega) ?_
      refine mv_goW 1 (pc' := if 1 = 0 then 9 else 12) (ls' := [mv_R 100, mv_I 2, mv_I a, mv_I v]) (st' := []) (M1 := M) rfl ?_
      refine mv_ffW (by decide) ?_
      refine mv_goW 4 (pc' := if 0 ≤ 2 ∧ 2 < 4 then 18 else mv_bad) (ls' := [mv_R 100, mv_I 2, mv_I a, mv_I v]) (st' := [mv_I (M 117 2)]) (M1 := M) rfl ?_
      refine mv_ttW (by omega) ?_
      rw [show M 117 2 = so from by exact hs2]
      refine mv_goW 2 (pc' := if so = (-1) then 22 else 25) (ls' := [mv_R 100, mv_I 2, mv_I a, mv_I v]) (st' := []) (M1 := M) rfl ?_
      refine mv_ttW (by omega) ?_
      refine mv_goW 1 (pc' := 24) (ls' := [mv_R 100, mv_I 2, mv_I a, mv_I v]) (st' := [mv_I (-11)]) (M1 := M) rfl ?_
      exact mv_retW (fun n => rfl) ⟨congrArg mv_I (by first | with_reducible rfl | omega), hI⟩
    · refine mv_callPW (st2 := [mv_I 0]) rfl (Or.inl rfl) rfl rfl rfl (sp_isMiss_2_f (fun q => ha104 (hs1.symm.trans q))) (by first | decide | omega) ?_
      refine mv_goW 1 (pc' := if 0 = 0 then 26 else 23) (ls' := [mv_R 0, mv_I 2, mv_I a, mv_I v, mv_R 75]) (st' := []) (M1 := M) rfl ?_
      refine mv_ttW (by decide) ?_
      refine mv_goW 3 (pc' := 30) (ls' := [mv_R 0, mv_I 2, mv_I a, mv_I v, mv_R 75]) (st' := [mv_I 1, mv_I a, mv_R 75]) (M1 := M) rfl ?_
      have ha106 : ¬ (0 ≤ (1 : Int) ∧ (1 : Int) ≤ sz ∧ 0 ≤ a ∧ a ≤ sz - (1 : Int)) := by omega
      refine mv_callPW (st2 := [mv_I 0]) rfl (Or.inl rfl) rfl rfl rfl (sp_hasRun_2_f hz1 (by omega) (by omega) ha106) (by first | decide | omega) ?_
      refine mv_goW 1 (pc' := if 0 = 0 then 36 else 39) (ls' := [mv_R 0, mv_I 2, mv_I a, mv_I v, mv_R 75]) (st' := []) (M1 := M) rfl ?_
      refine mv_ttW (by decide) ?_
      refine mv_goW 1 (pc' := 38) (ls' := [mv_R 0, mv_I 2, mv_I a, mv_I v, mv_R 75]) (st' := [mv_I (-12)]) (M1 := M) rfl ?_
      refine mv_retW (fun n => rfl) ⟨_, rfl, ?_⟩
      refine mv_goW 3 (pc' := 3) (ls' := [mv_R 100, mv_I 2, mv_I a, mv_I v]) (st' := [mv_I 3, mv_I 0, mv_I 2]) (M1 := M) rfl ?_
      have ha107 : (0 : Int) ≤ (2 : Int) ∧ (2 : Int) ≤ (3 : Int) := by omega
      refine mv_callPW (st2 := [mv_I 1]) rfl (Or.inr rfl) rfl rfl rfl (sp_min_t ha107) (by first | decide | omega) ?_
      refine mv_goW 1 (pc' := if 1 = 0 then 9 else 12) (ls' := [mv_R 100, mv_I 2, mv_I a, mv_I v]) (st' := []) (M1 := M) rfl ?_
      refine mv_ffW (by decide) ?_
      refine mv_goW 4 (pc' := if 0 ≤ 2 ∧ 2 < 4 then 18 else mv_bad) (ls' := [mv_R 100, mv_I 2, mv_I a, mv_I v]) (st' := [mv_I (M 117 2)]) (M1 := M) rfl ?_
      refine mv_ttW (by omega) ?_
      rw [show M 117 2 = so from by exact hs2]
      refine mv_goW 2 (pc' := if so = (-1) then 22 else 25) (ls' := [mv_R 100, mv_I 2, mv_I a, mv_I v]) (st' := []) (M1 := M) rfl ?_
      refine mv_ffW (by omega) ?_
      refine mv_goW 6 (pc' := if 0 ≤ 2 ∧ 2 < 4 then 33 else mv_bad) (ls' := [mv_R 100, mv_I 2, mv_I a, mv_I v]) (st' := [mv_I (M 118 2), mv_I 0, mv_I a]) (M1 := M) rfl ?_
      refine mv_ttW (by omega) ?_
      rw [show M 118 2 = sz from by exact hz2]
      refine mv_goW 2 (pc' := 35) (ls' := [mv_R 100, mv_I 2, mv_I a, mv_I v]) (st' := [mv_I (mv_w (sz - 1)), mv_I 0, mv_I a]) (M1 := M) rfl ?_
      rw [show mv_w (sz - 1) = sz - 1 from mv_w_id (by omega) (by omega)]
      have ha108 : ¬ ((0 : Int) ≤ a ∧ a ≤ (sz - 1)) := by omega
      refine mv_callPW (st2 := [mv_I 0]) rfl (Or.inr rfl) rfl rfl rfl (sp_min_f ha108) (by first | decide | omega) ?_
      refine mv_goW 1 (pc' := if 0 = 0 then 41 else 44) (ls' := [mv_R 100, mv_I 2, mv_I a, mv_I v]) (st' := []) (M1 := M) rfl ?_
      refine mv_ttW (by decide) ?_
      refine mv_goW 1 (pc' := 43) (ls' := [mv_R 100, mv_I 2, mv_I a, mv_I v]) (st' := [mv_I (-12)]) (M1 := M) rfl ?_
      exact mv_retW (fun n => rfl) ⟨congrArg mv_I (by first | with_reducible rfl | omega), hI⟩
theorem sp_msh_lp_3 {b n : Int} {d : Nat} {Q : mv_V → mv_M → Prop} : ∀ (r k : Nat) (M : mv_M), k + r = 40 → (∀ j, j < k → M 119 (40 * 3 + j) = 0) →
    (∀ M2, mv_ag [119] M M2 → (∀ j, j < 40 → M2 119 (40 * 3 + j) = 0) → (∀ j, (j < 40 * 3 ∨ 40 * 3 + 40 ≤ j) → M2 119 j = M 119 j) → mv_W d 187 96 [mv_R 100, mv_I 3, mv_I b, mv_I n, mv_I 40] [] M2 Q) → mv_W d 187 70 [mv_R 100, mv_I 3, mv_I b, mv_I n, mv_I (k : Int)] [] M Q := by
  intro r
  induction r with
  | zero =>
    intro k M hk hj e
    have hk : k = 40 := by omega
    subst hk
    refine mv_goW 3 (pc' := if ((40 : Nat) : Int) < 40 then 77 else 96) (ls' := [mv_R 100, mv_I 3, mv_I b, mv_I n, mv_I ((40 : Nat) : Int)]) (st' := []) (M1 := M) rfl ?_
    refine mv_ffW (by decide) ?_
    exact e M mv_ag.rf hj (fun _ _ => rfl)
  | succ r ih =>
    intro k M hk hj e
    refine mv_goW 3 (pc' := if (k : Int) < 40 then 77 else 96) (ls' := [mv_R 100, mv_I 3, mv_I b, mv_I n, mv_I (k : Int)]) (st' := []) (M1 := M) rfl ?_
    refine mv_ttW (by omega) ?_
    refine mv_goW 8 (pc' := 89) (ls' := [mv_R 100, mv_I 3, mv_I b, mv_I n, mv_I (k : Int)]) (st' := [mv_I 0, mv_I (mv_w ((mv_w (40 * 3)) + (k : Int))), mv_R 119]) (M1 := M) rfl ?_
    rw [show mv_w ((mv_w (40 * 3)) + (k : Int)) = ((k + 120 : Nat) : Int) from by (rw [show mv_w (40 * 3) = 40 * 3 from mv_w_id (by omega) (by omega), show mv_w ((40 * 3) + (k : Int)) = (40 * 3) + (k : Int) from mv_w_id (by omega) (by omega)]) <;> omega]
    refine mv_goW 1 (pc' := if 0 ≤ ((k + 120 : Nat) : Int) ∧ ((k + 120 : Nat) : Int) < 160 then 90 else mv_bad) (ls' := [mv_R 100, mv_I 3, mv_I b, mv_I n, mv_I (k : Int)]) (st' := []) (M1 := (mv_st M 119 (mv_up (M 119) (k + 120) 0))) rfl ?_
    refine mv_ttW (by omega) ?_
    refine mv_goW 2 (pc' := 70) (ls' := [mv_R 100, mv_I 3, mv_I b, mv_I n, mv_I (mv_w ((k : Int) + 1))]) (st' := []) (M1 := (mv_st M 119 (mv_up (M 119) (k + 120) 0))) rfl ?_
    rw [show mv_w ((k : Int) + 1) = ((k + 1 : Nat) : Int) from by (rw [show mv_w ((k : Int) + 1) = (k : Int) + 1 from mv_w_id (by omega) (by omega)]) <;> omega]
    refine ih (k + 1) _ (by omega) (fun j hj2 => ?_) (fun M2 a1 a2 a3 => e M2 (mv_ag.tr (mv_ag.st mv_ag.rf (by decide)) a1) a2 (fun j hj3 => (a3 j hj3).trans (mv_up_n _ _ (by omega))))
    show mv_up (M 119) _ 0 (40 * 3 + j) = 0
    by_cases q : j = k
    · rw [q]; unfold mv_up; rw [if_pos (by omega)]
    · rw [mv_up_n _ _ (by omega)]; exact hj j (by omega)
theorem sp_k31_3 (b m : Int) : sp_call 92 187 [mv_I 3, mv_I b, mv_I m] [mv_I 3, mv_I b, mv_I m] := by
  refine sp_mkW (lc := [mv_R 0, mv_I 3, mv_I b, mv_I m, mv_U]) (lm := [mv_R 100, mv_I 3, mv_I b, mv_I m, mv_U]) rfl rfl (fun M hI => ?_)
  have hI2 := hI
  obtain ⟨V, P, n, B, K, t, h⟩ := hI2
  by_cases hb : b = -1
  · subst hb
    refine mv_goW 2 (pc' := 2) (ls' := [mv_R 0, mv_I 3, mv_I (-1), mv_I m, mv_U]) (st' := [mv_I 3, mv_R 0]) (M1 := M) rfl ?_
    refine mv_callPW (st2 := [mv_R 77]) rfl (Or.inl rfl) rfl rfl rfl (sp_sheetAt_3) (by first | decide | omega) ?_
    refine mv_goW 6 (pc' := if (-1) < (-1) then 22 else 17) (ls' := [mv_R 0, mv_I 3, mv_I (-1), mv_I m, mv_R 77]) (st' := []) (M1 := M) rfl ?_
    refine mv_ffW (by decide) ?_
    refine mv_goW 3 (pc' := if 2 < (-1) then 22 else 25) (ls' := [mv_R 0, mv_I 3, mv_I (-1), mv_I m, mv_R 77]) (st' := []) (M1 := M) rfl ?_
    refine mv_ffW (by decide) ?_
    refine mv_goW 3 (pc' := if (-1) = (-1) then 30 else 39) (ls' := [mv_R 0, mv_I 3, mv_I (-1), mv_I m, mv_R 77]) (st' := []) (M1 := M) rfl ?_
    refine mv_ttW (by decide) ?_
    refine mv_goW 3 (pc' := 34) (ls' := [mv_R 0, mv_I 3, mv_I (-1), mv_I m, mv_R 77]) (st' := [mv_I 0, mv_I (-1), mv_R 77]) (M1 := M) rfl ?_
    refine mv_callW (st2 := []) rfl (Or.inl rfl) rfl rfl rfl (sp_shb_3) (by first | decide | omega) (fun Ma109 hm110 => ?_)
    have hx := hm110
    refine mv_goW 1 (pc' := 38) (ls' := [mv_R 0, mv_I 3, mv_I (-1), mv_I m, mv_R 77]) (st' := [mv_I 1]) (M1 := Ma109) rfl ?_
    refine mv_retW (fun n => rfl) ⟨_, rfl, ?_⟩
    refine mv_goW 3 (pc' := 3) (ls' := [mv_R 100, mv_I 3, mv_I (-1), mv_I m, mv_U]) (st' := [mv_I 3, mv_I 0, mv_I 3]) (M1 := Ma109) rfl ?_
    have ha111 : (0 : Int) ≤ (3 : Int) ∧ (3 : Int) ≤ (3 : Int) := by omega
    refine mv_callPW (st2 := [mv_I 1]) rfl (Or.inr rfl) rfl rfl rfl (sp_min_t ha111) (by first | decide | omega) ?_
    refine mv_goW 1 (pc' := if 1 = 0 then 29 else 9) (ls' := [mv_R 100, mv_I 3, mv_I (-1), mv_I m, mv_U]) (st' := []) (M1 := Ma109) rfl ?_
    refine mv_ffW (by decide) ?_
    refine mv_goW 3 (pc' := 12) (ls' := [mv_R 100, mv_I 3, mv_I (-1), mv_I m, mv_U]) (st' := [mv_I 2, mv_I (-1), mv_I (-1)]) (M1 := Ma109) rfl ?_
    have ha112 : ((-1) : Int) ≤ ((-1) : Int) ∧ ((-1) : Int) ≤ (2 : Int) := by omega
    refine mv_callPW (st2 := [mv_I 1]) rfl (Or.inr rfl) rfl rfl rfl (sp_min_t ha112) (by first | decide | omega) ?_
    refine mv_goW 1 (pc' := if 1 = 0 then 29 else 18) (ls' := [mv_R 100, mv_I 3, mv_I (-1), mv_I m, mv_U]) (st' := []) (M1 := Ma109) rfl ?_
    refine mv_ffW (by decide) ?_
    refine mv_goW 3 (pc' := if (-1) = (-1) then 32 else 23) (ls' := [mv_R 100, mv_I 3, mv_I (-1), mv_I m, mv_U]) (st' := []) (M1 := Ma109) rfl ?_
    refine mv_ttW (by decide) ?_
    refine mv_goW 3 (pc' := if (-1) = (-1) then 44 else 37) (ls' := [mv_R 100, mv_I 3, mv_I (-1), mv_I m, mv_U]) (st' := []) (M1 := Ma109) rfl ?_
    refine mv_ttW (by decide) ?_
    refine mv_goW 5 (pc' := if 0 ≤ 3 ∧ 3 < 4 then 51 else mv_bad) (ls' := [mv_R 100, mv_I 3, mv_I (-1), mv_I m, mv_U]) (st' := []) (M1 := (mv_st Ma109 117 (mv_up (Ma109 117) 3 (-1)))) rfl ?_
    refine mv_ttW (by omega) ?_
    refine mv_goW 6 (pc' := if (-1) = (-1) then 61 else 65) (ls' := [mv_R 100, mv_I 3, mv_I (-1), mv_I m, mv_U]) (st' := [mv_I 3, mv_R 118]) (M1 := (mv_st Ma109 117 (mv_up (Ma109 117) 3 (-1)))) rfl ?_
    refine mv_ttW (by decide) ?_
    refine mv_goW 3 (pc' := if 0 ≤ 3 ∧ 3 < 4 then 67 else mv_bad) (ls' := [mv_R 100, mv_I 3, mv_I (-1), mv_I m, mv_U]) (st' := []) (M1 := (mv_st (mv_st Ma109 117 (mv_up (Ma109 117) 3 (-1))) 118 (mv_up (Ma109 118) 3 0))) rfl ?_
    refine mv_ttW (by omega) ?_
    refine mv_goW 2 (pc' := 70) (ls' := [mv_R 100, mv_I 3, mv_I (-1), mv_I m, mv_I 0]) (st' := []) (M1 := (mv_st (mv_st Ma109 117 (mv_up (Ma109 117) 3 (-1))) 118 (mv_up (Ma109 118) 3 0))) rfl ?_
    refine sp_msh_lp_3 40 0 _ (by omega) (fun j hj => absurd hj (by omega)) (fun M2 hy1 hy2 hy3 => ?_)
    refine mv_goW 1 (pc' := 97) (ls' := [mv_R 100, mv_I 3, mv_I (-1), mv_I m, mv_I 40]) (st' := [mv_I 1]) (M1 := M2) rfl ?_
    exact mv_retW (fun n => rfl) ⟨congrArg mv_I (by first | with_reducible rfl | omega), sp_sh_k31 (S := 3) (by decide) h hx hy1 hy2 hy3 (by omega) (by omega)⟩
  · refine mv_goW 2 (pc' := 2) (ls' := [mv_R 0, mv_I 3, mv_I b, mv_I m, mv_U]) (st' := [mv_I 3, mv_R 0]) (M1 := M) rfl ?_
    refine mv_callPW (st2 := [mv_R 77]) rfl (Or.inl rfl) rfl rfl rfl (sp_sheetAt_3) (by first | decide | omega) ?_
    refine mv_goW 6 (pc' := if b < (-1) then 22 else 17) (ls' := [mv_R 0, mv_I 3, mv_I b, mv_I m, mv_R 77]) (st' := []) (M1 := M) rfl ?_
    refine mv_spW (fun ha113 => ?_) (fun ha113 => ?_)
    · refine mv_goW 1 (pc' := 24) (ls' := [mv_R 0, mv_I 3, mv_I b, mv_I m, mv_R 77]) (st' := [mv_I (-2)]) (M1 := M) rfl ?_
      refine mv_retW (fun n => rfl) ⟨_, rfl, ?_⟩
      refine mv_goW 3 (pc' := 3) (ls' := [mv_R 100, mv_I 3, mv_I b, mv_I m, mv_U]) (st' := [mv_I 3, mv_I 0, mv_I 3]) (M1 := M) rfl ?_
      have ha114 : (0 : Int) ≤ (3 : Int) ∧ (3 : Int) ≤ (3 : Int) := by omega
      refine mv_callPW (st2 := [mv_I 1]) rfl (Or.inr rfl) rfl rfl rfl (sp_min_t ha114) (by first | decide | omega) ?_
      refine mv_goW 1 (pc' := if 1 = 0 then 29 else 9) (ls' := [mv_R 100, mv_I 3, mv_I b, mv_I m, mv_U]) (st' := []) (M1 := M) rfl ?_
      refine mv_ffW (by decide) ?_
      refine mv_goW 3 (pc' := 12) (ls' := [mv_R 100, mv_I 3, mv_I b, mv_I m, mv_U]) (st' := [mv_I 2, mv_I (-1), mv_I b]) (M1 := M) rfl ?_
      have ha115 : ¬ (((-1) : Int) ≤ b ∧ b ≤ (2 : Int)) := by omega
      refine mv_callPW (st2 := [mv_I 0]) rfl (Or.inr rfl) rfl rfl rfl (sp_min_f ha115) (by first | decide | omega) ?_
      refine mv_goW 1 (pc' := if 0 = 0 then 29 else 18) (ls' := [mv_R 100, mv_I 3, mv_I b, mv_I m, mv_U]) (st' := []) (M1 := M) rfl ?_
      refine mv_ttW (by decide) ?_
      refine mv_goW 1 (pc' := 31) (ls' := [mv_R 100, mv_I 3, mv_I b, mv_I m, mv_U]) (st' := [mv_I (-2)]) (M1 := M) rfl ?_
      exact mv_retW (fun n => rfl) ⟨congrArg mv_I (by first | with_reducible rfl | omega), hI⟩
    · refine mv_goW 3 (pc' := if 2 < b then 22 else 25) (ls' := [mv_R 0, mv_I 3, mv_I b, mv_I m, mv_R 77]) (st' := []) (M1 := M) rfl ?_
      refine mv_spW (fun ha116 => ?_) (fun ha116 => ?_)
      · refine mv_goW 1 (pc' := 24) (ls' := [mv_R 0, mv_I 3, mv_I b, mv_I m, mv_R 77]) (st' := [mv_I (-2)]) (M1 := M) rfl ?_
        refine mv_retW (fun n => rfl) ⟨_, rfl, ?_⟩
        refine mv_goW 3 (pc' := 3) (ls' := [mv_R 100, mv_I 3, mv_I b, mv_I m, mv_U]) (st' := [mv_I 3, mv_I 0, mv_I 3]) (M1 := M) rfl ?_
        have ha117 : (0 : Int) ≤ (3 : Int) ∧ (3 : Int) ≤ (3 : Int) := by omega
        refine mv_callPW (st2 := [mv_I 1]) rfl (Or.inr rfl) rfl rfl rfl (sp_min_t ha117) (by first | decide | omega) ?_
        refine mv_goW 1 (pc' := if 1 = 0 then 29 else 9) (ls' := [mv_R 100, mv_I 3, mv_I b, mv_I m, mv_U]) (st' := []) (M1 := M) rfl ?_
        refine mv_ffW (by decide) ?_
        refine mv_goW 3 (pc' := 12) (ls' := [mv_R 100, mv_I 3, mv_I b, mv_I m, mv_U]) (st' := [mv_I 2, mv_I (-1), mv_I b]) (M1 := M) rfl ?_
        have ha118 : ¬ (((-1) : Int) ≤ b ∧ b ≤ (2 : Int)) := by omega
        refine mv_callPW (st2 := [mv_I 0]) rfl (Or.inr rfl) rfl rfl rfl (sp_min_f ha118) (by first | decide | omega) ?_
        refine mv_goW 1 (pc' := if 0 = 0 then 29 else 18) (ls' := [mv_R 100, mv_I 3, mv_I b, mv_I m, mv_U]) (st' := []) (M1 := M) rfl ?_
        refine mv_ttW (by decide) ?_
        refine mv_goW 1 (pc' := 31) (ls' := [mv_R 100, mv_I 3, mv_I b, mv_I m, mv_U]) (st' := [mv_I (-2)]) (M1 := M) rfl ?_
        exact mv_retW (fun n => rfl) ⟨congrArg mv_I (by first | with_reducible rfl | omega), hI⟩
      · refine mv_goW 3 (pc' := if b = (-1) then 30 else 39) (ls' := [mv_R 0, mv_I 3, mv_I b, mv_I m, mv_R 77]) (st' := []) (M1 := M) rfl ?_
        refine mv_ffW (by omega) ?_
        refine mv_goW 3 (pc' := if 40 < m then 45 else 48) (ls' := [mv_R 0, mv_I 3, mv_I b, mv_I m, mv_R 77]) (st' := []) (M1 := M) rfl ?_
        refine mv_spW (fun ha119 => ?_) (fun ha119 => ?_)
        · refine mv_goW 1 (pc' := 47) (ls' := [mv_R 0, mv_I 3, mv_I b, mv_I m, mv_R 77]) (st' := [mv_I (-2)]) (M1 := M) rfl ?_
          refine mv_retW (fun n => rfl) ⟨_, rfl, ?_⟩
          refine mv_goW 3 (pc' := 3) (ls' := [mv_R 100, mv_I 3, mv_I b, mv_I m, mv_U]) (st' := [mv_I 3, mv_I 0, mv_I 3]) (M1 := M) rfl ?_
          have ha120 : (0 : Int) ≤ (3 : Int) ∧ (3 : Int) ≤ (3 : Int) := by omega
          refine mv_callPW (st2 := [mv_I 1]) rfl (Or.inr rfl) rfl rfl rfl (sp_min_t ha120) (by first | decide | omega) ?_
          refine mv_goW 1 (pc' := if 1 = 0 then 29 else 9) (ls' := [mv_R 100, mv_I 3, mv_I b, mv_I m, mv_U]) (st' := []) (M1 := M) rfl ?_
          refine mv_ffW (by decide) ?_
          refine mv_goW 3 (pc' := 12) (ls' := [mv_R 100, mv_I 3, mv_I b, mv_I m, mv_U]) (st' := [mv_I 2, mv_I (-1), mv_I b]) (M1 := M) rfl ?_
          have ha121 : ((-1) : Int) ≤ b ∧ b ≤ (2 : Int) := by omega
          refine mv_callPW (st2 := [mv_I 1]) rfl (Or.inr rfl) rfl rfl rfl (sp_min_t ha121) (by first | decide | omega) ?_
          refine mv_goW 1 (pc' := if 1 = 0 then 29 else 18) (ls' := [mv_R 100, mv_I 3, mv_I b, mv_I m, mv_U]) (st' := []) (M1 := M) rfl ?_
          refine mv_ffW (by decide) ?_
          refine mv_goW 3 (pc' := if b = (-1) then 32 else 23) (ls' := [mv_R 100, mv_I 3, mv_I b, mv_I m, mv_U]) (st' := []) (M1 := M) rfl ?_
          refine mv_ffW (by omega) ?_
          refine mv_goW 3 (pc' := if 40 < m then 29 else 32) (ls' := [mv_R 100, mv_I 3, mv_I b, mv_I m, mv_U]) (st' := []) (M1 := M) rfl ?_
          refine mv_ttW (by omega) ?_
          refine mv_goW 1 (pc' := 31) (ls' := [mv_R 100, mv_I 3, mv_I b, mv_I m, mv_U]) (st' := [mv_I (-2)]) (M1 := M) rfl ?_
          exact mv_retW (fun n => rfl) ⟨congrArg mv_I (by first | with_reducible rfl | omega), hI⟩
        · refine mv_goW 2 (pc' := if m < 0 then 52 else 55) (ls' := [mv_R 0, mv_I 3, mv_I b, mv_I m, mv_R 77]) (st' := []) (M1 := M) rfl ?_
          refine mv_spW (fun ha122 => ?_) (fun ha122 => ?_)
          · refine mv_goW 1 (pc' := 54) (ls' := [mv_R 0, mv_I 3, mv_I b, mv_I m, mv_R 77]) (st' := [mv_I (-14)]) (M1 := M) rfl ?_
            refine mv_retW (fun n => rfl) ⟨_, rfl, ?_⟩
            refine mv_goW 3 (pc' := 3) (ls' := [mv_R 100, mv_I 3, mv_I b, mv_I m, mv_U]) (st' := [mv_I 3, mv_I 0, mv_I 3]) (M1 := M) rfl ?_
            have ha123 : (0 : Int) ≤ (3 : Int) ∧ (3 : Int) ≤ (3 : Int) := by omega
            refine mv_callPW (st2 := [mv_I 1]) rfl (Or.inr rfl) rfl rfl rfl (sp_min_t ha123) (by first | decide | omega) ?_
            refine mv_goW 1 (pc' := if 1 = 0 then 29 else 9) (ls' := [mv_R 100, mv_I 3, mv_I b, mv_I m, mv_U]) (st' := []) (M1 := M) rfl ?_
            refine mv_ffW (by decide) ?_
            refine mv_goW 3 (pc' := 12) (ls' := [mv_R 100, mv_I 3, mv_I b, mv_I m, mv_U]) (st' := [mv_I 2, mv_I (-1), mv_I b]) (M1 := M) rfl ?_
            have ha124 : ((-1) : Int) ≤ b ∧ b ≤ (2 : Int) := by omega
            refine mv_callPW (st2 := [mv_I 1]) rfl (Or.inr rfl) rfl rfl rfl (sp_min_t ha124) (by first | decide | omega) ?_
            refine mv_goW 1 (pc' := if 1 = 0 then 29 else 18) (ls' := [mv_R 100, mv_I 3, mv_I b, mv_I m, mv_U]) (st' := []) (M1 := M) rfl ?_
            refine mv_ffW (by decide) ?_
            refine mv_goW 3 (pc' := if b = (-1) then 32 else 23) (ls' := [mv_R 100, mv_I 3, mv_I b, mv_I m, mv_U]) (st' := []) (M1 := M) rfl ?_
            refine mv_ffW (by omega) ?_
            refine mv_goW 3 (pc' := if 40 < m then 29 else 32) (ls' := [mv_R 100, mv_I 3, mv_I b, mv_I m, mv_U]) (st' := []) (M1 := M) rfl ?_
            refine mv_ffW (by omega) ?_
            refine mv_goW 3 (pc' := if b = (-1) then 44 else 37) (ls' := [mv_R 100, mv_I 3, mv_I b, mv_I m, mv_U]) (st' := []) (M1 := M) rfl ?_
            refine mv_ffW (by omega) ?_
            refine mv_goW 2 (pc' := if m < 0 then 41 else 44) (ls' := [mv_R 100, mv_I 3, mv_I b, mv_I m, mv_U]) (st' := []) (M1 := M) rfl ?_
            refine mv_ttW (by omega) ?_
            refine mv_goW 1 (pc' := 43) (ls' := [mv_R 100, mv_I 3, mv_I b, mv_I m, mv_U]) (st' := [mv_I (-14)]) (M1 := M) rfl ?_
            exact mv_retW (fun n => rfl) ⟨congrArg mv_I (by first | with_reducible rfl | omega), hI⟩
          · refine mv_goW 3 (pc' := 59) (ls' := [mv_R 0, mv_I 3, mv_I b, mv_I m, mv_R 77]) (st' := [mv_I m, mv_I b, mv_R 77]) (M1 := M) rfl ?_
            refine mv_callW (st2 := []) rfl (Or.inl rfl) rfl rfl rfl (sp_shb_3) (by first | decide | omega) (fun Ma125 hm126 => ?_)
            have hx := hm126
            refine mv_goW 1 (pc' := 63) (ls' := [mv_R 0, mv_I 3, mv_I b, mv_I m, mv_R 77]) (st' := [mv_I 1]) (M1 := Ma125) rfl ?_
            refine mv_retW (fun n => rfl) ⟨_, rfl, ?_⟩
            refine mv_goW 3 (pc' := 3) (ls' := [mv_R 100, mv_I 3, mv_I b, mv_I m, mv_U]) (st' := [mv_I 3, mv_I 0, mv_I 3]) (M1 := Ma125) rfl ?_
            have ha127 : (0 : Int) ≤ (3 : Int) ∧ (3 : Int) ≤ (3 : Int) := by omega
            refine mv_callPW (st2 := [mv_I 1]) rfl (Or.inr rfl) rfl rfl rfl (sp_min_t ha127) (by first | decide | omega) ?_
            refine mv_goW 1 (pc' := if 1 = 0 then 29 else 9) (ls' := [mv_R 100, mv_I 3, mv_I b, mv_I m, mv_U]) (st' := []) (M1 := Ma125) rfl ?_
            refine mv_ffW (by decide) ?_
            refine mv_goW 3 (pc' := 12) (ls' := [mv_R 100, mv_I 3, mv_I b, mv_I m, mv_U]) (st' := [mv_I 2, mv_I (-1), mv_I b]) (M1 := Ma125) rfl ?_
            have ha128 : ((-1) : Int) ≤ b ∧ b ≤ (2 : Int) := by omega
            refine mv_callPW (st2 := [mv_I 1]) rfl (Or.inr rfl) rfl rfl rfl (sp_min_t ha128) (by first | decide | omega) ?_
            refine mv_goW 1 (pc' := if 1 = 0 then 29 else 18) (ls' := [mv_R 100, mv_I 3, mv_I b, mv_I m, mv_U]) (st' := []) (M1 := Ma125) rfl ?_
            refine mv_ffW (by decide) ?_
            refine mv_goW 3 (pc' := if b = (-1) then 32 else 23) (ls' := [mv_R 100, mv_I 3, mv_I b, mv_I m, mv_U]) (st' := []) (M1 := Ma125) rfl ?_
            refine mv_ffW (by omega) ?_
            refine mv_goW 3 (pc' := if 40 < m then 29 else 32) (ls' := [mv_R 100, mv_I 3, mv_I b, mv_I m, mv_U]) (st' := []) (M1 := Ma125) rfl ?_
            refine mv_ffW (by omega) ?_
            refine mv_goW 3 (pc' := if b = (-1) then 44 else 37) (ls' := [mv_R 100, mv_I 3, mv_I b, mv_I m, mv_U]) (st' := []) (M1 := Ma125) rfl ?_
            refine mv_ffW (by omega) ?_
            refine mv_goW 2 (pc' := if m < 0 then 41 else 44) (ls' := [mv_R 100, mv_I 3, mv_I b, mv_I m, mv_U]) (st' := []) (M1 := Ma125) rfl ?_
            refine mv_ffW (by omega) ?_
            refine mv_goW 5 (pc' := if 0 ≤ 3 ∧ 3 < 4 then 51 else mv_bad) (ls' := [mv_R 100, mv_I 3, mv_I b, mv_I m, mv_U]) (st' := []) (M1 := (mv_st Ma125 117 (mv_up (Ma125 117) 3 b))) rfl ?_
            refine mv_ttW (by omega) ?_
            refine mv_goW 6 (pc' := if b = (-1) then 61 else 65) (ls' := [mv_R 100, mv_I 3, mv_I b, mv_I m, mv_U]) (st' := [mv_I 3, mv_R 118]) (M1 := (mv_st Ma125 117 (mv_up (Ma125 117) 3 b))) rfl ?_
            refine mv_ffW (by omega) ?_
            refine mv_goW 2 (pc' := if 0 ≤ 3 ∧ 3 < 4 then 67 else mv_bad) (ls' := [mv_R 100, mv_I 3, mv_I b, mv_I m, mv_U]) (st' := []) (M1 := (mv_st (mv_st Ma125 117 (mv_up (Ma125 117) 3 b)) 118 (mv_up (Ma125 118) 3 m))) rfl ?_
            refine mv_ttW (by omega) ?_
            refine mv_goW 2 (pc' := 70) (ls' := [mv_R 100, mv_I 3, mv_I b, mv_I m, mv_I 0]) (st' := []) (M1 := (mv_st (mv_st Ma125 117 (mv_up (Ma125 117) 3 b)) 118 (mv_up (Ma125 118) 3 m))) rfl ?_
            refine sp_msh_lp_3 40 0 _ (by omega) (fun j hj => absurd hj (by omega)) (fun M2 hy1 hy2 hy3 => ?_)
            refine mv_goW 1 (pc' := 97) (ls' := [mv_R 100, mv_I 3, mv_I b, mv_I m, mv_I 40]) (st' := [mv_I 1]) (M1 := M2) rfl ?_
            exact mv_retW (fun n => rfl) ⟨congrArg mv_I (by first | with_reducible rfl | omega), sp_sh_k31 (S := 3) (by decide) h hx hy1 hy2 hy3 (by omega) (by omega)⟩
theorem sp_k32_3 (a v : Int) : sp_call 93 188 [mv_I 3, mv_I a, mv_I v] [mv_I 3, mv_I a, mv_I v] := by
  refine sp_mkW (lc := [mv_R 0, mv_I 3, mv_I a, mv_I v, mv_U]) (lm := [mv_R 100, mv_I 3, mv_I a, mv_I v]) rfl rfl (fun M hI => ?_)
  have hI2 := hI
  obtain ⟨V, P, n, B, K, t, h⟩ := hI2
  obtain ⟨so, sz, ⟨hs1, hs2, so0, so1⟩, ⟨hz1, hz2, sz0, sz1⟩, _⟩ := sp_sh_get h 3 (by decide)
  have hs1 : M 77 1 = so := hs1
  have hz1 : M 77 2 = sz := hz1
  by_cases h0 : 0 ≤ a
  · obtain ⟨i, rfl⟩ : ∃ c : Nat, a = (c : Int) := ⟨a.toNat, by omega⟩
    refine mv_goW 2 (pc' := 2) (ls' := [mv_R 0, mv_I 3, mv_I (i : Int), mv_I v, mv_U]) (st' := [mv_I 3, mv_R 0]) (M1 := M) rfl ?_
    refine mv_callPW (st2 := [mv_R 77]) rfl (Or.inl rfl) rfl rfl rfl (sp_sheetAt_3) (by first | decide | omega) ?_
    refine mv_goW 4 (pc' := 17) (ls' := [mv_R 0, mv_I 3, mv_I (i : Int), mv_I v, mv_R 77]) (st' := [mv_R 77]) (M1 := M) rfl ?_
    by_cases ha129 : so = -1
    · refine mv_callPW (st2 := [mv_I 1]) rfl (Or.inl rfl) rfl rfl rfl (sp_isMiss_3_t (hs1.trans ha129)) (by first | decide | omega) ?_
      refine mv_goW 1 (pc' := if 1 = 0 then 26 else 23) (ls' := [mv_R 0, mv_I 3, mv_I (i : Int), mv_I v, mv_R 77]) (st' := []) (M1 := M) rfl ?_
      refine mv_ffW (by decide) ?_
      refine mv_goW 1 (pc' := 25) (ls' := [mv_R 0, mv_I 3, mv_I (i : Int), mv_I v, mv_R 77]) (st' := [mv_I (-11)]) (M1 := M) rfl ?_
      refine mv_retW (fun n => rfl) ⟨_, rfl, ?_⟩
      refine mv_goW 3 (pc' := 3) (ls' := [mv_R 100, mv_I 3, mv_I (i : Int), mv_I v]) (st' := [mv_I 3, mv_I 0, mv_I 3]) (M1 := M) rfl ?_
      have ha130 : (0 : Int) ≤ (3 : Int) ∧ (3 : Int) ≤ (3 : Int) := by omega
      refine mv_callPW (st2 := [mv_I 1]) rfl (Or.inr rfl) rfl rfl rfl (sp_min_t ha130) (by first | decide | omega) ?_
      refine mv_goW 1 (pc' := if 1 = 0 then 9 else 12) (ls' := [mv_R 100, mv_I 3, mv_I (i : Int), mv_I v]) (st' := []) (M1 := M) rfl ?_
      refine mv_ffW (by decide) ?_
      refine mv_goW 4 (pc' := if 0 ≤ 3 ∧ 3 < 4 then 18 else mv_bad) (ls' := [mv_R 100, mv_I 3, mv_I (i : Int), mv_I v]) (st' := [mv_I (M 117 3)]) (M1 := M) rfl ?_
      refine mv_ttW (by omega) ?_
      rw [show M 117 3 = so from by exact hs2]
      refine mv_goW 2 (pc' := if so = (-1) then 22 else 25) (ls' := [mv_R 100, mv_I 3, mv_I (i : Int), mv_I v]) (st' := []) (M1 := M) rfl ?_
      refine mv_ttW (by omega) ?_
      refine mv_goW 1 (pc' := 24) (ls' := [mv_R 100, mv_I 3, mv_I (i : Int), mv_I v]) (st' := [mv_I (-11)]) (M1 := M) rfl ?_
      exact mv_retW (fun n => rfl) ⟨congrArg mv_I (by first | with_reducible rfl | omega), hI⟩
    · refine mv_callPW (st2 := [mv_I 0]) rfl (Or.inl rfl) rfl rfl rfl (sp_isMiss_3_f (fun q => ha129 (hs1.symm.trans q))) (by first | decide | omega) ?_
      refine mv_goW 1 (pc' := if 0 = 0 then 26 else 23) (ls' := [mv_R 0, mv_I 3, mv_I (i : Int), mv_I v, mv_R 77]) (st' := []) (M1 := M) rfl ?_
      refine mv_ttW (by decide) ?_
      refine mv_goW 3 (pc' := 30) (ls' := [mv_R 0, mv_I 3, mv_I (i : Int), mv_I v, mv_R 77]) (st' := [mv_I 1, mv_I (i : Int), mv_R 77]) (M1 := M) rfl ?_
      by_cases ha131 : 0 ≤ (1 : Int) ∧ (1 : Int) ≤ sz ∧ 0 ≤ (i : Int) ∧ (i : Int) ≤ sz - (1 : Int)
      · refine mv_callPW (st2 := [mv_I 1]) rfl (Or.inl rfl) rfl rfl rfl (sp_hasRun_3_t hz1 (by omega) (by omega) ha131) (by first | decide | omega) ?_
        refine mv_goW 1 (pc' := if 1 = 0 then 36 else 39) (ls' := [mv_R 0, mv_I 3, mv_I (i : Int), mv_I v, mv_R 77]) (st' := []) (M1 := M) rfl ?_
        refine mv_ffW (by decide) ?_
        refine mv_goW 3 (pc' := 43) (ls' := [mv_R 0, mv_I 3, mv_I (i : Int), mv_I v, mv_R 77]) (st' := [mv_I v, mv_I (i : Int), mv_R 77]) (M1 := M) rfl ?_
        refine mv_callW (st2 := []) rfl (Or.inl rfl) rfl rfl rfl (sp_write_3 (i := i) hs1 (by omega)) (by first | decide | omega) (fun Ma132 hm133 => ?_)
        have hx := hm133
        have hsa : Ma132 117 3 = so := by rw [hx]; exact hs2
        have hza : Ma132 118 3 = sz := by rw [hx]; exact hz2
        refine mv_goW 1 (pc' := 47) (ls' := [mv_R 0, mv_I 3, mv_I (i : Int), mv_I v, mv_R 77]) (st' := [mv_I 1]) (M1 := Ma132) rfl ?_
        refine mv_retW (fun n => rfl) ⟨_, rfl, ?_⟩
        refine mv_goW 3 (pc' := 3) (ls' := [mv_R 100, mv_I 3, mv_I (i : Int), mv_I v]) (st' := [mv_I 3, mv_I 0, mv_I 3]) (M1 := Ma132) rfl ?_
        have ha134 : (0 : Int) ≤ (3 : Int) ∧ (3 : Int) ≤ (3 : Int) := by omega
        refine mv_callPW (st2 := [mv_I 1]) rfl (Or.inr rfl) rfl rfl rfl (sp_min_t ha134) (by first | decide | omega) ?_
        refine mv_goW 1 (pc' := if 1 = 0 then 9 else 12) (ls' := [mv_R 100, mv_I 3, mv_I (i : Int), mv_I v]) (st' := []) (M1 := Ma132) rfl ?_
        refine mv_ffW (by decide) ?_
        refine mv_goW 4 (pc' := if 0 ≤ 3 ∧ 3 < 4 then 18 else mv_bad) (ls' := [mv_R 100, mv_I 3, mv_I (i : Int), mv_I v]) (st' := [mv_I (Ma132 117 3)]) (M1 := Ma132) rfl ?_
        refine mv_ttW (by omega) ?_
        rw [show Ma132 117 3 = so from by exact hsa]
        refine mv_goW 2 (pc' := if so = (-1) then 22 else 25) (ls' := [mv_R 100, mv_I 3, mv_I (i : Int), mv_I v]) (st' := []) (M1 := Ma132) rfl ?_
        refine mv_ffW (by omega) ?_
        refine mv_goW 6 (pc' := if 0 ≤ 3 ∧ 3 < 4 then 33 else mv_bad) (ls' := [mv_R 100, mv_I 3, mv_I (i : Int), mv_I v]) (st' := [mv_I (Ma132 118 3), mv_I 0, mv_I (i : Int)]) (M1 := Ma132) rfl ?_
        refine mv_ttW (by omega) ?_
        rw [show Ma132 118 3 = sz from by exact hza]
        refine mv_goW 2 (pc' := 35) (ls' := [mv_R 100, mv_I 3, mv_I (i : Int), mv_I v]) (st' := [mv_I (mv_w (sz - 1)), mv_I 0, mv_I (i : Int)]) (M1 := Ma132) rfl ?_
        rw [show mv_w (sz - 1) = sz - 1 from mv_w_id (by omega) (by omega)]
        have ha135 : (0 : Int) ≤ (i : Int) ∧ (i : Int) ≤ (sz - 1) := by omega
        refine mv_callPW (st2 := [mv_I 1]) rfl (Or.inr rfl) rfl rfl rfl (sp_min_t ha135) (by first | decide | omega) ?_
        refine mv_goW 1 (pc' := if 1 = 0 then 41 else 44) (ls' := [mv_R 100, mv_I 3, mv_I (i : Int), mv_I v]) (st' := []) (M1 := Ma132) rfl ?_
        refine mv_ffW (by decide) ?_
        refine mv_goW 11 (pc' := if 0 ≤ 3 ∧ 3 < 4 then 60 else mv_bad) (ls' := [mv_R 100, mv_I 3, mv_I (i : Int), mv_I v]) (st' := [mv_I (Ma132 117 3), mv_I (mv_w ((mv_w (40 * 3)) + (i : Int))), mv_R 119]) (M1 := Ma132) rfl ?_
        refine mv_ttW (by omega) ?_
        rw [show Ma132 117 3 = so from by exact hsa]
        refine mv_goW 1 (pc' := if so = 0 then 63 else 68) (ls' := [mv_R 100, mv_I 3, mv_I (i : Int), mv_I v]) (st' := [mv_I (mv_w ((mv_w (40 * 3)) + (i : Int))), mv_R 119]) (M1 := Ma132) rfl ?_
        rw [show mv_w (40 * 3) = 40 * 3 from mv_w_id (by omega) (by omega)]
        rw [show mv_w ((40 * 3) + (i : Int)) = (40 * 3) + (i : Int) from mv_w_id (by omega) (by omega)]
        rw [show (40 * 3) + (i : Int) = ((i + 120 : Nat) : Int) from by omega]
        refine mv_spW (fun ha136 => ?_) (fun ha136 => ?_)
        · refine mv_goW 4 (pc' := if 0 ≤ ((i + 120 : Nat) : Int) ∧ ((i + 120 : Nat) : Int) < 160 then 85 else mv_bad) (ls' := [mv_R 100, mv_I 3, mv_I (i : Int), mv_I v]) (st' := []) (M1 := (mv_st Ma132 119 (mv_up (Ma132 119) (i + 120) (mv_i2b v)))) rfl ?_
          refine mv_ttW (by omega) ?_
          refine mv_goW 1 (pc' := 86) (ls' := [mv_R 100, mv_I 3, mv_I (i : Int), mv_I v]) (st' := [mv_I 1]) (M1 := (mv_st Ma132 119 (mv_up (Ma132 119) (i + 120) (mv_i2b v)))) rfl ?_
          exact mv_retW (fun n => rfl) ⟨congrArg mv_I (by first | with_reducible rfl | omega), sp_sh_cell (S := 3) (so := so) (v := v) (i := i) (by decide) h (by omega) (by unfold sp_cut; split <;> (try split) <;> omega) hx (by omega)⟩
        · refine mv_goW 4 (pc' := if 0 ≤ 3 ∧ 3 < 4 then 74 else mv_bad) (ls' := [mv_R 100, mv_I 3, mv_I (i : Int), mv_I v]) (st' := [mv_I (Ma132 117 3), mv_I ((i + 120 : Nat) : Int), mv_R 119]) (M1 := Ma132) rfl ?_
          refine mv_ttW (by omega) ?_
          rw [show Ma132 117 3 = so from by exact hsa]
          refine mv_goW 2 (pc' := if so = 1 then 78 else 83) (ls' := [mv_R 100, mv_I 3, mv_I (i : Int), mv_I v]) (st' := [mv_I ((i + 120 : Nat) : Int), mv_R 119]) (M1 := Ma132) rfl ?_
          refine mv_spW (fun ha137 => ?_) (fun ha137 => ?_)
          · refine mv_goW 4 (pc' := if 0 ≤ ((i + 120 : Nat) : Int) ∧ ((i + 120 : Nat) : Int) < 160 then 85 else mv_bad) (ls' := [mv_R 100, mv_I 3, mv_I (i : Int), mv_I v]) (st' := []) (M1 := (mv_st Ma132 119 (mv_up (Ma132 119) (i + 120) (mv_i2s v)))) rfl ?_
            refine mv_ttW (by omega) ?_
            refine mv_goW 1 (pc' := 86) (ls' := [mv_R 100, mv_I 3, mv_I (i : Int), mv_I v]) (st' := [mv_I 1]) (M1 := (mv_st Ma132 119 (mv_up (Ma132 119) (i + 120) (mv_i2s v)))) rfl ?_
            exact mv_retW (fun n => rfl) ⟨congrArg mv_I (by first | with_reducible rfl | omega), sp_sh_cell (S := 3) (so := so) (v := v) (i := i) (by decide) h (by omega) (by unfold sp_cut; split <;> (try split) <;> omega) hx (by omega)⟩
          · refine mv_goW 2 (pc' := if 0 ≤ ((i + 120 : Nat) : Int) ∧ ((i + 120 : Nat) : Int) < 160 then 85 else mv_bad) (ls' := [mv_R 100, mv_I 3, mv_I (i : Int), mv_I v]) (st' := []) (M1 := (mv_st Ma132 119 (mv_up (Ma132 119) (i + 120) v))) rfl ?_
            refine mv_ttW (by omega) ?_
            refine mv_goW 1 (pc' := 86) (ls' := [mv_R 100, mv_I 3, mv_I (i : Int), mv_I v]) (st' := [mv_I 1]) (M1 := (mv_st Ma132 119 (mv_up (Ma132 119) (i + 120) v))) rfl ?_
            exact mv_retW (fun n => rfl) ⟨congrArg mv_I (by first | with_reducible rfl | omega), sp_sh_cell (S := 3) (so := so) (v := v) (i := i) (by decide) h (by omega) (by unfold sp_cut; split <;> (try split) <;> omega) hx (by omega)⟩
      · refine mv_callPW (st2 := [mv_I 0]) rfl (Or.inl rfl) rfl rfl rfl (sp_hasRun_3_f hz1 (by omega) (by omega) ha131) (by first | decide | omega) ?_
        refine mv_goW 1 (pc' := if 0 = 0 then 36 else 39) (ls' := [mv_R 0, mv_I 3, mv_I (i : Int), mv_I v, mv_R 77]) (st' := []) (M1 := M) rfl ?_
        refine mv_ttW (by decide) ?_
        refine mv_goW 1 (pc' := 38) (ls' := [mv_R 0, mv_I 3, mv_I (i : Int), mv_I v, mv_R 77]) (st' := [mv_I (-12)]) (M1 := M) rfl ?_
        refine mv_retW (fun n => rfl) ⟨_, rfl, ?_⟩
        refine mv_goW 3 (pc' := 3) (ls' := [mv_R 100, mv_I 3, mv_I (i : Int), mv_I v]) (st' := [mv_I 3, mv_I 0, mv_I 3]) (M1 := M) rfl ?_
        have ha138 : (0 : Int) ≤ (3 : Int) ∧ (3 : Int) ≤ (3 : Int) := by omega
        refine mv_callPW (st2 := [mv_I 1]) rfl (Or.inr rfl) rfl rfl rfl (sp_min_t ha138) (by first | decide | omega) ?_
        refine mv_goW 1 (pc' := if 1 = 0 then 9 else 12) (ls' := [mv_R 100, mv_I 3, mv_I (i : Int), mv_I v]) (st' := []) (M1 := M) rfl ?_
        refine mv_ffW (by decide) ?_
        refine mv_goW 4 (pc' := if 0 ≤ 3 ∧ 3 < 4 then 18 else mv_bad) (ls' := [mv_R 100, mv_I 3, mv_I (i : Int), mv_I v]) (st' := [mv_I (M 117 3)]) (M1 := M) rfl ?_
        refine mv_ttW (by omega) ?_
        rw [show M 117 3 = so from by exact hs2]
        refine mv_goW 2 (pc' := if so = (-1) then 22 else 25) (ls' := [mv_R 100, mv_I 3, mv_I (i : Int), mv_I v]) (st' := []) (M1 := M) rfl ?_
        refine mv_ffW (by omega) ?_
        refine mv_goW 6 (pc' := if 0 ≤ 3 ∧ 3 < 4 then 33 else mv_bad) (ls' := [mv_R 100, mv_I 3, mv_I (i : Int), mv_I v]) (st' := [mv_I (M 118 3), mv_I 0, mv_I (i : Int)]) (M1 := M) rfl ?_
        refine mv_ttW (by omega) ?_
        rw [show M 118 3 = sz from by exact hz2]
        refine mv_goW 2 (pc' := 35) (ls' := [mv_R 100, mv_I 3, mv_I (i : Int), mv_I v]) (st' := [mv_I (mv_w (sz - 1)), mv_I 0, mv_I (i : Int)]) (M1 := M) rfl ?_
        rw [show mv_w (sz - 1) = sz - 1 from mv_w_id (by omega) (by omega)]
        have ha139 : ¬ ((0 : Int) ≤ (i : Int) ∧ (i : Int) ≤ (sz - 1)) := by omega
        refine mv_callPW (st2 := [mv_I 0]) rfl (Or.inr rfl) rfl rfl rfl (sp_min_f ha139) (by first | decide | omega) ?_
        refine mv_goW 1 (pc' := if 0 = 0 then 41 else 44) (ls' := [mv_R 100, mv_I 3, mv_I (i : Int), mv_I v]) (st' := []) (M1 := M) rfl ?_
        refine mv_ttW (by decide) ?_
        refine mv_goW 1 (pc' := 43) (ls' := [mv_R 100, mv_I 3, mv_I (i : Int), mv_I v]) (st' := [mv_I (-12)]) (M1 := M) rfl ?_
        exact mv_retW (fun n => rfl) ⟨congrArg mv_I (by first | with_reducible rfl | omega), hI⟩
  · refine mv_goW 2 (pc' := 2) (ls' := [mv_R 0, mv_I 3, mv_I a, mv_I v, mv_U]) (st' := [mv_I 3, mv_R 0]) (M1 := M) rfl ?_
    refine mv_callPW (st2 := [mv_R 77]) rfl (Or.inl rfl) rfl rfl rfl (sp_sheetAt_3) (by first | decide | omega) ?_
    refine mv_goW 4 (pc' := 17) (ls' := [mv_R 0, mv_I 3, mv_I a, mv_I v, mv_R 77]) (st' := [mv_R 77]) (M1 := M) rfl ?_
    by_cases ha140 : so = -1
    · refine mv_callPW (st2 := [mv_I 1]) rfl (Or.inl rfl) rfl rfl rfl (sp_isMiss_3_t (hs1.trans ha140)) (by first | decide | omega) ?_
      refine mv_goW 1 (pc' := if 1 = 0 then 26 else 23) (ls' := [mv_R 0, mv_I 3, mv_I a, mv_I v, mv_R 77]) (st' := []) (M1 := M) rfl ?_
      refine mv_ffW (by decide) ?_
      refine mv_goW 1 (pc' := 25) (ls' := [mv_R 0, mv_I 3, mv_I a, mv_I v, mv_R 77]) (st' := [mv_I (-11)]) (M1 := M) rfl ?_
      refine mv_retW (fun n => rfl) ⟨_, rfl, ?_⟩
      refine mv_goW 3 (pc' := 3) (ls' := [mv_R 100, mv_I 3, mv_I a, mv_I v]) (st' := [mv_I 3, mv_I 0, mv_I 3]) (M1 := M) rfl ?_
      have ha141 : (0 : Int) ≤ (3 : Int) ∧ (3 : Int) ≤ (3 : Int) := by omega
      refine mv_callPW (st2 := [mv_I 1]) rfl (Or.inr rfl) rfl rfl rfl (sp_min_t ha141) (by first | decide | omega) ?_
      refine mv_goW 1 (pc' := if 1 = 0 then 9 else 12) (ls' := [mv_R 100, mv_I 3, mv_I a, mv_I v]) (st' := []) (M1 := M) rfl ?_
      refine mv_ffW (by decide) ?_
      refine mv_goW 4 (pc' := if 0 ≤ 3 ∧ 3 < 4 then 18 else mv_bad) (ls' := [mv_R 100, mv_I 3, mv_I a, mv_I v]) (st' := [mv_I (M 117 3)]) (M1 := M) rfl ?_
      refine mv_ttW (by omega) ?_
      rw [show M 117 3 = so from by exact hs2]
      refine mv_goW 2 (pc' := if so = (-1) then 22 else 25) (ls' := [mv_R 100, mv_I 3, mv_I a, mv_I v]) (st' := []) (M1 := M) rfl ?_
      refine mv_ttW (by omega) ?_
      refine mv_goW 1 (pc' := 24) (ls' := [mv_R 100, mv_I 3, mv_I a, mv_I v]) (st' := [mv_I (-11)]) (M1 := M) rfl ?_
      exact mv_retW (fun n => rfl) ⟨congrArg mv_I (by first | with_reducible rfl | omega), hI⟩
    · refine mv_callPW (st2 := [mv_I 0]) rfl (Or.inl rfl) rfl rfl rfl (sp_isMiss_3_f (fun q => ha140 (hs1.symm.trans q))) (by first | decide | omega) ?_
      refine mv_goW 1 (pc' := if 0 = 0 then 26 else 23) (ls' := [mv_R 0, mv_I 3, mv_I a, mv_I v, mv_R 77]) (st' := []) (M1 := M) rfl ?_
      refine mv_ttW (by decide) ?_
      refine mv_goW 3 (pc' := 30) (ls' := [mv_R 0, mv_I 3, mv_I a, mv_I v, mv_R 77]) (st' := [mv_I 1, mv_I a, mv_R 77]) (M1 := M) rfl ?_
      have ha142 : ¬ (0 ≤ (1 : Int) ∧ (1 : Int) ≤ sz ∧ 0 ≤ a ∧ a ≤ sz - (1 : Int)) := by omega
      refine mv_callPW (st2 := [mv_I 0]) rfl (Or.inl rfl) rfl rfl rfl (sp_hasRun_3_f hz1 (by omega) (by omega) ha142) (by first | decide | omega) ?_
      refine mv_goW 1 (pc' := if 0 = 0 then 36 else 39) (ls' := [mv_R 0, mv_I 3, mv_I a, mv_I v, mv_R 77]) (st' := []) (M1 := M) rfl ?_
      refine mv_ttW (by decide) ?_
      refine mv_goW 1 (pc' := 38) (ls' := [mv_R 0, mv_I 3, mv_I a, mv_I v, mv_R 77]) (st' := [mv_I (-12)]) (M1 := M) rfl ?_
      refine mv_retW (fun n => rfl) ⟨_, rfl, ?_⟩
      refine mv_goW 3 (pc' := 3) (ls' := [mv_R 100, mv_I 3, mv_I a, mv_I v]) (st' := [mv_I 3, mv_I 0, mv_I 3]) (M1 := M) rfl ?_
      have ha143 : (0 : Int) ≤ (3 : Int) ∧ (3 : Int) ≤ (3 : Int) := by omega
      refine mv_callPW (st2 := [mv_I 1]) rfl (Or.inr rfl) rfl rfl rfl (sp_min_t ha143) (by first | decide | omega) ?_
      refine mv_goW 1 (pc' := if 1 = 0 then 9 else 12) (ls' := [mv_R 100, mv_I 3, mv_I a, mv_I v]) (st' := []) (M1 := M) rfl ?_
      refine mv_ffW (by decide) ?_
      refine mv_goW 4 (pc' := if 0 ≤ 3 ∧ 3 < 4 then 18 else mv_bad) (ls' := [mv_R 100, mv_I 3, mv_I a, mv_I v]) (st' := [mv_I (M 117 3)]) (M1 := M) rfl ?_
      refine mv_ttW (by omega) ?_
      rw [show M 117 3 = so from by exact hs2]
      refine mv_goW 2 (pc' := if so = (-1) then 22 else 25) (ls' := [mv_R 100, mv_I 3, mv_I a, mv_I v]) (st' := []) (M1 := M) rfl ?_
      refine mv_ffW (by omega) ?_
      refine mv_goW 6 (pc' := if 0 ≤ 3 ∧ 3 < 4 then 33 else mv_bad) (ls' := [mv_R 100, mv_I 3, mv_I a, mv_I v]) (st' := [mv_I (M 118 3), mv_I 0, mv_I a]) (M1 := M) rfl ?_
      refine mv_ttW (by omega) ?_
      rw [show M 118 3 = sz from by exact hz2]
      refine mv_goW 2 (pc' := 35) (ls' := [mv_R 100, mv_I 3, mv_I a, mv_I v]) (st' := [mv_I (mv_w (sz - 1)), mv_I 0, mv_I a]) (M1 := M) rfl ?_
      rw [show mv_w (sz - 1) = sz - 1 from mv_w_id (by omega) (by omega)]
      have ha144 : ¬ ((0 : Int) ≤ a ∧ a ≤ (sz - 1)) := by omega
      refine mv_callPW (st2 := [mv_I 0]) rfl (Or.inr rfl) rfl rfl rfl (sp_min_f ha144) (by first | decide | omega) ?_
      refine mv_goW 1 (pc' := if 0 = 0 then 41 else 44) (ls' := [mv_R 100, mv_I 3, mv_I a, mv_I v]) (st' := []) (M1 := M) rfl ?_
      refine mv_ttW (by decide) ?_
      refine mv_goW 1 (pc' := 43) (ls' := [mv_R 100, mv_I 3, mv_I a, mv_I v]) (st' := [mv_I (-12)]) (M1 := M) rfl ?_
      exact mv_retW (fun n => rfl) ⟨congrArg mv_I (by first | with_reducible rfl | omega), hI⟩
theorem sp_k31_n (a b m : Int) (hs : ¬ (0 ≤ a ∧ a ≤ 3)) : sp_call 92 187 [mv_I a, mv_I b, mv_I m] [mv_I a, mv_I b, mv_I m] := by
  refine sp_mkW (lc := [mv_R 0, mv_I a, mv_I b, mv_I m, mv_U]) (lm := [mv_R 100, mv_I a, mv_I b, mv_I m, mv_U]) rfl rfl (fun M hI => ?_)
  refine mv_goW 2 (pc' := 2) (ls' := [mv_R 0, mv_I a, mv_I b, mv_I m, mv_U]) (st' := [mv_I a, mv_R 0]) (M1 := M) rfl ?_
  refine mv_callPW (st2 := [mv_N]) rfl (Or.inl rfl) rfl rfl rfl (sp_sheetAt_n hs) (by first | decide | omega) ?_
  refine mv_goW 4 (pc' := 24) (ls' := [mv_R 0, mv_I a, mv_I b, mv_I m, mv_N]) (st' := [mv_I (-2)]) (M1 := M) rfl ?_
  refine mv_retW (fun n => rfl) ⟨_, rfl, ?_⟩
  refine mv_goW 3 (pc' := 3) (ls' := [mv_R 100, mv_I a, mv_I b, mv_I m, mv_U]) (st' := [mv_I 3, mv_I 0, mv_I a]) (M1 := M) rfl ?_
  have ha145 : ¬ ((0 : Int) ≤ a ∧ a ≤ (3 : Int)) := by omega
  refine mv_callPW (st2 := [mv_I 0]) rfl (Or.inr rfl) rfl rfl rfl (sp_min_f ha145) (by first | decide | omega) ?_
  refine mv_goW 1 (pc' := if 0 = 0 then 29 else 9) (ls' := [mv_R 100, mv_I a, mv_I b, mv_I m, mv_U]) (st' := []) (M1 := M) rfl ?_
  refine mv_ttW (by decide) ?_
  refine mv_goW 1 (pc' := 31) (ls' := [mv_R 100, mv_I a, mv_I b, mv_I m, mv_U]) (st' := [mv_I (-2)]) (M1 := M) rfl ?_
  exact mv_retW (fun n => rfl) ⟨congrArg mv_I (by first | with_reducible rfl | omega), hI⟩
theorem sp_k32_n (a b m : Int) (hs : ¬ (0 ≤ a ∧ a ≤ 3)) : sp_call 93 188 [mv_I a, mv_I b, mv_I m] [mv_I a, mv_I b, mv_I m] := by
  refine sp_mkW (lc := [mv_R 0, mv_I a, mv_I b, mv_I m, mv_U]) (lm := [mv_R 100, mv_I a, mv_I b, mv_I m]) rfl rfl (fun M hI => ?_)
  refine mv_goW 2 (pc' := 2) (ls' := [mv_R 0, mv_I a, mv_I b, mv_I m, mv_U]) (st' := [mv_I a, mv_R 0]) (M1 := M) rfl ?_
  refine mv_callPW (st2 := [mv_N]) rfl (Or.inl rfl) rfl rfl rfl (sp_sheetAt_n hs) (by first | decide | omega) ?_
  refine mv_goW 4 (pc' := 14) (ls' := [mv_R 0, mv_I a, mv_I b, mv_I m, mv_N]) (st' := [mv_I (-2)]) (M1 := M) rfl ?_
  refine mv_retW (fun n => rfl) ⟨_, rfl, ?_⟩
  refine mv_goW 3 (pc' := 3) (ls' := [mv_R 100, mv_I a, mv_I b, mv_I m]) (st' := [mv_I 3, mv_I 0, mv_I a]) (M1 := M) rfl ?_
  have ha146 : ¬ ((0 : Int) ≤ a ∧ a ≤ (3 : Int)) := by omega
  refine mv_callPW (st2 := [mv_I 0]) rfl (Or.inr rfl) rfl rfl rfl (sp_min_f ha146) (by first | decide | omega) ?_
  refine mv_goW 1 (pc' := if 0 = 0 then 9 else 12) (ls' := [mv_R 100, mv_I a, mv_I b, mv_I m]) (st' := []) (M1 := M) rfl ?_
  refine mv_ttW (by decide) ?_
  refine mv_goW 1 (pc' := 11) (ls' := [mv_R 100, mv_I a, mv_I b, mv_I m]) (st' := [mv_I (-2)]) (M1 := M) rfl ?_
  exact mv_retW (fun n => rfl) ⟨congrArg mv_I (by first | with_reducible rfl | omega), hI⟩
theorem sp_s4 {a : Int} {Q : Int → Prop} (h0 : Q 0) (h1 : Q 1) (h2 : Q 2) (h3 : Q 3) (hn : ¬ (0 ≤ a ∧ a ≤ 3) → Q a) : Q a := by
  by_cases h : 0 ≤ a ∧ a ≤ 3
  · rcases (by omega : a = 0 ∨ a = 1 ∨ a = 2 ∨ a = 3) with q | q | q | q <;> subst q <;> assumption
  · exact hn h
theorem sp_k31 (a b m : Int) : sp_call 92 187 [mv_I a, mv_I b, mv_I m] [mv_I a, mv_I b, mv_I m] :=
  sp_s4 (Q := fun a => sp_call 92 187 [mv_I a, mv_I b, mv_I m] [mv_I a, mv_I b, mv_I m]) (sp_k31_0 b m) (sp_k31_1 b m) (sp_k31_2 b m) (sp_k31_3 b m) (sp_k31_n a b m)
theorem sp_k32 (a b m : Int) : sp_call 93 188 [mv_I a, mv_I b, mv_I m] [mv_I a, mv_I b, mv_I m] :=
  sp_s4 (Q := fun a => sp_call 93 188 [mv_I a, mv_I b, mv_I m] [mv_I a, mv_I b, mv_I m]) (sp_k32_0 b m) (sp_k32_1 b m) (sp_k32_2 b m) (sp_k32_3 b m) (sp_k32_n a b m)
