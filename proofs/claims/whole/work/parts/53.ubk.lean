/-! unclesBy: the call -/
def sp_ubg (so b fr n : Int) : Prop := (0 ≤ b ∧ b ≤ 2) ∧ (0 ≤ n ∧ n ≤ 6) ∧ so = b ∧ 0 ≤ fr
def sp_ubr (so b n : Int) : Int := if b < 0 ∨ 2 < b ∨ n < 0 ∨ 6 < n then -2 else if so = -1 then -11 else if so = b then (if n = 0 then 0 else -12) else -13
theorem sp_cubb_0 {M : mv_M} {b a n so sz : Int} (hs1 : M 71 1 = so) (hz1 : M 71 2 = sz) (z1 : 0 ≤ sz ∧ sz ≤ 40) (hg : ¬ sp_ubg so b a n) : mv_Ru 20 95 0 [mv_R 0, mv_I 0, mv_I b, mv_I a, mv_I n, mv_U, mv_U, mv_U] [] M (mv_I (sp_ubr so b n)) (fun M1 => M1 = M) := by
  have hg : ¬ ((0 ≤ b ∧ b ≤ 2) ∧ (0 ≤ n ∧ n ≤ 6) ∧ so = b ∧ 0 ≤ a) := hg
  refine mv_go' 2 (pc' := 2) (ls' := [mv_R 0, mv_I 0, mv_I b, mv_I a, mv_I n, mv_U, mv_U, mv_U]) (st' := [mv_I 0, mv_R 0]) (M1 := M) rfl ?_
  refine mv_callP (st2 := [mv_R 71]) rfl (Or.inl rfl) rfl rfl rfl (sp_sheetAt_0) (by first | decide | omega) ?_
  refine mv_go' 5 (pc' := if b < 0 then 33 else 16) (ls' := [mv_R 0, mv_I 0, mv_I b, mv_I a, mv_I n, mv_R 71, mv_U, mv_U]) (st' := []) (M1 := M) rfl ?_
  refine mv_sp' (fun ha1 => ?_) (fun ha1 => ?_)
  · refine mv_go' 1 (pc' := 35) (ls' := [mv_R 0, mv_I 0, mv_I b, mv_I a, mv_I n, mv_R 71, mv_U, mv_U]) (st' := [mv_I (-2)]) (M1 := M) rfl ?_
    exact mv_Ru.val (mv_ret (fun n => rfl) rfl) (congrArg mv_I (by unfold sp_ubr; repeat (first | omega | split)))
  · refine mv_go' 3 (pc' := if 2 < b then 33 else 21) (ls' := [mv_R 0, mv_I 0, mv_I b, mv_I a, mv_I n, mv_R 71, mv_U, mv_U]) (st' := []) (M1 := M) rfl ?_
    refine mv_sp' (fun ha2 => ?_) (fun ha2 => ?_)
    · refine mv_go' 1 (pc' := 35) (ls' := [mv_R 0, mv_I 0, mv_I b, mv_I a, mv_I n, mv_R 71, mv_U, mv_U]) (st' := [mv_I (-2)]) (M1 := M) rfl ?_
      exact mv_Ru.val (mv_ret (fun n => rfl) rfl) (congrArg mv_I (by unfold sp_ubr; repeat (first | omega | split)))
    · refine mv_go' 2 (pc' := if n < 0 then 33 else 26) (ls' := [mv_R 0, mv_I 0, mv_I b, mv_I a, mv_I n, mv_R 71, mv_U, mv_U]) (st' := []) (M1 := M) rfl ?_
      refine mv_sp' (fun ha3 => ?_) (fun ha3 => ?_)
      · refine mv_go' 1 (pc' := 35) (ls' := [mv_R 0, mv_I 0, mv_I b, mv_I a, mv_I n, mv_R 71, mv_U, mv_U]) (st' := [mv_I (-2)]) (M1 := M) rfl ?_
        exact mv_Ru.val (mv_ret (fun n => rfl) rfl) (congrArg mv_I (by unfold sp_ubr; repeat (first | omega | split)))
      · refine mv_go' 3 (pc' := if 6 < n then 33 else 36) (ls' := [mv_R 0, mv_I 0, mv_I b, mv_I a, mv_I n, mv_R 71, mv_U, mv_U]) (st' := []) (M1 := M) rfl ?_
        refine mv_sp' (fun ha4 => ?_) (fun ha4 => ?_)
        · refine mv_go' 1 (pc' := 35) (ls' := [mv_R 0, mv_I 0, mv_I b, mv_I a, mv_I n, mv_R 71, mv_U, mv_U]) (st' := [mv_I (-2)]) (M1 := M) rfl ?_
          exact mv_Ru.val (mv_ret (fun n => rfl) rfl) (congrArg mv_I (by unfold sp_ubr; repeat (first | omega | split)))
        · refine mv_go' 1 (pc' := 38) (ls' := [mv_R 0, mv_I 0, mv_I b, mv_I a, mv_I n, mv_R 71, mv_U, mv_U]) (st' := [mv_R 71]) (M1 := M) rfl ?_
          by_cases ha5 : so = -1
          · refine mv_callP (st2 := [mv_I 1]) rfl (Or.inl rfl) rfl rfl rfl (sp_isMiss_0_t (hs1.trans ha5)) (by first | decide | omega) ?_
            refine mv_go' 1 (pc' := if 1 = 0 then 47 else 44) (ls' := [mv_R 0, mv_I 0, mv_I b, mv_I a, mv_I n, mv_R 71, mv_U, mv_U]) (st' := []) (M1 := M) rfl ?_
            refine mv_ff' (by first | decide | omega) ?_
            refine mv_go' 1 (pc' := 46) (ls' := [mv_R 0, mv_I 0, mv_I b, mv_I a, mv_I n, mv_R 71, mv_U, mv_U]) (st' := [mv_I (-11)]) (M1 := M) rfl ?_
            exact mv_Ru.val (mv_ret (fun n => rfl) rfl) (congrArg mv_I (by unfold sp_ubr; repeat (first | omega | split)))
          · refine mv_callP (st2 := [mv_I 0]) rfl (Or.inl rfl) rfl rfl rfl (sp_isMiss_0_f (fun q => ha5 (hs1.symm.trans q))) (by first | decide | omega) ?_
            refine mv_go' 1 (pc' := if 0 = 0 then 47 else 44) (ls' := [mv_R 0, mv_I 0, mv_I b, mv_I a, mv_I n, mv_R 71, mv_U, mv_U]) (st' := []) (M1 := M) rfl ?_
            refine mv_tt' (by first | decide | omega) ?_
            refine mv_go' 2 (pc' := 52) (ls' := [mv_R 0, mv_I 0, mv_I b, mv_I a, mv_I n, mv_R 71, mv_U, mv_U]) (st' := [mv_I (M 71 1)]) (M1 := M) rfl ?_
            rw [show M 71 1 = so from by exact hs1]
            refine mv_go' 2 (pc' := if so = b then 59 else 56) (ls' := [mv_R 0, mv_I 0, mv_I b, mv_I a, mv_I n, mv_R 71, mv_U, mv_U]) (st' := []) (M1 := M) rfl ?_
            refine mv_sp' (fun ha6 => ?_) (fun ha6 => ?_)
            · refine mv_go' 7 (pc' := if 0 < n then 72 else 135) (ls' := [mv_R 0, mv_I 0, mv_I b, mv_I a, mv_I n, mv_R 71, mv_I 0, mv_I 0]) (st' := []) (M1 := M) rfl ?_
              refine mv_sp' (fun ha7 => ?_) (fun ha7 => ?_)
              · refine mv_go' 7 (pc' := 81) (ls' := [mv_R 0, mv_I 0, mv_I b, mv_I a, mv_I n, mv_R 71, mv_I 0, mv_I 0]) (st' := [mv_I (mv_w ((mv_w (2 * 0)) + 2)), mv_I a, mv_R 71]) (M1 := M) rfl ?_
                rw [show mv_w (2 * 0) = 2 * 0 from mv_w_id (by omega) (by omega)]
                rw [show mv_w ((2 * 0) + 2) = (2 * 0) + 2 from mv_w_id (by omega) (by omega)]
                have ha8 : ¬ (0 ≤ ((2 * 0) + 2 : Int) ∧ ((2 * 0) + 2 : Int) ≤ sz ∧ 0 ≤ a ∧ a ≤ sz - ((2 * 0) + 2 : Int)) := by omega
                refine mv_callP (st2 := [mv_I 0]) rfl (Or.inl rfl) rfl rfl rfl (sp_hasRun_0_f hz1 z1.1 z1.2 ha8) (by first | decide | omega) ?_
                refine mv_go' 1 (pc' := if 0 = 0 then 87 else 90) (ls' := [mv_R 0, mv_I 0, mv_I b, mv_I a, mv_I n, mv_R 71, mv_I 0, mv_I 0]) (st' := []) (M1 := M) rfl ?_
                refine mv_tt' (by first | decide | omega) ?_
                refine mv_go' 1 (pc' := 89) (ls' := [mv_R 0, mv_I 0, mv_I b, mv_I a, mv_I n, mv_R 71, mv_I 0, mv_I 0]) (st' := [mv_I (-12)]) (M1 := M) rfl ?_
                exact mv_Ru.val (mv_ret (fun n => rfl) rfl) (congrArg mv_I (by unfold sp_ubr; repeat (first | omega | split)))
              · refine mv_go' 1 (pc' := 137) (ls' := [mv_R 0, mv_I 0, mv_I b, mv_I a, mv_I n, mv_R 71, mv_I 0, mv_I 0]) (st' := [mv_I 0]) (M1 := M) rfl ?_
                exact mv_Ru.val (mv_ret (fun n => rfl) rfl) (congrArg mv_I (by unfold sp_ubr; repeat (first | omega | split)))
            · refine mv_go' 1 (pc' := 58) (ls' := [mv_R 0, mv_I 0, mv_I b, mv_I a, mv_I n, mv_R 71, mv_U, mv_U]) (st' := [mv_I (-13)]) (M1 := M) rfl ?_
              exact mv_Ru.val (mv_ret (fun n => rfl) rfl) (congrArg mv_I (by unfold sp_ubr; repeat (first | omega | split)))
theorem sp_cubw_0 {V M : mv_M} {f : Nat → Int} {so sz : Int} {fr n : Nat} {Q : mv_V → mv_M → Prop} (hc : sp_c 30 M V) (ho : sp_ok V) (hs1 : M 71 1 = so) (hz1 : M 71 2 = sz) (z1 : 0 ≤ sz ∧ sz ≤ 40) (hf : ∀ j : Nat, (fr : Int) + j < 40 → M 72 (fr + j) = f j) (hg : sp_ubg so so fr n)
    (hQ1 : ∀ M2, (∀ j : Nat, j < n → (fr : Int) + 2 * j + 2 ≤ sz) → mv_ag [30, 33, 34, 35] M M2 → sp_c 30 M2 (sp_ubV V f n) → Q (mv_I (sp_ubC V f n)) M2)
    (hQ2 : ∀ k : Nat, k < n → (∀ j : Nat, j < k → (fr : Int) + 2 * j + 2 ≤ sz) → ¬ ((fr : Int) + 2 * k + 2 ≤ sz) → ∀ M2, mv_ag [30, 33, 34, 35] M M2 → sp_c 30 M2 (sp_ubV V f k) → Q (mv_I (-12)) M2) :
      mv_W 20 95 0 [mv_R 0, mv_I 0, mv_I so, mv_I (fr : Int), mv_I (n : Int), mv_U, mv_U, mv_U] [] M Q := by
  obtain ⟨g1, g2, g3, g4⟩ := hg
  refine mv_goW 2 (pc' := 2) (ls' := [mv_R 0, mv_I 0, mv_I so, mv_I (fr : Int), mv_I (n : Int), mv_U, mv_U, mv_U]) (st' := [mv_I 0, mv_R 0]) (M1 := M) rfl ?_
  refine mv_callPW (st2 := [mv_R 71]) rfl (Or.inl rfl) rfl rfl rfl (sp_sheetAt_0) (by first | decide | omega) ?_
  refine mv_goW 5 (pc' := if so < 0 then 33 else 16) (ls' := [mv_R 0, mv_I 0, mv_I so, mv_I (fr : Int), mv_I (n : Int), mv_R 71, mv_U, mv_U]) (st' := []) (M1 := M) rfl ?_
  refine mv_ffW (by omega) ?_
  refine mv_goW 3 (pc' := if 2 < so then 33 else 21) (ls' := [mv_R 0, mv_I 0, mv_I so, mv_I (fr : Int), mv_I (n : Int), mv_R 71, mv_U, mv_U]) (st' := []) (M1 := M) rfl ?_
  refine mv_ffW (by omega) ?_
  refine mv_goW 2 (pc' := if (n : Int) < 0 then 33 else 26) (ls' := [mv_R 0, mv_I 0, mv_I so, mv_I (fr : Int), mv_I (n : Int), mv_R 71, mv_U, mv_U]) (st' := []) (M1 := M) rfl ?_
  refine mv_ffW (by omega) ?_
  refine mv_goW 3 (pc' := if 6 < (n : Int) then 33 else 36) (ls' := [mv_R 0, mv_I 0, mv_I so, mv_I (fr : Int), mv_I (n : Int), mv_R 71, mv_U, mv_U]) (st' := []) (M1 := M) rfl ?_
  refine mv_ffW (by omega) ?_
  refine mv_goW 1 (pc' := 38) (ls' := [mv_R 0, mv_I 0, mv_I so, mv_I (fr : Int), mv_I (n : Int), mv_R 71, mv_U, mv_U]) (st' := [mv_R 71]) (M1 := M) rfl ?_
  have ha9 : ¬ (so = -1) := by omega
  refine mv_callPW (st2 := [mv_I 0]) rfl (Or.inl rfl) rfl rfl rfl (sp_isMiss_0_f (fun q => ha9 (hs1.symm.trans q))) (by first | decide | omega) ?_
  refine mv_goW 1 (pc' := if 0 = 0 then 47 else 44) (ls' := [mv_R 0, mv_I 0, mv_I so, mv_I (fr : Int), mv_I (n : Int), mv_R 71, mv_U, mv_U]) (st' := []) (M1 := M) rfl ?_
  refine mv_ttW (by first | decide | omega) ?_
  refine mv_goW 2 (pc' := 52) (ls' := [mv_R 0, mv_I 0, mv_I so, mv_I (fr : Int), mv_I (n : Int), mv_R 71, mv_U, mv_U]) (st' := [mv_I (M 71 1)]) (M1 := M) rfl ?_
  rw [show M 71 1 = so from by exact hs1]
  refine mv_goW 2 (pc' := if so = so then 59 else 56) (ls' := [mv_R 0, mv_I 0, mv_I so, mv_I (fr : Int), mv_I (n : Int), mv_R 71, mv_U, mv_U]) (st' := []) (M1 := M) rfl ?_
  refine mv_ttW (by first | decide | omega) ?_
  refine mv_goW 4 (pc' := 65) (ls' := [mv_R 0, mv_I 0, mv_I so, mv_I (fr : Int), mv_I (n : Int), mv_R 71, mv_I 0, mv_I 0]) (st' := []) (M1 := M) rfl ?_
  exact sp_cub_0 (d := 17) ho hz1 z1 hf (by omega) hQ1 hQ2 n 0 M (by omega) mv_ag.rf hc (fun j hj => absurd hj (by omega))
theorem sp_cubb_1 {M : mv_M} {b a n so sz : Int} (hs1 : M 73 1 = so) (hz1 : M 73 2 = sz) (z1 : 0 ≤ sz ∧ sz ≤ 40) (hg : ¬ sp_ubg so b a n) : mv_Ru 20 95 0 [mv_R 0, mv_I 1, mv_I b, mv_I a, mv_I n, mv_U, mv_U, mv_U] [] M (mv_I (sp_ubr so b n)) (fun M1 => M1 = M) := by
  have hg : ¬ ((0 ≤ b ∧ b ≤ 2) ∧ (0 ≤ n ∧ n ≤ 6) ∧ so = b ∧ 0 ≤ a) := hg
  refine mv_go' 2 (pc' := 2) (ls' := [mv_R 0, mv_I 1, mv_I b, mv_I a, mv_I n, mv_U, mv_U, mv_U]) (st' := [mv_I 1, mv_R 0]) (M1 := M) rfl ?_
  refine mv_callP (st2 := [mv_R 73]) rfl (Or.inl rfl) rfl rfl rfl (sp_sheetAt_1) (by first | decide | omega) ?_
  refine mv_go' 5 (pc' := if b < 0 then 33 else 16) (ls' := [mv_R 0, mv_I 1, mv_I b, mv_I a, mv_I n, mv_R 73, mv_U, mv_U]) (st' := []) (M1 := M) rfl ?_
  refine mv_sp' (fun ha10 => ?_) (fun ha10 => ?_)
  · refine mv_go' 1 (pc' := 35) (ls' := [mv_R 0, mv_I 1, mv_I b, mv_I a, mv_I n, mv_R 73, mv_U, mv_U]) (st' := [mv_I (-2)]) (M1 := M) rfl ?_
    exact mv_Ru.val (mv_ret (fun n => rfl) rfl) (congrArg mv_I (by unfold sp_ubr; repeat (first | omega | split)))
  · refine mv_go' 3 (pc' := if 2 < b then 33 else 21) (ls' := [mv_R 0, mv_I 1, mv_I b, mv_I a, mv_I n, mv_R 73, mv_U, mv_U]) (st' := []) (M1 := M) rfl ?_
    refine mv_sp' (fun ha11 => ?_) (fun ha11 => ?_)
    · refine mv_go' 1 (pc' := 35) (ls' := [mv_R 0, mv_I 1, mv_I b, mv_I a, mv_I n, mv_R 73, mv_U, mv_U]) (st' := [mv_I (-2)]) (M1 := M) rfl ?_
      exact mv_Ru.val (mv_ret (fun n => rfl) rfl) (congrArg mv_I (by unfold sp_ubr; repeat (first | omega | split)))
    · refine mv_go' 2 (pc' := if n < 0 then 33 else 26) (ls' := [mv_R 0, mv_I 1, mv_I b, mv_I a, mv_I n, mv_R 73, mv_U, mv_U]) (st' := []) (M1 := M) rfl ?_
      refine mv_sp' (fun ha12 => ?_) (fun ha12 => ?_)
      · refine mv_go' 1 (pc' := 35) (ls' := [mv_R 0, mv_I 1, mv_I b, mv_I a, mv_I n, mv_R 73, mv_U, mv_U]) (st' := [mv_I (-2)]) (M1 := M) rfl ?_
        exact mv_Ru.val (mv_ret (fun n => rfl) rfl) (congrArg mv_I (by unfold sp_ubr; repeat (first | omega | split)))
      · refine mv_go' 3 (pc' := if 6 < n then 33 else 36) (ls' := [mv_R 0, mv_I 1, mv_I b, mv_I a, mv_I n, mv_R 73, mv_U, mv_U]) (st' := []) (M1 := M) rfl ?_
        refine mv_sp' (fun ha13 => ?_) (fun ha13 => ?_)
        · refine mv_go' 1 (pc' := 35) (ls' := [mv_R 0, mv_I 1, mv_I b, mv_I a, mv_I n, mv_R 73, mv_U, mv_U]) (st' := [mv_I (-2)]) (M1 := M) rfl ?_
          exact mv_Ru.val (mv_ret (fun n => rfl) rfl) (congrArg mv_I (by unfold sp_ubr; repeat (first | omega | split)))
        · refine mv_go' 1 (pc' := 38) (ls' := [mv_R 0, mv_I 1, mv_I b, mv_I a, mv_I n, mv_R 73, mv_U, mv_U]) (st' := [mv_R 73]) (M1 := M) rfl ?_
          by_cases ha14 : so = -1
          · refine mv_callP (st2 := [mv_I 1]) rfl (Or.inl rfl) rfl rfl rfl (sp_isMiss_1_t (hs1.trans ha14)) (by first | decide | omega) ?_
            refine mv_go' 1 (pc' := if 1 = 0 then 47 else 44) (ls' := [mv_R 0, mv_I 1, mv_I b, mv_I a, mv_I n, mv_R 73, mv_U, mv_U]) (st' := []) (M1 := M) rfl ?_
            refine mv_ff' (by first | decide | omega) ?_
            refine mv_go' 1 (pc' := 46) (ls' := [mv_R 0, mv_I 1, mv_I b, mv_I a, mv_I n, mv_R 73, mv_U, mv_U]) (st' := [mv_I (-11)]) (M1 := M) rfl ?_
            exact mv_Ru.val (mv_ret (fun n => rfl) rfl) (congrArg mv_I (by unfold sp_ubr; repeat (first | omega | split)))
          · refine mv_callP (st2 := [mv_I 0]) rfl (Or.inl rfl) rfl rfl rfl (sp_isMiss_1_f (fun q => ha14 (hs1.symm.trans q))) (by first | decide | omega) ?_
            refine mv_go' 1 (pc' := if 0 = 0 then 47 else 44) (ls' := [mv_R 0, mv_I 1, mv_I b, mv_I a, mv_I n, mv_R 73, mv_U, mv_U]) (st' := []) (M1 := M) rfl ?_
            refine mv_tt' (by first | decide | omega) ?_
            refine mv_go' 2 (pc' := 52) (ls' := [mv_R 0, mv_I 1, mv_I b, mv_I a, mv_I n, mv_R 73, mv_U, mv_U]) (st' := [mv_I (M 73 1)]) (M1 := M) rfl ?_
            rw [show M 73 1 = so from by exact hs1]
            refine mv_go' 2 (pc' := if so = b then 59 else 56) (ls' := [mv_R 0, mv_I 1, mv_I b, mv_I a, mv_I n, mv_R 73, mv_U, mv_U]) (st' := []) (M1 := M) rfl ?_
            refine mv_sp' (fun ha15 => ?_) (fun ha15 => ?_)
            · refine mv_go' 7 (pc' := if 0 < n then 72 else 135) (ls' := [mv_R 0, mv_I 1, mv_I b, mv_I a, mv_I n, mv_R 73, mv_I 0, mv_I 0]) (st' := []) (M1 := M) rfl ?_
              refine mv_sp' (fun ha16 => ?_) (fun ha16 => ?_)
              · refine mv_go' 7 (pc' := 81) (ls' := [mv_R 0, mv_I 1, mv_I b, mv_I a, mv_I n, mv_R 73, mv_I 0, mv_I 0]) (st' := [mv_I (mv_w ((mv_w (2 * 0)) + 2)), mv_I a, mv_R 73]) (M1 := M) rfl ?_
                rw [show mv_w (2 * 0) = 2 * 0 from mv_w_id (by omega) (by omega)]
                rw [show mv_w ((2 * 0) + 2) = (2 * 0) + 2 from mv_w_id (by omega) (by omega)]
                have ha17 : ¬ (0 ≤ ((2 * 0) + 2 : Int) ∧ ((2 * 0) + 2 : Int) ≤ sz ∧ 0 ≤ a ∧ a ≤ sz - ((2 * 0) + 2 : Int)) := by omega
                refine mv_callP (st2 := [mv_I 0]) rfl (Or.inl rfl) rfl rfl rfl (sp_hasRun_1_f hz1 z1.1 z1.2 ha17) (by first | decide | omega) ?_
                refine mv_go' 1 (pc' := if 0 = 0 then 87 else 90) (ls' := [mv_R 0, mv_I 1, mv_I b, mv_I a, mv_I n, mv_R 73, mv_I 0, mv_I 0]) (st' := []) (M1 := M) rfl ?_
                refine mv_tt' (by first | decide | omega) ?_
                refine mv_go' 1 (pc' := 89) (ls' := [mv_R 0, mv_I 1, mv_I b, mv_I a, mv_I n, mv_R 73, mv_I 0, mv_I 0]) (st' := [mv_I (-12)]) (M1 := M) rfl ?_
                exact mv_Ru.val (mv_ret (fun n => rfl) rfl) (congrArg mv_I (by unfold sp_ubr; repeat (first | omega | split)))
              · refine mv_go' 1 (pc' := 137) (ls' := [mv_R 0, mv_I 1, mv_I b, mv_I a, mv_I n, mv_R 73, mv_I 0, mv_I 0]) (st' := [mv_I 0]) (M1 := M) rfl ?_
                exact mv_Ru.val (mv_ret (fun n => rfl) rfl) (congrArg mv_I (by unfold sp_ubr; repeat (first | omega | split)))
            · refine mv_go' 1 (pc' := 58) (ls' := [mv_R 0, mv_I 1, mv_I b, mv_I a, mv_I n, mv_R 73, mv_U, mv_U]) (st' := [mv_I (-13)]) (M1 := M) rfl ?_
              exact mv_Ru.val (mv_ret (fun n => rfl) rfl) (congrArg mv_I (by unfold sp_ubr; repeat (first | omega | split)))
theorem sp_cubw_1 {V M : mv_M} {f : Nat → Int} {so sz : Int} {fr n : Nat} {Q : mv_V → mv_M → Prop} (hc : sp_c 30 M V) (ho : sp_ok V) (hs1 : M 73 1 = so) (hz1 : M 73 2 = sz) (z1 : 0 ≤ sz ∧ sz ≤ 40) (hf : ∀ j : Nat, (fr : Int) + j < 40 → M 74 (fr + j) = f j) (hg : sp_ubg so so fr n)
    (hQ1 : ∀ M2, (∀ j : Nat, j < n → (fr : Int) + 2 * j + 2 ≤ sz) → mv_ag [30, 33, 34, 35] M M2 → sp_c 30 M2 (sp_ubV V f n) → Q (mv_I (sp_ubC V f n)) M2)
    (hQ2 : ∀ k : Nat, k < n → (∀ j : Nat, j < k → (fr : Int) + 2 * j + 2 ≤ sz) → ¬ ((fr : Int) + 2 * k + 2 ≤ sz) → ∀ M2, mv_ag [30, 33, 34, 35] M M2 → sp_c 30 M2 (sp_ubV V f k) → Q (mv_I (-12)) M2) :
      mv_W 20 95 0 [mv_R 0, mv_I 1, mv_I so, mv_I (fr : Int), mv_I (n : Int), mv_U, mv_U, mv_U] [] M Q := by
  obtain ⟨g1, g2, g3, g4⟩ := hg
  refine mv_goW 2 (pc' := 2) (ls' := [mv_R 0, mv_I 1, mv_I so, mv_I (fr : Int), mv_I (n : Int), mv_U, mv_U, mv_U]) (st' := [mv_I 1, mv_R 0]) (M1 := M) rfl ?_
  refine mv_callPW (st2 := [mv_R 73]) rfl (Or.inl rfl) rfl rfl rfl (sp_sheetAt_1) (by first | decide | omega) ?_
  refine mv_goW 5 (pc' := if so < 0 then 33 else 16) (ls' := [mv_R 0, mv_I 1, mv_I so, mv_I (fr : Int), mv_I (n : Int), mv_R 73, mv_U, mv_U]) (st' := []) (M1 := M) rfl ?_
  refine mv_ffW (by omega) ?_
  refine mv_goW 3 (pc' := if 2 < so then 33 else 21) (ls' := [mv_R 0, mv_I 1, mv_I so, mv_I (fr : Int), mv_I (n : Int), mv_R 73, mv_U, mv_U]) (st' := []) (M1 := M) rfl ?_
  refine mv_ffW (by omega) ?_
  refine mv_goW 2 (pc' := if (n : Int) < 0 then 33 else 26) (ls' := [mv_R 0, mv_I 1, mv_I so, mv_I (fr : Int), mv_I (n : Int), mv_R 73, mv_U, mv_U]) (st' := []) (M1 := M) rfl ?_
  refine mv_ffW (by omega) ?_
  refine mv_goW 3 (pc' := if 6 < (n : Int) then 33 else 36) (ls' := [mv_R 0, mv_I 1, mv_I so, mv_I (fr : Int), mv_I (n : Int), mv_R 73, mv_U, mv_U]) (st' := []) (M1 := M) rfl ?_
  refine mv_ffW (by omega) ?_
  refine mv_goW 1 (pc' := 38) (ls' := [mv_R 0, mv_I 1, mv_I so, mv_I (fr : Int), mv_I (n : Int), mv_R 73, mv_U, mv_U]) (st' := [mv_R 73]) (M1 := M) rfl ?_
  have ha18 : ¬ (so = -1) := by omega
  refine mv_callPW (st2 := [mv_I 0]) rfl (Or.inl rfl) rfl rfl rfl (sp_isMiss_1_f (fun q => ha18 (hs1.symm.trans q))) (by first | decide | omega) ?_
  refine mv_goW 1 (pc' := if 0 = 0 then 47 else 44) (ls' := [mv_R 0, mv_I 1, mv_I so, mv_I (fr : Int), mv_I (n : Int), mv_R 73, mv_U, mv_U]) (st' := []) (M1 := M) rfl ?_
  refine mv_ttW (by first | decide | omega) ?_
  refine mv_goW 2 (pc' := 52) (ls' := [mv_R 0, mv_I 1, mv_I so, mv_I (fr : Int), mv_I (n : Int), mv_R 73, mv_U, mv_U]) (st' := [mv_I (M 73 1)]) (M1 := M) rfl ?_
  rw [show M 73 1 = so from by exact hs1]
  refine mv_goW 2 (pc' := if so = so then 59 else 56) (ls' := [mv_R 0, mv_I 1, mv_I so, mv_I (fr : Int), mv_I (n : Int), mv_R 73, mv_U, mv_U]) (st' := []) (M1 := M) rfl ?_
  refine mv_ttW (by first | decide | omega) ?_
  refine mv_goW 4 (pc' := 65) (ls' := [mv_R 0, mv_I 1, mv_I so, mv_I (fr : Int), mv_I (n : Int), mv_R 73, mv_I 0, mv_I 0]) (st' := []) (M1 := M) rfl ?_
  exact sp_cub_1 (d := 17) ho hz1 z1 hf (by omega) hQ1 hQ2 n 0 M (by omega) mv_ag.rf hc (fun j hj => absurd hj (by omega))
theorem sp_cubb_2 {M : mv_M} {b a n so sz : Int} (hs1 : M 75 1 = so) (hz1 : M 75 2 = sz) (z1 : 0 ≤ sz ∧ sz ≤ 40) (hg : ¬ sp_ubg so b a n) : mv_Ru 20 95 0 [mv_R 0, mv_I 2, mv_I b, mv_I a, mv_I n, mv_U, mv_U, mv_U] [] M (mv_I (sp_ubr so b n)) (fun M1 => M1 = M) := by
  have hg : ¬ ((0 ≤ b ∧ b ≤ 2) ∧ (0 ≤ n ∧ n ≤ 6) ∧ so = b ∧ 0 ≤ a) := hg
  refine mv_go' 2 (pc' := 2) (ls' := [mv_R 0, mv_I 2, mv_I b, mv_I a, mv_I n, mv_U, mv_U, mv_U]) (st' := [mv_I 2, mv_R 0]) (M1 := M) rfl ?_
  refine mv_callP (st2 := [mv_R 75]) rfl (Or.inl rfl) rfl rfl rfl (sp_sheetAt_2) (by first | decide | omega) ?_
  refine mv_go' 5 (pc' := if b < 0 then 33 else 16) (ls' := [mv_R 0, mv_I 2, mv_I b, mv_I a, mv_I n, mv_R 75, mv_U, mv_U]) (st' := []) (M1 := M) rfl ?_
  refine mv_sp' (fun ha19 => ?_) (fun ha19 => ?_)
  · refine mv_go' 1 (pc' := 35) (ls' := [mv_R 0, mv_I 2, mv_I b, mv_I a, mv_I n, mv_R 75, mv_U, mv_U]) (st' := [mv_I (-2)]) (M1 := M) rfl ?_
    exact mv_Ru.val (mv_ret (fun n => rfl) rfl) (congrArg mv_I (by unfold sp_ubr; repeat (first | omega | split)))
  · refine mv_go' 3 (pc' := if 2 < b then 33 else 21) (ls' := [mv_R 0, mv_I 2, mv_I b, mv_I a, mv_I n, mv_R 75, mv_U, mv_U]) (st' := []) (M1 := M) rfl ?_
    refine mv_sp' (fun ha20 => ?_) (fun ha20 => ?_)
    · refine mv_go' 1 (pc' := 35) (ls' := [mv_R 0, mv_I 2, mv_I b, mv_I a, mv_I n, mv_R 75, mv_U, mv_U]) (st' := [mv_I (-2)]) (M1 := M) rfl ?_
      exact mv_Ru.val (mv_ret (fun n => rfl) rfl) (congrArg mv_I (by unfold sp_ubr; repeat (first | omega | split)))
    · refine mv_go' 2 (pc' := if n < 0 then 33 else 26) (ls' := [mv_R 0, mv_I 2, mv_I b, mv_I a, mv_I n, mv_R 75, mv_U, mv_U]) (st' := []) (M1 := M) rfl ?_
      refine mv_sp' (fun ha21 => ?_) (fun ha21 => ?_)
      · refine mv_go' 1 (pc' := 35) (ls' := [mv_R 0, mv_I 2, mv_I b, mv_I a, mv_I n, mv_R 75, mv_U, mv_U]) (st' := [mv_I (-2)]) (M1 := M) rfl ?_
        exact mv_Ru.val (mv_ret (fun n => rfl) rfl) (congrArg mv_I (by unfold sp_ubr; repeat (first | omega | split)))
      · refine mv_go' 3 (pc' := if 6 < n then 33 else 36) (ls' := [mv_R 0, mv_I 2, mv_I b, mv_I a, mv_I n, mv_R 75, mv_U, mv_U]) (st' := []) (M1 := M) rfl ?_
        refine mv_sp' (fun ha22 => ?_) (fun ha22 => ?_)
        · refine mv_go' 1 (pc' := 35) (ls' := [mv_R 0, mv_I 2, mv_I b, mv_I a, mv_I n, mv_R 75, mv_U, mv_U]) (st' := [mv_I (-2)]) (M1 := M) rfl ?_
          exact mv_Ru.val (mv_ret (fun n => rfl) rfl) (congrArg mv_I (by unfold sp_ubr; repeat (first | omega | split)))
        · refine mv_go' 1 (pc' := 38) (ls' := [mv_R 0, mv_I 2, mv_I b, mv_I a, mv_I n, mv_R 75, mv_U, mv_U]) (st' := [mv_R 75]) (M1 := M) rfl ?_
          by_cases ha23 : so = -1
          · refine mv_callP (st2 := [mv_I 1]) rfl (Or.inl rfl) rfl rfl rfl (sp_isMiss_2_t (hs1.trans ha23)) (by first | decide | omega) ?_
            refine mv_go' 1 (pc' := if 1 = 0 then 47 else 44) (ls' := [mv_R 0, mv_I 2, mv_I b, mv_I a, mv_I n, mv_R 75, mv_U, mv_U]) (st' := []) (M1 := M) rfl ?_
            refine mv_ff' (by first | decide | omega) ?_
            refine mv_go' 1 (pc' := 46) (ls' := [mv_R 0, mv_I 2, mv_I b, mv_I a, mv_I n, mv_R 75, mv_U, mv_U]) (st' := [mv_I (-11)]) (M1 := M) rfl ?_
            exact mv_Ru.val (mv_ret (fun n => rfl) rfl) (congrArg mv_I (by unfold sp_ubr; repeat (first | omega | split)))
          · refine mv_callP (st2 := [mv_I 0]) rfl (Or.inl rfl) rfl rfl rfl (sp_isMiss_2_f (fun q => ha23 (hs1.symm.trans q))) (by first | decide | omega) ?_
            refine mv_go' 1 (pc' := if 0 = 0 then 47 else 44) (ls' := [mv_R 0, mv_I 2, mv_I b, mv_I a, mv_I n, mv_R 75, mv_U, mv_U]) (st' := []) (M1 := M) rfl ?_
            refine mv_tt' (by first | decide | omega) ?_
            refine mv_go' 2 (pc' := 52) (ls' := [mv_R 0, mv_I 2, mv_I b, mv_I a, mv_I n, mv_R 75, mv_U, mv_U]) (st' := [mv_I (M 75 1)]) (M1 := M) rfl ?_
            rw [show M 75 1 = so from by exact hs1]
            refine mv_go' 2 (pc' := if so = b then 59 else 56) (ls' := [mv_R 0, mv_I 2, mv_I b, mv_I a, mv_I n, mv_R 75, mv_U, mv_U]) (st' := []) (M1 := M) rfl ?_
            refine mv_sp' (fun ha24 => ?_) (fun ha24 => ?_)
            · refine mv_go' 7 (pc' := if 0 < n then 72 else 135) (ls' := [mv_R 0, mv_I 2, mv_I b, mv_I a, mv_I n, mv_R 75, mv_I 0, mv_I 0]) (st' := []) (M1 := M) rfl ?_
              refine mv_sp' (fun ha25 => ?_) (fun ha25 => ?_)
              · refine mv_go' 7 (pc' := 81) (ls' := [mv_R 0, mv_I 2, mv_I b, mv_I a, mv_I n, mv_R 75, mv_I 0, mv_I 0]) (st' := [mv_I (mv_w ((mv_w (2 * 0)) + 2)), mv_I a, mv_R 75]) (M1 := M) rfl ?_
                rw [show mv_w (2 * 0) = 2 * 0 from mv_w_id (by omega) (by omega)]
                rw [show mv_w ((2 * 0) + 2) = (2 * 0) + 2 from mv_w_id (by omega) (by omega)]
                have ha26 : ¬ (0 ≤ ((2 * 0) + 2 : Int) ∧ ((2 * 0) + 2 : Int) ≤ sz ∧ 0 ≤ a ∧ a ≤ sz - ((2 * 0) + 2 : Int)) := by omega
                refine mv_callP (st2 := [mv_I 0]) rfl (Or.inl rfl) rfl rfl rfl (sp_hasRun_2_f hz1 z1.1 z1.2 ha26) (by first | decide | omega) ?_
                refine mv_go' 1 (pc' := if 0 = 0 then 87 else 90) (ls' := [mv_R 0, mv_I 2, mv_I b, mv_I a, mv_I n, mv_R 75, mv_I 0, mv_I 0]) (st' := []) (M1 := M) rfl ?_
                refine mv_tt' (by first | decide | omega) ?_
                refine mv_go' 1 (pc' := 89) (ls' := [mv_R 0, mv_I 2, mv_I b, mv_I a, mv_I n, mv_R 75, mv_I 0, mv_I 0]) (st' := [mv_I (-12)]) (M1 := M) rfl ?_
                exact mv_Ru.val (mv_ret (fun n => rfl) rfl) (congrArg mv_I (by unfold sp_ubr; repeat (first | omega | split)))
              · refine mv_go' 1 (pc' := 137) (ls' := [mv_R 0, mv_I 2, mv_I b, mv_I a, mv_I n, mv_R 75, mv_I 0, mv_I 0]) (st' := [mv_I 0]) (M1 := M) rfl ?_
                exact mv_Ru.val (mv_ret (fun n => rfl) rfl) (congrArg mv_I (by unfold sp_ubr; repeat (first | omega | split)))
            · refine mv_go' 1 (pc' := 58) (ls' := [mv_R 0, mv_I 2, mv_I b, mv_I a, mv_I n, mv_R 75, mv_U, mv_U]) (st' := [mv_I (-13)]) (M1 := M) rfl ?_
              exact mv_Ru.val (mv_ret (fun n => rfl) rfl) (congrArg mv_I (by unfold sp_ubr; repeat (first | omega | split)))
theorem sp_cubw_2 {V M : mv_M} {f : Nat → Int} {so sz : Int} {fr n : Nat} {Q : mv_V → mv_M → Prop} (hc : sp_c 30 M V) (ho : sp_ok V) (hs1 : M 75 1 = so) (hz1 : M 75 2 = sz) (z1 : 0 ≤ sz ∧ sz ≤ 40) (hf : ∀ j : Nat, (fr : Int) + j < 40 → M 76 (fr + j) = f j) (hg : sp_ubg so so fr n)
    (hQ1 : ∀ M2, (∀ j : Nat, j < n → (fr : Int) + 2 * j + 2 ≤ sz) → mv_ag [30, 33, 34, 35] M M2 → sp_c 30 M2 (sp_ubV V f n) → Q (mv_I (sp_ubC V f n)) M2)
    (hQ2 : ∀ k : Nat, k < n → (∀ j : Nat, j < k → (fr : Int) + 2 * j + 2 ≤ sz) → ¬ ((fr : Int) + 2 * k + 2 ≤ sz) → ∀ M2, mv_ag [30, 33, 34, 35] M M2 → sp_c 30 M2 (sp_ubV V f k) → Q (mv_I (-12)) M2) :
      mv_W 20 95 0 [mv_R 0, mv_I 2, mv_I so, mv_I (fr : Int), mv_I (n : Int), mv_U, mv_U, mv_U] [] M Q := by
  obtain ⟨g1, g2, g3, g4⟩ := hg
  refine mv_goW 2 (pc' := 2) (ls' := [mv_R 0, mv_I 2, mv_I so, mv_I (fr : Int), mv_I (n : Int), mv_U, mv_U, mv_U]) (st' := [mv_I 2, mv_R 0]) (M1 := M) rfl ?_
  refine mv_callPW (st2 := [mv_R 75]) rfl (Or.inl rfl) rfl rfl rfl (sp_sheetAt_2) (by first | decide | omega) ?_
  refine mv_goW 5 (pc' := if so < 0 then 33 else 16) (ls' := [mv_R 0, mv_I 2, mv_I so, mv_I (fr : Int), mv_I (n : Int), mv_R 75, mv_U, mv_U]) (st' := []) (M1 := M) rfl ?_
  refine mv_ffW (by omega) ?_
  refine mv_goW 3 (pc' := if 2 < so then 33 else 21) (ls' := [mv_R 0, mv_I 2, mv_I so, mv_I (fr : Int), mv_I (n : Int), mv_R 75, mv_U, mv_U]) (st' := []) (M1 := M) rfl ?_
  refine mv_ffW (by omega) ?_
  refine mv_goW 2 (pc' := if (n : Int) < 0 then 33 else 26) (ls' := [mv_R 0, mv_I 2, mv_I so, mv_I (fr : Int), mv_I (n : Int), mv_R 75, mv_U, mv_U]) (st' := []) (M1 := M) rfl ?_
  refine mv_ffW (by omega) ?_
  refine mv_goW 3 (pc' := if 6 < (n : Int) then 33 else 36) (ls' := [mv_R 0, mv_I 2, mv_I so, mv_I (fr : Int), mv_I (n : Int), mv_R 75, mv_U, mv_U]) (st' := []) (M1 := M) rfl ?_
  refine mv_ffW (by omega) ?_
  refine mv_goW 1 (pc' := 38) (ls' := [mv_R 0, mv_I 2, mv_I so, mv_I (fr : Int), mv_I (n : Int), mv_R 75, mv_U, mv_U]) (st' := [mv_R 75]) (M1 := M) rfl ?_
  have ha27 : ¬ (so = -1) := by omega
  refine mv_callPW (st2 := [mv_I 0]) rfl (Or.inl rfl) rfl rfl rfl (sp_isMiss_2_f (fun q => ha27 (hs1.symm.trans q))) (by first | decide | omega) ?_
  refine mv_goW 1 (pc' := if 0 = 0 then 47 else 44) (ls' := [mv_R 0, mv_I 2, mv_I so, mv_I (fr : Int), mv_I (n : Int), mv_R 75, mv_U, mv_U]) (st' := []) (M1 := M) rfl ?_
  refine mv_ttW (by first | decide | omega) ?_
  refine mv_goW 2 (pc' := 52) (ls' := [mv_R 0, mv_I 2, mv_I so, mv_I (fr : Int), mv_I (n : Int), mv_R 75, mv_U, mv_U]) (st' := [mv_I (M 75 1)]) (M1 := M) rfl ?_
  rw [show M 75 1 = so from by exact hs1]
  refine mv_goW 2 (pc' := if so = so then 59 else 56) (ls' := [mv_R 0, mv_I 2, mv_I so, mv_I (fr : Int), mv_I (n : Int), mv_R 75, mv_U, mv_U]) (st' := []) (M1 := M) rfl ?_
  refine mv_ttW (by first | decide | omega) ?_
  refine mv_goW 4 (pc' := 65) (ls' := [mv_R 0, mv_I 2, mv_I so, mv_I (fr : Int), mv_I (n : Int), mv_R 75, mv_I 0, mv_I 0]) (st' := []) (M1 := M) rfl ?_
  exact sp_cub_2 (d := 17) ho hz1 z1 hf (by omega) hQ1 hQ2 n 0 M (by omega) mv_ag.rf hc (fun j hj => absurd hj (by omega))
theorem sp_cubb_3 {M : mv_M} {b a n so sz : Int} (hs1 : M 77 1 = so) (hz1 : M 77 2 = sz) (z1 : 0 ≤ sz ∧ sz ≤ 40) (hg : ¬ sp_ubg so b a n) : mv_Ru 20 95 0 [mv_R 0, mv_I 3, mv_I b, mv_I a, mv_I n, mv_U, mv_U, mv_U] [] M (mv_I (sp_ubr so b n)) (fun M1 => M1 = M) := by
  have hg : ¬ ((0 ≤ b ∧ b ≤ 2) ∧ (0 ≤ n ∧ n ≤ 6) ∧ so = b ∧ 0 ≤ a) := hg
  refine mv_go' 2 (pc' := 2) (ls' := [mv_R 0, mv_I 3, mv_I b, mv_I a, mv_I n, mv_U, mv_U, mv_U]) (st' := [mv_I 3, mv_R 0]) (M1 := M) rfl ?_
  refine mv_callP (st2 := [mv_R 77]) rfl (Or.inl rfl) rfl rfl rfl (sp_sheetAt_3) (by first | decide | omega) ?_
  refine mv_go' 5 (pc' := if b < 0 then 33 else 16) (ls' := [mv_R 0, mv_I 3, mv_I b, mv_I a, mv_I n, mv_R 77, mv_U, mv_U]) (st' := []) (M1 := M) rfl ?_
  refine mv_sp' (fun ha28 => ?_) (fun ha28 => ?_)
  · refine mv_go' 1 (pc' := 35) (ls' := [mv_R 0, mv_I 3, mv_I b, mv_I a, mv_I n, mv_R 77, mv_U, mv_U]) (st' := [mv_I (-2)]) (M1 := M) rfl ?_
    exact mv_Ru.val (mv_ret (fun n => rfl) rfl) (congrArg mv_I (by unfold sp_ubr; repeat (first | omega | split)))
  · refine mv_go' 3 (pc' := if 2 < b then 33 else 21) (ls' := [mv_R 0, mv_I 3, mv_I b, mv_I a, mv_I n, mv_R 77, mv_U, mv_U]) (st' := []) (M1 := M) rfl ?_
    refine mv_sp' (fun ha29 => ?_) (fun ha29 => ?_)
    · refine mv_go' 1 (pc' := 35) (ls' := [mv_R 0, mv_I 3, mv_I b, mv_I a, mv_I n, mv_R 77, mv_U, mv_U]) (st' := [mv_I (-2)]) (M1 := M) rfl ?_
      exact mv_Ru.val (mv_ret (fun n => rfl) rfl) (congrArg mv_I (by unfold sp_ubr; repeat (first | omega | split)))
    · refine mv_go' 2 (pc' := if n < 0 then 33 else 26) (ls' := [mv_R 0, mv_I 3, mv_I b, mv_I a, mv_I n, mv_R 77, mv_U, mv_U]) (st' := []) (M1 := M) rfl ?_
      refine mv_sp' (fun ha30 => ?_) (fun ha30 => ?_)
      · refine mv_go' 1 (pc' := 35) (ls' := [mv_R 0, mv_I 3, mv_I b, mv_I a, mv_I n, mv_R 77, mv_U, mv_U]) (st' := [mv_I (-2)]) (M1 := M) rfl ?_
        exact mv_Ru.val (mv_ret (fun n => rfl) rfl) (congrArg mv_I (by unfold sp_ubr; repeat (first | omega | split)))
      · refine mv_go' 3 (pc' := if 6 < n then 33 else 36) (ls' := [mv_R 0, mv_I 3, mv_I b, mv_I a, mv_I n, mv_R 77, mv_U, mv_U]) (st' := []) (M1 := M) rfl ?_
        refine mv_sp' (fun ha31 => ?_) (fun ha31 => ?_)
        · refine mv_go' 1 (pc' := 35) (ls' := [mv_R 0, mv_I 3, mv_I b, mv_I a, mv_I n, mv_R 77, mv_U, mv_U]) (st' := [mv_I (-2)]) (M1 := M) rfl ?_
          exact mv_Ru.val (mv_ret (fun n => rfl) rfl) (congrArg mv_I (by unfold sp_ubr; repeat (first | omega | split)))
        · refine mv_go' 1 (pc' := 38) (ls' := [mv_R 0, mv_I 3, mv_I b, mv_I a, mv_I n, mv_R 77, mv_U, mv_U]) (st' := [mv_R 77]) (M1 := M) rfl ?_
          by_cases ha32 : so = -1
          · refine mv_callP (st2 := [mv_I 1]) rfl (Or.inl rfl) rfl rfl rfl (sp_isMiss_3_t (hs1.trans ha32)) (by first | decide | omega) ?_
            refine mv_go' 1 (pc' := if 1 = 0 then 47 else 44) (ls' := [mv_R 0, mv_I 3, mv_I b, mv_I a, mv_I n, mv_R 77, mv_U, mv_U]) (st' := []) (M1 := M) rfl ?_
            refine mv_ff' (by first | decide | omega) ?_
            refine mv_go' 1 (pc' := 46) (ls' := [mv_R 0, mv_I 3, mv_I b, mv_I a, mv_I n, mv_R 77, mv_U, mv_U]) (st' := [mv_I (-11)]) (M1 := M) rfl ?_
            exact mv_Ru.val (mv_ret (fun n => rfl) rfl) (congrArg mv_I (by unfold sp_ubr; repeat (first | omega | split)))
          · refine mv_callP (st2 := [mv_I 0]) rfl (Or.inl rfl) rfl rfl rfl (sp_isMiss_3_f (fun q => ha32 (hs1.symm.trans q))) (by first | decide | omega) ?_
            refine mv_go' 1 (pc' := if 0 = 0 then 47 else 44) (ls' := [mv_R 0, mv_I 3, mv_I b, mv_I a, mv_I n, mv_R 77, mv_U, mv_U]) (st' := []) (M1 := M) rfl ?_
            refine mv_tt' (by first | decide | omega) ?_
            refine mv_go' 2 (pc' := 52) (ls' := [mv_R 0, mv_I 3, mv_I b, mv_I a, mv_I n, mv_R 77, mv_U, mv_U]) (st' := [mv_I (M 77 1)]) (M1 := M) rfl ?_
            rw [show M 77 1 = so from by exact hs1]
            refine mv_go' 2 (pc' := if so = b then 59 else 56) (ls' := [mv_R 0, mv_I 3, mv_I b, mv_I a, mv_I n, mv_R 77, mv_U, mv_U]) (st' := []) (M1 := M) rfl ?_
            refine mv_sp' (fun ha33 => ?_) (fun ha33 => ?_)
            · refine mv_go' 7 (pc' := if 0 < n then 72 else 135) (ls' := [mv_R 0, mv_I 3, mv_I b, mv_I a, mv_I n, mv_R 77, mv_I 0, mv_I 0]) (st' := []) (M1 := M) rfl ?_
              refine mv_sp' (fun ha34 => ?_) (fun ha34 => ?_)
              · refine mv_go' 7 (pc' := 81) (ls' := [mv_R 0, mv_I 3, mv_I b, mv_I a, mv_I n, mv_R 77, mv_I 0, mv_I 0]) (st' := [mv_I (mv_w ((mv_w (2 * 0)) + 2)), mv_I a, mv_R 77]) (M1 := M) rfl ?_
                rw [show mv_w (2 * 0) = 2 * 0 from mv_w_id (by omega) (by omega)]
                rw [show mv_w ((2 * 0) + 2) = (2 * 0) + 2 from mv_w_id (by omega) (by omega)]
                have ha35 : ¬ (0 ≤ ((2 * 0) + 2 : Int) ∧ ((2 * 0) + 2 : Int) ≤ sz ∧ 0 ≤ a ∧ a ≤ sz - ((2 * 0) + 2 : Int)) := by omega
                refine mv_callP (st2 := [mv_I 0]) rfl (Or.inl rfl) rfl rfl rfl (sp_hasRun_3_f hz1 z1.1 z1.2 ha35) (by first | decide | omega) ?_
                refine mv_go' 1 (pc' := if 0 = 0 then 87 else 90) (ls' := [mv_R 0, mv_I 3, mv_I b, mv_I a, mv_I n, mv_R 77, mv_I 0, mv_I 0]) (st' := []) (M1 := M) rfl ?_
                refine mv_tt' (by first | decide | omega) ?_
                refine mv_go' 1 (pc' := 89) (ls' := [mv_R 0, mv_I 3, mv_I b, mv_I a, mv_I n, mv_R 77, mv_I 0, mv_I 0]) (st' := [mv_I (-12)]) (M1 := M) rfl ?_
                exact mv_Ru.val (mv_ret (fun n => rfl) rfl) (congrArg mv_I (by unfold sp_ubr; repeat (first | omega | split)))
              · refine mv_go' 1 (pc' := 137) (ls' := [mv_R 0, mv_I 3, mv_I b, mv_I a, mv_I n, mv_R 77, mv_I 0, mv_I 0]) (st' := [mv_I 0]) (M1 := M) rfl ?_
                exact mv_Ru.val (mv_ret (fun n => rfl) rfl) (congrArg mv_I (by unfold sp_ubr; repeat (first | omega | split)))
            · refine mv_go' 1 (pc' := 58) (ls' := [mv_R 0, mv_I 3, mv_I b, mv_I a, mv_I n, mv_R 77, mv_U, mv_U]) (st' := [mv_I (-13)]) (M1 := M) rfl ?_
              exact mv_Ru.val (mv_ret (fun n => rfl) rfl) (congrArg mv_I (by unfold sp_ubr; repeat (first | omega | split)))
theorem sp_cubw_3 {V M : mv_M} {f : Nat → Int} {so sz : Int} {fr n : Nat} {Q : mv_V → mv_M → Prop} (hc : sp_c 30 M V) (ho : sp_ok V) (hs1 : M 77 1 = so) (hz1 : M 77 2 = sz) (z1 : 0 ≤ sz ∧ sz ≤ 40) (hf : ∀ j : Nat, (fr : Int) + j < 40 → M 78 (fr + j) = f j) (hg : sp_ubg so so fr n)
    (hQ1 : ∀ M2, (∀ j : Nat, j < n → (fr : Int) + 2 * j + 2 ≤ sz) → mv_ag [30, 33, 34, 35] M M2 → sp_c 30 M2 (sp_ubV V f n) → Q (mv_I (sp_ubC V f n)) M2)
    (hQ2 : ∀ k : Nat, k < n → (∀ j : Nat, j < k → (fr : Int) + 2 * j + 2 ≤ sz) → ¬ ((fr : Int) + 2 * k + 2 ≤ sz) → ∀ M2, mv_ag [30, 33, 34, 35] M M2 → sp_c 30 M2 (sp_ubV V f k) → Q (mv_I (-12)) M2) :
      mv_W 20 95 0 [mv_R 0, mv_I 3, mv_I so, mv_I (fr : Int), mv_I (n : Int), mv_U, mv_U, mv_U] [] M Q := by
  obtain ⟨g1, g2, g3, g4⟩ := hg
  refine mv_goW 2 (pc' := 2) (ls' := [mv_R 0, mv_I 3, mv_I so, mv_I (fr : Int), mv_I (n : Int), mv_U, mv_U, mv_U]) (st' := [mv_I 3, mv_R 0]) (M1 := M) rfl ?_
  refine mv_callPW (st2 := [mv_R 77]) rfl (Or.inl rfl) rfl rfl rfl (sp_sheetAt_3) (by first | decide | omega) ?_
  refine mv_goW 5 (pc' := if so < 0 then 33 else 16) (ls' := [mv_R 0, mv_I 3, mv_I so, mv_I (fr : Int), mv_I (n : Int), mv_R 77, mv_U, mv_U]) (st' := []) (M1 := M) rfl ?_
  refine mv_ffW (by omega) ?_
  refine mv_goW 3 (pc' := if 2 < so then 33 else 21) (ls' := [mv_R 0, mv_I 3, mv_I so, mv_I (fr : Int), mv_I (n : Int), mv_R 77, mv_U, mv_U]) (st' := []) (M1 := M) rfl ?_
  refine mv_ffW (by omega) ?_
  refine mv_goW 2 (pc' := if (n : Int) < 0 then 33 else 26) (ls' := [mv_R 0, mv_I 3, mv_I so, mv_I (fr : Int), mv_I (n : Int), mv_R 77, mv_U, mv_U]) (st' := []) (M1 := M) rfl ?_
  refine mv_ffW (by omega) ?_
  refine mv_goW 3 (pc' := if 6 < (n : Int) then 33 else 36) (ls' := [mv_R 0, mv_I 3, mv_I so, mv_I (fr : Int), mv_I (n : Int), mv_R 77, mv_U, mv_U]) (st' := []) (M1 := M) rfl ?_
  refine mv_ffW (by omega) ?_
  refine mv_goW 1 (pc' := 38) (ls' := [mv_R 0, mv_I 3, mv_I so, mv_I (fr : Int), mv_I (n : Int), mv_R 77, mv_U, mv_U]) (st' := [mv_R 77]) (M1 := M) rfl ?_
  have ha36 : ¬ (so = -1) := by omega
  refine mv_callPW (st2 := [mv_I 0]) rfl (Or.inl rfl) rfl rfl rfl (sp_isMiss_3_f (fun q => ha36 (hs1.symm.trans q))) (by first | decide | omega) ?_
  refine mv_goW 1 (pc' := if 0 = 0 then 47 else 44) (ls' := [mv_R 0, mv_I 3, mv_I so, mv_I (fr : Int), mv_I (n : Int), mv_R 77, mv_U, mv_U]) (st' := []) (M1 := M) rfl ?_
  refine mv_ttW (by first | decide | omega) ?_
  refine mv_goW 2 (pc' := 52) (ls' := [mv_R 0, mv_I 3, mv_I so, mv_I (fr : Int), mv_I (n : Int), mv_R 77, mv_U, mv_U]) (st' := [mv_I (M 77 1)]) (M1 := M) rfl ?_
  rw [show M 77 1 = so from by exact hs1]
  refine mv_goW 2 (pc' := if so = so then 59 else 56) (ls' := [mv_R 0, mv_I 3, mv_I so, mv_I (fr : Int), mv_I (n : Int), mv_R 77, mv_U, mv_U]) (st' := []) (M1 := M) rfl ?_
  refine mv_ttW (by first | decide | omega) ?_
  refine mv_goW 4 (pc' := 65) (ls' := [mv_R 0, mv_I 3, mv_I so, mv_I (fr : Int), mv_I (n : Int), mv_R 77, mv_I 0, mv_I 0]) (st' := []) (M1 := M) rfl ?_
  exact sp_cub_3 (d := 17) ho hz1 z1 hf (by omega) hQ1 hQ2 n 0 M (by omega) mv_ag.rf hc (fun j hj => absurd hj (by omega))
theorem sp_mubb {S : Nat} {M : mv_M} {b a n so sz : Int} (hS : S < 4) (hs2 : M 117 S = so) (hz2 : M 118 S = sz) (z1 : 0 ≤ sz ∧ sz ≤ 40) (hg : ¬ sp_ubg so b a n) : mv_Ru 20 190 0 [mv_R 100, mv_I (S : Int), mv_I b, mv_I a, mv_I n, mv_U, mv_U, mv_U, mv_U] [] M (mv_I (sp_ubr so b n)) (fun M1 => M1 = M) := by
  have hg : ¬ ((0 ≤ b ∧ b ≤ 2) ∧ (0 ≤ n ∧ n ≤ 6) ∧ so = b ∧ 0 ≤ a) := hg
  refine mv_go' 3 (pc' := 3) (ls' := [mv_R 100, mv_I (S : Int), mv_I b, mv_I a, mv_I n, mv_U, mv_U, mv_U, mv_U]) (st' := [mv_I 3, mv_I 0, mv_I (S : Int)]) (M1 := M) rfl ?_
  have ha37 : (0 : Int) ≤ (S : Int) ∧ (S : Int) ≤ (3 : Int) := by omega
  refine mv_callP (st2 := [mv_I 1]) rfl (Or.inr rfl) rfl rfl rfl (sp_min_t ha37) (by first | decide | omega) ?_
  refine mv_go' 1 (pc' := if 1 = 0 then 29 else 9) (ls' := [mv_R 100, mv_I (S : Int), mv_I b, mv_I a, mv_I n, mv_U, mv_U, mv_U, mv_U]) (st' := []) (M1 := M) rfl ?_
  refine mv_ff' (by first | decide | omega) ?_
  refine mv_go' 3 (pc' := 12) (ls' := [mv_R 100, mv_I (S : Int), mv_I b, mv_I a, mv_I n, mv_U, mv_U, mv_U, mv_U]) (st' := [mv_I 2, mv_I 0, mv_I b]) (M1 := M) rfl ?_
  by_cases ha38 : (0 : Int) ≤ b ∧ b ≤ (2 : Int)
  · refine mv_callP (st2 := [mv_I 1]) rfl (Or.inr rfl) rfl rfl rfl (sp_min_t ha38) (by first | decide | omega) ?_
    refine mv_go' 1 (pc' := if 1 = 0 then 29 else 18) (ls' := [mv_R 100, mv_I (S : Int), mv_I b, mv_I a, mv_I n, mv_U, mv_U, mv_U, mv_U]) (st' := []) (M1 := M) rfl ?_
    refine mv_ff' (by first | decide | omega) ?_
    refine mv_go' 3 (pc' := 23) (ls' := [mv_R 100, mv_I (S : Int), mv_I b, mv_I a, mv_I n, mv_U, mv_U, mv_U, mv_U]) (st' := [mv_I 6, mv_I 0, mv_I n]) (M1 := M) rfl ?_
    by_cases ha39 : (0 : Int) ≤ n ∧ n ≤ (6 : Int)
    · refine mv_callP (st2 := [mv_I 1]) rfl (Or.inr rfl) rfl rfl rfl (sp_min_t ha39) (by first | decide | omega) ?_
      refine mv_go' 1 (pc' := if 1 = 0 then 29 else 32) (ls' := [mv_R 100, mv_I (S : Int), mv_I b, mv_I a, mv_I n, mv_U, mv_U, mv_U, mv_U]) (st' := []) (M1 := M) rfl ?_
      refine mv_ff' (by first | decide | omega) ?_
      refine mv_go' 4 (pc' := if 0 ≤ (S : Int) ∧ (S : Int) < 4 then 38 else mv_bad) (ls' := [mv_R 100, mv_I (S : Int), mv_I b, mv_I a, mv_I n, mv_U, mv_U, mv_U, mv_U]) (st' := [mv_I (M 117 S)]) (M1 := M) rfl ?_
      refine mv_tt' (by omega) ?_
      rw [show M 117 S = so from by exact hs2]
      refine mv_go' 2 (pc' := if so = (-1) then 42 else 45) (ls' := [mv_R 100, mv_I (S : Int), mv_I b, mv_I a, mv_I n, mv_U, mv_U, mv_U, mv_U]) (st' := []) (M1 := M) rfl ?_
      refine mv_sp' (fun ha40 => ?_) (fun ha40 => ?_)
      · refine mv_go' 1 (pc' := 44) (ls' := [mv_R 100, mv_I (S : Int), mv_I b, mv_I a, mv_I n, mv_U, mv_U, mv_U, mv_U]) (st' := [mv_I (-11)]) (M1 := M) rfl ?_
        exact mv_Ru.val (mv_ret (fun n => rfl) rfl) (congrArg mv_I (by unfold sp_ubr; repeat (first | omega | split)))
      · refine mv_go' 4 (pc' := if 0 ≤ (S : Int) ∧ (S : Int) < 4 then 51 else mv_bad) (ls' := [mv_R 100, mv_I (S : Int), mv_I b, mv_I a, mv_I n, mv_U, mv_U, mv_U, mv_U]) (st' := [mv_I (M 117 S)]) (M1 := M) rfl ?_
        refine mv_tt' (by omega) ?_
        rw [show M 117 S = so from by exact hs2]
        refine mv_go' 2 (pc' := if so = b then 58 else 55) (ls' := [mv_R 100, mv_I (S : Int), mv_I b, mv_I a, mv_I n, mv_U, mv_U, mv_U, mv_U]) (st' := []) (M1 := M) rfl ?_
        refine mv_sp' (fun ha41 => ?_) (fun ha41 => ?_)
        · refine mv_go' 7 (pc' := if 0 < n then 71 else 153) (ls' := [mv_R 100, mv_I (S : Int), mv_I b, mv_I a, mv_I n, mv_I 0, mv_I 0, mv_U, mv_U]) (st' := []) (M1 := M) rfl ?_
          refine mv_sp' (fun ha42 => ?_) (fun ha42 => ?_)
          · refine mv_go' 8 (pc' := if a < 0 then 102 else 83) (ls' := [mv_R 100, mv_I (S : Int), mv_I b, mv_I a, mv_I n, mv_I 0, mv_I 0, mv_I (mv_w (a + (mv_w (2 * 0)))), mv_U]) (st' := []) (M1 := M) rfl ?_
            rw [show mv_w (2 * 0) = 2 * 0 from mv_w_id (by omega) (by omega)]
            refine mv_tt' (by omega) ?_
            refine mv_go' 1 (pc' := 104) (ls' := [mv_R 100, mv_I (S : Int), mv_I b, mv_I a, mv_I n, mv_I 0, mv_I 0, mv_I (mv_w (a + (2 * 0))), mv_U]) (st' := [mv_I (-12)]) (M1 := M) rfl ?_
            exact mv_Ru.val (mv_ret (fun n => rfl) rfl) (congrArg mv_I (by unfold sp_ubr; repeat (first | omega | split)))
          · refine mv_go' 1 (pc' := 155) (ls' := [mv_R 100, mv_I (S : Int), mv_I b, mv_I a, mv_I n, mv_I 0, mv_I 0, mv_U, mv_U]) (st' := [mv_I 0]) (M1 := M) rfl ?_
            exact mv_Ru.val (mv_ret (fun n => rfl) rfl) (congrArg mv_I (by unfold sp_ubr; repeat (first | omega | split)))
        · refine mv_go' 1 (pc' := 57) (ls' := [mv_R 100, mv_I (S : Int), mv_I b, mv_I a, mv_I n, mv_U, mv_U, mv_U, mv_U]) (st' := [mv_I (-13)]) (M1 := M) rfl ?_
          exact mv_Ru.val (mv_ret (fun n => rfl) rfl) (congrArg mv_I (by unfold sp_ubr; repeat (first | omega | split)))
    · refine mv_callP (st2 := [mv_I 0]) rfl (Or.inr rfl) rfl rfl rfl (sp_min_f ha39) (by first | decide | omega) ?_
      refine mv_go' 1 (pc' := if 0 = 0 then 29 else 32) (ls' := [mv_R 100, mv_I (S : Int), mv_I b, mv_I a, mv_I n, mv_U, mv_U, mv_U, mv_U]) (st' := []) (M1 := M) rfl ?_
      refine mv_tt' (by first | decide | omega) ?_
      refine mv_go' 1 (pc' := 31) (ls' := [mv_R 100, mv_I (S : Int), mv_I b, mv_I a, mv_I n, mv_U, mv_U, mv_U, mv_U]) (st' := [mv_I (-2)]) (M1 := M) rfl ?_
      exact mv_Ru.val (mv_ret (fun n => rfl) rfl) (congrArg mv_I (by unfold sp_ubr; repeat (first | omega | split)))
  · refine mv_callP (st2 := [mv_I 0]) rfl (Or.inr rfl) rfl rfl rfl (sp_min_f ha38) (by first | decide | omega) ?_
    refine mv_go' 1 (pc' := if 0 = 0 then 29 else 18) (ls' := [mv_R 100, mv_I (S : Int), mv_I b, mv_I a, mv_I n, mv_U, mv_U, mv_U, mv_U]) (st' := []) (M1 := M) rfl ?_
    refine mv_tt' (by first | decide | omega) ?_
    refine mv_go' 1 (pc' := 31) (ls' := [mv_R 100, mv_I (S : Int), mv_I b, mv_I a, mv_I n, mv_U, mv_U, mv_U, mv_U]) (st' := [mv_I (-2)]) (M1 := M) rfl ?_
    exact mv_Ru.val (mv_ret (fun n => rfl) rfl) (congrArg mv_I (by unfold sp_ubr; repeat (first | omega | split)))
theorem sp_mubw {S : Nat} {V M : mv_M} {f : Nat → Int} {so sz : Int} {fr n : Nat} {Q : mv_V → mv_M → Prop} (hS : S < 4) (hm : sp_m M V) (ho : sp_ok V) (hs2 : M 117 S = so) (hz2 : M 118 S = sz) (z1 : 0 ≤ sz ∧ sz ≤ 40) (hf : ∀ j : Nat, (fr : Int) + j < 40 → M 119 (40 * S + (fr + j)) = f j) (hb : (fr : Int) < 2147483648) (hg : sp_ubg so so fr n)
    (hQ1 : ∀ M2, (∀ j : Nat, j < n → (fr : Int) + 2 * j + 2 ≤ sz) → mv_ag [100, 102, 103, 105] M M2 → (∀ j, j ≠ 1 → M2 100 j = M 100 j) → sp_m M2 (sp_ubV V f n) → Q (mv_I (sp_ubC V f n)) M2)
    (hQ2 : ∀ k : Nat, k < n → (∀ j : Nat, j < k → (fr : Int) + 2 * j + 2 ≤ sz) → ¬ ((fr : Int) + 2 * k + 2 ≤ sz) → ∀ M2, mv_ag [100, 102, 103, 105] M M2 → (∀ j, j ≠ 1 → M2 100 j = M 100 j) → sp_m M2 (sp_ubV V f k) → Q (mv_I (-12)) M2) :
      mv_W 20 190 0 [mv_R 100, mv_I (S : Int), mv_I so, mv_I (fr : Int), mv_I (n : Int), mv_U, mv_U, mv_U, mv_U] [] M Q := by
  obtain ⟨g1, g2, g3, g4⟩ := hg
  refine mv_goW 3 (pc' := 3) (ls' := [mv_R 100, mv_I (S : Int), mv_I so, mv_I (fr : Int), mv_I (n : Int), mv_U, mv_U, mv_U, mv_U]) (st' := [mv_I 3, mv_I 0, mv_I (S : Int)]) (M1 := M) rfl ?_
  have ha43 : (0 : Int) ≤ (S : Int) ∧ (S : Int) ≤ (3 : Int) := by omega
  refine mv_callPW (st2 := [mv_I 1]) rfl (Or.inr rfl) rfl rfl rfl (sp_min_t ha43) (by first | decide | omega) ?_
  refine mv_goW 1 (pc' := if 1 = 0 then 29 else 9) (ls' := [mv_R 100, mv_I (S : Int), mv_I so, mv_I (fr : Int), mv_I (n : Int), mv_U, mv_U, mv_U, mv_U]) (st' := []) (M1 := M) rfl ?_
  refine mv_ffW (by first | decide | omega) ?_
  refine mv_goW 3 (pc' := 12) (ls' := [mv_R 100, mv_I (S : Int), mv_I so, mv_I (fr : Int), mv_I (n : Int), mv_U, mv_U, mv_U, mv_U]) (st' := [mv_I 2, mv_I 0, mv_I so]) (M1 := M) rfl ?_
  have ha44 : (0 : Int) ≤ so ∧ so ≤ (2 : Int) := by omega
  refine mv_callPW (st2 := [mv_I 1]) rfl (Or.inr rfl) rfl rfl rfl (sp_min_t ha44) (by first | decide | omega) ?_
  refine mv_goW 1 (pc' := if 1 = 0 then 29 else 18) (ls' := [mv_R 100, mv_I (S : Int), mv_I so, mv_I (fr : Int), mv_I (n : Int), mv_U, mv_U, mv_U, mv_U]) (st' := []) (M1 := M) rfl ?_
  refine mv_ffW (by first | decide | omega) ?_
  refine mv_goW 3 (pc' := 23) (ls' := [mv_R 100, mv_I (S : Int), mv_I so, mv_I (fr : Int), mv_I (n : Int), mv_U, mv_U, mv_U, mv_U]) (st' := [mv_I 6, mv_I 0, mv_I (n : Int)]) (M1 := M) rfl ?_
  have ha45 : (0 : Int) ≤ (n : Int) ∧ (n : Int) ≤ (6 : Int) := by omega
  refine mv_callPW (st2 := [mv_I 1]) rfl (Or.inr rfl) rfl rfl rfl (sp_min_t ha45) (by first | decide | omega) ?_
  refine mv_goW 1 (pc' := if 1 = 0 then 29 else 32) (ls' := [mv_R 100, mv_I (S : Int), mv_I so, mv_I (fr : Int), mv_I (n : Int), mv_U, mv_U, mv_U, mv_U]) (st' := []) (M1 := M) rfl ?_
  refine mv_ffW (by first | decide | omega) ?_
  refine mv_goW 4 (pc' := if 0 ≤ (S : Int) ∧ (S : Int) < 4 then 38 else mv_bad) (ls' := [mv_R 100, mv_I (S : Int), mv_I so, mv_I (fr : Int), mv_I (n : Int), mv_U, mv_U, mv_U, mv_U]) (st' := [mv_I (M 117 S)]) (M1 := M) rfl ?_
  refine mv_ttW (by omega) ?_
  rw [show M 117 S = so from by exact hs2]
  refine mv_goW 2 (pc' := if so = (-1) then 42 else 45) (ls' := [mv_R 100, mv_I (S : Int), mv_I so, mv_I (fr : Int), mv_I (n : Int), mv_U, mv_U, mv_U, mv_U]) (st' := []) (M1 := M) rfl ?_
  refine mv_ffW (by omega) ?_
  refine mv_goW 4 (pc' := if 0 ≤ (S : Int) ∧ (S : Int) < 4 then 51 else mv_bad) (ls' := [mv_R 100, mv_I (S : Int), mv_I so, mv_I (fr : Int), mv_I (n : Int), mv_U, mv_U, mv_U, mv_U]) (st' := [mv_I (M 117 S)]) (M1 := M) rfl ?_
  refine mv_ttW (by omega) ?_
  rw [show M 117 S = so from by exact hs2]
  refine mv_goW 2 (pc' := if so = so then 58 else 55) (ls' := [mv_R 100, mv_I (S : Int), mv_I so, mv_I (fr : Int), mv_I (n : Int), mv_U, mv_U, mv_U, mv_U]) (st' := []) (M1 := M) rfl ?_
  refine mv_ttW (by first | decide | omega) ?_
  refine mv_goW 4 (pc' := 64) (ls' := [mv_R 100, mv_I (S : Int), mv_I so, mv_I (fr : Int), mv_I (n : Int), mv_I 0, mv_I 0, mv_U, mv_U]) (st' := []) (M1 := M) rfl ?_
  exact sp_mub (d := 17) ho hS hz2 z1 hf (by omega) hb hQ1 hQ2 n 0 M mv_U mv_U (by omega) rfl rfl mv_ag.rf (fun _ _ => rfl) hm (fun j hj => absurd hj (by omega))
theorem sp_ub_end {V : mv_M} {P : Nat → Nat → List Int} {n : Int} {B : mv_M} {K : Int} {t : Nat} {M M1 M2 : mv_M} {f : Nat → Int} {k : Nat} (h : sp_R V P n B K t M) (h1 : mv_ag [30, 33, 34, 35] M M1) (hc1 : sp_c 30 M1 (sp_ubV V f k)) (h2 : mv_ag [100, 102, 103, 105] M1 M2) (h100 : ∀ j, j ≠ 1 → M2 100 j = M1 100 j) (hm2 : sp_m M2 (sp_ubV V f k)) : sp_Inv M2 := by
  have h' := h
  obtain ⟨⟨hc, hm, ho⟩, ⟨hy, hl, hn1, hn⟩, _⟩ := h'
  obtain ⟨⟨e8, e10, e11⟩, e9, ek⟩ := sp_ext_ubV ho f k
  have e : ∀ j, j ≠ 1 → M2 100 j = M 100 j := fun j hj => by rw [h100 j hj, h1 100 (by decide)]
  exact ⟨sp_ubV V f k, P, n, B, K, t, sp_R_up h (sp_c_ag hc1 h2 (by decide)) hm2 (sp_ok_ubV ho f k) (by rw [e10]; exact hy) (by rw [e11]; exact hl) e9 ek (sp_keep_n (S := [30, 33, 34, 35, 100, 102, 103, 105]) ((h1.wd (by decide)).tr (h2.wd (by decide))) (by decide)) ⟨e 9 (by decide), e 12 (by decide), e 14 (by decide)⟩⟩
theorem sp_k34_0 (b a n : Int) (ha : a < 2147483648) : sp_call 95 190 [mv_I 0, mv_I b, mv_I a, mv_I n] [mv_I 0, mv_I b, mv_I a, mv_I n] := by
  refine sp_mkW (lc := [mv_R 0, mv_I 0, mv_I b, mv_I a, mv_I n, mv_U, mv_U, mv_U]) (lm := [mv_R 100, mv_I 0, mv_I b, mv_I a, mv_I n, mv_U, mv_U, mv_U, mv_U]) rfl rfl (fun M hI => ?_)
  have hI2 := hI
  obtain ⟨V, P, nt, B, K, t, h⟩ := hI2
  have h' := h
  obtain ⟨⟨hc, hm, ho⟩, _⟩ := h'
  obtain ⟨so, sz, ⟨hs1, hs2, so0, so1⟩, ⟨hz1, hz2, sz0, sz1⟩, hcl⟩ := sp_sh_get h 0 (by decide)
  by_cases hg : sp_ubg so b a n
  · have hg2 := hg
    obtain ⟨g1, g2, g3, g4⟩ := hg2
    subst g3
    obtain ⟨fr, rfl⟩ : ∃ x : Nat, a = (x : Int) := ⟨a.toNat, by omega⟩
    obtain ⟨m, rfl⟩ : ∃ x : Nat, n = (x : Int) := ⟨n.toNat, by omega⟩
    have hf2 : ∀ j : Nat, (fr : Int) + j < 40 → M 72 (fr + j) = M 119 (40 * 0 + (fr + j)) := fun j hj => hcl (fr + j) (by omega)
    refine sp_cubw_0 (f := fun j => M 119 (40 * 0 + (fr + j))) hc ho hs1 hz1 ⟨sz0, sz1⟩ hf2 hg (fun M1 hC hag hc1 => ⟨_, rfl, ?_⟩) (fun k hk hC hnC M1 hag hc1 => ⟨_, rfl, ?_⟩)
    · refine sp_mubw (S := 0) (M := M1) (f := fun j => M 119 (40 * 0 + (fr + j))) (by decide) (sp_m_ag2 hm hag (by decide)) ho (by rw [hag 117 (by decide)]; exact hs2) (by rw [hag 118 (by decide)]; exact hz2) ⟨sz0, sz1⟩ (fun j _ => by rw [hag 119 (by decide)]) ha hg (fun M2 hC2 hag2 h100 hm2 => ⟨rfl, sp_ub_end h hag hc1 hag2 h100 hm2⟩) (fun k2 hk2 _ hnC2 => absurd (hC k2 hk2) hnC2)
    · refine sp_mubw (S := 0) (M := M1) (f := fun j => M 119 (40 * 0 + (fr + j))) (by decide) (sp_m_ag2 hm hag (by decide)) ho (by rw [hag 117 (by decide)]; exact hs2) (by rw [hag 118 (by decide)]; exact hz2) ⟨sz0, sz1⟩ (fun j _ => by rw [hag 119 (by decide)]) ha hg (fun M2 hC2 => absurd (hC2 k hk) hnC) (fun k2 hk2 hC2 hnC2 M2 hag2 h100 hm2 => ⟨rfl, ?_⟩)
      have ek : k2 = k := by
        rcases Nat.lt_trichotomy k2 k with q | q | q
        · exact absurd (hC k2 q) hnC2
        · exact q
        · exact absurd (hC2 k q) hnC
      subst ek
      exact sp_ub_end h hag hc1 hag2 h100 hm2
  · obtain ⟨M1, r1, q1⟩ := sp_cubb_0 hs1 hz1 ⟨sz0, sz1⟩ hg
    refine ⟨_, M1, r1, _, rfl, ?_⟩
    subst q1
    exact ⟨_, (sp_mubb (S := 0) (by decide) hs2 hz2 ⟨sz0, sz1⟩ hg).imp (fun M2 q => ⟨rfl, by rw [q]; exact hI⟩)⟩
theorem sp_k34_1 (b a n : Int) (ha : a < 2147483648) : sp_call 95 190 [mv_I 1, mv_I b, mv_I a, mv_I n] [mv_I 1, mv_I b, mv_I a, mv_I n] := by
  refine sp_mkW (lc := [mv_R 0, mv_I 1, mv_I b, mv_I a, mv_I n, mv_U, mv_U, mv_U]) (lm := [mv_R 100, mv_I 1, mv_I b, mv_I a, mv_I n, mv_U, mv_U, mv_U, mv_U]) rfl rfl (fun M hI => ?_)
  have hI2 := hI
  obtain ⟨V, P, nt, B, K, t, h⟩ := hI2
  have h' := h
  obtain ⟨⟨hc, hm, ho⟩, _⟩ := h'
  obtain ⟨so, sz, ⟨hs1, hs2, so0, so1⟩, ⟨hz1, hz2, sz0, sz1⟩, hcl⟩ := sp_sh_get h 1 (by decide)
  by_cases hg : sp_ubg so b a n
  · have hg2 := hg
    obtain ⟨g1, g2, g3, g4⟩ := hg2
    subst g3
    obtain ⟨fr, rfl⟩ : ∃ x : Nat, a = (x : Int) := ⟨a.toNat, by omega⟩
    obtain ⟨m, rfl⟩ : ∃ x : Nat, n = (x : Int) := ⟨n.toNat, by omega⟩
    have hf2 : ∀ j : Nat, (fr : Int) + j < 40 → M 74 (fr + j) = M 119 (40 * 1 + (fr + j)) := fun j hj => hcl (fr + j) (by omega)
    refine sp_cubw_1 (f := fun j => M 119 (40 * 1 + (fr + j))) hc ho hs1 hz1 ⟨sz0, sz1⟩ hf2 hg (fun M1 hC hag hc1 => ⟨_, rfl, ?_⟩) (fun k hk hC hnC M1 hag hc1 => ⟨_, rfl, ?_⟩)
    · refine sp_mubw (S := 1) (M := M1) (f := fun j => M 119 (40 * 1 + (fr + j))) (by decide) (sp_m_ag2 hm hag (by decide)) ho (by rw [hag 117 (by decide)]; exact hs2) (by rw [hag 118 (by decide)]; exact hz2) ⟨sz0, sz1⟩ (fun j _ => by rw [hag 119 (by decide)]) ha hg (fun M2 hC2 hag2 h100 hm2 => ⟨rfl, sp_ub_end h hag hc1 hag2 h100 hm2⟩) (fun k2 hk2 _ hnC2 => absurd (hC k2 hk2) hnC2)
    · refine sp_mubw (S := 1) (M := M1) (f := fun j => M 119 (40 * 1 + (fr + j))) (by decide) (sp_m_ag2 hm hag (by decide)) ho (by rw [hag 117 (by decide)]; exact hs2) (by rw [hag 118 (by decide)]; exact hz2) ⟨sz0, sz1⟩ (fun j _ => by rw [hag 119 (by decide)]) ha hg (fun M2 hC2 => absurd (hC2 k hk) hnC) (fun k2 hk2 hC2 hnC2 M2 hag2 h100 hm2 => ⟨rfl, ?_⟩)
      have ek : k2 = k := by
        rcases Nat.lt_trichotomy k2 k with q | q | q
        · exact absurd (hC k2 q) hnC2
        · exact q
        · exact absurd (hC2 k q) hnC
      subst ek
      exact sp_ub_end h hag hc1 hag2 h100 hm2
  · obtain ⟨M1, r1, q1⟩ := sp_cubb_1 hs1 hz1 ⟨sz0, sz1⟩ hg
    refine ⟨_, M1, r1, _, rfl, ?_⟩
    subst q1
    exact ⟨_, (sp_mubb (S := 1) (by decide) hs2 hz2 ⟨sz0, sz1⟩ hg).imp (fun M2 q => ⟨rfl, by rw [q]; exact hI⟩)⟩
theorem sp_k34_2 (b a n : Int) (ha : a < 2147483648) : sp_call 95 190 [mv_I 2, mv_I b, mv_I a, mv_I n] [mv_I 2, mv_I b, mv_I a, mv_I n] := by
  refine sp_mkW (lc := [mv_R 0, mv_I 2, mv_I b, mv_I a, mv_I n, mv_U, mv_U, mv_U]) (lm := [mv_R 100, mv_I 2, mv_I b, mv_I a, mv_I n, mv_U, mv_U, mv_U, mv_U]) rfl rfl (fun M hI => ?_)
  have hI2 := hI
  obtain ⟨V, P, nt, B, K, t, h⟩ := hI2
  have h' := h
  obtain ⟨⟨hc, hm, ho⟩, _⟩ := h'
  obtain ⟨so, sz, ⟨hs1, hs2, so0, so1⟩, ⟨hz1, hz2, sz0, sz1⟩, hcl⟩ := sp_sh_get h 2 (by decide)
  by_cases hg : sp_ubg so b a n
  · have hg2 := hg
    obtain ⟨g1, g2, g3, g4⟩ := hg2
    subst g3
    obtain ⟨fr, rfl⟩ : ∃ x : Nat, a = (x : Int) := ⟨a.toNat, by omega⟩
    obtain ⟨m, rfl⟩ : ∃ x : Nat, n = (x : Int) := ⟨n.toNat, by omega⟩
    have hf2 : ∀ j : Nat, (fr : Int) + j < 40 → M 76 (fr + j) = M 119 (40 * 2 + (fr + j)) := fun j hj => hcl (fr + j) (by omega)
    refine sp_cubw_2 (f := fun j => M 119 (40 * 2 + (fr + j))) hc ho hs1 hz1 ⟨sz0, sz1⟩ hf2 hg (fun M1 hC hag hc1 => ⟨_, rfl, ?_⟩) (fun k hk hC hnC M1 hag hc1 => ⟨_, rfl, ?_⟩)
    · refine sp_mubw (S := 2) (M := M1) (f := fun j => M 119 (40 * 2 + (fr + j))) (by decide) (sp_m_ag2 hm hag (by decide)) ho (by rw [hag 117 (by decide)]; exact hs2) (by rw [hag 118 (by decide)]; exact hz2) ⟨sz0, sz1⟩ (fun j _ => by rw [hag 119 (by decide)]) ha hg (fun M2 hC2 hag2 h100 hm2 => ⟨rfl, sp_ub_end h hag hc1 hag2 h100 hm2⟩) (fun k2 hk2 _ hnC2 => absurd (hC k2 hk2) hnC2)
    · refine sp_mubw (S := 2) (M := M1) (f := fun j => M 119 (40 * 2 + (fr + j))) (by decide) (sp_m_ag2 hm hag (by decide)) ho (by rw [hag 117 (by decide)]; exact hs2) (by rw [hag 118 (by decide)]; exact hz2) ⟨sz0, sz1⟩ (fun j _ => by rw [hag 119 (by decide)]) ha hg (fun M2 hC2 => absurd (hC2 k hk) hnC) (fun k2 hk2 hC2 hnC2 M2 hag2 h100 hm2 => ⟨rfl, ?_⟩)
      have ek : k2 = k := by
        rcases Nat.lt_trichotomy k2 k with q | q | q
        · exact absurd (hC k2 q) hnC2
        · exact q
        · exact absurd (hC2 k q) hnC
      subst ek
      exact sp_ub_end h hag hc1 hag2 h100 hm2
  · obtain ⟨M1, r1, q1⟩ := sp_cubb_2 hs1 hz1 ⟨sz0, sz1⟩ hg
    refine ⟨_, M1, r1, _, rfl, ?_⟩
    subst q1
    exact ⟨_, (sp_mubb (S := 2) (by decide) hs2 hz2 ⟨sz0, sz1⟩ hg).imp (fun M2 q => ⟨rfl, by rw [q]; exact hI⟩)⟩
theorem sp_k34_3 (b a n : Int) (ha : a < 2147483648) : sp_call 95 190 [mv_I 3, mv_I b, mv_I a, mv_I n] [mv_I 3, mv_I b, mv_I a, mv_I n] := by
  refine sp_mkW (lc := [mv_R 0, mv_I 3, mv_I b, mv_I a, mv_I n, mv_U, mv_U, mv_U]) (lm := [mv_R 100, mv_I 3, mv_I b, mv_I a, mv_I n, mv_U, mv_U, mv_U, mv_U]) rfl rfl (fun M hI => ?_)
  have hI2 := hI
  obtain ⟨V, P, nt, B, K, t, h⟩ := hI2
  have h' := h
  obtain ⟨⟨hc, hm, ho⟩, _⟩ := h'
  obtain ⟨so, sz, ⟨hs1, hs2, so0, so1⟩, ⟨hz1, hz2, sz0, sz1⟩, hcl⟩ := sp_sh_get h 3 (by decide)
  by_cases hg : sp_ubg so b a n
  · have hg2 := hg
    obtain ⟨g1, g2, g3, g4⟩ := hg2
    subst g3
    obtain ⟨fr, rfl⟩ : ∃ x : Nat, a = (x : Int) := ⟨a.toNat, by omega⟩
    obtain ⟨m, rfl⟩ : ∃ x : Nat, n = (x : Int) := ⟨n.toNat, by omega⟩
    have hf2 : ∀ j : Nat, (fr : Int) + j < 40 → M 78 (fr + j) = M 119 (40 * 3 + (fr + j)) := fun j hj => hcl (fr + j) (by omega)
    refine sp_cubw_3 (f := fun j => M 119 (40 * 3 + (fr + j))) hc ho hs1 hz1 ⟨sz0, sz1⟩ hf2 hg (fun M1 hC hag hc1 => ⟨_, rfl, ?_⟩) (fun k hk hC hnC M1 hag hc1 => ⟨_, rfl, ?_⟩)
    · refine sp_mubw (S := 3) (M := M1) (f := fun j => M 119 (40 * 3 + (fr + j))) (by decide) (sp_m_ag2 hm hag (by decide)) ho (by rw [hag 117 (by decide)]; exact hs2) (by rw [hag 118 (by decide)]; exact hz2) ⟨sz0, sz1⟩ (fun j _ => by rw [hag 119 (by decide)]) ha hg (fun M2 hC2 hag2 h100 hm2 => ⟨rfl, sp_ub_end h hag hc1 hag2 h100 hm2⟩) (fun k2 hk2 _ hnC2 => absurd (hC k2 hk2) hnC2)
    · refine sp_mubw (S := 3) (M := M1) (f := fun j => M 119 (40 * 3 + (fr + j))) (by decide) (sp_m_ag2 hm hag (by decide)) ho (by rw [hag 117 (by decide)]; exact hs2) (by rw [hag 118 (by decide)]; exact hz2) ⟨sz0, sz1⟩ (fun j _ => by rw [hag 119 (by decide)]) ha hg (fun M2 hC2 => absurd (hC2 k hk) hnC) (fun k2 hk2 hC2 hnC2 M2 hag2 h100 hm2 => ⟨rfl, ?_⟩)
      have ek : k2 = k := by
        rcases Nat.lt_trichotomy k2 k with q | q | q
        · exact absurd (hC k2 q) hnC2
        · exact q
        · exact absurd (hC2 k q) hnC
      subst ek
      exact sp_ub_end h hag hc1 hag2 h100 hm2
  · obtain ⟨M1, r1, q1⟩ := sp_cubb_3 hs1 hz1 ⟨sz0, sz1⟩ hg
    refine ⟨_, M1, r1, _, rfl, ?_⟩
    subst q1
    exact ⟨_, (sp_mubb (S := 3) (by decide) hs2 hz2 ⟨sz0, sz1⟩ hg).imp (fun M2 q => ⟨rfl, by rw [q]; exact hI⟩)⟩
theorem sp_k34_n (s b a n : Int) (hs : ¬ (0 ≤ s ∧ s ≤ 3)) : sp_call 95 190 [mv_I s, mv_I b, mv_I a, mv_I n] [mv_I s, mv_I b, mv_I a, mv_I n] := by
  refine sp_mkW (lc := [mv_R 0, mv_I s, mv_I b, mv_I a, mv_I n, mv_U, mv_U, mv_U]) (lm := [mv_R 100, mv_I s, mv_I b, mv_I a, mv_I n, mv_U, mv_U, mv_U, mv_U]) rfl rfl (fun M hI => ?_)
  refine mv_goW 2 (pc' := 2) (ls' := [mv_R 0, mv_I s, mv_I b, mv_I a, mv_I n, mv_U, mv_U, mv_U]) (st' := [mv_I s, mv_R 0]) (M1 := M) rfl ?_
  refine mv_callPW (st2 := [mv_N]) rfl (Or.inl rfl) rfl rfl rfl (sp_sheetAt_n hs) (by first | decide | omega) ?_
  refine mv_goW 4 (pc' := 35) (ls' := [mv_R 0, mv_I s, mv_I b, mv_I a, mv_I n, mv_N, mv_U, mv_U]) (st' := [mv_I (-2)]) (M1 := M) rfl ?_
  refine mv_retW (fun n => rfl) ⟨_, rfl, ?_⟩
  refine mv_goW 3 (pc' := 3) (ls' := [mv_R 100, mv_I s, mv_I b, mv_I a, mv_I n, mv_U, mv_U, mv_U, mv_U]) (st' := [mv_I 3, mv_I 0, mv_I s]) (M1 := M) rfl ?_
  have ha46 : ¬ ((0 : Int) ≤ s ∧ s ≤ (3 : Int)) := by omega
  refine mv_callPW (st2 := [mv_I 0]) rfl (Or.inr rfl) rfl rfl rfl (sp_min_f ha46) (by first | decide | omega) ?_
  refine mv_goW 1 (pc' := if 0 = 0 then 29 else 9) (ls' := [mv_R 100, mv_I s, mv_I b, mv_I a, mv_I n, mv_U, mv_U, mv_U, mv_U]) (st' := []) (M1 := M) rfl ?_
  refine mv_ttW (by first | decide | omega) ?_
  refine mv_goW 1 (pc' := 31) (ls' := [mv_R 100, mv_I s, mv_I b, mv_I a, mv_I n, mv_U, mv_U, mv_U, mv_U]) (st' := [mv_I (-2)]) (M1 := M) rfl ?_
  exact mv_retW (fun n => rfl) ⟨congrArg mv_I (by first | with_reducible rfl | omega), hI⟩
theorem sp_k34 (s b a n : Int) (ha : a < 2147483648) : sp_call 95 190 [mv_I s, mv_I b, mv_I a, mv_I n] [mv_I s, mv_I b, mv_I a, mv_I n] :=
  sp_s4 (Q := fun s => sp_call 95 190 [mv_I s, mv_I b, mv_I a, mv_I n] [mv_I s, mv_I b, mv_I a, mv_I n]) (sp_k34_0 b a n ha) (sp_k34_1 b a n ha) (sp_k34_2 b a n ha) (sp_k34_3 b a n ha) (sp_k34_n s b a n)
