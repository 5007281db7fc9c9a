/-! the end of the class's constructor: the first law is read -/
def sp_fst : List Int := [115, 117, 105, 116, 115, 32, 109, 97, 114, 107, 32, 42, 32, 110, 101, 101, 100, 32, 59, 32, 108, 105, 107, 101, 115, 32, 57, 32, 45, 32, 110, 101, 101, 100, 32, 59, 32, 116, 105, 114, 101, 115, 32, 121, 101, 97, 114, 32, 60, 32, 51, 32, 59]
def sp_fir (j : Nat) : Int := mv_nn 0 sp_fst j
theorem sp_fir_n : ∀ (l : List Int) (j : Nat), l.length ≤ j → mv_nn 0 l j = 0
  | [], _, _ => rfl
  | _ :: _, 0, h => absurd h (by simp)
  | _ :: l, j + 1, h => sp_fir_n l j (by rw [List.length_cons] at h; omega)
theorem sp_fir_b (j : Nat) : 0 ≤ sp_fir j ∧ sp_fir j ≤ 255 := by
  refine mv_nn_P (P := fun x : Int => 0 ≤ x ∧ x ≤ 255) (by decide) sp_fst j ?_
  decide
theorem sp_lat0 {M : mv_M} : mv_Ru 0 199 0 [mv_R 210] [] M (mv_I 1) (fun M1 => M1 = M) := by
  refine mv_go' 2 (pc' := if 1 = 0 then 17 else 6) (ls' := [mv_R 210]) (st' := []) (M1 := M) rfl ?_
  refine mv_ff' (by first | decide | omega) ?_
  refine mv_go' 3 (pc' := if 0 = 0 then 13 else 17) (ls' := [mv_R 210]) (st' := []) (M1 := M) rfl ?_
  refine mv_tt' (by first | decide | omega) ?_
  refine mv_go' 2 (pc' := 18) (ls' := [mv_R 210]) (st' := [mv_I 1]) (M1 := M) rfl ?_
  exact mv_ret (fun n => rfl) rfl
theorem sp_cod0 {M : mv_M} : mv_Ru 0 198 0 [mv_R 210] [] M (mv_I 0) (fun M1 => M1 = M) := by
  refine mv_go' 2 (pc' := if 1 = 0 then 13 else 6) (ls' := [mv_R 210]) (st' := []) (M1 := M) rfl ?_
  refine mv_ff' (by first | decide | omega) ?_
  refine mv_go' 3 (pc' := 14) (ls' := [mv_R 210]) (st' := [mv_I 0]) (M1 := M) rfl ?_
  exact mv_ret (fun n => rfl) rfl
theorem sp_len0 {M : mv_M} : mv_Ru 1 194 0 [mv_R 210] [] M (mv_I 53) (fun M1 => M1 = M) := by
  refine mv_go' 4 (pc' := 6) (ls' := [mv_R 210]) (st' := [mv_R 210, mv_I 53]) (M1 := M) rfl ?_
  refine mv_callP (st2 := [mv_I 0, mv_I 53]) rfl (Or.inl rfl) rfl rfl rfl (sp_cod0) (by first | decide | omega) ?_
  refine mv_go' 1 (pc' := 10) (ls' := [mv_R 210]) (st' := [mv_I (mv_shr 53 0)]) (M1 := M) rfl ?_
  exact mv_Ru.val (mv_ret (fun n => rfl) rfl) (congrArg mv_I (by decide))
theorem sp_la0 {M : mv_M} {j : Nat} (h : j < 53) : mv_Ru 2 201 0 [mv_R 230, mv_I (j : Int)] [] M (mv_I (sp_fir j)) (fun M1 => M1 = M) := by
  refine mv_go' 3 (pc' := 3) (ls' := [mv_R 230, mv_I (j : Int)]) (st' := [mv_I 53, mv_I (j : Int)]) (M1 := M) rfl ?_
  refine mv_callP (st2 := []) rfl (Or.inr rfl) rfl rfl rfl (sp_ci0 (by omega)) (by first | decide | omega) ?_
  refine mv_go' 3 (pc' := if 0 ≤ (j : Int) ∧ (j : Int) < 53 then 9 else mv_bad) (ls' := [mv_R 230, mv_I (j : Int)]) (st' := [mv_I (mv_ro 230 j)]) (M1 := M) rfl ?_
  refine mv_tt' (by omega) ?_
  refine mv_go' 3 (pc' := 14) (ls' := [mv_R 230, mv_I (j : Int)]) (st' := [mv_I (mv_i2c (mv_and (mv_ro 230 j) 255))]) (M1 := M) rfl ?_
  have h2 : ∀ x : Fin 53, (0 ≤ (fun j : Nat => (mv_i2c (mv_and (mv_ro 230 j) 255))) x ∧ (fun j : Nat => (mv_i2c (mv_and (mv_ro 230 j) 255))) x < 65536) ∧ (fun j : Nat => (mv_i2c (mv_and (mv_ro 230 j) 255))) x = sp_fir x := by decide +kernel
  exact mv_Ru.val (mv_ret (fun n => if_pos (c := 0 ≤ (mv_i2c (mv_and (mv_ro 230 j) 255)) ∧ (mv_i2c (mv_and (mv_ro 230 j) 255)) < 65536) (h2 ⟨j, h⟩).1) rfl) (congrArg mv_I (h2 ⟨j, h⟩).2)
theorem sp_cha0 {M : mv_M} {j : Nat} (h : j < 53) : mv_Ru 3 195 0 [mv_R 210, mv_I (j : Int)] [] M (mv_I (sp_fir j)) (fun M1 => M1 = M) := by
  refine mv_go' 1 (pc' := 1) (ls' := [mv_R 210, mv_I (j : Int)]) (st' := [mv_R 210]) (M1 := M) rfl ?_
  refine mv_callP (st2 := [mv_I 1]) rfl (Or.inl rfl) rfl rfl rfl (sp_lat0) (by first | decide | omega) ?_
  refine mv_go' 1 (pc' := if 1 = 0 then 16 else 7) (ls' := [mv_R 210, mv_I (j : Int)]) (st' := []) (M1 := M) rfl ?_
  refine mv_ff' (by first | decide | omega) ?_
  refine mv_go' 3 (pc' := 12) (ls' := [mv_R 210, mv_I (j : Int)]) (st' := [mv_I (j : Int), mv_R 230]) (M1 := M) rfl ?_
  refine mv_callP (st2 := [mv_I (sp_fir j)]) rfl (Or.inr rfl) rfl rfl rfl (sp_la0 (by omega)) (by first | decide | omega) ?_
  exact mv_ret (fun n => if_pos (c := 0 ≤ (sp_fir j) ∧ (sp_fir j) < 65536) ⟨(sp_fir_b j).1, by have := (sp_fir_b j).2; omega⟩) rfl
theorem sp_X5l {M0 : mv_M} {v : mv_V} {Q : mv_M → Prop} (e : ∀ M1, mv_ag [28, 29] M0 M1 → M1 28 1 = ((53 : Nat) : Int) → M1 29 = sp_fir → mv_Ru 54 209 171 [mv_R 0, mv_I 53] [] M1 v Q) :
    ∀ (r i : Nat) (M : mv_M), i + r = 53 → mv_ag [28, 29] M0 M → M 28 1 = (i : Int) → (∀ j, M 29 j = if j < i then sp_fir j else 0) → mv_Ru 54 209 143 [mv_R 0, mv_I (i : Int)] [] M v Q := by
  intro r
  induction r with
  | zero =>
    intro i M hi h1 h2 h3
    have hi : i = 53 := by omega
    subst hi
    have e := e M h1 h2 (funext fun j => by
      rw [h3 j]
      by_cases c : j < 53
      · rw [if_pos c]
      · rw [if_neg c]
        exact (sp_fir_n sp_fst j (by show 53 ≤ j; omega)).symm)
    show mv_Ru 54 209 143 [mv_R 0, mv_I 53] [] M v Q
    refine mv_go' 2 (pc' := 146) (ls' := [mv_R 0, mv_I 53]) (st' := [mv_R 210, mv_I 53]) (M1 := M) rfl ?_
    refine mv_callP (st2 := [mv_I 53, mv_I 53]) rfl (Or.inl rfl) rfl rfl rfl (sp_len0) (by first | decide | omega) ?_
    refine mv_go' 1 (pc' := if 53 < 53 then 152 else 171) (ls' := [mv_R 0, mv_I 53]) (st' := []) (M1 := M) rfl ?_
    refine mv_ff' (by first | decide | omega) ?_
    exact e
  | succ r ih =>
    intro i M hi h1 h2 h3
    have ih := fun M1 => ih (i + 1) M1 (by omega)
    have ih160 : i < 160 := by omega
    refine mv_go' 2 (pc' := 146) (ls' := [mv_R 0, mv_I (i : Int)]) (st' := [mv_R 210, mv_I (i : Int)]) (M1 := M) rfl ?_
    refine mv_callP (st2 := [mv_I 53, mv_I (i : Int)]) rfl (Or.inl rfl) rfl rfl rfl (sp_len0) (by first | decide | omega) ?_
    refine mv_go' 1 (pc' := if (i : Int) < 53 then 152 else 171) (ls' := [mv_R 0, mv_I (i : Int)]) (st' := []) (M1 := M) rfl ?_
    refine mv_tt' (by omega) ?_
    refine mv_go' 4 (pc' := 159) (ls' := [mv_R 0, mv_I (i : Int)]) (st' := [mv_I (i : Int), mv_R 210, mv_R 28]) (M1 := M) rfl ?_
    refine mv_callP (st2 := [mv_I (sp_fir i), mv_R 28]) rfl (Or.inl rfl) rfl rfl rfl (sp_cha0 (by omega)) (by first | decide | omega) ?_
    refine mv_call (st2 := []) rfl (Or.inl rfl) rfl rfl rfl (sp_app (t := i) h2 ih160) (by first | decide | omega) (fun Ma1 hm2 => ?_)
    have ha := hm2
    refine mv_go' 2 (pc' := 143) (ls' := [mv_R 0, mv_I (mv_w ((i : Int) + 1))]) (st' := []) (M1 := Ma1) rfl ?_
    rw [show mv_w ((i : Int) + 1) = (i : Int) + 1 from mv_w_id (by omega) (by omega)]
    rw [show (i : Int) + 1 = ((i + 1 : Nat) : Int) from by omega]
    refine ih _ ?_ ?_ (fun j => ?_)
    · rw [ha]
      exact mv_ag.st (mv_ag.st h1 (by decide)) (by decide)
    · rw [ha]
      rfl
    · rw [ha, mv_st_n _ _ (by decide), mv_st_s]
      by_cases q : j = i
      · rw [q, mv_up_s, if_pos (by omega)]
      · rw [mv_up_n _ _ q, h3 j]
        by_cases c : j < i
        · rw [if_pos c, if_pos (by omega)]
        · rw [if_neg c, if_neg (by omega)]
theorem sp_fir_ok : (sp_R4 sp_fir 53).1 = true := by decide +kernel
def sp_X5q (M M1 : mv_M) : Prop := (mv_ag [0, 28, 29, 10, 11, 12] M M1 ∧ ∀ j, j ≠ 7 → M1 0 j = M 0 j) ∧ (M1 0 7 = 1 ∧ M1 28 1 = 0) ∧ sp_at (M1 11) 0 (sp_Rt sp_fir 53 3).2.2 ∧ ∀ j, j < 3 → M1 12 j = ((sp_Rt sp_fir 53 (j + 1)).2.2.length : Int)
theorem sp_X5e {M0 M : mv_M} (h1 : mv_ag [28, 29] M0 M) (h2 : M 28 1 = ((53 : Nat) : Int)) (h3 : M 29 = sp_fir) : mv_Ru 54 209 171 [mv_R 0, mv_I 53] [] M mv_U (sp_X5q M0) := by
  have hrd := sp_cread (l := 10) (t := 53) (M := M) (by unfold sp_ly; omega) (by decide) (fun j _ => by rw [h3]; exact sp_fir_b j) h2
  rw [h3, if_pos sp_fir_ok] at hrd
  refine mv_go' 6 (pc' := if 0 ≤ 0 ∧ 0 < 6 then 181 else mv_bad) (ls' := [mv_R 0, mv_I 53]) (st' := [mv_R 10, mv_R 28]) (M1 := M) rfl ?_
  refine mv_tt' (by omega) ?_
  refine mv_call (st2 := [mv_I (-1)]) rfl (Or.inl rfl) rfl rfl rfl (hrd) (by first | decide | omega) (fun Ma3 hm4 => ?_)
  have hx := hm4
  refine mv_go' 4 (pc' := 190) (ls' := [mv_R 0, mv_I 53]) (st' := []) (M1 := (mv_st Ma3 0 (mv_up (Ma3 0) 7 1))) rfl ?_
  refine mv_ret (fun n => rfl) ⟨⟨mv_ag.st ((h1.wd (by decide)).tr (hx.1.wd (by decide))) (by decide), fun j hj => (mv_up_n _ _ hj).trans ?_⟩, ⟨rfl, hx.2.1⟩, (hx.2.2 sp_fir_ok).1, (hx.2.2 sp_fir_ok).2⟩
  exact congrFun ((hx.1 0 (by decide)).trans (h1 0 (by decide))) j
theorem sp_X5 {M : mv_M} (h1 : M 28 1 = 0) (h2 : ∀ j, M 29 j = 0) : mv_Ru 54 209 141 [mv_R 0, mv_I 4] [] M mv_U (sp_X5q M) := by
  refine mv_go' 2 rfl ?_
  exact sp_X5l (M0 := M) (fun M1 a b c => sp_X5e a b c) 53 0 M rfl mv_ag.rf h1 (fun j => by rw [h2 j, if_neg (by omega)])
