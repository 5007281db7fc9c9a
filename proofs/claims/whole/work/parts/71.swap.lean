/-! swap -/
def sp_g (V : mv_M) (P : Nat → Nat → List Int) (c : Nat) (u : Int) : Int := if u = -1 then 0 else sp_suits V P c u.toNat
theorem sp_g_b {V : mv_M} (P : Nat → Nat → List Int) (ho : sp_ok V) (c : Nat) {u : Int} (h : -1 ≤ u ∧ u < V 0 9) : -1200 ≤ sp_g V P c u ∧ sp_g V P c u ≤ 1200 := by
  unfold sp_g
  split
  · omega
  · exact sp_suits_b P ho c (by omega)
theorem sp_as_rs (V : mv_M) (P : Nat → Nat → List Int) : ∀ k : Nat, sp_sum (sp_s1 V P) k = sp_rs (sp_suits V P) (V 2) k
  | 0 => rfl
  | k + 1 => by simp only [sp_sum, sp_rs, sp_as_rs V P k, sp_s1]
def sp_x2 (D : Nat → Int) (a b : Nat) (j : Nat) : Int := if j = b then D a else if j = a then D b else D j
theorem sp_rs_x {V : mv_M} {P : Nat → Nat → List Int} (D : Nat → Int) {a b : Nat} (hab : a < b) : ∀ k : Nat, sp_rs (sp_suits V P) (sp_x2 D a b) k = sp_rs (sp_suits V P) D k + (if a < k then sp_g V P a (D b) - sp_g V P a (D a) else 0) + (if b < k then sp_g V P b (D a) - sp_g V P b (D b) else 0)
  | 0 => by simp [sp_rs]
  | k + 1 => by
    have h := sp_rs_x (V := V) (P := P) D hab k
    simp only [sp_rs]
    rw [h]
    have e1 : (if sp_x2 D a b k = -1 then 0 else sp_suits V P k (sp_x2 D a b k).toNat) = sp_g V P k (sp_x2 D a b k) := rfl
    have e2 : (if D k = -1 then 0 else sp_suits V P k (D k).toNat) = sp_g V P k (D k) := rfl
    rw [e1, e2]
    by_cases q1 : k = b
    · have x : sp_x2 D a b k = D a := if_pos q1
      subst q1
      rw [x, if_pos (show a < k from hab), if_pos (show a < k + 1 by omega), if_neg (show ¬ k < k by omega), if_pos (show k < k + 1 by omega)]
      omega
    · by_cases q2 : k = a
      · have x : sp_x2 D a b k = D b := (if_neg q1).trans (if_pos q2)
        subst q2
        rw [x, if_neg (show ¬ k < k by omega), if_pos (show k < k + 1 by omega), if_neg (show ¬ b < k by omega), if_neg (show ¬ b < k + 1 by omega)]
        omega
      · have x : sp_x2 D a b k = D k := (if_neg q1).trans (if_neg q2)
        rw [x]
        have t1 : (a < k + 1) = (a < k) := propext ⟨fun _ => by omega, fun _ => by omega⟩
        have t2 : (b < k + 1) = (b < k) := propext ⟨fun _ => by omega, fun _ => by omega⟩
        simp only [t1, t2]
        omega
def sp_sv (V : mv_M) (P : Nat → Nat → List Int) (a b : Nat) : Int := sp_as V P - (sp_g V P a (V 2 a) + sp_g V P b (V 2 b)) + sp_g V P a (V 2 b) + sp_g V P b (V 2 a)
theorem sp_sv_e {V : mv_M} {P : Nat → Nat → List Int} {a b : Nat} (hab : a < b) (hb : (b : Int) < V 0 8) : sp_rs (sp_suits V P) (sp_x2 (V 2) a b) (V 0 8).toNat = sp_sv V P a b := by
  rw [sp_rs_x _ hab, if_pos (by omega), if_pos (by omega)]
  unfold sp_sv sp_as
  rw [sp_as_rs]
  omega
def sp_sw2 (V : mv_M) (P : Nat → Nat → List Int) (a : Nat) : Nat → Nat → Int × Int → Int × Int
  | 0, _, st => st
  | r + 1, b, st => sp_sw2 V P a r (b + 1) (if st.2 < sp_sv V P a b then (10 * (a : Int) + b, sp_sv V P a b) else st)
def sp_sw1 (V : mv_M) (P : Nat → Nat → List Int) : Nat → Nat → Int × Int → Int × Int
  | 0, _, st => st
  | r + 1, a, st => sp_sw1 V P r (a + 1) (sp_sw2 V P a r (a + 1) st)
theorem sp_msi {V M : mv_M} {P : Nat → Nat → List Int} {c : Nat} {u : Int} (ho : sp_ok V) (ht : sp_tmm V P M) (hc : (c : Int) < V 0 8) (hu : -1 ≤ u ∧ u < V 0 9) : mv_Ru 1 167 0 [mv_R 100, mv_I (c : Int), mv_I u] [] M (mv_I (sp_g V P c u)) (fun M1 => M1 = M) := by
  have h8 := sp_ok_s8 ho
  have h9 := sp_ok_s9 ho
  by_cases q : u = -1
  · refine mv_go' 3 (pc' := if u = (-1) then 5 else 9) (ls' := [mv_R 100, mv_I (c : Int), mv_I u]) (st' := []) (M1 := M) rfl ?_
    refine mv_tt' (by omega) ?_
    refine mv_go' 2 (pc' := 25) (ls' := [mv_R 100, mv_I (c : Int), mv_I u]) (st' := [mv_I 0]) (M1 := M) rfl ?_
    exact mv_Ru.val (mv_ret (fun n => rfl) rfl) (congrArg mv_I (by unfold sp_g; first | rw [if_pos (by omega)] | (rw [if_neg (by omega), Int.toNat_natCast])))
  · obtain ⟨v, rfl⟩ : ∃ v : Nat, u = (v : Int) := ⟨u.toNat, by omega⟩
    have hs := ht.2 c v hc hu.2
    refine mv_go' 3 (pc' := if (v : Int) = (-1) then 5 else 9) (ls' := [mv_R 100, mv_I (c : Int), mv_I (v : Int)]) (st' := []) (M1 := M) rfl ?_
    refine mv_ff' (by omega) ?_
    refine mv_go' 8 (pc' := 20) (ls' := [mv_R 100, mv_I (c : Int), mv_I (v : Int)]) (st' := [mv_I 5, mv_I 0, mv_I (v : Int), mv_I (mv_w (6 * (c : Int))), mv_R 133]) (M1 := M) rfl ?_
    rw [show mv_w (6 * (c : Int)) = 6 * (c : Int) from mv_w_id (by omega) (by omega)]
    rw [show 6 * (c : Int) = ((6 * c : Nat) : Int) from by omega]
    refine mv_callP (st2 := [mv_I (v : Int), mv_I ((6 * c : Nat) : Int), mv_R 133]) rfl (Or.inr rfl) rfl rfl rfl ((mv_Ru.val sp_mwithin (congrArg mv_I (sp_cl_id (by omega) (by omega))))) (by first | decide | omega) ?_
    refine mv_go' 1 (pc' := 24) (ls' := [mv_R 100, mv_I (c : Int), mv_I (v : Int)]) (st' := [mv_I (mv_w (((6 * c : Nat) : Int) + (v : Int))), mv_R 133]) (M1 := M) rfl ?_
    rw [show mv_w (((6 * c : Nat) : Int) + (v : Int)) = ((6 * c + v : Nat) : Int) from by (rw [show mv_w (((6 * c : Nat) : Int) + (v : Int)) = ((6 * c : Nat) : Int) + (v : Int) from mv_w_id (by omega) (by omega)]) <;> omega]
    refine mv_go' 1 (pc' := if 0 ≤ ((6 * c + v : Nat) : Int) ∧ ((6 * c + v : Nat) : Int) < 36 then 25 else mv_bad) (ls' := [mv_R 100, mv_I (c : Int), mv_I (v : Int)]) (st' := [mv_I (M 133 (6 * c + v))]) (M1 := M) rfl ?_
    refine mv_tt' (by omega) ?_
    rw [show M 133 (6 * c + v) = sp_suits V P c v from by exact hs]
    exact mv_Ru.val (mv_ret (fun n => rfl) rfl) (congrArg mv_I (by unfold sp_g; first | rw [if_pos (by omega)] | (rw [if_neg (by omega), Int.toNat_natCast])))
/-! the class' loops -/
theorem sp_csw2 {V M0 : mv_M} {P : Nat → Nat → List Int} {w : Int} {a d : Nat} {Q : mv_V → mv_M → Prop} (hc : sp_c 30 M0 V) (ho : sp_ok V) (ht : sp_tb V P M0) :
    ∀ (r b : Nat) (M : mv_M) (pr : Int × Int), (b : Int) + r = V 0 8 → a < b → mv_ag [64] M0 M →
      (∀ (M2 : mv_M) (l5 : mv_V), mv_ag [64] M0 M2 → mv_isL l5 = false → mv_W (d + 2) 78 166 [mv_R 0, mv_I w, mv_I (sp_sw2 V P a r b pr).2, mv_I (sp_sw2 V P a r b pr).1, mv_I (a : Int), l5] [] M2 Q) →
      mv_W (d + 2) 78 59 [mv_R 0, mv_I w, mv_I pr.2, mv_I pr.1, mv_I (a : Int), mv_I (b : Int)] [] M Q := by
  have h8 := sp_ok_s8 ho
  have h9 := sp_ok_s9 ho
  intro r
  induction r with
  | zero =>
    intro b M pr hk hab hag hQ
    have e8 : M 30 8 = (b : Int) := by rw [hag 30 (by decide), sp_c_s8 hc]; omega
    refine mv_goW 4 (pc' := 68) (ls' := [mv_R 0, mv_I w, mv_I pr.2, mv_I pr.1, mv_I (a : Int), mv_I (b : Int)]) (st' := [mv_I (M 30 8), mv_I (b : Int)]) (M1 := M) rfl ?_
    rw [show M 30 8 = (b : Int) from by exact e8]
    refine mv_goW 1 (pc' := if (b : Int) < (b : Int) then 71 else 166) (ls' := [mv_R 0, mv_I w, mv_I pr.2, mv_I pr.1, mv_I (a : Int), mv_I (b : Int)]) (st' := []) (M1 := M) rfl ?_
    refine mv_ffW (by omega) ?_
    exact hQ M _ hag rfl
  | succ r ih =>
    intro b M pr hk hab hag hQ
    have e8 : M 30 8 = V 0 8 := by rw [hag 30 (by decide), sp_c_s8 hc]
    have ea : M 32 a = V 2 a := by rw [hag 32 (by decide)]; exact sp_c_2 hc a (by omega)
    have eb : M 32 b = V 2 b := by rw [hag 32 (by decide)]; exact sp_c_2 hc b (by omega)
    refine mv_goW 4 (pc' := 68) (ls' := [mv_R 0, mv_I w, mv_I pr.2, mv_I pr.1, mv_I (a : Int), mv_I (b : Int)]) (st' := [mv_I (M 30 8), mv_I (b : Int)]) (M1 := M) rfl ?_
    rw [show M 30 8 = V 0 8 from by exact e8]
    refine mv_goW 1 (pc' := if (b : Int) < (V 0 8) then 71 else 166) (ls' := [mv_R 0, mv_I w, mv_I pr.2, mv_I pr.1, mv_I (a : Int), mv_I (b : Int)]) (st' := []) (M1 := M) rfl ?_
    refine mv_ttW (by omega) ?_
    refine mv_goW 10 (pc' := if 0 ≤ 0 ∧ 0 ≤ 0 ∧ 0 ≤ 6 ∧ 0 + 6 ≤ 6 ∧ 0 + 6 ≤ 6 then 92 else mv_bad) (ls' := [mv_R 0, mv_I w, mv_I pr.2, mv_I pr.1, mv_I (a : Int), mv_I (b : Int)]) (st' := []) (M1 := (mv_st M 64 ((mv_cp (M 32) (M 64) 0 0 6)))) rfl ?_
    refine mv_ttW (by omega) ?_
    refine mv_goW 9 (pc' := if 0 ≤ (b : Int) ∧ (b : Int) < 6 then 111 else mv_bad) (ls' := [mv_R 0, mv_I w, mv_I pr.2, mv_I pr.1, mv_I (a : Int), mv_I (b : Int)]) (st' := [mv_I (M 32 b), mv_I (a : Int), mv_R 64]) (M1 := (mv_st M 64 ((mv_cp (M 32) (M 64) 0 0 6)))) rfl ?_
    refine mv_ttW (by omega) ?_
    rw [show M 32 b = V 2 b from by exact eb]
    refine mv_goW 1 (pc' := if 0 ≤ (a : Int) ∧ (a : Int) < 6 then 112 else mv_bad) (ls' := [mv_R 0, mv_I w, mv_I pr.2, mv_I pr.1, mv_I (a : Int), mv_I (b : Int)]) (st' := []) (M1 := (mv_st (mv_st M 64 ((mv_cp (M 32) (M 64) 0 0 6))) 64 (mv_up ((mv_cp (M 32) (M 64) 0 0 6)) a (V 2 b)))) rfl ?_
    refine mv_ttW (by omega) ?_
    refine mv_goW 9 (pc' := if 0 ≤ (a : Int) ∧ (a : Int) < 6 then 131 else mv_bad) (ls' := [mv_R 0, mv_I w, mv_I pr.2, mv_I pr.1, mv_I (a : Int), mv_I (b : Int)]) (st' := [mv_I (M 32 a), mv_I (b : Int), mv_R 64]) (M1 := (mv_st (mv_st M 64 ((mv_cp (M 32) (M 64) 0 0 6))) 64 (mv_up ((mv_cp (M 32) (M 64) 0 0 6)) a (V 2 b)))) rfl ?_
    refine mv_ttW (by omega) ?_
    rw [show M 32 a = V 2 a from by exact ea]
    refine mv_goW 1 (pc' := if 0 ≤ (b : Int) ∧ (b : Int) < 6 then 132 else mv_bad) (ls' := [mv_R 0, mv_I w, mv_I pr.2, mv_I pr.1, mv_I (a : Int), mv_I (b : Int)]) (st' := []) (M1 := (mv_st (mv_st (mv_st M 64 ((mv_cp (M 32) (M 64) 0 0 6))) 64 (mv_up ((mv_cp (M 32) (M 64) 0 0 6)) a (V 2 b))) 64 (mv_up (mv_up ((mv_cp (M 32) (M 64) 0 0 6)) a (V 2 b)) b (V 2 a)))) rfl ?_
    refine mv_ttW (by omega) ?_
    have hagX : mv_ag [64] M0 (mv_st (mv_st (mv_st M 64 ((mv_cp (M 32) (M 64) 0 0 6))) 64 (mv_up ((mv_cp (M 32) (M 64) 0 0 6)) a (V 2 b))) 64 (mv_up (mv_up ((mv_cp (M 32) (M 64) 0 0 6)) a (V 2 b)) b (V 2 a))) := by repeat (first | exact hag | refine mv_ag.st ?_ (by decide))
    have hDX : ∀ j : Nat, (j : Int) < V 0 8 → ((mv_st (mv_st (mv_st M 64 ((mv_cp (M 32) (M 64) 0 0 6))) 64 (mv_up ((mv_cp (M 32) (M 64) 0 0 6)) a (V 2 b))) 64 (mv_up (mv_up ((mv_cp (M 32) (M 64) 0 0 6)) a (V 2 b)) b (V 2 a)))) 64 j = sp_x2 (V 2) a b j ∧ -1 ≤ sp_x2 (V 2) a b j ∧ sp_x2 (V 2) a b j < V 0 9 := fun j hj => by
      have o1 := sp_ok_2 ho j hj
      have o2 := sp_ok_2 ho a (by omega)
      have o3 := sp_ok_2 ho b (by omega)
      refine ⟨?_, ?_⟩
      · show mv_up (mv_up (mv_cp (M 32) (M 64) 0 0 6) a (V 2 b)) b (V 2 a) j = _
        unfold mv_up sp_x2
        split
        · rfl
        · split
          · rfl
          · rw [sp_cp_lt (by omega), hag 32 (by decide)]; exact sp_c_2 hc j hj
      · unfold sp_x2
        split
        · exact o2
        · split
          · exact o3
          · exact o1
    refine mv_goW 2 (pc' := 136) (ls' := [mv_R 0, mv_I w, mv_I pr.2, mv_I pr.1, mv_I (a : Int), mv_I (b : Int)]) (st' := [mv_R 60]) (M1 := (mv_st (mv_st (mv_st M 64 ((mv_cp (M 32) (M 64) 0 0 6))) 64 (mv_up ((mv_cp (M 32) (M 64) 0 0 6)) a (V 2 b))) 64 (mv_up (mv_up ((mv_cp (M 32) (M 64) 0 0 6)) a (V 2 b)) b (V 2 a)))) rfl ?_
    refine mv_callPW (st2 := [mv_I (sp_sv V P a b)]) rfl (Or.inl rfl) rfl rfl rfl ((mv_Ru.val (sp_crsd (D := sp_x2 (V 2) a b) ho (sp_tb_ag ht hagX (by decide)) hDX) (congrArg mv_I (sp_sv_e hab (by omega))))) (by first | decide | omega) ?_
    refine mv_goW 2 (pc' := if pr.2 < (sp_sv V P a b) then 143 else 160) (ls' := [mv_R 0, mv_I w, mv_I pr.2, mv_I pr.1, mv_I (a : Int), mv_I (b : Int)]) (st' := []) (M1 := (mv_st (mv_st (mv_st M 64 ((mv_cp (M 32) (M 64) 0 0 6))) 64 (mv_up ((mv_cp (M 32) (M 64) 0 0 6)) a (V 2 b))) 64 (mv_up (mv_up ((mv_cp (M 32) (M 64) 0 0 6)) a (V 2 b)) b (V 2 a)))) rfl ?_
    refine mv_spW (fun ha1 => ?_) (fun ha1 => ?_)
    · refine mv_goW 2 (pc' := 147) (ls' := [mv_R 0, mv_I w, mv_I pr.2, mv_I pr.1, mv_I (a : Int), mv_I (b : Int)]) (st' := [mv_R 60]) (M1 := (mv_st (mv_st (mv_st M 64 ((mv_cp (M 32) (M 64) 0 0 6))) 64 (mv_up ((mv_cp (M 32) (M 64) 0 0 6)) a (V 2 b))) 64 (mv_up (mv_up ((mv_cp (M 32) (M 64) 0 0 6)) a (V 2 b)) b (V 2 a)))) rfl ?_
      refine mv_callPW (st2 := [mv_I (sp_sv V P a b)]) rfl (Or.inl rfl) rfl rfl rfl ((mv_Ru.val (sp_crsd (D := sp_x2 (V 2) a b) ho (sp_tb_ag ht hagX (by decide)) hDX) (congrArg mv_I (sp_sv_e hab (by omega))))) (by first | decide | omega) ?_
      refine mv_goW 9 (pc' := 59) (ls' := [mv_R 0, mv_I w, mv_I (sp_sv V P a b), mv_I (mv_w ((mv_w (10 * (a : Int))) + (b : Int))), mv_I (a : Int), mv_I (mv_w ((b : Int) + 1))]) (st' := []) (M1 := (mv_st (mv_st (mv_st M 64 ((mv_cp (M 32) (M 64) 0 0 6))) 64 (mv_up ((mv_cp (M 32) (M 64) 0 0 6)) a (V 2 b))) 64 (mv_up (mv_up ((mv_cp (M 32) (M 64) 0 0 6)) a (V 2 b)) b (V 2 a)))) rfl ?_
      rw [show mv_w (10 * (a : Int)) = 10 * (a : Int) from mv_w_id (by omega) (by omega)]
      rw [show mv_w ((10 * (a : Int)) + (b : Int)) = (10 * (a : Int)) + (b : Int) from mv_w_id (by omega) (by omega)]
      rw [show mv_w ((b : Int) + 1) = (b : Int) + 1 from mv_w_id (by omega) (by omega)]
      rw [show (10 * (a : Int)) + (b : Int) = ((10 * a + b : Nat) : Int) from by omega]
      rw [show (b : Int) + 1 = ((b + 1 : Nat) : Int) from by omega]
      rw [sp_sw2] at hQ
      first | rw [if_pos (show pr.2 < sp_sv V P a b by omega)] at hQ | rw [if_neg (show ¬ (pr.2 < sp_sv V P a b) by omega)] at hQ
      first | exact ih (b + 1) _ (10 * (a : Int) + b, sp_sv V P a b) (by omega) (by omega) hagX hQ | exact ih (b + 1) _ pr (by omega) (by omega) hagX hQ
    · refine mv_goW 2 (pc' := 59) (ls' := [mv_R 0, mv_I w, mv_I pr.2, mv_I pr.1, mv_I (a : Int), mv_I (mv_w ((b : Int) + 1))]) (st' := []) (M1 := (mv_st (mv_st (mv_st M 64 ((mv_cp (M 32) (M 64) 0 0 6))) 64 (mv_up ((mv_cp (M 32) (M 64) 0 0 6)) a (V 2 b))) 64 (mv_up (mv_up ((mv_cp (M 32) (M 64) 0 0 6)) a (V 2 b)) b (V 2 a)))) rfl ?_
      rw [show mv_w ((b : Int) + 1) = (b : Int) + 1 from mv_w_id (by omega) (by omega)]
      rw [show (b : Int) + 1 = ((b + 1 : Nat) : Int) from by omega]
      rw [sp_sw2] at hQ
      first | rw [if_pos (show pr.2 < sp_sv V P a b by omega)] at hQ | rw [if_neg (show ¬ (pr.2 < sp_sv V P a b) by omega)] at hQ
      first | exact ih (b + 1) _ (10 * (a : Int) + b, sp_sv V P a b) (by omega) (by omega) hagX hQ | exact ih (b + 1) _ pr (by omega) (by omega) hagX hQ
