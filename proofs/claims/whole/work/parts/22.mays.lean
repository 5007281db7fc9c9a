/-! the model: hiredBy, says, asksOf -/
theorem sp_mhired_lp {V M : mv_M} {u : Int} (hV : sp_m M V) (ho : sp_ok V) : ∀ (k c : Nat), (c : Int) + k = V 0 8 → mv_Ru 0 116 4 [mv_R 100, mv_I u, mv_I (sp_sum (fun c => if V 2 c = u then 1 else 0) c), mv_I (c : Int)] [] M (mv_I (sp_hired V u)) (fun M1 => M1 = M) := by
  intro k
  induction k with
  | zero =>
    intro c hc
    have e : sp_hired V u = sp_sum (fun c => if V 2 c = u then 1 else 0) c := by unfold sp_hired; rw [show (V 0 8).toNat = c from by omega]
    rw [e]
    refine mv_go' 3 (pc' := 9) (ls' := [mv_R 100, mv_I u, mv_I (sp_sum (fun c => if V 2 c = u then 1 else 0) c), mv_I (c : Int)]) (st' := [mv_I (M 100 0), mv_I (c : Int)]) (M1 := M) rfl ?_
    have hr1 := sp_ok_s8 ho
    rw [show M 100 0 = V 0 8 from by exact sp_m_s8 hV]
    refine mv_go' 1 (pc' := if (c : Int) < (V 0 8) then 12 else 36) (ls' := [mv_R 100, mv_I u, mv_I (sp_sum (fun c => if V 2 c = u then 1 else 0) c), mv_I (c : Int)]) (st' := []) (M1 := M) rfl ?_
    refine mv_ff' (by omega) ?_
    refine mv_go' 1 (pc' := 37) (ls' := [mv_R 100, mv_I u, mv_I (sp_sum (fun c => if V 2 c = u then 1 else 0) c), mv_I (c : Int)]) (st' := [mv_I (sp_sum (fun c => if V 2 c = u then 1 else 0) c)]) (M1 := M) rfl ?_
    exact mv_ret (fun n => rfl) (rfl)
  | succ k ih =>
    intro c hc
    have hb := sp_hired_b (V := V) u c
    refine mv_go' 3 (pc' := 9) (ls' := [mv_R 100, mv_I u, mv_I (sp_sum (fun c => if V 2 c = u then 1 else 0) c), mv_I (c : Int)]) (st' := [mv_I (M 100 0), mv_I (c : Int)]) (M1 := M) rfl ?_
    have hr3 := sp_ok_s8 ho
    rw [show M 100 0 = V 0 8 from by exact sp_m_s8 hV]
    refine mv_go' 1 (pc' := if (c : Int) < (V 0 8) then 12 else 36) (ls' := [mv_R 100, mv_I u, mv_I (sp_sum (fun c => if V 2 c = u then 1 else 0) c), mv_I (c : Int)]) (st' := []) (M1 := M) rfl ?_
    refine mv_tt' (by omega) ?_
    refine mv_go' 5 (pc' := if 0 ≤ (c : Int) ∧ (c : Int) < 6 then 19 else mv_bad) (ls' := [mv_R 100, mv_I u, mv_I (sp_sum (fun c => if V 2 c = u then 1 else 0) c), mv_I (c : Int)]) (st' := [mv_I (M 106 c), mv_I (sp_sum (fun c => if V 2 c = u then 1 else 0) c)]) (M1 := M) rfl ?_
    refine mv_tt' (by omega) ?_
    have hr5 := sp_ok_2 ho c (by omega)
    rw [show M 106 c = V 2 c from by exact sp_m_2 hV c (by omega)]
    refine mv_go' 2 (pc' := if (V 2 c) = u then 23 else 27) (ls' := [mv_R 100, mv_I u, mv_I (sp_sum (fun c => if V 2 c = u then 1 else 0) c), mv_I (c : Int)]) (st' := [mv_I (sp_sum (fun c => if V 2 c = u then 1 else 0) c)]) (M1 := M) rfl ?_
    refine mv_sp' (fun h => ?_) (fun h => ?_)
    · refine mv_go' 6 (pc' := 4) (ls' := [mv_R 100, mv_I u, mv_I (mv_w ((sp_sum (fun c => if V 2 c = u then 1 else 0) c) + 1)), mv_I (mv_w ((c : Int) + 1))]) (st' := []) (M1 := M) rfl ?_
      rw [show mv_w ((sp_sum (fun c => if V 2 c = u then 1 else 0) c) + 1) = (sp_sum (fun c => if V 2 c = u then 1 else 0) c) + 1 from mv_w_id (by omega) (by omega)]
      rw [show mv_w ((c : Int) + 1) = (c : Int) + 1 from mv_w_id (by omega) (by omega)]
      rw [show (c : Int) + 1 = ((c + 1 : Nat) : Int) from by omega]
      have e : sp_sum (fun c => if V 2 c = u then 1 else 0) c + 1 = sp_sum (fun c => if V 2 c = u then 1 else 0) (c + 1) := by simp only [sp_sum, if_pos h]
      rw [e]
      exact ih (c + 1) (by omega)
    · refine mv_go' 5 (pc' := 4) (ls' := [mv_R 100, mv_I u, mv_I (mv_w ((sp_sum (fun c => if V 2 c = u then 1 else 0) c) + 0)), mv_I (mv_w ((c : Int) + 1))]) (st' := []) (M1 := M) rfl ?_
      rw [show mv_w ((sp_sum (fun c => if V 2 c = u then 1 else 0) c) + 0) = (sp_sum (fun c => if V 2 c = u then 1 else 0) c) + 0 from mv_w_id (by omega) (by omega)]
      rw [show mv_w ((c : Int) + 1) = (c : Int) + 1 from mv_w_id (by omega) (by omega)]
      rw [show (c : Int) + 1 = ((c + 1 : Nat) : Int) from by omega]
      have e : sp_sum (fun c => if V 2 c = u then 1 else 0) c + 0 = sp_sum (fun c => if V 2 c = u then 1 else 0) (c + 1) := by simp only [sp_sum, if_neg h]
      rw [e]
      exact ih (c + 1) (by omega)
theorem sp_mhired {V M : mv_M} {u : Int} (hV : sp_m M V) (ho : sp_ok V) : mv_Ru 0 116 0 [mv_R 100, mv_I u, mv_U, mv_U] [] M (mv_I (sp_hired V u)) (fun M1 => M1 = M) := by
  have hr := sp_ok_s8 ho
  refine mv_go' 4 (pc' := 4) (ls' := [mv_R 100, mv_I u, mv_I 0, mv_I 0]) (st' := []) (M1 := M) rfl ?_
  exact sp_mhired_lp hV ho (V 0 8).toNat 0 (by omega)
theorem sp_mval_lp {t p : Nat} (ht : t < 6) (hp : p < 3) : ∀ (code st : List Int) (h i : Nat) (M : mv_M) (l4 : mv_V), M 100 13 = (t : Int) → st.length = h → sp_wf code h → h ≤ 64 → sp_at (M 110) (200 * t + i) (code.map sp_en) → i + code.length ≤ 160 → M 111 (4 * t + p + 1) = ((i + code.length : Nat) : Int) → sp_stk (M 130) st →
    mv_Ru 1 138 16 [mv_R 100, mv_I (p : Int), mv_I (h : Int), mv_I (i : Int), l4] [] M (mv_I (sp_top (sp_run (M 131) code st))) (fun M1 => mv_ag [130] M M1) := by
  intro code
  induction code with
  | nil =>
    intro st h i M l4 ht13 hl hw h64 hat hlen he hs
    match st, hl, hs with
    | [], hl, hs => simp only [sp_wf, List.length_nil] at hw hl; omega
    | _ :: _ :: _, hl, hs => simp only [sp_wf, List.length_cons] at hw hl; omega
    | [a], hl, hs =>
      refine mv_go' 6 (pc' := 26) (ls' := [mv_R 100, mv_I (p : Int), mv_I (h : Int), mv_I (i : Int), l4]) (st' := [mv_I (M 100 13), mv_I 4, mv_R 111, mv_I (i : Int)]) (M1 := M) rfl ?_
      rw [show M 100 13 = (t : Int) from by exact ht13]
      refine mv_go' 5 (pc' := 31) (ls' := [mv_R 100, mv_I (p : Int), mv_I (h : Int), mv_I (i : Int), l4]) (st' := [mv_I (mv_w ((mv_w ((mv_w (4 * (t : Int))) + (p : Int))) + 1)), mv_R 111, mv_I (i : Int)]) (M1 := M) rfl ?_
      rw [show mv_w ((mv_w ((mv_w (4 * (t : Int))) + (p : Int))) + 1) = ((4 * t + p + 1 : Nat) : Int) from by (rw [show mv_w (4 * (t : Int)) = 4 * (t : Int) from mv_w_id (by omega) (by omega), show mv_w ((4 * (t : Int)) + (p : Int)) = (4 * (t : Int)) + (p : Int) from mv_w_id (by omega) (by omega), show mv_w (((4 * (t : Int)) + (p : Int)) + 1) = ((4 * (t : Int)) + (p : Int)) + 1 from mv_w_id (by omega) (by omega)]) <;> omega]
      refine mv_go' 1 (pc' := if 0 ≤ ((4 * t + p + 1 : Nat) : Int) ∧ ((4 * t + p + 1 : Nat) : Int) < 24 then 32 else mv_bad) (ls' := [mv_R 100, mv_I (p : Int), mv_I (h : Int), mv_I (i : Int), l4]) (st' := [mv_I (M 111 (4 * t + p + 1)), mv_I (i : Int)]) (M1 := M) rfl ?_
      refine mv_tt' (by omega) ?_
      rw [show M 111 (4 * t + p + 1) = (i : Int) from by rw [he]; rfl]
      refine mv_go' 1 (pc' := if (i : Int) < (i : Int) then 35 else 197) (ls' := [mv_R 100, mv_I (p : Int), mv_I (h : Int), mv_I (i : Int), l4]) (st' := []) (M1 := M) rfl ?_
      refine mv_ff' (by omega) ?_
      refine mv_go' 4 (pc' := if 0 ≤ 0 ∧ 0 < 200 then 203 else mv_bad) (ls' := [mv_R 100, mv_I (p : Int), mv_I (h : Int), mv_I (i : Int), l4]) (st' := [mv_I (M 130 0)]) (M1 := M) rfl ?_
      refine mv_tt' (by omega) ?_
      rw [show M 130 0 = a from by exact hs.1]
      exact mv_ret (fun n => rfl) (mv_ag.rf)
  | cons s r ih =>
    intro st h i M l4 ht13 hl hw h64 hat hlen he hs
    simp only [List.length_cons] at hlen he
    obtain ⟨⟨hs0, hs1⟩, hw⟩ := hw
    have hat1 : M 110 (200 * t + i) = sp_en s := hat.1
    have hat2 : sp_at (M 110) (200 * t + (i + 1)) (r.map sp_en) := hat.2
    by_cases c1 : s < 20000
    · rw [if_pos c1] at hw
      by_cases c0 : s < 10000
      · have e1 : sp_en s = s + 100000 := if_pos c0
        rw [e1] at hat1
        refine mv_go' 6 (pc' := 26) (ls' := [mv_R 100, mv_I (p : Int), mv_I (h : Int), mv_I (i : Int), l4]) (st' := [mv_I (M 100 13), mv_I 4, mv_R 111, mv_I (i : Int)]) (M1 := M) rfl ?_
        rw [show M 100 13 = (t : Int) from by exact ht13]
        refine mv_go' 5 (pc' := 31) (ls' := [mv_R 100, mv_I (p : Int), mv_I (h : Int), mv_I (i : Int), l4]) (st' := [mv_I (mv_w ((mv_w ((mv_w (4 * (t : Int))) + (p : Int))) + 1)), mv_R 111, mv_I (i : Int)]) (M1 := M) rfl ?_
        rw [show mv_w ((mv_w ((mv_w (4 * (t : Int))) + (p : Int))) + 1) = ((4 * t + p + 1 : Nat) : Int) from by (rw [show mv_w (4 * (t : Int)) = 4 * (t : Int) from mv_w_id (by omega) (by omega), show mv_w ((4 * (t : Int)) + (p : Int)) = (4 * (t : Int)) + (p : Int) from mv_w_id (by omega) (by omega), show mv_w (((4 * (t : Int)) + (p : Int)) + 1) = ((4 * (t : Int)) + (p : Int)) + 1 from mv_w_id (by omega) (by omega)]) <;> omega]
        refine mv_go' 1 (pc' := if 0 ≤ ((4 * t + p + 1 : Nat) : Int) ∧ ((4 * t + p + 1 : Nat) : Int) < 24 then 32 else mv_bad) (ls' := [mv_R 100, mv_I (p : Int), mv_I (h : Int), mv_I (i : Int), l4]) (st' := [mv_I (M 111 (4 * t + p + 1)), mv_I (i : Int)]) (M1 := M) rfl ?_
        refine mv_tt' (by omega) ?_
        rw [show M 111 (4 * t + p + 1) = ((i + (r.length + 1) : Nat) : Int) from by exact he]
        refine mv_go' 1 (pc' := if (i : Int) < ((i + (r.length + 1) : Nat) : Int) then 35 else 197) (ls' := [mv_R 100, mv_I (p : Int), mv_I (h : Int), mv_I (i : Int), l4]) (st' := []) (M1 := M) rfl ?_
        refine mv_tt' (by omega) ?_
        refine mv_go' 5 (pc' := 46) (ls' := [mv_R 100, mv_I (p : Int), mv_I (h : Int), mv_I (i : Int), l4]) (st' := [mv_I (M 100 13), mv_I 200, mv_R 110]) (M1 := M) rfl ?_
        rw [show M 100 13 = (t : Int) from by exact ht13]
        refine mv_go' 3 (pc' := 49) (ls' := [mv_R 100, mv_I (p : Int), mv_I (h : Int), mv_I (i : Int), l4]) (st' := [mv_I (mv_w ((mv_w (200 * (t : Int))) + (i : Int))), mv_R 110]) (M1 := M) rfl ?_
        rw [show mv_w ((mv_w (200 * (t : Int))) + (i : Int)) = ((200 * t + i : Nat) : Int) from by (rw [show mv_w (200 * (t : Int)) = 200 * (t : Int) from mv_w_id (by omega) (by omega), show mv_w ((200 * (t : Int)) + (i : Int)) = (200 * (t : Int)) + (i : Int) from mv_w_id (by omega) (by omega)]) <;> omega]
        refine mv_go' 1 (pc' := if 0 ≤ ((200 * t + i : Nat) : Int) ∧ ((200 * t + i : Nat) : Int) < 1200 then 50 else mv_bad) (ls' := [mv_R 100, mv_I (p : Int), mv_I (h : Int), mv_I (i : Int), l4]) (st' := [mv_I (M 110 (200 * t + i))]) (M1 := M) rfl ?_
        refine mv_tt' (by omega) ?_
        rw [show M 110 (200 * t + i) = s + 100000 from by exact hat1]
        refine mv_go' 4 (pc' := if (s + 100000) < 100000 then 59 else 66) (ls' := [mv_R 100, mv_I (p : Int), mv_I (h : Int), mv_I (i : Int), mv_I (s + 100000)]) (st' := []) (M1 := M) rfl ?_
        refine mv_ff' (by omega) ?_
        refine mv_go' 6 (pc' := if (s + 100000) < 11 then 78 else 88) (ls' := [mv_R 100, mv_I (p : Int), mv_I (h : Int), mv_I (i : Int), mv_I (s + 100000)]) (st' := [mv_I (h : Int), mv_R 130]) (M1 := M) rfl ?_
        refine mv_ff' (by omega) ?_
        refine mv_go' 4 (pc' := if 0 ≤ (h : Int) ∧ (h : Int) < 200 then 94 else mv_bad) (ls' := [mv_R 100, mv_I (p : Int), mv_I (h : Int), mv_I (i : Int), mv_I (s + 100000)]) (st' := []) (M1 := (mv_st M 130 (mv_up (M 130) h (mv_w ((s + 100000) - 100000))))) rfl ?_
        refine mv_tt' (by omega) ?_
        refine mv_go' 4 (pc' := 16) (ls' := [mv_R 100, mv_I (p : Int), mv_I (mv_w ((h : Int) + 1)), mv_I (mv_w ((i : Int) + 1)), mv_I (s + 100000)]) (st' := []) (M1 := (mv_st M 130 (mv_up (M 130) h (mv_w ((s + 100000) - 100000))))) rfl ?_
        rw [show mv_w (s + 100000 - 100000) = s from by rw [mv_w_id (by omega) (by omega)]; omega]
        rw [show mv_w ((h : Int) + 1) = (h : Int) + 1 from mv_w_id (by omega) (by omega)]
        rw [show mv_w ((i : Int) + 1) = (i : Int) + 1 from mv_w_id (by omega) (by omega)]
        rw [show (h : Int) + 1 = ((h + 1 : Nat) : Int) from by omega]
        rw [show (i : Int) + 1 = ((i + 1 : Nat) : Int) from by omega]
        simp only [sp_run, if_pos c0]
        exact (ih (s :: st) (h + 1) (i + 1) (mv_st M 130 (mv_up (M 130) h s)) (mv_I (s + 100000)) ht13 (by simp only [List.length_cons]; omega) hw.2.2 (by omega) hat2 (by omega) (by rw [show i + 1 + r.length = i + (r.length + 1) from by omega]; exact he) (sp_stk_ps hs hl)).imp (fun M2 h2 => mv_ag.tr (mv_ag.st mv_ag.rf (by decide)) h2)
      · have e1 : sp_en s = s - 10000 := by unfold sp_en; rw [if_neg c0, if_pos c1]
        rw [e1] at hat1
        refine mv_go' 6 (pc' := 26) (ls' := [mv_R 100, mv_I (p : Int), mv_I (h : Int), mv_I (i : Int), l4]) (st' := [mv_I (M 100 13), mv_I 4, mv_R 111, mv_I (i : Int)]) (M1 := M) rfl ?_
        rw [show M 100 13 = (t : Int) from by exact ht13]
        refine mv_go' 5 (pc' := 31) (ls' := [mv_R 100, mv_I (p : Int), mv_I (h : Int), mv_I (i : Int), l4]) (st' := [mv_I (mv_w ((mv_w ((mv_w (4 * (t : Int))) + (p : Int))) + 1)), mv_R 111, mv_I (i : Int)]) (M1 := M) rfl ?_
        rw [show mv_w ((mv_w ((mv_w (4 * (t : Int))) + (p : Int))) + 1) = ((4 * t + p + 1 : Nat) : Int) from by (rw [show mv_w (4 * (t : Int)) = 4 * (t : Int) from mv_w_id (by omega) (by omega), show mv_w ((4 * (t : Int)) + (p : Int)) = (4 * (t : Int)) + (p : Int) from mv_w_id (by omega) (by omega), show mv_w (((4 * (t : Int)) + (p : Int)) + 1) = ((4 * (t : Int)) + (p : Int)) + 1 from mv_w_id (by omega) (by omega)]) <;> omega]
        refine mv_go' 1 (pc' := if 0 ≤ ((4 * t + p + 1 : Nat) : Int) ∧ ((4 * t + p + 1 : Nat) : Int) < 24 then 32 else mv_bad) (ls' := [mv_R 100, mv_I (p : Int), mv_I (h : Int), mv_I (i : Int), l4]) (st' := [mv_I (M 111 (4 * t + p + 1)), mv_I (i : Int)]) (M1 := M) rfl ?_
        refine mv_tt' (by omega) ?_
        rw [show M 111 (4 * t + p + 1) = ((i + (r.length + 1) : Nat) : Int) from by exact he]
        refine mv_go' 1 (pc' := if (i : Int) < ((i + (r.length + 1) : Nat) : Int) then 35 else 197) (ls' := [mv_R 100, mv_I (p : Int), mv_I (h : Int), mv_I (i : Int), l4]) (st' := []) (M1 := M) rfl ?_
        refine mv_tt' (by omega) ?_
        refine mv_go' 5 (pc' := 46) (ls' := [mv_R 100, mv_I (p : Int), mv_I (h : Int), mv_I (i : Int), l4]) (st' := [mv_I (M 100 13), mv_I 200, mv_R 110]) (M1 := M) rfl ?_
        rw [show M 100 13 = (t : Int) from by exact ht13]
        refine mv_go' 3 (pc' := 49) (ls' := [mv_R 100, mv_I (p : Int), mv_I (h : Int), mv_I (i : Int), l4]) (st' := [mv_I (mv_w ((mv_w (200 * (t : Int))) + (i : Int))), mv_R 110]) (M1 := M) rfl ?_
        rw [show mv_w ((mv_w (200 * (t : Int))) + (i : Int)) = ((200 * t + i : Nat) : Int) from by (rw [show mv_w (200 * (t : Int)) = 200 * (t : Int) from mv_w_id (by omega) (by omega), show mv_w ((200 * (t : Int)) + (i : Int)) = (200 * (t : Int)) + (i : Int) from mv_w_id (by omega) (by omega)]) <;> omega]
        refine mv_go' 1 (pc' := if 0 ≤ ((200 * t + i : Nat) : Int) ∧ ((200 * t + i : Nat) : Int) < 1200 then 50 else mv_bad) (ls' := [mv_R 100, mv_I (p : Int), mv_I (h : Int), mv_I (i : Int), l4]) (st' := [mv_I (M 110 (200 * t + i))]) (M1 := M) rfl ?_
        refine mv_tt' (by omega) ?_
        rw [show M 110 (200 * t + i) = s - 10000 from by exact hat1]
        refine mv_go' 4 (pc' := if (s - 10000) < 100000 then 59 else 66) (ls' := [mv_R 100, mv_I (p : Int), mv_I (h : Int), mv_I (i : Int), mv_I (s - 10000)]) (st' := []) (M1 := M) rfl ?_
        refine mv_tt' (by omega) ?_
        refine mv_go' 3 (pc' := if (s - 10000) < 11 then 66 else 100) (ls' := [mv_R 100, mv_I (p : Int), mv_I (h : Int), mv_I (i : Int), mv_I (s - 10000)]) (st' := []) (M1 := M) rfl ?_
        refine mv_tt' (by omega) ?_
        refine mv_go' 6 (pc' := if (s - 10000) < 11 then 78 else 88) (ls' := [mv_R 100, mv_I (p : Int), mv_I (h : Int), mv_I (i : Int), mv_I (s - 10000)]) (st' := [mv_I (h : Int), mv_R 130]) (M1 := M) rfl ?_
        refine mv_tt' (by omega) ?_
        refine mv_go' 4 (pc' := if 0 ≤ (s - 10000) ∧ (s - 10000) < 6 then 85 else mv_bad) (ls' := [mv_R 100, mv_I (p : Int), mv_I (h : Int), mv_I (i : Int), mv_I (s - 10000)]) (st' := [mv_I (M 131 ((s - 10000).toNat)), mv_I (h : Int), mv_R 130]) (M1 := M) rfl ?_
        refine mv_tt' (by omega) ?_
        refine mv_go' 2 (pc' := if 0 ≤ (h : Int) ∧ (h : Int) < 200 then 94 else mv_bad) (ls' := [mv_R 100, mv_I (p : Int), mv_I (h : Int), mv_I (i : Int), mv_I (s - 10000)]) (st' := []) (M1 := (mv_st M 130 (mv_up (M 130) h (M 131 ((s - 10000).toNat))))) rfl ?_
        refine mv_tt' (by omega) ?_
        refine mv_go' 4 (pc' := 16) (ls' := [mv_R 100, mv_I (p : Int), mv_I (mv_w ((h : Int) + 1)), mv_I (mv_w ((i : Int) + 1)), mv_I (s - 10000)]) (st' := []) (M1 := (mv_st M 130 (mv_up (M 130) h (M 131 ((s - 10000).toNat))))) rfl ?_
        rw [show mv_w ((h : Int) + 1) = (h : Int) + 1 from mv_w_id (by omega) (by omega)]
        rw [show mv_w ((i : Int) + 1) = (i : Int) + 1 from mv_w_id (by omega) (by omega)]
        rw [show (h : Int) + 1 = ((h + 1 : Nat) : Int) from by omega]
        rw [show (i : Int) + 1 = ((i + 1 : Nat) : Int) from by omega]
        simp only [sp_run, if_neg c0, if_pos c1]
        exact (ih (M 131 (s - 10000).toNat :: st) (h + 1) (i + 1) (mv_st M 130 (mv_up (M 130) h (M 131 (s - 10000).toNat))) (mv_I (s - 10000)) ht13 (by simp only [List.length_cons]; omega) hw.2.2 (by omega) hat2 (by omega) (by rw [show i + 1 + r.length = i + (r.length + 1) from by omega]; exact he) (sp_stk_ps hs hl)).imp (fun M2 h2 => mv_ag.tr (mv_ag.st mv_ag.rf (by decide)) h2)
    · rw [if_neg c1] at hw
      have c0 : ¬ s < 10000 := by omega
      by_cases c3 : 20007 ≤ s
      · rw [if_pos c3] at hw
        match st, hl, hs with
        | [], hl, hs => simp only [List.length_nil] at hl; omega
        | a :: q, hl, hs =>
          simp only [List.length_cons] at hl
          subst hl
          rcases (by omega : s = 20007 ∨ s = 20008) with e0 | e0
          · have e1 : sp_en s = 13 := by rw [e0]; rfl
            rw [e1] at hat1
            refine mv_go' 6 (pc' := 26) (ls' := [mv_R 100, mv_I (p : Int), mv_I ((q.length + 1 : Nat) : Int), mv_I (i : Int), l4]) (st' := [mv_I (M 100 13), mv_I 4, mv_R 111, mv_I (i : Int)]) (M1 := M) rfl ?_
            rw [show M 100 13 = (t : Int) from by exact ht13]
            refine mv_go' 5 (pc' := 31) (ls' := [mv_R 100, mv_I (p : Int), mv_I ((q.length + 1 : Nat) : Int), mv_I (i : Int), l4]) (st' := [mv_I (mv_w ((mv_w ((mv_w (4 * (t : Int))) + (p : Int))) + 1)), mv_R 111, mv_I (i : Int)]) (M1 := M) rfl ?_
            rw [show mv_w ((mv_w ((mv_w (4 * (t : Int))) + (p : Int))) + 1) = ((4 * t + p + 1 : Nat) : Int) from by (rw [show mv_w (4 * (t : Int)) = 4 * (t : Int) from mv_w_id (by omega) (by omega), show mv_w ((4 * (t : Int)) + (p : Int)) = (4 * (t : Int)) + (p : Int) from mv_w_id (by omega) (by omega), show mv_w (((4 * (t : Int)) + (p : Int)) + 1) = ((4 * (t : Int)) + (p : Int)) + 1 from mv_w_id (by omega) (by omega)]) <;> omega]
            refine mv_go' 1 (pc' := if 0 ≤ ((4 * t + p + 1 : Nat) : Int) ∧ ((4 * t + p + 1 : Nat) : Int) < 24 then 32 else mv_bad) (ls' := [mv_R 100, mv_I (p : Int), mv_I ((q.length + 1 : Nat) : Int), mv_I (i : Int), l4]) (st' := [mv_I (M 111 (4 * t + p + 1)), mv_I (i : Int)]) (M1 := M) rfl ?_
            refine mv_tt' (by omega) ?_
            rw [show M 111 (4 * t + p + 1) = ((i + (r.length + 1) : Nat) : Int) from by exact he]
            refine mv_go' 1 (pc' := if (i : Int) < ((i + (r.length + 1) : Nat) : Int) then 35 else 197) (ls' := [mv_R 100, mv_I (p : Int), mv_I ((q.length + 1 : Nat) : Int), mv_I (i : Int), l4]) (st' := []) (M1 := M) rfl ?_
            refine mv_tt' (by omega) ?_
            refine mv_go' 5 (pc' := 46) (ls' := [mv_R 100, mv_I (p : Int), mv_I ((q.length + 1 : Nat) : Int), mv_I (i : Int), l4]) (st' := [mv_I (M 100 13), mv_I 200, mv_R 110]) (M1 := M) rfl ?_
            rw [show M 100 13 = (t : Int) from by exact ht13]
            refine mv_go' 3 (pc' := 49) (ls' := [mv_R 100, mv_I (p : Int), mv_I ((q.length + 1 : Nat) : Int), mv_I (i : Int), l4]) (st' := [mv_I (mv_w ((mv_w (200 * (t : Int))) + (i : Int))), mv_R 110]) (M1 := M) rfl ?_
            rw [show mv_w ((mv_w (200 * (t : Int))) + (i : Int)) = ((200 * t + i : Nat) : Int) from by (rw [show mv_w (200 * (t : Int)) = 200 * (t : Int) from mv_w_id (by omega) (by omega), show mv_w ((200 * (t : Int)) + (i : Int)) = (200 * (t : Int)) + (i : Int) from mv_w_id (by omega) (by omega)]) <;> omega]
            refine mv_go' 1 (pc' := if 0 ≤ ((200 * t + i : Nat) : Int) ∧ ((200 * t + i : Nat) : Int) < 1200 then 50 else mv_bad) (ls' := [mv_R 100, mv_I (p : Int), mv_I ((q.length + 1 : Nat) : Int), mv_I (i : Int), l4]) (st' := [mv_I (M 110 (200 * t + i))]) (M1 := M) rfl ?_
            refine mv_tt' (by omega) ?_
            rw [show M 110 (200 * t + i) = 13 from by exact hat1]
            refine mv_go' 4 (pc' := if 13 < 100000 then 59 else 66) (ls' := [mv_R 100, mv_I (p : Int), mv_I ((q.length + 1 : Nat) : Int), mv_I (i : Int), mv_I 13]) (st' := []) (M1 := M) rfl ?_
            refine mv_tt' (by decide) ?_
            refine mv_go' 3 (pc' := if 13 < 11 then 66 else 100) (ls' := [mv_R 100, mv_I (p : Int), mv_I ((q.length + 1 : Nat) : Int), mv_I (i : Int), mv_I 13]) (st' := []) (M1 := M) rfl ?_
            refine mv_ff' (by decide) ?_
            refine mv_go' 3 (pc' := if 13 = 13 then 107 else 134) (ls' := [mv_R 100, mv_I (p : Int), mv_I ((q.length + 1 : Nat) : Int), mv_I (i : Int), mv_I 13]) (st' := []) (M1 := M) rfl ?_
            refine mv_tt' (rfl) ?_
            refine mv_go' 10 (pc' := 121) (ls' := [mv_R 100, mv_I (p : Int), mv_I ((q.length + 1 : Nat) : Int), mv_I (i : Int), mv_I 13]) (st' := [mv_I (mv_w (((q.length + 1 : Nat) : Int) - 1)), mv_R 130, mv_I (mv_w (((q.length + 1 : Nat) : Int) - 1)), mv_R 130]) (M1 := M) rfl ?_
            rw [show mv_w (((q.length + 1 : Nat) : Int) - 1) = (q.length : Int) from by (rw [show mv_w (((q.length + 1 : Nat) : Int) - 1) = ((q.length + 1 : Nat) : Int) - 1 from mv_w_id (by omega) (by omega)]) <;> omega]
            refine mv_go' 1 (pc' := if 0 ≤ (q.length : Int) ∧ (q.length : Int) < 200 then 122 else mv_bad) (ls' := [mv_R 100, mv_I (p : Int), mv_I ((q.length + 1 : Nat) : Int), mv_I (i : Int), mv_I 13]) (st' := [mv_I (M 130 q.length), mv_I (q.length : Int), mv_R 130]) (M1 := M) rfl ?_
            refine mv_tt' (by omega) ?_
            rw [show M 130 q.length = a from by exact hs.1]
            refine mv_go' 1 (pc' := if a = 0 then 125 else 129) (ls' := [mv_R 100, mv_I (p : Int), mv_I ((q.length + 1 : Nat) : Int), mv_I (i : Int), mv_I 13]) (st' := [mv_I (q.length : Int), mv_R 130]) (M1 := M) rfl ?_
            refine mv_sp' (fun ha => ?_) (fun ha => ?_)
            · refine mv_go' 3 (pc' := if 0 ≤ (q.length : Int) ∧ (q.length : Int) < 200 then 131 else mv_bad) (ls' := [mv_R 100, mv_I (p : Int), mv_I ((q.length + 1 : Nat) : Int), mv_I (i : Int), mv_I 13]) (st' := []) (M1 := (mv_st M 130 (mv_up (M 130) q.length 1))) rfl ?_
              refine mv_tt' (by omega) ?_
              refine mv_go' 3 (pc' := 16) (ls' := [mv_R 100, mv_I (p : Int), mv_I ((q.length + 1 : Nat) : Int), mv_I (mv_w ((i : Int) + 1)), mv_I 13]) (st' := []) (M1 := (mv_st M 130 (mv_up (M 130) q.length 1))) rfl ?_
              rw [show mv_w ((i : Int) + 1) = (i : Int) + 1 from mv_w_id (by omega) (by omega)]
              rw [show (i : Int) + 1 = ((i + 1 : Nat) : Int) from by omega]
              simp only [sp_run, if_neg c0, if_neg c1, if_pos c3]
              rw [show sp_un s a = 1 from by rw [e0]; simp [sp_un, ha]]
              exact (ih (1 :: q) (q.length + 1) (i + 1) (mv_st M 130 (mv_up (M 130) q.length 1)) (mv_I 13) ht13 rfl hw.2 (by omega) hat2 (by omega) (by rw [show i + 1 + r.length = i + (r.length + 1) from by omega]; exact he) (sp_stk_ps hs.2 rfl)).imp (fun M2 h2 => mv_ag.tr (mv_ag.st mv_ag.rf (by decide)) h2)
            · refine mv_go' 2 (pc' := if 0 ≤ (q.length : Int) ∧ (q.length : Int) < 200 then 131 else mv_bad) (ls' := [mv_R 100, mv_I (p : Int), mv_I ((q.length + 1 : Nat) : Int), mv_I (i : Int), mv_I 13]) (st' := []) (M1 := (mv_st M 130 (mv_up (M 130) q.length 0))) rfl ?_
              refine mv_tt' (by omega) ?_
              refine mv_go' 3 (pc' := 16) (ls' := [mv_R 100, mv_I (p : Int), mv_I ((q.length + 1 : Nat) : Int), mv_I (mv_w ((i : Int) + 1)), mv_I 13]) (st' := []) (M1 := (mv_st M 130 (mv_up (M 130) q.length 0))) rfl ?_
              rw [show mv_w ((i : Int) + 1) = (i : Int) + 1 from mv_w_id (by omega) (by omega)]
              rw [show (i : Int) + 1 = ((i + 1 : Nat) : Int) from by omega]
              simp only [sp_run, if_neg c0, if_neg c1, if_pos c3]
              rw [show sp_un s a = 0 from by rw [e0]; simp [sp_un, ha]]
              exact (ih (0 :: q) (q.length + 1) (i + 1) (mv_st M 130 (mv_up (M 130) q.length 0)) (mv_I 13) ht13 rfl hw.2 (by omega) hat2 (by omega) (by rw [show i + 1 + r.length = i + (r.length + 1) from by omega]; exact he) (sp_stk_ps hs.2 rfl)).imp (fun M2 h2 => mv_ag.tr (mv_ag.st mv_ag.rf (by decide)) h2)
          · have e1 : sp_en s = 19 := by rw [e0]; rfl
            rw [e1] at hat1
            refine mv_go' 6 (pc' := 26) (ls' := [mv_R 100, mv_I (p : Int), mv_I ((q.length + 1 : Nat) : Int), mv_I (i : Int), l4]) (st' := [mv_I (M 100 13), mv_I 4, mv_R 111, mv_I (i : Int)]) (M1 := M) rfl ?_
            rw [show M 100 13 = (t : Int) from by exact ht13]
            refine mv_go' 5 (pc' := 31) (ls' := [mv_R 100, mv_I (p : Int), mv_I ((q.length + 1 : Nat) : Int), mv_I (i : Int), l4]) (st' := [mv_I (mv_w ((mv_w ((mv_w (4 * (t : Int))) + (p : Int))) + 1)), mv_R 111, mv_I (i : Int)]) (M1 := M) rfl ?_
            rw [show mv_w ((mv_w ((mv_w (4 * (t : Int))) + (p : Int))) + 1) = ((4 * t + p + 1 : Nat) : Int) from by (rw [show mv_w (4 * (t : Int)) = 4 * (t : Int) from mv_w_id (by omega) (by omega), show mv_w ((4 * (t : Int)) + (p : Int)) = (4 * (t : Int)) + (p : Int) from mv_w_id (by omega) (by omega), show mv_w (((4 * (t : Int)) + (p : Int)) + 1) = ((4 * (t : Int)) + (p : Int)) + 1 from mv_w_id (by omega) (by omega)]) <;> omega]
            refine mv_go' 1 (pc' := if 0 ≤ ((4 * t + p + 1 : Nat) : Int) ∧ ((4 * t + p + 1 : Nat) : Int) < 24 then 32 else mv_bad) (ls' := [mv_R 100, mv_I (p : Int), mv_I ((q.length + 1 : Nat) : Int), mv_I (i : Int), l4]) (st' := [mv_I (M 111 (4 * t + p + 1)), mv_I (i : Int)]) (M1 := M) rfl ?_
            refine mv_tt' (by omega) ?_
            rw [show M 111 (4 * t + p + 1) = ((i + (r.length + 1) : Nat) : Int) from by exact he]
            refine mv_go' 1 (pc' := if (i : Int) < ((i + (r.length + 1) : Nat) : Int) then 35 else 197) (ls' := [mv_R 100, mv_I (p : Int), mv_I ((q.length + 1 : Nat) : Int), mv_I (i : Int), l4]) (st' := []) (M1 := M) rfl ?_
            refine mv_tt' (by omega) ?_
            refine mv_go' 5 (pc' := 46) (ls' := [mv_R 100, mv_I (p : Int), mv_I ((q.length + 1 : Nat) : Int), mv_I (i : Int), l4]) (st' := [mv_I (M 100 13), mv_I 200, mv_R 110]) (M1 := M) rfl ?_
            rw [show M 100 13 = (t : Int) from by exact ht13]
            refine mv_go' 3 (pc' := 49) (ls' := [mv_R 100, mv_I (p : Int), mv_I ((q.length + 1 : Nat) : Int), mv_I (i : Int), l4]) (st' := [mv_I (mv_w ((mv_w (200 * (t : Int))) + (i : Int))), mv_R 110]) (M1 := M) rfl ?_
            rw [show mv_w ((mv_w (200 * (t : Int))) + (i : Int)) = ((200 * t + i : Nat) : Int) from by (rw [show mv_w (200 * (t : Int)) = 200 * (t : Int) from mv_w_id (by omega) (by omega), show mv_w ((200 * (t : Int)) + (i : Int)) = (200 * (t : Int)) + (i : Int) from mv_w_id (by omega) (by omega)]) <;> omega]
            refine mv_go' 1 (pc' := if 0 ≤ ((200 * t + i : Nat) : Int) ∧ ((200 * t + i : Nat) : Int) < 1200 then 50 else mv_bad) (ls' := [mv_R 100, mv_I (p : Int), mv_I ((q.length + 1 : Nat) : Int), mv_I (i : Int), l4]) (st' := [mv_I (M 110 (200 * t + i))]) (M1 := M) rfl ?_
            refine mv_tt' (by omega) ?_
            rw [show M 110 (200 * t + i) = 19 from by exact hat1]
            refine mv_go' 4 (pc' := if 19 < 100000 then 59 else 66) (ls' := [mv_R 100, mv_I (p : Int), mv_I ((q.length + 1 : Nat) : Int), mv_I (i : Int), mv_I 19]) (st' := []) (M1 := M) rfl ?_
            refine mv_tt' (by decide) ?_
            refine mv_go' 3 (pc' := if 19 < 11 then 66 else 100) (ls' := [mv_R 100, mv_I (p : Int), mv_I ((q.length + 1 : Nat) : Int), mv_I (i : Int), mv_I 19]) (st' := []) (M1 := M) rfl ?_
            refine mv_ff' (by decide) ?_
            refine mv_go' 3 (pc' := if 19 = 13 then 107 else 134) (ls' := [mv_R 100, mv_I (p : Int), mv_I ((q.length + 1 : Nat) : Int), mv_I (i : Int), mv_I 19]) (st' := []) (M1 := M) rfl ?_
            refine mv_ff' (by decide) ?_
            refine mv_go' 3 (pc' := if 19 = 19 then 141 else 161) (ls' := [mv_R 100, mv_I (p : Int), mv_I ((q.length + 1 : Nat) : Int), mv_I (i : Int), mv_I 19]) (st' := []) (M1 := M) rfl ?_
            refine mv_tt' (rfl) ?_
            refine mv_go' 10 (pc' := 155) (ls' := [mv_R 100, mv_I (p : Int), mv_I ((q.length + 1 : Nat) : Int), mv_I (i : Int), mv_I 19]) (st' := [mv_I (mv_w (((q.length + 1 : Nat) : Int) - 1)), mv_R 130, mv_I (mv_w (((q.length + 1 : Nat) : Int) - 1)), mv_R 130]) (M1 := M) rfl ?_
            rw [show mv_w (((q.length + 1 : Nat) : Int) - 1) = (q.length : Int) from by (rw [show mv_w (((q.length + 1 : Nat) : Int) - 1) = ((q.length + 1 : Nat) : Int) - 1 from mv_w_id (by omega) (by omega)]) <;> omega]
            refine mv_go' 1 (pc' := if 0 ≤ (q.length : Int) ∧ (q.length : Int) < 200 then 156 else mv_bad) (ls' := [mv_R 100, mv_I (p : Int), mv_I ((q.length + 1 : Nat) : Int), mv_I (i : Int), mv_I 19]) (st' := [mv_I (M 130 q.length), mv_I (q.length : Int), mv_R 130]) (M1 := M) rfl ?_
            refine mv_tt' (by omega) ?_
            rw [show M 130 q.length = a from by exact hs.1]
            refine mv_go' 2 (pc' := if 0 ≤ (q.length : Int) ∧ (q.length : Int) < 200 then 158 else mv_bad) (ls' := [mv_R 100, mv_I (p : Int), mv_I ((q.length + 1 : Nat) : Int), mv_I (i : Int), mv_I 19]) (st' := []) (M1 := (mv_st M 130 (mv_up (M 130) q.length (mv_w (-a))))) rfl ?_
            refine mv_tt' (by omega) ?_
            refine mv_go' 3 (pc' := 16) (ls' := [mv_R 100, mv_I (p : Int), mv_I ((q.length + 1 : Nat) : Int), mv_I (mv_w ((i : Int) + 1)), mv_I 19]) (st' := []) (M1 := (mv_st M 130 (mv_up (M 130) q.length (mv_w (-a))))) rfl ?_
            rw [show mv_w ((i : Int) + 1) = ((i + 1 : Nat) : Int) from by (rw [show mv_w ((i : Int) + 1) = (i : Int) + 1 from mv_w_id (by omega) (by omega)]) <;> omega]
            simp only [sp_run, if_neg c0, if_neg c1, if_pos c3]
            rw [show sp_un s a = mv_w (-a) from by rw [e0]; simp [sp_un]]
            exact (ih (mv_w (-a) :: q) (q.length + 1) (i + 1) (mv_st M 130 (mv_up (M 130) q.length (mv_w (-a)))) (mv_I 19) ht13 rfl hw.2 (by omega) hat2 (by omega) (by rw [show i + 1 + r.length = i + (r.length + 1) from by omega]; exact he) (sp_stk_ps hs.2 rfl)).imp (fun M2 h2 => mv_ag.tr (mv_ag.st mv_ag.rf (by decide)) h2)
      · rw [if_neg c3] at hw
        have e3 : 11 ≤ sp_en s ∧ sp_en s ≤ 18 ∧ sp_en s ≠ 13 := by
          rcases (by omega : s = 20000 ∨ s = 20001 ∨ s = 20002 ∨ s = 20003 ∨ s = 20004 ∨ s = 20005 ∨ s = 20006) with e | e | e | e | e | e | e <;> rw [e] <;> decide
        match st, hl, hs with
        | [], hl, hs => simp only [List.length_nil] at hl; omega
        | [_], hl, hs => simp only [List.length_cons, List.length_nil] at hl; omega
        | b :: a :: q, hl, hs =>
          simp only [List.length_cons] at hl
          subst hl
          refine mv_go' 6 (pc' := 26) (ls' := [mv_R 100, mv_I (p : Int), mv_I ((q.length + 1 + 1 : Nat) : Int), mv_I (i : Int), l4]) (st' := [mv_I (M 100 13), mv_I 4, mv_R 111, mv_I (i : Int)]) (M1 := M) rfl ?_
          rw [show M 100 13 = (t : Int) from by exact ht13]
          refine mv_go' 5 (pc' := 31) (ls' := [mv_R 100, mv_I (p : Int), mv_I ((q.length + 1 + 1 : Nat) : Int), mv_I (i : Int), l4]) (st' := [mv_I (mv_w ((mv_w ((mv_w (4 * (t : Int))) + (p : Int))) + 1)), mv_R 111, mv_I (i : Int)]) (M1 := M) rfl ?_
          rw [show mv_w ((mv_w ((mv_w (4 * (t : Int))) + (p : Int))) + 1) = ((4 * t + p + 1 : Nat) : Int) from by (rw [show mv_w (4 * (t : Int)) = 4 * (t : Int) from mv_w_id (by omega) (by omega), show mv_w ((4 * (t : Int)) + (p : Int)) = (4 * (t : Int)) + (p : Int) from mv_w_id (by omega) (by omega), show mv_w (((4 * (t : Int)) + (p : Int)) + 1) = ((4 * (t : Int)) + (p : Int)) + 1 from mv_w_id (by omega) (by omega)]) <;> omega]
          refine mv_go' 1 (pc' := if 0 ≤ ((4 * t + p + 1 : Nat) : Int) ∧ ((4 * t + p + 1 : Nat) : Int) < 24 then 32 else mv_bad) (ls' := [mv_R 100, mv_I (p : Int), mv_I ((q.length + 1 + 1 : Nat) : Int), mv_I (i : Int), l4]) (st' := [mv_I (M 111 (4 * t + p + 1)), mv_I (i : Int)]) (M1 := M) rfl ?_
          refine mv_tt' (by omega) ?_
          rw [show M 111 (4 * t + p + 1) = ((i + (r.length + 1) : Nat) : Int) from by exact he]
          refine mv_go' 1 (pc' := if (i : Int) < ((i + (r.length + 1) : Nat) : Int) then 35 else 197) (ls' := [mv_R 100, mv_I (p : Int), mv_I ((q.length + 1 + 1 : Nat) : Int), mv_I (i : Int), l4]) (st' := []) (M1 := M) rfl ?_
          refine mv_tt' (by omega) ?_
          refine mv_go' 5 (pc' := 46) (ls' := [mv_R 100, mv_I (p : Int), mv_I ((q.length + 1 + 1 : Nat) : Int), mv_I (i : Int), l4]) (st' := [mv_I (M 100 13), mv_I 200, mv_R 110]) (M1 := M) rfl ?_
          rw [show M 100 13 = (t : Int) from by exact ht13]
          refine mv_go' 3 (pc' := 49) (ls' := [mv_R 100, mv_I (p : Int), mv_I ((q.length + 1 + 1 : Nat) : Int), mv_I (i : Int), l4]) (st' := [mv_I (mv_w ((mv_w (200 * (t : Int))) + (i : Int))), mv_R 110]) (M1 := M) rfl ?_
          rw [show mv_w ((mv_w (200 * (t : Int))) + (i : Int)) = ((200 * t + i : Nat) : Int) from by (rw [show mv_w (200 * (t : Int)) = 200 * (t : Int) from mv_w_id (by omega) (by omega), show mv_w ((200 * (t : Int)) + (i : Int)) = (200 * (t : Int)) + (i : Int) from mv_w_id (by omega) (by omega)]) <;> omega]
          refine mv_go' 1 (pc' := if 0 ≤ ((200 * t + i : Nat) : Int) ∧ ((200 * t + i : Nat) : Int) < 1200 then 50 else mv_bad) (ls' := [mv_R 100, mv_I (p : Int), mv_I ((q.length + 1 + 1 : Nat) : Int), mv_I (i : Int), l4]) (st' := [mv_I (M 110 (200 * t + i))]) (M1 := M) rfl ?_
          refine mv_tt' (by omega) ?_
          rw [show M 110 (200 * t + i) = sp_en s from by exact hat1]
          refine mv_go' 4 (pc' := if (sp_en s) < 100000 then 59 else 66) (ls' := [mv_R 100, mv_I (p : Int), mv_I ((q.length + 1 + 1 : Nat) : Int), mv_I (i : Int), mv_I (sp_en s)]) (st' := []) (M1 := M) rfl ?_
          refine mv_tt' (by omega) ?_
          refine mv_go' 3 (pc' := if (sp_en s) < 11 then 66 else 100) (ls' := [mv_R 100, mv_I (p : Int), mv_I ((q.length + 1 + 1 : Nat) : Int), mv_I (i : Int), mv_I (sp_en s)]) (st' := []) (M1 := M) rfl ?_
          refine mv_ff' (by omega) ?_
          refine mv_go' 3 (pc' := if (sp_en s) = 13 then 107 else 134) (ls' := [mv_R 100, mv_I (p : Int), mv_I ((q.length + 1 + 1 : Nat) : Int), mv_I (i : Int), mv_I (sp_en s)]) (st' := []) (M1 := M) rfl ?_
          refine mv_ff' (by omega) ?_
          refine mv_go' 3 (pc' := if (sp_en s) = 19 then 141 else 161) (ls' := [mv_R 100, mv_I (p : Int), mv_I ((q.length + 1 + 1 : Nat) : Int), mv_I (i : Int), mv_I (sp_en s)]) (st' := []) (M1 := M) rfl ?_
          refine mv_ff' (by omega) ?_
          refine mv_go' 12 (pc' := 180) (ls' := [mv_R 100, mv_I (p : Int), mv_I (mv_w (((q.length + 1 + 1 : Nat) : Int) + (-1))), mv_I (i : Int), mv_I (sp_en s)]) (st' := [mv_I (mv_w ((mv_w (((q.length + 1 + 1 : Nat) : Int) + (-1))) - 1)), mv_R 130, mv_I (sp_en s), mv_I (mv_w ((mv_w (((q.length + 1 + 1 : Nat) : Int) + (-1))) - 1)), mv_R 130]) (M1 := M) rfl ?_
          rw [show mv_w ((mv_w (((q.length + 1 + 1 : Nat) : Int) + (-1))) - 1) = (q.length : Int) from by (rw [show mv_w (((q.length + 1 + 1 : Nat) : Int) + (-1)) = ((q.length + 1 + 1 : Nat) : Int) + (-1) from mv_w_id (by omega) (by omega), show mv_w ((((q.length + 1 + 1 : Nat) : Int) + (-1)) - 1) = (((q.length + 1 + 1 : Nat) : Int) + (-1)) - 1 from mv_w_id (by omega) (by omega)]) <;> omega]
          refine mv_go' 1 (pc' := if 0 ≤ (q.length : Int) ∧ (q.length : Int) < 200 then 181 else mv_bad) (ls' := [mv_R 100, mv_I (p : Int), mv_I (mv_w (((q.length + 1 + 1 : Nat) : Int) + (-1))), mv_I (i : Int), mv_I (sp_en s)]) (st' := [mv_I (M 130 q.length), mv_I (sp_en s), mv_I (q.length : Int), mv_R 130]) (M1 := M) rfl ?_
          refine mv_tt' (by omega) ?_
          rw [show M 130 q.length = a from by exact hs.2.1]
          refine mv_go' 3 (pc' := 186) (ls' := [mv_R 100, mv_I (p : Int), mv_I (mv_w (((q.length + 1 + 1 : Nat) : Int) + (-1))), mv_I (i : Int), mv_I (sp_en s)]) (st' := [mv_I (mv_w (((q.length + 1 + 1 : Nat) : Int) + (-1))), mv_R 130, mv_I a, mv_I (sp_en s), mv_I (q.length : Int), mv_R 130]) (M1 := M) rfl ?_
          rw [show mv_w (((q.length + 1 + 1 : Nat) : Int) + (-1)) = ((q.length + 1 : Nat) : Int) from by (rw [show mv_w (((q.length + 1 + 1 : Nat) : Int) + (-1)) = ((q.length + 1 + 1 : Nat) : Int) + (-1) from mv_w_id (by omega) (by omega)]) <;> omega]
          refine mv_go' 1 (pc' := if 0 ≤ ((q.length + 1 : Nat) : Int) ∧ ((q.length + 1 : Nat) : Int) < 200 then 187 else mv_bad) (ls' := [mv_R 100, mv_I (p : Int), mv_I ((q.length + 1 : Nat) : Int), mv_I (i : Int), mv_I (sp_en s)]) (st' := [mv_I (M 130 (q.length + 1)), mv_I a, mv_I (sp_en s), mv_I (q.length : Int), mv_R 130]) (M1 := M) rfl ?_
          refine mv_tt' (by omega) ?_
          rw [show M 130 (q.length + 1) = b from by exact hs.1]
          refine mv_callP (st2 := [mv_I (sp_bi s a b), mv_I (q.length : Int), mv_R 130]) rfl (Or.inr rfl) rfl rfl rfl (sp_mtwo (by omega) (by omega)) (by first | decide | omega) ?_
          refine mv_go' 1 (pc' := if 0 ≤ (q.length : Int) ∧ (q.length : Int) < 200 then 191 else mv_bad) (ls' := [mv_R 100, mv_I (p : Int), mv_I ((q.length + 1 : Nat) : Int), mv_I (i : Int), mv_I (sp_en s)]) (st' := []) (M1 := (mv_st M 130 (mv_up (M 130) q.length (sp_bi s a b)))) rfl ?_
          refine mv_tt' (by omega) ?_
          refine mv_go' 2 (pc' := 16) (ls' := [mv_R 100, mv_I (p : Int), mv_I ((q.length + 1 : Nat) : Int), mv_I (mv_w ((i : Int) + 1)), mv_I (sp_en s)]) (st' := []) (M1 := (mv_st M 130 (mv_up (M 130) q.length (sp_bi s a b)))) rfl ?_
          rw [show mv_w ((i : Int) + 1) = (i : Int) + 1 from mv_w_id (by omega) (by omega)]
          rw [show (i : Int) + 1 = ((i + 1 : Nat) : Int) from by omega]
          simp only [sp_run, if_neg c0, if_neg c1, if_neg c3]
          exact (ih (sp_bi s a b :: q) (q.length + 1) (i + 1) (mv_st M 130 (mv_up (M 130) q.length (sp_bi s a b))) (mv_I (sp_en s)) ht13 rfl hw.2 (by omega) hat2 (by omega) (by rw [show i + 1 + r.length = i + (r.length + 1) from by omega]; exact he) (sp_stk_ps hs.2.2 rfl)).imp (fun M2 h2 => mv_ag.tr (mv_ag.st mv_ag.rf (by decide)) h2)
