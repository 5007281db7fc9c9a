/-! what a text says: Law.value, Ward.says; the model's says, asksOf -/
theorem sp_val_lp_10_36 {p : Nat} (hp : p < 3) : ∀ (code st : List Int) (h i : Nat) (M : mv_M) (l6 : mv_V), st.length = h → sp_wf code h → h ≤ 64 → sp_at (M 11) i code → i + code.length ≤ 160 → M 12 p = ((i + code.length : Nat) : Int) → sp_stk (M 37) st →
    mv_Ru 1 3 21 [mv_R 10, mv_I (p : Int), mv_R 36, mv_R 37, mv_I (h : Int), mv_I (i : Int), l6] [] M (mv_I (sp_top (sp_run (M 36) code st))) (fun M1 => mv_ag [37] M M1) := by
  intro code
  induction code with
  | nil =>
    intro st h i M l6 hl hw h64 hat hlen he hs
    match st, hl, hs with
    | [], hl, hs => simp only [sp_wf, List.length_nil] at hw hl; omega
    | _ :: _ :: _, hl, hs => simp only [sp_wf, List.length_cons] at hw hl; omega
    | [a], hl, hs =>
      refine mv_go' 5 (pc' := if 0 ≤ (p : Int) ∧ (p : Int) < 3 then 29 else mv_bad) (ls' := [mv_R 10, mv_I (p : Int), mv_R 36, mv_R 37, mv_I (h : Int), mv_I (i : Int), l6]) (st' := [mv_I (M 12 p), mv_I (i : Int)]) (M1 := M) rfl ?_
      refine mv_tt' (by omega) ?_
      rw [show M 12 p = (i : Int) from by rw [he]; rfl]
      refine mv_go' 1 (pc' := if (i : Int) < (i : Int) then 32 else 163) (ls' := [mv_R 10, mv_I (p : Int), mv_R 36, mv_R 37, mv_I (h : Int), mv_I (i : Int), l6]) (st' := []) (M1 := M) rfl ?_
      refine mv_ff' (by omega) ?_
      refine mv_go' 3 (pc' := if 0 ≤ 0 ∧ 0 < 64 then 166 else mv_bad) (ls' := [mv_R 10, mv_I (p : Int), mv_R 36, mv_R 37, mv_I (h : Int), mv_I (i : Int), l6]) (st' := [mv_I (M 37 0)]) (M1 := M) rfl ?_
      refine mv_tt' (by omega) ?_
      rw [show M 37 0 = a from by exact hs.1]
      exact mv_ret (fun n => rfl) (mv_ag.rf)
  | cons s r ih =>
    intro st h i M l6 hl hw h64 hat hlen he hs
    simp only [List.length_cons] at hlen he
    obtain ⟨⟨hs0, hs1⟩, hw⟩ := hw
    refine mv_go' 5 (pc' := if 0 ≤ (p : Int) ∧ (p : Int) < 3 then 29 else mv_bad) (ls' := [mv_R 10, mv_I (p : Int), mv_R 36, mv_R 37, mv_I (h : Int), mv_I (i : Int), l6]) (st' := [mv_I (M 12 p), mv_I (i : Int)]) (M1 := M) rfl ?_
    refine mv_tt' (by omega) ?_
    rw [show M 12 p = ((i + (r.length + 1) : Nat) : Int) from by exact he]
    refine mv_go' 1 (pc' := if (i : Int) < ((i + (r.length + 1) : Nat) : Int) then 32 else 163) (ls' := [mv_R 10, mv_I (p : Int), mv_R 36, mv_R 37, mv_I (h : Int), mv_I (i : Int), l6]) (st' := []) (M1 := M) rfl ?_
    refine mv_tt' (by omega) ?_
    refine mv_go' 4 (pc' := if 0 ≤ (i : Int) ∧ (i : Int) < 160 then 39 else mv_bad) (ls' := [mv_R 10, mv_I (p : Int), mv_R 36, mv_R 37, mv_I (h : Int), mv_I (i : Int), l6]) (st' := [mv_I (M 11 i)]) (M1 := M) rfl ?_
    refine mv_tt' (by omega) ?_
    rw [show M 11 i = s from by exact hat.1]
    refine mv_go' 4 (pc' := if s < 20000 then 49 else 89) (ls' := [mv_R 10, mv_I (p : Int), mv_R 36, mv_R 37, mv_I (h : Int), mv_I (i : Int), mv_I s]) (st' := []) (M1 := M) rfl ?_
    refine mv_sp' (fun c1 => ?_) (fun c1 => ?_)
    · rw [if_pos c1] at hw
      refine mv_go' 3 (pc' := if (h : Int) < 64 then 58 else 56) (ls' := [mv_R 10, mv_I (p : Int), mv_R 36, mv_R 37, mv_I (h : Int), mv_I (i : Int), mv_I s]) (st' := []) (M1 := M) rfl ?_
      refine mv_tt' (by omega) ?_
      refine mv_go' 5 (pc' := if s < 10000 then 69 else 74) (ls' := [mv_R 10, mv_I (p : Int), mv_R 36, mv_R 37, mv_I (h : Int), mv_I (i : Int), mv_I s]) (st' := [mv_I (h : Int), mv_R 37]) (M1 := M) rfl ?_
      refine mv_sp' (fun c0 => ?_) (fun c0 => ?_)
      · refine mv_go' 3 (pc' := if 0 ≤ (h : Int) ∧ (h : Int) < 64 then 83 else mv_bad) (ls' := [mv_R 10, mv_I (p : Int), mv_R 36, mv_R 37, mv_I (h : Int), mv_I (i : Int), mv_I s]) (st' := []) (M1 := (mv_st M 37 (mv_up (M 37) h s))) rfl ?_
        refine mv_tt' (by omega) ?_
        refine mv_go' 4 (pc' := 21) (ls' := [mv_R 10, mv_I (p : Int), mv_R 36, mv_R 37, mv_I (mv_w ((h : Int) + 1)), mv_I (mv_w ((i : Int) + 1)), mv_I s]) (st' := []) (M1 := (mv_st M 37 (mv_up (M 37) h s))) rfl ?_
        rw [show mv_w ((h : Int) + 1) = (h : Int) + 1 from mv_w_id (by omega) (by omega)]
        rw [show mv_w ((i : Int) + 1) = (i : Int) + 1 from mv_w_id (by omega) (by omega)]
        rw [show (h : Int) + 1 = ((h + 1 : Nat) : Int) from by omega]
        rw [show (i : Int) + 1 = ((i + 1 : Nat) : Int) from by omega]
        simp only [sp_run, if_pos c0]
        exact (ih (s :: st) (h + 1) (i + 1) (mv_st M 37 (mv_up (M 37) h s)) (mv_I s) (by simp only [List.length_cons]; omega) hw.2.2 (by omega) hat.2 (by omega) (by rw [show i + 1 + r.length = i + (r.length + 1) from by omega]; exact he) (sp_stk_ps hs hl)).imp (fun M2 h2 => mv_ag.tr (mv_ag.st mv_ag.rf (by decide)) h2)
      · refine mv_go' 4 (pc' := 81) (ls' := [mv_R 10, mv_I (p : Int), mv_R 36, mv_R 37, mv_I (h : Int), mv_I (i : Int), mv_I s]) (st' := [mv_I (mv_w (s - 10000)), mv_R 36, mv_I (h : Int), mv_R 37]) (M1 := M) rfl ?_
        rw [show mv_w (s - 10000) = s - 10000 from by unfold mv_w; omega]
        refine mv_go' 1 (pc' := if 0 ≤ (s - 10000) ∧ (s - 10000) < 6 then 82 else mv_bad) (ls' := [mv_R 10, mv_I (p : Int), mv_R 36, mv_R 37, mv_I (h : Int), mv_I (i : Int), mv_I s]) (st' := [mv_I (M 36 ((s - 10000).toNat)), mv_I (h : Int), mv_R 37]) (M1 := M) rfl ?_
        refine mv_tt' (by omega) ?_
        refine mv_go' 1 (pc' := if 0 ≤ (h : Int) ∧ (h : Int) < 64 then 83 else mv_bad) (ls' := [mv_R 10, mv_I (p : Int), mv_R 36, mv_R 37, mv_I (h : Int), mv_I (i : Int), mv_I s]) (st' := []) (M1 := (mv_st M 37 (mv_up (M 37) h (M 36 ((s - 10000).toNat))))) rfl ?_
        refine mv_tt' (by omega) ?_
        refine mv_go' 4 (pc' := 21) (ls' := [mv_R 10, mv_I (p : Int), mv_R 36, mv_R 37, mv_I (mv_w ((h : Int) + 1)), mv_I (mv_w ((i : Int) + 1)), mv_I s]) (st' := []) (M1 := (mv_st M 37 (mv_up (M 37) h (M 36 ((s - 10000).toNat))))) rfl ?_
        rw [show mv_w ((h : Int) + 1) = (h : Int) + 1 from mv_w_id (by omega) (by omega)]
        rw [show mv_w ((i : Int) + 1) = (i : Int) + 1 from mv_w_id (by omega) (by omega)]
        rw [show (h : Int) + 1 = ((h + 1 : Nat) : Int) from by omega]
        rw [show (i : Int) + 1 = ((i + 1 : Nat) : Int) from by omega]
        simp only [sp_run, if_neg c0, if_pos c1]
        exact (ih (M 36 (s - 10000).toNat :: st) (h + 1) (i + 1) (mv_st M 37 (mv_up (M 37) h (M 36 (s - 10000).toNat))) (mv_I s) (by simp only [List.length_cons]; omega) hw.2.2 (by omega) hat.2 (by omega) (by rw [show i + 1 + r.length = i + (r.length + 1) from by omega]; exact he) (sp_stk_ps hs hl)).imp (fun M2 h2 => mv_ag.tr (mv_ag.st mv_ag.rf (by decide)) h2)
    · rw [if_neg c1] at hw
      have c0 : ¬ s < 10000 := by omega
      refine mv_go' 3 (pc' := if s < 20007 then 125 else 97) (ls' := [mv_R 10, mv_I (p : Int), mv_R 36, mv_R 37, mv_I (h : Int), mv_I (i : Int), mv_I s]) (st' := []) (M1 := M) rfl ?_
      refine mv_sp' (fun c2 => ?_) (fun c2 => ?_)
      · have c3 : ¬ 20007 ≤ s := by omega
        rw [if_neg c3] at hw
        match st, hl, hs with
        | [], hl, hs => simp only [List.length_nil] at hl; omega
        | [_], hl, hs => simp only [List.length_cons, List.length_nil] at hl; omega
        | b :: a :: q, hl, hs =>
          simp only [List.length_cons] at hl
          subst hl
          refine mv_go' 3 (pc' := if ((q.length + 1 + 1 : Nat) : Int) < 2 then 131 else 133) (ls' := [mv_R 10, mv_I (p : Int), mv_R 36, mv_R 37, mv_I ((q.length + 1 + 1 : Nat) : Int), mv_I (i : Int), mv_I s]) (st' := []) (M1 := M) rfl ?_
          refine mv_ff' (by omega) ?_
          refine mv_go' 10 (pc' := 148) (ls' := [mv_R 10, mv_I (p : Int), mv_R 36, mv_R 37, mv_I (mv_w (((q.length + 1 + 1 : Nat) : Int) + (-1))), mv_I (i : Int), mv_I s]) (st' := [mv_I (mv_w ((mv_w (((q.length + 1 + 1 : Nat) : Int) + (-1))) - 1)), mv_R 37, mv_I s, mv_I (mv_w ((mv_w (((q.length + 1 + 1 : Nat) : Int) + (-1))) - 1)), mv_R 37]) (M1 := M) rfl ?_
          rw [show mv_w ((mv_w (((q.length + 1 + 1 : Nat) : Int) + (-1))) - 1) = (q.length : Int) from by (rw [show mv_w (((q.length + 1 + 1 : Nat) : Int) + (-1)) = ((q.length + 1 + 1 : Nat) : Int) + (-1) from mv_w_id (by omega) (by omega), show mv_w ((((q.length + 1 + 1 : Nat) : Int) + (-1)) - 1) = (((q.length + 1 + 1 : Nat) : Int) + (-1)) - 1 from mv_w_id (by omega) (by omega)]) <;> omega]
          refine mv_go' 1 (pc' := if 0 ≤ (q.length : Int) ∧ (q.length : Int) < 64 then 149 else mv_bad) (ls' := [mv_R 10, mv_I (p : Int), mv_R 36, mv_R 37, mv_I (mv_w (((q.length + 1 + 1 : Nat) : Int) + (-1))), mv_I (i : Int), mv_I s]) (st' := [mv_I (M 37 q.length), mv_I s, mv_I (q.length : Int), mv_R 37]) (M1 := M) rfl ?_
          refine mv_tt' (by omega) ?_
          rw [show M 37 q.length = a from by exact hs.2.1]
          refine mv_go' 2 (pc' := 152) (ls' := [mv_R 10, mv_I (p : Int), mv_R 36, mv_R 37, mv_I (mv_w (((q.length + 1 + 1 : Nat) : Int) + (-1))), mv_I (i : Int), mv_I s]) (st' := [mv_I (mv_w (((q.length + 1 + 1 : Nat) : Int) + (-1))), mv_R 37, mv_I a, mv_I s, mv_I (q.length : Int), mv_R 37]) (M1 := M) rfl ?_
          rw [show mv_w (((q.length + 1 + 1 : Nat) : Int) + (-1)) = ((q.length + 1 : Nat) : Int) from by (rw [show mv_w (((q.length + 1 + 1 : Nat) : Int) + (-1)) = ((q.length + 1 + 1 : Nat) : Int) + (-1) from mv_w_id (by omega) (by omega)]) <;> omega]
          refine mv_go' 1 (pc' := if 0 ≤ ((q.length + 1 : Nat) : Int) ∧ ((q.length + 1 : Nat) : Int) < 64 then 153 else mv_bad) (ls' := [mv_R 10, mv_I (p : Int), mv_R 36, mv_R 37, mv_I ((q.length + 1 : Nat) : Int), mv_I (i : Int), mv_I s]) (st' := [mv_I (M 37 (q.length + 1)), mv_I a, mv_I s, mv_I (q.length : Int), mv_R 37]) (M1 := M) rfl ?_
          refine mv_tt' (by omega) ?_
          rw [show M 37 (q.length + 1) = b from by exact hs.1]
          refine mv_callP (st2 := [mv_I (sp_bi s a b), mv_I (q.length : Int), mv_R 37]) rfl (Or.inr rfl) rfl rfl rfl (sp_ofTwo (by omega) (by omega)) (by first | decide | omega) ?_
          refine mv_go' 1 (pc' := if 0 ≤ (q.length : Int) ∧ (q.length : Int) < 64 then 157 else mv_bad) (ls' := [mv_R 10, mv_I (p : Int), mv_R 36, mv_R 37, mv_I ((q.length + 1 : Nat) : Int), mv_I (i : Int), mv_I s]) (st' := []) (M1 := (mv_st M 37 (mv_up (M 37) q.length (sp_bi s a b)))) rfl ?_
          refine mv_tt' (by omega) ?_
          refine mv_go' 2 (pc' := 21) (ls' := [mv_R 10, mv_I (p : Int), mv_R 36, mv_R 37, mv_I ((q.length + 1 : Nat) : Int), mv_I (mv_w ((i : Int) + 1)), mv_I s]) (st' := []) (M1 := (mv_st M 37 (mv_up (M 37) q.length (sp_bi s a b)))) rfl ?_
          rw [show mv_w ((i : Int) + 1) = (i : Int) + 1 from mv_w_id (by omega) (by omega)]
          rw [show (i : Int) + 1 = ((i + 1 : Nat) : Int) from by omega]
          simp only [sp_run, if_neg c0, if_neg c1, if_neg c3]
          exact (ih (sp_bi s a b :: q) (q.length + 1) (i + 1) (mv_st M 37 (mv_up (M 37) q.length (sp_bi s a b))) (mv_I s) rfl hw.2 (by omega) hat.2 (by omega) (by rw [show i + 1 + r.length = i + (r.length + 1) from by omega]; exact he) (sp_stk_ps hs.2.2 rfl)).imp (fun M2 h2 => mv_ag.tr (mv_ag.st mv_ag.rf (by decide)) h2)
      · have c3 : 20007 ≤ s := by omega
        rw [if_pos c3] at hw
        match st, hl, hs with
        | [], hl, hs => simp only [List.length_nil] at hl; omega
        | a :: q, hl, hs =>
          simp only [List.length_cons] at hl
          subst hl
          refine mv_go' 3 (pc' := if ((q.length + 1 : Nat) : Int) < 1 then 103 else 105) (ls' := [mv_R 10, mv_I (p : Int), mv_R 36, mv_R 37, mv_I ((q.length + 1 : Nat) : Int), mv_I (i : Int), mv_I s]) (st' := []) (M1 := M) rfl ?_
          refine mv_ff' (by omega) ?_
          refine mv_go' 9 (pc' := 117) (ls' := [mv_R 10, mv_I (p : Int), mv_R 36, mv_R 37, mv_I ((q.length + 1 : Nat) : Int), mv_I (i : Int), mv_I s]) (st' := [mv_I (mv_w (((q.length + 1 : Nat) : Int) - 1)), mv_R 37, mv_I s, mv_I (mv_w (((q.length + 1 : Nat) : Int) - 1)), mv_R 37]) (M1 := M) rfl ?_
          rw [show mv_w (((q.length + 1 : Nat) : Int) - 1) = (q.length : Int) from by (rw [show mv_w (((q.length + 1 : Nat) : Int) - 1) = ((q.length + 1 : Nat) : Int) - 1 from mv_w_id (by omega) (by omega)]) <;> omega]
          refine mv_go' 1 (pc' := if 0 ≤ (q.length : Int) ∧ (q.length : Int) < 64 then 118 else mv_bad) (ls' := [mv_R 10, mv_I (p : Int), mv_R 36, mv_R 37, mv_I ((q.length + 1 : Nat) : Int), mv_I (i : Int), mv_I s]) (st' := [mv_I (M 37 q.length), mv_I s, mv_I (q.length : Int), mv_R 37]) (M1 := M) rfl ?_
          refine mv_tt' (by omega) ?_
          rw [show M 37 q.length = a from by exact hs.1]
          refine mv_callP (st2 := [mv_I (sp_un s a), mv_I (q.length : Int), mv_R 37]) rfl (Or.inr rfl) rfl rfl rfl (sp_ofOne) (by first | decide | omega) ?_
          refine mv_go' 1 (pc' := if 0 ≤ (q.length : Int) ∧ (q.length : Int) < 64 then 122 else mv_bad) (ls' := [mv_R 10, mv_I (p : Int), mv_R 36, mv_R 37, mv_I ((q.length + 1 : Nat) : Int), mv_I (i : Int), mv_I s]) (st' := []) (M1 := (mv_st M 37 (mv_up (M 37) q.length (sp_un s a)))) rfl ?_
          refine mv_tt' (by omega) ?_
          refine mv_go' 3 (pc' := 21) (ls' := [mv_R 10, mv_I (p : Int), mv_R 36, mv_R 37, mv_I ((q.length + 1 : Nat) : Int), mv_I (mv_w ((i : Int) + 1)), mv_I s]) (st' := []) (M1 := (mv_st M 37 (mv_up (M 37) q.length (sp_un s a)))) rfl ?_
          rw [show mv_w ((i : Int) + 1) = (i : Int) + 1 from mv_w_id (by omega) (by omega)]
          rw [show (i : Int) + 1 = ((i + 1 : Nat) : Int) from by omega]
          simp only [sp_run, if_neg c0, if_neg c1, if_pos c3]
          exact (ih (sp_un s a :: q) (q.length + 1) (i + 1) (mv_st M 37 (mv_up (M 37) q.length (sp_un s a))) (mv_I s) rfl hw.2 (by omega) hat.2 (by omega) (by rw [show i + 1 + r.length = i + (r.length + 1) from by omega]; exact he) (sp_stk_ps hs.2 rfl)).imp (fun M2 h2 => mv_ag.tr (mv_ag.st mv_ag.rf (by decide)) h2)
theorem sp_val0_10_36 {M : mv_M} {code : List Int} (hw : sp_wf code 0) (hat : sp_at (M 11) 0 code) (hlen : code.length ≤ 160) (he : M 12 0 = ((code.length : Nat) : Int)) :
    mv_Ru 1 3 0 [mv_R 10, mv_I 0, mv_R 36, mv_R 37, mv_U, mv_U, mv_U] [] M (mv_I (sp_top (sp_run (M 36) code []))) (fun M1 => mv_ag [37] M M1) := by
  refine mv_go' 4 (pc' := if 0 = 0 then 7 else 11) (ls' := [mv_R 10, mv_I 0, mv_R 36, mv_R 37, mv_I 0, mv_U, mv_U]) (st' := []) (M1 := M) rfl ?_
  refine mv_tt' (rfl) ?_
  refine mv_go' 3 (pc' := 21) (ls' := [mv_R 10, mv_I 0, mv_R 36, mv_R 37, mv_I 0, mv_I 0, mv_U]) (st' := []) (M1 := M) rfl ?_
  exact sp_val_lp_10_36 (p := 0) (by decide) code [] 0 0 M mv_U rfl hw (by decide) hat (by omega) (by rw [he]; simp) trivial
theorem sp_valS_10_36 {M : mv_M} {code : List Int} {q i : Nat} (hq : q < 2) (hw : sp_wf code 0) (hi : M 12 q = (i : Int)) (hat : sp_at (M 11) i code) (hlen : i + code.length ≤ 160) (he : M 12 (q + 1) = ((i + code.length : Nat) : Int)) :
    mv_Ru 1 3 0 [mv_R 10, mv_I ((q + 1 : Nat) : Int), mv_R 36, mv_R 37, mv_U, mv_U, mv_U] [] M (mv_I (sp_top (sp_run (M 36) code []))) (fun M1 => mv_ag [37] M M1) := by
  refine mv_go' 4 (pc' := if ((q + 1 : Nat) : Int) = 0 then 7 else 11) (ls' := [mv_R 10, mv_I ((q + 1 : Nat) : Int), mv_R 36, mv_R 37, mv_I 0, mv_U, mv_U]) (st' := []) (M1 := M) rfl ?_
  refine mv_ff' (by omega) ?_
  refine mv_go' 5 (pc' := 18) (ls' := [mv_R 10, mv_I ((q + 1 : Nat) : Int), mv_R 36, mv_R 37, mv_I 0, mv_U, mv_U]) (st' := [mv_I (mv_w (((q + 1 : Nat) : Int) - 1)), mv_R 12]) (M1 := M) rfl ?_
  rw [show mv_w (((q + 1 : Nat) : Int) - 1) = (q : Int) from by (rw [show mv_w (((q + 1 : Nat) : Int) - 1) = ((q + 1 : Nat) : Int) - 1 from mv_w_id (by omega) (by omega)]) <;> omega]
  refine mv_go' 1 (pc' := if 0 ≤ (q : Int) ∧ (q : Int) < 3 then 19 else mv_bad) (ls' := [mv_R 10, mv_I ((q + 1 : Nat) : Int), mv_R 36, mv_R 37, mv_I 0, mv_U, mv_U]) (st' := [mv_I (M 12 q)]) (M1 := M) rfl ?_
  refine mv_tt' (by omega) ?_
  rw [show M 12 q = (i : Int) from by exact hi]
  refine mv_go' 1 (pc' := 21) (ls' := [mv_R 10, mv_I ((q + 1 : Nat) : Int), mv_R 36, mv_R 37, mv_I 0, mv_I (i : Int), mv_U]) (st' := []) (M1 := M) rfl ?_
  exact sp_val_lp_10_36 (p := q + 1) (by omega) code [] 0 i M mv_U rfl hw (by decide) hat hlen he trivial
theorem sp_value_10_36 {M : mv_M} {P : Nat → List Int} {p : Nat} (hp : p < 3) (hP : sp_ct 10 M P) :
    mv_Ru 1 3 0 [mv_R 10, mv_I (p : Int), mv_R 36, mv_R 37, mv_U, mv_U, mv_U] [] M (mv_I (sp_top (sp_run (M 36) (P p) []))) (fun M1 => mv_ag [37] M M1) := by
  obtain ⟨⟨e0, e1, e2⟩, ⟨a0, a1, a2⟩, ⟨w0, w1, w2⟩, hlen⟩ := hP
  match p, hp with
  | 0, _ => exact sp_val0_10_36 w0 a0 (by omega) e0
  | 1, _ => exact sp_valS_10_36 (q := 0) (by decide) w1 e0 a1 (by omega) e1
  | 2, _ => exact sp_valS_10_36 (q := 1) (by decide) w2 e1 a2 (by omega) e2
theorem sp_val_lp_13_36 {p : Nat} (hp : p < 3) : ∀ (code st : List Int) (h i : Nat) (M : mv_M) (l6 : mv_V), st.length = h → sp_wf code h → h ≤ 64 → sp_at (M 14) i code → i + code.length ≤ 160 → M 15 p = ((i + code.length : Nat) : Int) → sp_stk (M 37) st →
    mv_Ru 1 3 21 [mv_R 13, mv_I (p : Int), mv_R 36, mv_R 37, mv_I (h : Int), mv_I (i : Int), l6] [] M (mv_I (sp_top (sp_run (M 36) code st))) (fun M1 => mv_ag [37] M M1) := by
  intro code
  induction code with
  | nil =>
    intro st h i M l6 hl hw h64 hat hlen he hs
    match st, hl, hs with
    | [], hl, hs => simp only [sp_wf, List.length_nil] at hw hl; omega
    | _ :: _ :: _, hl, hs => simp only [sp_wf, List.length_cons] at hw hl; omega
    | [a], hl, hs =>
      refine mv_go' 5 (pc' := if 0 ≤ (p : Int) ∧ (p : Int) < 3 then 29 else mv_bad) (ls' := [mv_R 13, mv_I (p : Int), mv_R 36, mv_R 37, mv_I (h : Int), mv_I (i : Int), l6]) (st' := [mv_I (M 15 p), mv_I (i : Int)]) (M1 := M) rfl ?_
      refine mv_tt' (by omega) ?_
      rw [show M 15 p = (i : Int) from by rw [he]; rfl]
      refine mv_go' 1 (pc' := if (i : Int) < (i : Int) then 32 else 163) (ls' := [mv_R 13, mv_I (p : Int), mv_R 36, mv_R 37, mv_I (h : Int), mv_I (i : Int), l6]) (st' := []) (M1 := M) rfl ?_
      refine mv_ff' (by omega) ?_
      refine mv_go' 3 (pc' := if 0 ≤ 0 ∧ 0 < 64 then 166 else mv_bad) (ls' := [mv_R 13, mv_I (p : Int), mv_R 36, mv_R 37, mv_I (h : Int), mv_I (i : Int), l6]) (st' := [mv_I (M 37 0)]) (M1 := M) rfl ?_
      refine mv_tt' (by omega) ?_
      rw [show M 37 0 = a from by exact hs.1]
      exact mv_ret (fun n => rfl) (mv_ag.rf)
  | cons s r ih =>
    intro st h i M l6 hl hw h64 hat hlen he hs
    simp only [List.length_cons] at hlen he
    obtain ⟨⟨hs0, hs1⟩, hw⟩ := hw
    refine mv_go' 5 (pc' := if 0 ≤ (p : Int) ∧ (p : Int) < 3 then 29 else mv_bad) (ls' := [mv_R 13, mv_I (p : Int), mv_R 36, mv_R 37, mv_I (h : Int), mv_I (i : Int), l6]) (st' := [mv_I (M 15 p), mv_I (i : Int)]) (M1 := M) rfl ?_
    refine mv_tt' (by omega) ?_
    rw [show M 15 p = ((i + (r.length + 1) : Nat) : Int) from by exact he]
    refine mv_go' 1 (pc' := if (i : Int) < ((i + (r.length + 1) : Nat) : Int) then 32 else 163) (ls' := [mv_R 13, mv_I (p : Int), mv_R 36, mv_R 37, mv_I (h : Int), mv_I (i : Int), l6]) (st' := []) (M1 := M) rfl ?_
    refine mv_tt' (by omega) ?_
    refine mv_go' 4 (pc' := if 0 ≤ (i : Int) ∧ (i : Int) < 160 then 39 else mv_bad) (ls' := [mv_R 13, mv_I (p : Int), mv_R 36, mv_R 37, mv_I (h : Int), mv_I (i : Int), l6]) (st' := [mv_I (M 14 i)]) (M1 := M) rfl ?_
    refine mv_tt' (by omega) ?_
    rw [show M 14 i = s from by exact hat.1]
    refine mv_go' 4 (pc' := if s < 20000 then 49 else 89) (ls' := [mv_R 13, mv_I (p : Int), mv_R 36, mv_R 37, mv_I (h : Int), mv_I (i : Int), mv_I s]) (st' := []) (M1 := M) rfl ?_
    refine mv_sp' (fun c1 => ?_) (fun c1 => ?_)
    · rw [if_pos c1] at hw
      refine mv_go' 3 (pc' := if (h : Int) < 64 then 58 else 56) (ls' := [mv_R 13, mv_I (p : Int), mv_R 36, mv_R 37, mv_I (h : Int), mv_I (i : Int), mv_I s]) (st' := []) (M1 := M) rfl ?_
      refine mv_tt' (by omega) ?_
      refine mv_go' 5 (pc' := if s < 10000 then 69 else 74) (ls' := [mv_R 13, mv_I (p : Int), mv_R 36, mv_R 37, mv_I (h : Int), mv_I (i : Int), mv_I s]) (st' := [mv_I (h : Int), mv_R 37]) (M1 := M) rfl ?_
      refine mv_sp' (fun c0 => ?_) (fun c0 => ?_)
      · refine mv_go' 3 (pc' := if 0 ≤ (h : Int) ∧ (h : Int) < 64 then 83 else mv_bad) (ls' := [mv_R 13, mv_I (p : Int), mv_R 36, mv_R 37, mv_I (h : Int), mv_I (i : Int), mv_I s]) (st' := []) (M1 := (mv_st M 37 (mv_up (M 37) h s))) rfl ?_
        refine mv_tt' (by omega) ?_
        refine mv_go' 4 (pc' := 21) (ls' := [mv_R 13, mv_I (p : Int), mv_R 36, mv_R 37, mv_I (mv_w ((h : Int) + 1)), mv_I (mv_w ((i : Int) + 1)), mv_I s]) (st' := []) (M1 := (mv_st M 37 (mv_up (M 37) h s))) rfl ?_
        rw [show mv_w ((h : Int) + 1) = (h : Int) + 1 from mv_w_id (by omega) (by omega)]
        rw [show mv_w ((i : Int) + 1) = (i : Int) + 1 from mv_w_id (by omega) (by omega)]
        rw [show (h : Int) + 1 = ((h + 1 : Nat) : Int) from by omega]
        rw [show (i : Int) + 1 = ((i + 1 : Nat) : Int) from by omega]
        simp only [sp_run, if_pos c0]
        exact (ih (s :: st) (h + 1) (i + 1) (mv_st M 37 (mv_up (M 37) h s)) (mv_I s) (by simp only [List.length_cons]; omega) hw.2.2 (by omega) hat.2 (by omega) (by rw [show i + 1 + r.length = i + (r.length + 1) from by omega]; exact he) (sp_stk_ps hs hl)).imp (fun M2 h2 => mv_ag.tr (mv_ag.st mv_ag.rf (by decide)) h2)
      · refine mv_go' 4 (pc' := 81) (ls' := [mv_R 13, mv_I (p : Int), mv_R 36, mv_R 37, mv_I (h : Int), mv_I (i : Int), mv_I s]) (st' := [mv_I (mv_w (s - 10000)), mv_R 36, mv_I (h : Int), mv_R 37]) (M1 := M) rfl ?_
        rw [show mv_w (s - 10000) = s - 10000 from by unfold mv_w; omega]
        refine mv_go' 1 (pc' := if 0 ≤ (s - 10000) ∧ (s - 10000) < 6 then 82 else mv_bad) (ls' := [mv_R 13, mv_I (p : Int), mv_R 36, mv_R 37, mv_I (h : Int), mv_I (i : Int), mv_I s]) (st' := [mv_I (M 36 ((s - 10000).toNat)), mv_I (h : Int), mv_R 37]) (M1 := M) rfl ?_
        refine mv_tt' (by omega) ?_
        refine mv_go' 1 (pc' := if 0 ≤ (h : Int) ∧ (h : Int) < 64 then 83 else mv_bad) (ls' := [mv_R 13, mv_I (p : Int), mv_R 36, mv_R 37, mv_I (h : Int), mv_I (i : Int), mv_I s]) (st' := []) (M1 := (mv_st M 37 (mv_up (M 37) h (M 36 ((s - 10000).toNat))))) rfl ?_
        refine mv_tt' (by omega) ?_
        refine mv_go' 4 (pc' := 21) (ls' := [mv_R 13, mv_I (p : Int), mv_R 36, mv_R 37, mv_I (mv_w ((h : Int) + 1)), mv_I (mv_w ((i : Int) + 1)), mv_I s]) (st' := []) (M1 := (mv_st M 37 (mv_up (M 37) h (M 36 ((s - 10000).toNat))))) rfl ?_
        rw [show mv_w ((h : Int) + 1) = (h : Int) + 1 from mv_w_id (by omega) (by omega)]
        rw [show mv_w ((i : Int) + 1) = (i : Int) + 1 from mv_w_id (by omega) (by omega)]
        rw [show (h : Int) + 1 = ((h + 1 : Nat) : Int) from by omega]
        rw [show (i : Int) + 1 = ((i + 1 : Nat) : Int) from by omega]
        simp only [sp_run, if_neg c0, if_pos c1]
        exact (ih (M 36 (s - 10000).toNat :: st) (h + 1) (i + 1) (mv_st M 37 (mv_up (M 37) h (M 36 (s - 10000).toNat))) (mv_I s) (by simp only [List.length_cons]; omega) hw.2.2 (by omega) hat.2 (by omega) (by rw [show i + 1 + r.length = i + (r.length + 1) from by omega]; exact he) (sp_stk_ps hs hl)).imp (fun M2 h2 => mv_ag.tr (mv_ag.st mv_ag.rf (by decide)) h2)
    · rw [if_neg c1] at hw
      have c0 : ¬ s < 10000 := by omega
      refine mv_go' 3 (pc' := if s < 20007 then 125 else 97) (ls' := [mv_R 13, mv_I (p : Int), mv_R 36, mv_R 37, mv_I (h : Int), mv_I (i : Int), mv_I s]) (st' := []) (M1 := M) rfl ?_
      refine mv_sp' (fun c2 => ?_) (fun c2 => ?_)
      · have c3 : ¬ 20007 ≤ s := by omega
        rw [if_neg c3] at hw
        match st, hl, hs with
        | [], hl, hs => simp only [List.length_nil] at hl; omega
        | [_], hl, hs => simp only [List.length_cons, List.length_nil] at hl; omega
        | b :: a :: q, hl, hs =>
          simp only [List.length_cons] at hl
          subst hl
          refine mv_go' 3 (pc' := if ((q.length + 1 + 1 : Nat) : Int) < 2 then 131 else 133) (ls' := [mv_R 13, mv_I (p : Int), mv_R 36, mv_R 37, mv_I ((q.length + 1 + 1 : Nat) : Int), mv_I (i : Int), mv_I s]) (st' := []) (M1 := M) rfl ?_
          refine mv_ff' (by omega) ?_
          refine mv_go' 10 (pc' := 148) (ls' := [mv_R 13, mv_I (p : Int), mv_R 36, mv_R 37, mv_I (mv_w (((q.length + 1 + 1 : Nat) : Int) + (-1))), mv_I (i : Int), mv_I s]) (st' := [mv_I (mv_w ((mv_w (((q.length + 1 + 1 : Nat) : Int) + (-1))) - 1)), mv_R 37, mv_I s, mv_I (mv_w ((mv_w (((q.length + 1 + 1 : Nat) : Int) + (-1))) - 1)), mv_R 37]) (M1 := M) rfl ?_
          rw [show mv_w ((mv_w (((q.length + 1 + 1 : Nat) : Int) + (-1))) - 1) = (q.length : Int) from by (rw [show mv_w (((q.length + 1 + 1 : Nat) : Int) + (-1)) = ((q.length + 1 + 1 : Nat) : Int) + (-1) from mv_w_id (by omega) (by omega), show mv_w ((((q.length + 1 + 1 : Nat) : Int) + (-1)) - 1) = (((q.length + 1 + 1 : Nat) : Int) + (-1)) - 1 from mv_w_id (by omega) (by omega)]) <;> omega]
          refine mv_go' 1 (pc' := if 0 ≤ (q.length : Int) ∧ (q.length : Int) < 64 then 149 else mv_bad) (ls' := [mv_R 13, mv_I (p : Int), mv_R 36, mv_R 37, mv_I (mv_w (((q.length + 1 + 1 : Nat) : Int) + (-1))), mv_I (i : Int), mv_I s]) (st' := [mv_I (M 37 q.length), mv_I s, mv_I (q.length : Int), mv_R 37]) (M1 := M) rfl ?_
          refine mv_tt' (by omega) ?_
          rw [show M 37 q.length = a from by exact hs.2.1]
          refine mv_go' 2 (pc' := 152) (ls' := [mv_R 13, mv_I (p : Int), mv_R 36, mv_R 37, mv_I (mv_w (((q.length + 1 + 1 : Nat) : Int) + (-1))), mv_I (i : Int), mv_I s]) (st' := [mv_I (mv_w (((q.length + 1 + 1 : Nat) : Int) + (-1))), mv_R 37, mv_I a, mv_I s, mv_I (q.length : Int), mv_R 37]) (M1 := M) rfl ?_
          rw [show mv_w (((q.length + 1 + 1 : Nat) : Int) + (-1)) = ((q.length + 1 : Nat) : Int) from by (rw [show mv_w (((q.length + 1 + 1 : Nat) : Int) + (-1)) = ((q.length + 1 + 1 : Nat) : Int) + (-1) from mv_w_id (by omega) (by omega)]) <;> omega]
          refine mv_go' 1 (pc' := if 0 ≤ ((q.length + 1 : Nat) : Int) ∧ ((q.length + 1 : Nat) : Int) < 64 then 153 else mv_bad) (ls' := [mv_R 13, mv_I (p : Int), mv_R 36, mv_R 37, mv_I ((q.length + 1 : Nat) : Int), mv_I (i : Int), mv_I s]) (st' := [mv_I (M 37 (q.length + 1)), mv_I a, mv_I s, mv_I (q.length : Int), mv_R 37]) (M1 := M) rfl ?_
          refine mv_tt' (by omega) ?_
          rw [show M 37 (q.length + 1) = b from by exact hs.1]
          refine mv_callP (st2 := [mv_I (sp_bi s a b), mv_I (q.length : Int), mv_R 37]) rfl (Or.inr rfl) rfl rfl rfl (sp_ofTwo (by omega) (by omega)) (by first | decide | omega) ?_
          refine mv_go' 1 (pc' := if 0 ≤ (q.length : Int) ∧ (q.length : Int) < 64 then 157 else mv_bad) (ls' := [mv_R 13, mv_I (p : Int), mv_R 36, mv_R 37, mv_I ((q.length + 1 : Nat) : Int), mv_I (i : Int), mv_I s]) (st' := []) (M1 := (mv_st M 37 (mv_up (M 37) q.length (sp_bi s a b)))) rfl ?_
          refine mv_tt' (by omega) ?_
          refine mv_go' 2 (pc' := 21) (ls' := [mv_R 13, mv_I (p : Int), mv_R 36, mv_R 37, mv_I ((q.length + 1 : Nat) : Int), mv_I (mv_w ((i : Int) + 1)), mv_I s]) (st' := []) (M1 := (mv_st M 37 (mv_up (M 37) q.length (sp_bi s a b)))) rfl ?_
          rw [show mv_w ((i : Int) + 1) = (i : Int) + 1 from mv_w_id (by omega) (by omega)]
          rw [show (i : Int) + 1 = ((i + 1 : Nat) : Int) from by omega]
          simp only [sp_run, if_neg c0, if_neg c1, if_neg c3]
          exact (ih (sp_bi s a b :: q) (q.length + 1) (i + 1) (mv_st M 37 (mv_up (M 37) q.length (sp_bi s a b))) (mv_I s) rfl hw.2 (by omega) hat.2 (by omega) (by rw [show i + 1 + r.length = i + (r.length + 1) from by omega]; exact he) (sp_stk_ps hs.2.2 rfl)).imp (fun M2 h2 => mv_ag.tr (mv_ag.st mv_ag.rf (by decide)) h2)
      · have c3 : 20007 ≤ s := by omega
        rw [if_pos c3] at hw
        match st, hl, hs with
        | [], hl, hs => simp only [List.length_nil] at hl; omega
        | a :: q, hl, hs =>
          simp only [List.length_cons] at hl
          subst hl
          refine mv_go' 3 (pc' := if ((q.length + 1 : Nat) : Int) < 1 then 103 else 105) (ls' := [mv_R 13, mv_I (p : Int), mv_R 36, mv_R 37, mv_I ((q.length + 1 : Nat) : Int), mv_I (i : Int), mv_I s]) (st' := []) (M1 := M) rfl ?_
          refine mv_ff' (by omega) ?_
          refine mv_go' 9 (pc' := 117) (ls' := [mv_R 13, mv_I (p : Int), mv_R 36, mv_R 37, mv_I ((q.length + 1 : Nat) : Int), mv_I (i : Int), mv_I s]) (st' := [mv_I (mv_w (((q.length + 1 : Nat) : Int) - 1)), mv_R 37, mv_I s, mv_I (mv_w (((q.length + 1 : Nat) : Int) - 1)), mv_R 37]) (M1 := M) rfl ?_
          rw [show mv_w (((q.length + 1 : Nat) : Int) - 1) = (q.length : Int) from by (rw [show mv_w (((q.length + 1 : Nat) : Int) - 1) = ((q.length + 1 : Nat) : Int) - 1 from mv_w_id (by omega) (by omega)]) <;> omega]
          refine mv_go' 1 (pc' := if 0 ≤ (q.length : Int) ∧ (q.length : Int) < 64 then 118 else mv_bad) (ls' := [mv_R 13, mv_I (p : Int), mv_R 36, mv_R 37, mv_I ((q.length + 1 : Nat) : Int), mv_I (i : Int), mv_I s]) (st' := [mv_I (M 37 q.length), mv_I s, mv_I (q.length : Int), mv_R 37]) (M1 := M) rfl ?_
          refine mv_tt' (by omega) ?_
          rw [show M 37 q.length = a from by exact hs.1]
          refine mv_callP (st2 := [mv_I (sp_un s a), mv_I (q.length : Int), mv_R 37]) rfl (Or.inr rfl) rfl rfl rfl (sp_ofOne) (by first | decide | omega) ?_
          refine mv_go' 1 (pc' := if 0 ≤ (q.length : Int) ∧ (q.length : Int) < 64 then 122 else mv_bad) (ls' := [mv_R 13, mv_I (p : Int), mv_R 36, mv_R 37, mv_I ((q.length + 1 : Nat) : Int), mv_I (i : Int), mv_I s]) (st' := []) (M1 := (mv_st M 37 (mv_up (M 37) q.length (sp_un s a)))) rfl ?_
          refine mv_tt' (by omega) ?_
          refine mv_go' 3 (pc' := 21) (ls' := [mv_R 13, mv_I (p : Int), mv_R 36, mv_R 37, mv_I ((q.length + 1 : Nat) : Int), mv_I (mv_w ((i : Int) + 1)), mv_I s]) (st' := []) (M1 := (mv_st M 37 (mv_up (M 37) q.length (sp_un s a)))) rfl ?_
          rw [show mv_w ((i : Int) + 1) = (i : Int) + 1 from mv_w_id (by omega) (by omega)]
          rw [show (i : Int) + 1 = ((i + 1 : Nat) : Int) from by omega]
          simp only [sp_run, if_neg c0, if_neg c1, if_pos c3]
          exact (ih (sp_un s a :: q) (q.length + 1) (i + 1) (mv_st M 37 (mv_up (M 37) q.length (sp_un s a))) (mv_I s) rfl hw.2 (by omega) hat.2 (by omega) (by rw [show i + 1 + r.length = i + (r.length + 1) from by omega]; exact he) (sp_stk_ps hs.2 rfl)).imp (fun M2 h2 => mv_ag.tr (mv_ag.st mv_ag.rf (by decide)) h2)
theorem sp_val0_13_36 {M : mv_M} {code : List Int} (hw : sp_wf code 0) (hat : sp_at (M 14) 0 code) (hlen : code.length ≤ 160) (he : M 15 0 = ((code.length : Nat) : Int)) :
    mv_Ru 1 3 0 [mv_R 13, mv_I 0, mv_R 36, mv_R 37, mv_U, mv_U, mv_U] [] M (mv_I (sp_top (sp_run (M 36) code []))) (fun M1 => mv_ag [37] M M1) := by
  refine mv_go' 4 (pc' := if 0 = 0 then 7 else 11) (ls' := [mv_R 13, mv_I 0, mv_R 36, mv_R 37, mv_I 0, mv_U, mv_U]) (st' := []) (M1 := M) rfl ?_
  refine mv_tt' (rfl) ?_
  refine mv_go' 3 (pc' := 21) (ls' := [mv_R 13, mv_I 0, mv_R 36, mv_R 37, mv_I 0, mv_I 0, mv_U]) (st' := []) (M1 := M) rfl ?_
  exact sp_val_lp_13_36 (p := 0) (by decide) code [] 0 0 M mv_U rfl hw (by decide) hat (by omega) (by rw [he]; simp) trivial
theorem sp_valS_13_36 {M : mv_M} {code : List Int} {q i : Nat} (hq : q < 2) (hw : sp_wf code 0) (hi : M 15 q = (i : Int)) (hat : sp_at (M 14) i code) (hlen : i + code.length ≤ 160) (he : M 15 (q + 1) = ((i + code.length : Nat) : Int)) :
    mv_Ru 1 3 0 [mv_R 13, mv_I ((q + 1 : Nat) : Int), mv_R 36, mv_R 37, mv_U, mv_U, mv_U] [] M (mv_I (sp_top (sp_run (M 36) code []))) (fun M1 => mv_ag [37] M M1) := by
  refine mv_go' 4 (pc' := if ((q + 1 : Nat) : Int) = 0 then 7 else 11) (ls' := [mv_R 13, mv_I ((q + 1 : Nat) : Int), mv_R 36, mv_R 37, mv_I 0, mv_U, mv_U]) (st' := []) (M1 := M) rfl ?_
  refine mv_ff' (by omega) ?_
  refine mv_go' 5 (pc' := 18) (ls' := [mv_R 13, mv_I ((q + 1 : Nat) : Int), mv_R 36, mv_R 37, mv_I 0, mv_U, mv_U]) (st' := [mv_I (mv_w (((q + 1 : Nat) : Int) - 1)), mv_R 15]) (M1 := M) rfl ?_
  rw [show mv_w (((q + 1 : Nat) : Int) - 1) = (q : Int) from by (rw [show mv_w (((q + 1 : Nat) : Int) - 1) = ((q + 1 : Nat) : Int) - 1 from mv_w_id (by omega) (by omega)]) <;> omega]
  refine mv_go' 1 (pc' := if 0 ≤ (q : Int) ∧ (q : Int) < 3 then 19 else mv_bad) (ls' := [mv_R 13, mv_I ((q + 1 : Nat) : Int), mv_R 36, mv_R 37, mv_I 0, mv_U, mv_U]) (st' := [mv_I (M 15 q)]) (M1 := M) rfl ?_
  refine mv_tt' (by omega) ?_
  rw [show M 15 q = (i : Int) from by exact hi]
  refine mv_go' 1 (pc' := 21) (ls' := [mv_R 13, mv_I ((q + 1 : Nat) : Int), mv_R 36, mv_R 37, mv_I 0, mv_I (i : Int), mv_U]) (st' := []) (M1 := M) rfl ?_
  exact sp_val_lp_13_36 (p := q + 1) (by omega) code [] 0 i M mv_U rfl hw (by decide) hat hlen he trivial
theorem sp_value_13_36 {M : mv_M} {P : Nat → List Int} {p : Nat} (hp : p < 3) (hP : sp_ct 13 M P) :
    mv_Ru 1 3 0 [mv_R 13, mv_I (p : Int), mv_R 36, mv_R 37, mv_U, mv_U, mv_U] [] M (mv_I (sp_top (sp_run (M 36) (P p) []))) (fun M1 => mv_ag [37] M M1) := by
  obtain ⟨⟨e0, e1, e2⟩, ⟨a0, a1, a2⟩, ⟨w0, w1, w2⟩, hlen⟩ := hP
  match p, hp with
  | 0, _ => exact sp_val0_13_36 w0 a0 (by omega) e0
  | 1, _ => exact sp_valS_13_36 (q := 0) (by decide) w1 e0 a1 (by omega) e1
  | 2, _ => exact sp_valS_13_36 (q := 1) (by decide) w2 e1 a2 (by omega) e2
theorem sp_val_lp_16_36 {p : Nat} (hp : p < 3) : ∀ (code st : List Int) (h i : Nat) (M : mv_M) (l6 : mv_V), st.length = h → sp_wf code h → h ≤ 64 → sp_at (M 17) i code → i + code.length ≤ 160 → M 18 p = ((i + code.length : Nat) : Int) → sp_stk (M 37) st →
    mv_Ru 1 3 21 [mv_R 16, mv_I (p : Int), mv_R 36, mv_R 37, mv_I (h : Int), mv_I (i : Int), l6] [] M (mv_I (sp_top (sp_run (M 36) code st))) (fun M1 => mv_ag [37] M M1) := by
  intro code
  induction code with
  | nil =>
    intro st h i M l6 hl hw h64 hat hlen he hs
    match st, hl, hs with
    | [], hl, hs => simp only [sp_wf, List.length_nil] at hw hl; omega
    | _ :: _ :: _, hl, hs => simp only [sp_wf, List.length_cons] at hw hl; omega
    | [a], hl, hs =>
      refine mv_go' 5 (pc' := if 0 ≤ (p : Int) ∧ (p : Int) < 3 then 29 else mv_bad) (ls' := [mv_R 16, mv_I (p : Int), mv_R 36, mv_R 37, mv_I (h : Int), mv_I (i : Int), l6]) (st' := [mv_I (M 18 p), mv_I (i : Int)]) (M1 := M) rfl ?_
      refine mv_tt' (by omega) ?_
      rw [show M 18 p = (i : Int) from by rw [he]; rfl]
      refine mv_go' 1 (pc' := if (i : Int) < (i : Int) then 32 else 163) (ls' := [mv_R 16, mv_I (p : Int), mv_R 36, mv_R 37, mv_I (h : Int), mv_I (i : Int), l6]) (st' := []) (M1 := M) rfl ?_
      refine mv_ff' (by omega) ?_
      refine mv_go' 3 (pc' := if 0 ≤ 0 ∧ 0 < 64 then 166 else mv_bad) (ls' := [mv_R 16, mv_I (p : Int), mv_R 36, mv_R 37, mv_I (h : Int), mv_I (i : Int), l6]) (st' := [mv_I (M 37 0)]) (M1 := M) rfl ?_
      refine mv_tt' (by omega) ?_
      rw [show M 37 0 = a from by exact hs.1]
      exact mv_ret (fun n => rfl) (mv_ag.rf)
  | cons s r ih =>
    intro st h i M l6 hl hw h64 hat hlen he hs
    simp only [List.length_cons] at hlen he
    obtain ⟨⟨hs0, hs1⟩, hw⟩ := hw
    refine mv_go' 5 (pc' := if 0 ≤ (p : Int) ∧ (p : Int) < 3 then 29 else mv_bad) (ls' := [mv_R 16, mv_I (p : Int), mv_R 36, mv_R 37, mv_I (h : Int), mv_I (i : Int), l6]) (st' := [mv_I (M 18 p), mv_I (i : Int)]) (M1 := M) rfl ?_
    refine mv_tt' (by omega) ?_
    rw [show M 18 p = ((i + (r.length + 1) : Nat) : Int) from by exact he]
    refine mv_go' 1 (pc' := if (i : Int) < ((i + (r.length + 1) : Nat) : Int) then 32 else 163) (ls' := [mv_R 16, mv_I (p : Int), mv_R 36, mv_R 37, mv_I (h : Int), mv_I (i : Int), l6]) (st' := []) (M1 := M) rfl ?_
    refine mv_tt' (by omega) ?_
    refine mv_go' 4 (pc' := if 0 ≤ (i : Int) ∧ (i : Int) < 160 then 39 else mv_bad) (ls' := [mv_R 16, mv_I (p : Int), mv_R 36, mv_R 37, mv_I (h : Int), mv_I (i : Int), l6]) (st' := [mv_I (M 17 i)]) (M1 := M) rfl ?_
    refine mv_tt' (by omega) ?_
    rw [show M 17 i = s from by exact hat.1]
    refine mv_go' 4 (pc' := if s < 20000 then 49 else 89) (ls' := [mv_R 16, mv_I (p : Int), mv_R 36, mv_R 37, mv_I (h : Int), mv_I (i : Int), mv_I s]) (st' := []) (M1 := M) rfl ?_
    refine mv_sp' (fun c1 => ?_) (fun c1 => ?_)
    · rw [if_pos c1] at hw
      refine mv_go' 3 (pc' := if (h : Int) < 64 then 58 else 56) (ls' := [mv_R 16, mv_I (p : Int), mv_R 36, mv_R 37, mv_I (h : Int), mv_I (i : Int), mv_I s]) (st' := []) (M1 := M) rfl ?_
      refine mv_tt' (by omega) ?_
      refine mv_go' 5 (pc' := if s < 10000 then 69 else 74) (ls' := [mv_R 16, mv_I (p : Int), mv_R 36, mv_R 37, mv_I (h : Int), mv_I (i : Int), mv_I s]) (st' := [mv_I (h : Int), mv_R 37]) (M1 := M) rfl ?_
      refine mv_sp' (fun c0 => ?_) (fun c0 => ?_)
      · refine mv_go' 3 (pc' := if 0 ≤ (h : Int) ∧ (h : Int) < 64 then 83 else mv_bad) (ls' := [mv_R 16, mv_I (p : Int), mv_R 36, mv_R 37, mv_I (h : Int), mv_I (i : Int), mv_I s]) (st' := []) (M1 := (mv_st M 37 (mv_up (M 37) h s))) rfl ?_
        refine mv_tt' (by omega) ?_
        refine mv_go' 4 (pc' := 21) (ls' := [mv_R 16, mv_I (p : Int), mv_R 36, mv_R 37, mv_I (mv_w ((h : Int) + 1)), mv_I (mv_w ((i : Int) + 1)), mv_I s]) (st' := []) (M1 := (mv_st M 37 (mv_up (M 37) h s))) rfl ?_
        rw [show mv_w ((h : Int) + 1) = (h : Int) + 1 from mv_w_id (by omega) (by omega)]
        rw [show mv_w ((i : Int) + 1) = (i : Int) + 1 from mv_w_id (by omega) (by omega)]
        rw [show (h : Int) + 1 = ((h + 1 : Nat) : Int) from by omega]
        rw [show (i : Int) + 1 = ((i + 1 : Nat) : Int) from by omega]
        simp only [sp_run, if_pos c0]
        exact (ih (s :: st) (h + 1) (i + 1) (mv_st M 37 (mv_up (M 37) h s)) (mv_I s) (by simp only [List.length_cons]; omega) hw.2.2 (by omega) hat.2 (by omega) (by rw [show i + 1 + r.length = i + (r.length + 1) from by omega]; exact he) (sp_stk_ps hs hl)).imp (fun M2 h2 => mv_ag.tr (mv_ag.st mv_ag.rf (by decide)) h2)
      · refine mv_go' 4 (pc' := 81) (ls' := [mv_R 16, mv_I (p : Int), mv_R 36, mv_R 37, mv_I (h : Int), mv_I (i : Int), mv_I s]) (st' := [mv_I (mv_w (s - 10000)), mv_R 36, mv_I (h : Int), mv_R 37]) (M1 := M) rfl ?_
        rw [show mv_w (s - 10000) = s - 10000 from by unfold mv_w; omega]
        refine mv_go' 1 (pc' := if 0 ≤ (s - 10000) ∧ (s - 10000) < 6 then 82 else mv_bad) (ls' := [mv_R 16, mv_I (p : Int), mv_R 36, mv_R 37, mv_I (h : Int), mv_I (i : Int), mv_I s]) (st' := [mv_I (M 36 ((s - 10000).toNat)), mv_I (h : Int), mv_R 37]) (M1 := M) rfl ?_
        refine mv_tt' (by omega) ?_
        refine mv_go' 1 (pc' := if 0 ≤ (h : Int) ∧ (h : Int) < 64 then 83 else mv_bad) (ls' := [mv_R 16, mv_I (p : Int), mv_R 36, mv_R 37, mv_I (h : Int), mv_I (i : Int), mv_I s]) (st' := []) (M1 := (mv_st M 37 (mv_up (M 37) h (M 36 ((s - 10000).toNat))))) rfl ?_
        refine mv_tt' (by omega) ?_
        refine mv_go' 4 (pc' := 21) (ls' := [mv_R 16, mv_I (p : Int), mv_R 36, mv_R 37, mv_I (mv_w ((h : Int) + 1)), mv_I (mv_w ((i : Int) + 1)), mv_I s]) (st' := []) (M1 := (mv_st M 37 (mv_up (M 37) h (M 36 ((s - 10000).toNat))))) rfl ?_
        rw [show mv_w ((h : Int) + 1) = (h : Int) + 1 from mv_w_id (by omega) (by omega)]
        rw [show mv_w ((i : Int) + 1) = (i : Int) + 1 from mv_w_id (by omega) (by omega)]
        rw [show (h : Int) + 1 = ((h + 1 : Nat) : Int) from by omega]
        rw [show (i : Int) + 1 = ((i + 1 : Nat) : Int) from by omega]
        simp only [sp_run, if_neg c0, if_pos c1]
        exact (ih (M 36 (s - 10000).toNat :: st) (h + 1) (i + 1) (mv_st M 37 (mv_up (M 37) h (M 36 (s - 10000).toNat))) (mv_I s) (by simp only [List.length_cons]; omega) hw.2.2 (by omega) hat.2 (by omega) (by rw [show i + 1 + r.length = i + (r.length + 1) from by omega]; exact he) (sp_stk_ps hs hl)).imp (fun M2 h2 => mv_ag.tr (mv_ag.st mv_ag.rf (by decide)) h2)
    · rw [if_neg c1] at hw
      have c0 : ¬ s < 10000 := by omega
      refine mv_go' 3 (pc' := if s < 20007 then 125 else 97) (ls' := [mv_R 16, mv_I (p : Int), mv_R 36, mv_R 37, mv_I (h : Int), mv_I (i : Int), mv_I s]) (st' := []) (M1 := M) rfl ?_
      refine mv_sp' (fun c2 => ?_) (fun c2 => ?_)
      · have c3 : ¬ 20007 ≤ s := by omega
        rw [if_neg c3] at hw
        match st, hl, hs with
        | [], hl, hs => simp only [List.length_nil] at hl; omega
        | [_], hl, hs => simp only [List.length_cons, List.length_nil] at hl; omega
        | b :: a :: q, hl, hs =>
          simp only [List.length_cons] at hl
          subst hl
          refine mv_go' 3 (pc' := if ((q.length + 1 + 1 : Nat) : Int) < 2 then 131 else 133) (ls' := [mv_R 16, mv_I (p : Int), mv_R 36, mv_R 37, mv_I ((q.length + 1 + 1 : Nat) : Int), mv_I (i : Int), mv_I s]) (st' := []) (M1 := M) rfl ?_
          refine mv_ff' (by omega) ?_
          refine mv_go' 10 (pc' := 148) (ls' := [mv_R 16, mv_I (p : Int), mv_R 36, mv_R 37, mv_I (mv_w (((q.length + 1 + 1 : Nat) : Int) + (-1))), mv_I (i : Int), mv_I s]) (st' := [mv_I (mv_w ((mv_w (((q.length + 1 + 1 : Nat) : Int) + (-1))) - 1)), mv_R 37, mv_I s, mv_I (mv_w ((mv_w (((q.length + 1 + 1 : Nat) : Int) + (-1))) - 1)), mv_R 37]) (M1 := M) rfl ?_
          rw [show mv_w ((mv_w (((q.length + 1 + 1 : Nat) : Int) + (-1))) - 1) = (q.length : Int) from by (rw [show mv_w (((q.length + 1 + 1 : Nat) : Int) + (-1)) = ((q.length + 1 + 1 : Nat) : Int) + (-1) from mv_w_id (by omega) (by omega), show mv_w ((((q.length + 1 + 1 : Nat) : Int) + (-1)) - 1) = (((q.length + 1 + 1 : Nat) : Int) + (-1)) - 1 from mv_w_id (by omega) (by omega)]) <;> omega]
          refine mv_go' 1 (pc' := if 0 ≤ (q.length : Int) ∧ (q.length : Int) < 64 then 149 else mv_bad) (ls' := [mv_R 16, mv_I (p : Int), mv_R 36, mv_R 37, mv_I (mv_w (((q.length + 1 + 1 : Nat) : Int) + (-1))), mv_I (i : Int), mv_I s]) (st' := [mv_I (M 37 q.length), mv_I s, mv_I (q.length : Int), mv_R 37]) (M1 := M) rfl ?_
          refine mv_tt' (by omega) ?_
          rw [show M 37 q.length = a from by exact hs.2.1]
          refine mv_go' 2 (pc' := 152) (ls' := [mv_R 16, mv_I (p : Int), mv_R 36, mv_R 37, mv_I (mv_w (((q.length + 1 + 1 : Nat) : Int) + (-1))), mv_I (i : Int), mv_I s]) (st' := [mv_I (mv_w (((q.length + 1 + 1 : Nat) : Int) + (-1))), mv_R 37, mv_I a, mv_I s, mv_I (q.length : Int), mv_R 37]) (M1 := M) rfl ?_
          rw [show mv_w (((q.length + 1 + 1 : Nat) : Int) + (-1)) = ((q.length + 1 : Nat) : Int) from by (rw [show mv_w (((q.length + 1 + 1 : Nat) : Int) + (-1)) = ((q.length + 1 + 1 : Nat) : Int) + (-1) from mv_w_id (by omega) (by omega)]) <;> omega]
          refine mv_go' 1 (pc' := if 0 ≤ ((q.length + 1 : Nat) : Int) ∧ ((q.length + 1 : Nat) : Int) < 64 then 153 else mv_bad) (ls' := [mv_R 16, mv_I (p : Int), mv_R 36, mv_R 37, mv_I ((q.length + 1 : Nat) : Int), mv_I (i : Int), mv_I s]) (st' := [mv_I (M 37 (q.length + 1)), mv_I a, mv_I s, mv_I (q.length : Int), mv_R 37]) (M1 := M) rfl ?_
          refine mv_tt' (by omega) ?_
          rw [show M 37 (q.length + 1) = b from by exact hs.1]
          refine mv_callP (st2 := [mv_I (sp_bi s a b), mv_I (q.length : Int), mv_R 37]) rfl (Or.inr rfl) rfl rfl rfl (sp_ofTwo (by omega) (by omega)) (by first | decide | omega) ?_
          refine mv_go' 1 (pc' := if 0 ≤ (q.length : Int) ∧ (q.length : Int) < 64 then 157 else mv_bad) (ls' := [mv_R 16, mv_I (p : Int), mv_R 36, mv_R 37, mv_I ((q.length + 1 : Nat) : Int), mv_I (i : Int), mv_I s]) (st' := []) (M1 := (mv_st M 37 (mv_up (M 37) q.length (sp_bi s a b)))) rfl ?_
          refine mv_tt' (by omega) ?_
          refine mv_go' 2 (pc' := 21) (ls' := [mv_R 16, mv_I (p : Int), mv_R 36, mv_R 37, mv_I ((q.length + 1 : Nat) : Int), mv_I (mv_w ((i : Int) + 1)), mv_I s]) (st' := []) (M1 := (mv_st M 37 (mv_up (M 37) q.length (sp_bi s a b)))) rfl ?_
          rw [show mv_w ((i : Int) + 1) = (i : Int) + 1 from mv_w_id (by omega) (by omega)]
          rw [show (i : Int) + 1 = ((i + 1 : Nat) : Int) from by omega]
          simp only [sp_run, if_neg c0, if_neg c1, if_neg c3]
          exact (ih (sp_bi s a b :: q) (q.length + 1) (i + 1) (mv_st M 37 (mv_up (M 37) q.length (sp_bi s a b))) (mv_I s) rfl hw.2 (by omega) hat.2 (by omega) (by rw [show i + 1 + r.length = i + (r.length + 1) from by omega]; exact he) (sp_stk_ps hs.2.2 rfl)).imp (fun M2 h2 => mv_ag.tr (mv_ag.st mv_ag.rf (by decide)) h2)
      · have c3 : 20007 ≤ s := by omega
        rw [if_pos c3] at hw
        match st, hl, hs with
        | [], hl, hs => simp only [List.length_nil] at hl; omega
        | a :: q, hl, hs =>
          simp only [List.length_cons] at hl
          subst hl
          refine mv_go' 3 (pc' := if ((q.length + 1 : Nat) : Int) < 1 then 103 else 105) (ls' := [mv_R 16, mv_I (p : Int), mv_R 36, mv_R 37, mv_I ((q.length + 1 : Nat) : Int), mv_I (i : Int), mv_I s]) (st' := []) (M1 := M) rfl ?_
          refine mv_ff' (by omega) ?_
          refine mv_go' 9 (pc' := 117) (ls' := [mv_R 16, mv_I (p : Int), mv_R 36, mv_R 37, mv_I ((q.length + 1 : Nat) : Int), mv_I (i : Int), mv_I s]) (st' := [mv_I (mv_w (((q.length + 1 : Nat) : Int) - 1)), mv_R 37, mv_I s, mv_I (mv_w (((q.length + 1 : Nat) : Int) - 1)), mv_R 37]) (M1 := M) rfl ?_
          rw [show mv_w (((q.length + 1 : Nat) : Int) - 1) = (q.length : Int) from by (rw [show mv_w (((q.length + 1 : Nat) : Int) - 1) = ((q.length + 1 : Nat) : Int) - 1 from mv_w_id (by omega) (by omega)]) <;> omega]
          refine mv_go' 1 (pc' := if 0 ≤ (q.length : Int) ∧ (q.length : Int) < 64 then 118 else mv_bad) (ls' := [mv_R 16, mv_I (p : Int), mv_R 36, mv_R 37, mv_I ((q.length + 1 : Nat) : Int), mv_I (i : Int), mv_I s]) (st' := [mv_I (M 37 q.length), mv_I s, mv_I (q.length : Int), mv_R 37]) (M1 := M) rfl ?_
          refine mv_tt' (by omega) ?_
          rw [show M 37 q.length = a from by exact hs.1]
          refine mv_callP (st2 := [mv_I (sp_un s a), mv_I (q.length : Int), mv_R 37]) rfl (Or.inr rfl) rfl rfl rfl (sp_ofOne) (by first | decide | omega) ?_
          refine mv_go' 1 (pc' := if 0 ≤ (q.length : Int) ∧ (q.length : Int) < 64 then 122 else mv_bad) (ls' := [mv_R 16, mv_I (p : Int), mv_R 36, mv_R 37, mv_I ((q.length + 1 : Nat) : Int), mv_I (i : Int), mv_I s]) (st' := []) (M1 := (mv_st M 37 (mv_up (M 37) q.length (sp_un s a)))) rfl ?_
          refine mv_tt' (by omega) ?_
          refine mv_go' 3 (pc' := 21) (ls' := [mv_R 16, mv_I (p : Int), mv_R 36, mv_R 37, mv_I ((q.length + 1 : Nat) : Int), mv_I (mv_w ((i : Int) + 1)), mv_I s]) (st' := []) (M1 := (mv_st M 37 (mv_up (M 37) q.length (sp_un s a)))) rfl ?_
          rw [show mv_w ((i : Int) + 1) = (i : Int) + 1 from mv_w_id (by omega) (by omega)]
          rw [show (i : Int) + 1 = ((i + 1 : Nat) : Int) from by omega]
          simp only [sp_run, if_neg c0, if_neg c1, if_pos c3]
          exact (ih (sp_un s a :: q) (q.length + 1) (i + 1) (mv_st M 37 (mv_up (M 37) q.length (sp_un s a))) (mv_I s) rfl hw.2 (by omega) hat.2 (by omega) (by rw [show i + 1 + r.length = i + (r.length + 1) from by omega]; exact he) (sp_stk_ps hs.2 rfl)).imp (fun M2 h2 => mv_ag.tr (mv_ag.st mv_ag.rf (by decide)) h2)
theorem sp_val0_16_36 {M : mv_M} {code : List Int} (hw : sp_wf code 0) (hat : sp_at (M 17) 0 code) (hlen : code.length ≤ 160) (he : M 18 0 = ((code.length : Nat) : Int)) :
    mv_Ru 1 3 0 [mv_R 16, mv_I 0, mv_R 36, mv_R 37, mv_U, mv_U, mv_U] [] M (mv_I (sp_top (sp_run (M 36) code []))) (fun M1 => mv_ag [37] M M1) := by
  refine mv_go' 4 (pc' := if 0 = 0 then 7 else 11) (ls' := [mv_R 16, mv_I 0, mv_R 36, mv_R 37, mv_I 0, mv_U, mv_U]) (st' := []) (M1 := M) rfl ?_
  refine mv_tt' (rfl) ?_
  refine mv_go' 3 (pc' := 21) (ls' := [mv_R 16, mv_I 0, mv_R 36, mv_R 37, mv_I 0, mv_I 0, mv_U]) (st' := []) (M1 := M) rfl ?_
  exact sp_val_lp_16_36 (p := 0) (by decide) code [] 0 0 M mv_U rfl hw (by decide) hat (by omega) (by rw [he]; simp) trivial
theorem sp_valS_16_36 {M : mv_M} {code : List Int} {q i : Nat} (hq : q < 2) (hw : sp_wf code 0) (hi : M 18 q = (i : Int)) (hat : sp_at (M 17) i code) (hlen : i + code.length ≤ 160) (he : M 18 (q + 1) = ((i + code.length : Nat) : Int)) :
    mv_Ru 1 3 0 [mv_R 16, mv_I ((q + 1 : Nat) : Int), mv_R 36, mv_R 37, mv_U, mv_U, mv_U] [] M (mv_I (sp_top (sp_run (M 36) code []))) (fun M1 => mv_ag [37] M M1) := by
  refine mv_go' 4 (pc' := if ((q + 1 : Nat) : Int) = 0 then 7 else 11) (ls' := [mv_R 16, mv_I ((q + 1 : Nat) : Int), mv_R 36, mv_R 37, mv_I 0, mv_U, mv_U]) (st' := []) (M1 := M) rfl ?_
  refine mv_ff' (by omega) ?_
  refine mv_go' 5 (pc' := 18) (ls' := [mv_R 16, mv_I ((q + 1 : Nat) : Int), mv_R 36, mv_R 37, mv_I 0, mv_U, mv_U]) (st' := [mv_I (mv_w (((q + 1 : Nat) : Int) - 1)), mv_R 18]) (M1 := M) rfl ?_
  rw [show mv_w (((q + 1 : Nat) : Int) - 1) = (q : Int) from by (rw [show mv_w (((q + 1 : Nat) : Int) - 1) = ((q + 1 : Nat) : Int) - 1 from mv_w_id (by omega) (by omega)]) <;> omega]
  refine mv_go' 1 (pc' := if 0 ≤ (q : Int) ∧ (q : Int) < 3 then 19 else mv_bad) (ls' := [mv_R 16, mv_I ((q + 1 : Nat) : Int), mv_R 36, mv_R 37, mv_I 0, mv_U, mv_U]) (st' := [mv_I (M 18 q)]) (M1 := M) rfl ?_
  refine mv_tt' (by omega) ?_
  rw [show M 18 q = (i : Int) from by exact hi]
  refine mv_go' 1 (pc' := 21) (ls' := [mv_R 16, mv_I ((q + 1 : Nat) : Int), mv_R 36, mv_R 37, mv_I 0, mv_I (i : Int), mv_U]) (st' := []) (M1 := M) rfl ?_
  exact sp_val_lp_16_36 (p := q + 1) (by omega) code [] 0 i M mv_U rfl hw (by decide) hat hlen he trivial
theorem sp_value_16_36 {M : mv_M} {P : Nat → List Int} {p : Nat} (hp : p < 3) (hP : sp_ct 16 M P) :
    mv_Ru 1 3 0 [mv_R 16, mv_I (p : Int), mv_R 36, mv_R 37, mv_U, mv_U, mv_U] [] M (mv_I (sp_top (sp_run (M 36) (P p) []))) (fun M1 => mv_ag [37] M M1) := by
  obtain ⟨⟨e0, e1, e2⟩, ⟨a0, a1, a2⟩, ⟨w0, w1, w2⟩, hlen⟩ := hP
  match p, hp with
  | 0, _ => exact sp_val0_16_36 w0 a0 (by omega) e0
  | 1, _ => exact sp_valS_16_36 (q := 0) (by decide) w1 e0 a1 (by omega) e1
  | 2, _ => exact sp_valS_16_36 (q := 1) (by decide) w2 e1 a2 (by omega) e2
theorem sp_val_lp_19_36 {p : Nat} (hp : p < 3) : ∀ (code st : List Int) (h i : Nat) (M : mv_M) (l6 : mv_V), st.length = h → sp_wf code h → h ≤ 64 → sp_at (M 20) i code → i + code.length ≤ 160 → M 21 p = ((i + code.length : Nat) : Int) → sp_stk (M 37) st →
    mv_Ru 1 3 21 [mv_R 19, mv_I (p : Int), mv_R 36, mv_R 37, mv_I (h : Int), mv_I (i : Int), l6] [] M (mv_I (sp_top (sp_run (M 36) code st))) (fun M1 => mv_ag [37] M M1) := by
  intro code
  induction code with
  | nil =>
    intro st h i M l6 hl hw h64 hat hlen he hs
    match st, hl, hs with
    | [], hl, hs => simp only [sp_wf, List.length_nil] at hw hl; omega
    | _ :: _ :: _, hl, hs => simp only [sp_wf, List.length_cons] at hw hl; omega
    | [a], hl, hs =>
      refine mv_go' 5 (pc' := if 0 ≤ (p : Int) ∧ (p : Int) < 3 then 29 else mv_bad) (ls' := [mv_R 19, mv_I (p : Int), mv_R 36, mv_R 37, mv_I (h : Int), mv_I (i : Int), l6]) (st' := [mv_I (M 21 p), mv_I (i : Int)]) (M1 := M) rfl ?_
      refine mv_tt' (by omega) ?_
      rw [show M 21 p = (i : Int) from by rw [he]; rfl]
      refine mv_go' 1 (pc' := if (i : Int) < (i : Int) then 32 else 163) (ls' := [mv_R 19, mv_I (p : Int), mv_R 36, mv_R 37, mv_I (h : Int), mv_I (i : Int), l6]) (st' := []) (M1 := M) rfl ?_
      refine mv_ff' (by omega) ?_
      refine mv_go' 3 (pc' := if 0 ≤ 0 ∧ 0 < 64 then 166 else mv_bad) (ls' := [mv_R 19, mv_I (p : Int), mv_R 36, mv_R 37, mv_I (h : Int), mv_I (i : Int), l6]) (st' := [mv_I (M 37 0)]) (M1 := M) rfl ?_
      refine mv_tt' (by omega) ?_
      rw [show M 37 0 = a from by exact hs.1]
      exact mv_ret (fun n => rfl) (mv_ag.rf)
  | cons s r ih =>
    intro st h i M l6 hl hw h64 hat hlen he hs
    simp only [List.length_cons] at hlen he
    obtain ⟨⟨hs0, hs1⟩, hw⟩ := hw
    refine mv_go' 5 (pc' := if 0 ≤ (p : Int) ∧ (p : Int) < 3 then 29 else mv_bad) (ls' := [mv_R 19, mv_I (p : Int), mv_R 36, mv_R 37, mv_I (h : Int), mv_I (i : Int), l6]) (st' := [mv_I (M 21 p), mv_I (i : Int)]) (M1 := M) rfl ?_
    refine mv_tt' (by omega) ?_
    rw [show M 21 p = ((i + (r.length + 1) : Nat) : Int) from by exact he]
    refine mv_go' 1 (pc' := if (i : Int) < ((i + (r.length + 1) : Nat) : Int) then 32 else 163) (ls' := [mv_R 19, mv_I (p : Int), mv_R 36, mv_R 37, mv_I (h : Int), mv_I (i : Int), l6]) (st' := []) (M1 := M) rfl ?_
    refine mv_tt' (by omega) ?_
    refine mv_go' 4 (pc' := if 0 ≤ (i : Int) ∧ (i : Int) < 160 then 39 else mv_bad) (ls' := [mv_R 19, mv_I (p : Int), mv_R 36, mv_R 37, mv_I (h : Int), mv_I (i : Int), l6]) (st' := [mv_I (M 20 i)]) (M1 := M) rfl ?_
    refine mv_tt' (by omega) ?_
    rw [show M 20 i = s from by exact hat.1]
    refine mv_go' 4 (pc' := if s < 20000 then 49 else 89) (ls' := [mv_R 19, mv_I (p : Int), mv_R 36, mv_R 37, mv_I (h : Int), mv_I (i : Int), mv_I s]) (st' := []) (M1 := M) rfl ?_
    refine mv_sp' (fun c1 => ?_) (fun c1 => ?_)
    · rw [if_pos c1] at hw
      refine mv_go' 3 (pc' := if (h : Int) < 64 then 58 else 56) (ls' := [mv_R 19, mv_I (p : Int), mv_R 36, mv_R 37, mv_I (h : Int), mv_I (i : Int), mv_I s]) (st' := []) (M1 := M) rfl ?_
      refine mv_tt' (by omega) ?_
      refine mv_go' 5 (pc' := if s < 10000 then 69 else 74) (ls' := [mv_R 19, mv_I (p : Int), mv_R 36, mv_R 37, mv_I (h : Int), mv_I (i : Int), mv_I s]) (st' := [mv_I (h : Int), mv_R 37]) (M1 := M) rfl ?_
      refine mv_sp' (fun c0 => ?_) (fun c0 => ?_)
      · refine mv_go' 3 (pc' := if 0 ≤ (h : Int) ∧ (h : Int) < 64 then 83 else mv_bad) (ls' := [mv_R 19, mv_I (p : Int), mv_R 36, mv_R 37, mv_I (h : Int), mv_I (i : Int), mv_I s]) (st' := []) (M1 := (mv_st M 37 (mv_up (M 37) h s))) rfl ?_
        refine mv_tt' (by omega) ?_
        refine mv_go' 4 (pc' := 21) (ls' := [mv_R 19, mv_I (p : Int), mv_R 36, mv_R 37, mv_I (mv_w ((h : Int) + 1)), mv_I (mv_w ((i : Int) + 1)), mv_I s]) (st' := []) (M1 := (mv_st M 37 (mv_up (M 37) h s))) rfl ?_
        rw [show mv_w ((h : Int) + 1) = (h : Int) + 1 from mv_w_id (by omega) (by omega)]
        rw [show mv_w ((i : Int) + 1) = (i : Int) + 1 from mv_w_id (by omega) (by omega)]
        rw [show (h : Int) + 1 = ((h + 1 : Nat) : Int) from by omega]
        rw [show (i : Int) + 1 = ((i + 1 : Nat) : Int) from by omega]
        simp only [sp_run, if_pos c0]
        exact (ih (s :: st) (h + 1) (i + 1) (mv_st M 37 (mv_up (M 37) h s)) (mv_I s) (by simp only [List.length_cons]; omega) hw.2.2 (by omega) hat.2 (by omega) (by rw [show i + 1 + r.length = i + (r.length + 1) from by omega]; exact he) (sp_stk_ps hs hl)).imp (fun M2 h2 => mv_ag.tr (mv_ag.st mv_ag.rf (by decide)) h2)
      · refine mv_go' 4 (pc' := 81) (ls' := [mv_R 19, mv_I (p : Int), mv_R 36, mv_R 37, mv_I (h : Int), mv_I (i : Int), mv_I s]) (st' := [mv_I (mv_w (s - 10000)), mv_R 36, mv_I (h : Int), mv_R 37]) (M1 := M) rfl ?_
        rw [show mv_w (s - 10000) = s - 10000 from by unfold mv_w; omega]
        refine mv_go' 1 (pc' := if 0 ≤ (s - 10000) ∧ (s - 10000) < 6 then 82 else mv_bad) (ls' := [mv_R 19, mv_I (p : Int), mv_R 36, mv_R 37, mv_I (h : Int), mv_I (i : Int), mv_I s]) (st' := [mv_I (M 36 ((s - 10000).toNat)), mv_I (h : Int), mv_R 37]) (M1 := M) rfl ?_
        refine mv_tt' (by omega) ?_
        refine mv_go' 1 (pc' := if 0 ≤ (h : Int) ∧ (h : Int) < 64 then 83 else mv_bad) (ls' := [mv_R 19, mv_I (p : Int), mv_R 36, mv_R 37, mv_I (h : Int), mv_I (i : Int), mv_I s]) (st' := []) (M1 := (mv_st M 37 (mv_up (M 37) h (M 36 ((s - 10000).toNat))))) rfl ?_
        refine mv_tt' (by omega) ?_
        refine mv_go' 4 (pc' := 21) (ls' := [mv_R 19, mv_I (p : Int), mv_R 36, mv_R 37, mv_I (mv_w ((h : Int) + 1)), mv_I (mv_w ((i : Int) + 1)), mv_I s]) (st' := []) (M1 := (mv_st M 37 (mv_up (M 37) h (M 36 ((s - 10000).toNat))))) rfl ?_
        rw [show mv_w ((h : Int) + 1) = (h : Int) + 1 from mv_w_id (by omega) (by omega)]
        rw [show mv_w ((i : Int) + 1) = (i : Int) + 1 from mv_w_id (by omega) (by omega)]
        rw [show (h : Int) + 1 = ((h + 1 : Nat) : Int) from by omega]
        rw [show (i : Int) + 1 = ((i + 1 : Nat) : Int) from by omega]
        simp only [sp_run, if_neg c0, if_pos c1]
        exact (ih (M 36 (s - 10000).toNat :: st) (h + 1) (i + 1) (mv_st M 37 (mv_up (M 37) h (M 36 (s - 10000).toNat))) (mv_I s) (by simp only [List.length_cons]; omega) hw.2.2 (by omega) hat.2 (by omega) (by rw [show i + 1 + r.length = i + (r.length + 1) from by omega]; exact he) (sp_stk_ps hs hl)).imp (fun M2 h2 => mv_ag.tr (mv_ag.st mv_ag.rf (by decide)) h2)
    · rw [if_neg c1] at hw
      have c0 : ¬ s < 10000 := by omega
      refine mv_go' 3 (pc' := if s < 20007 then 125 else 97) (ls' := [mv_R 19, mv_I (p : Int), mv_R 36, mv_R 37, mv_I (h : Int), mv_I (i : Int), mv_I s]) (st' := []) (M1 := M) rfl ?_
      refine mv_sp' (fun c2 => ?_) (fun c2 => ?_)
      · have c3 : ¬ 20007 ≤ s := by omega
        rw [if_neg c3] at hw
        match st, hl, hs with
        | [], hl, hs => simp only [List.length_nil] at hl; omega
        | [_], hl, hs => simp only [List.length_cons, List.length_nil] at hl; omega
        | b :: a :: q, hl, hs =>
          simp only [List.length_cons] at hl
          subst hl
          refine mv_go' 3 (pc' := if ((q.length + 1 + 1 : Nat) : Int) < 2 then 131 else 133) (ls' := [mv_R 19, mv_I (p : Int), mv_R 36, mv_R 37, mv_I ((q.length + 1 + 1 : Nat) : Int), mv_I (i : Int), mv_I s]) (st' := []) (M1 := M) rfl ?_
          refine mv_ff' (by omega) ?_
          refine mv_go' 10 (pc' := 148) (ls' := [mv_R 19, mv_I (p : Int), mv_R 36, mv_R 37, mv_I (mv_w (((q.length + 1 + 1 : Nat) : Int) + (-1))), mv_I (i : Int), mv_I s]) (st' := [mv_I (mv_w ((mv_w (((q.length + 1 + 1 : Nat) : Int) + (-1))) - 1)), mv_R 37, mv_I s, mv_I (mv_w ((mv_w (((q.length + 1 + 1 : Nat) : Int) + (-1))) - 1)), mv_R 37]) (M1 := M) rfl ?_
          rw [show mv_w ((mv_w (((q.length + 1 + 1 : Nat) : Int) + (-1))) - 1) = (q.length : Int) from by (rw [show mv_w (((q.length + 1 + 1 : Nat) : Int) + (-1)) = ((q.length + 1 + 1 : Nat) : Int) + (-1) from mv_w_id (by omega) (by omega), show mv_w ((((q.length + 1 + 1 : Nat) : Int) + (-1)) - 1) = (((q.length + 1 + 1 : Nat) : Int) + (-1)) - 1 from mv_w_id (by omega) (by omega)]) <;> omega]
          refine mv_go' 1 (pc' := if 0 ≤ (q.length : Int) ∧ (q.length : Int) < 64 then 149 else mv_bad) (ls' := [mv_R 19, mv_I (p : Int), mv_R 36, mv_R 37, mv_I (mv_w (((q.length + 1 + 1 : Nat) : Int) + (-1))), mv_I (i : Int), mv_I s]) (st' := [mv_I (M 37 q.length), mv_I s, mv_I (q.length : Int), mv_R 37]) (M1 := M) rfl ?_
          refine mv_tt' (by omega) ?_
          rw [show M 37 q.length = a from by exact hs.2.1]
          refine mv_go' 2 (pc' := 152) (ls' := [mv_R 19, mv_I (p : Int), mv_R 36, mv_R 37, mv_I (mv_w (((q.length + 1 + 1 : Nat) : Int) + (-1))), mv_I (i : Int), mv_I s]) (st' := [mv_I (mv_w (((q.length + 1 + 1 : Nat) : Int) + (-1))), mv_R 37, mv_I a, mv_I s, mv_I (q.length : Int), mv_R 37]) (M1 := M) rfl ?_
          rw [show mv_w (((q.length + 1 + 1 : Nat) : Int) + (-1)) = ((q.length + 1 : Nat) : Int) from by (rw [show mv_w (((q.length + 1 + 1 : Nat) : Int) + (-1)) = ((q.length + 1 + 1 : Nat) : Int) + (-1) from mv_w_id (by omega) (by omega)]) <;> omega]
          refine mv_go' 1 (pc' := if 0 ≤ ((q.length + 1 : Nat) : Int) ∧ ((q.length + 1 : Nat) : Int) < 64 then 153 else mv_bad) (ls' := [mv_R 19, mv_I (p : Int), mv_R 36, mv_R 37, mv_I ((q.length + 1 : Nat) : Int), mv_I (i : Int), mv_I s]) (st' := [mv_I (M 37 (q.length + 1)), mv_I a, mv_I s, mv_I (q.length : Int), mv_R 37]) (M1 := M) rfl ?_
          refine mv_tt' (by omega) ?_
          rw [show M 37 (q.length + 1) = b from by exact hs.1]
          refine mv_callP (st2 := [mv_I (sp_bi s a b), mv_I (q.length : Int), mv_R 37]) rfl (Or.inr rfl) rfl rfl rfl (sp_ofTwo (by omega) (by omega)) (by first | decide | omega) ?_
          refine mv_go' 1 (pc' := if 0 ≤ (q.length : Int) ∧ (q.length : Int) < 64 then 157 else mv_bad) (ls' := [mv_R 19, mv_I (p : Int), mv_R 36, mv_R 37, mv_I ((q.length + 1 : Nat) : Int), mv_I (i : Int), mv_I s]) (st' := []) (M1 := (mv_st M 37 (mv_up (M 37) q.length (sp_bi s a b)))) rfl ?_
          refine mv_tt' (by omega) ?_
          refine mv_go' 2 (pc' := 21) (ls' := [mv_R 19, mv_I (p : Int), mv_R 36, mv_R 37, mv_I ((q.length + 1 : Nat) : Int), mv_I (mv_w ((i : Int) + 1)), mv_I s]) (st' := []) (M1 := (mv_st M 37 (mv_up (M 37) q.length (sp_bi s a b)))) rfl ?_
          rw [show mv_w ((i : Int) + 1) = (i : Int) + 1 from mv_w_id (by omega) (by omega)]
          rw [show (i : Int) + 1 = ((i + 1 : Nat) : Int) from by omega]
          simp only [sp_run, if_neg c0, if_neg c1, if_neg c3]
          exact (ih (sp_bi s a b :: q) (q.length + 1) (i + 1) (mv_st M 37 (mv_up (M 37) q.length (sp_bi s a b))) (mv_I s) rfl hw.2 (by omega) hat.2 (by omega) (by rw [show i + 1 + r.length = i + (r.length + 1) from by omega]; exact he) (sp_stk_ps hs.2.2 rfl)).imp (fun M2 h2 => mv_ag.tr (mv_ag.st mv_ag.rf (by decide)) h2)
      · have c3 : 20007 ≤ s := by omega
        rw [if_pos c3] at hw
        match st, hl, hs with
        | [], hl, hs => simp only [List.length_nil] at hl; omega
        | a :: q, hl, hs =>
          simp only [List.length_cons] at hl
          subst hl
          refine mv_go' 3 (pc' := if ((q.length + 1 : Nat) : Int) < 1 then 103 else 105) (ls' := [mv_R 19, mv_I (p : Int), mv_R 36, mv_R 37, mv_I ((q.length + 1 : Nat) : Int), mv_I (i : Int), mv_I s]) (st' := []) (M1 := M) rfl ?_
          refine mv_ff' (by omega) ?_
          refine mv_go' 9 (pc' := 117) (ls' := [mv_R 19, mv_I (p : Int), mv_R 36, mv_R 37, mv_I ((q.length + 1 : Nat) : Int), mv_I (i : Int), mv_I s]) (st' := [mv_I (mv_w (((q.length + 1 : Nat) : Int) - 1)), mv_R 37, mv_I s, mv_I (mv_w (((q.length + 1 : Nat) : Int) - 1)), mv_R 37]) (M1 := M) rfl ?_
          rw [show mv_w (((q.length + 1 : Nat) : Int) - 1) = (q.length : Int) from by (rw [show mv_w (((q.length + 1 : Nat) : Int) - 1) = ((q.length + 1 : Nat) : Int) - 1 from mv_w_id (by omega) (by omega)]) <;> omega]
          refine mv_go' 1 (pc' := if 0 ≤ (q.length : Int) ∧ (q.length : Int) < 64 then 118 else mv_bad) (ls' := [mv_R 19, mv_I (p : Int), mv_R 36, mv_R 37, mv_I ((q.length + 1 : Nat) : Int), mv_I (i : Int), mv_I s]) (st' := [mv_I (M 37 q.length), mv_I s, mv_I (q.length : Int), mv_R 37]) (M1 := M) rfl ?_
          refine mv_tt' (by omega) ?_
          rw [show M 37 q.length = a from by exact hs.1]
          refine mv_callP (st2 := [mv_I (sp_un s a), mv_I (q.length : Int), mv_R 37]) rfl (Or.inr rfl) rfl rfl rfl (sp_ofOne) (by first | decide | omega) ?_
          refine mv_go' 1 (pc' := if 0 ≤ (q.length : Int) ∧ (q.length : Int) < 64 then 122 else mv_bad) (ls' := [mv_R 19, mv_I (p : Int), mv_R 36, mv_R 37, mv_I ((q.length + 1 : Nat) : Int), mv_I (i : Int), mv_I s]) (st' := []) (M1 := (mv_st M 37 (mv_up (M 37) q.length (sp_un s a)))) rfl ?_
          refine mv_tt' (by omega) ?_
          refine mv_go' 3 (pc' := 21) (ls' := [mv_R 19, mv_I (p : Int), mv_R 36, mv_R 37, mv_I ((q.length + 1 : Nat) : Int), mv_I (mv_w ((i : Int) + 1)), mv_I s]) (st' := []) (M1 := (mv_st M 37 (mv_up (M 37) q.length (sp_un s a)))) rfl ?_
          rw [show mv_w ((i : Int) + 1) = (i : Int) + 1 from mv_w_id (by omega) (by omega)]
          rw [show (i : Int) + 1 = ((i + 1 : Nat) : Int) from by omega]
          simp only [sp_run, if_neg c0, if_neg c1, if_pos c3]
          exact (ih (sp_un s a :: q) (q.length + 1) (i + 1) (mv_st M 37 (mv_up (M 37) q.length (sp_un s a))) (mv_I s) rfl hw.2 (by omega) hat.2 (by omega) (by rw [show i + 1 + r.length = i + (r.length + 1) from by omega]; exact he) (sp_stk_ps hs.2 rfl)).imp (fun M2 h2 => mv_ag.tr (mv_ag.st mv_ag.rf (by decide)) h2)
theorem sp_val0_19_36 {M : mv_M} {code : List Int} (hw : sp_wf code 0) (hat : sp_at (M 20) 0 code) (hlen : code.length ≤ 160) (he : M 21 0 = ((code.length : Nat) : Int)) :
    mv_Ru 1 3 0 [mv_R 19, mv_I 0, mv_R 36, mv_R 37, mv_U, mv_U, mv_U] [] M (mv_I (sp_top (sp_run (M 36) code []))) (fun M1 => mv_ag [37] M M1) := by
  refine mv_go' 4 (pc' := if 0 = 0 then 7 else 11) (ls' := [mv_R 19, mv_I 0, mv_R 36, mv_R 37, mv_I 0, mv_U, mv_U]) (st' := []) (M1 := M) rfl ?_
  refine mv_tt' (rfl) ?_
  refine mv_go' 3 (pc' := 21) (ls' := [mv_R 19, mv_I 0, mv_R 36, mv_R 37, mv_I 0, mv_I 0, mv_U]) (st' := []) (M1 := M) rfl ?_
  exact sp_val_lp_19_36 (p := 0) (by decide) code [] 0 0 M mv_U rfl hw (by decide) hat (by omega) (by rw [he]; simp) trivial
theorem sp_valS_19_36 {M : mv_M} {code : List Int} {q i : Nat} (hq : q < 2) (hw : sp_wf code 0) (hi : M 21 q = (i : Int)) (hat : sp_at (M 20) i code) (hlen : i + code.length ≤ 160) (he : M 21 (q + 1) = ((i + code.length : Nat) : Int)) :
    mv_Ru 1 3 0 [mv_R 19, mv_I ((q + 1 : Nat) : Int), mv_R 36, mv_R 37, mv_U, mv_U, mv_U] [] M (mv_I (sp_top (sp_run (M 36) code []))) (fun M1 => mv_ag [37] M M1) := by
  refine mv_go' 4 (pc' := if ((q + 1 : Nat) : Int) = 0 then 7 else 11) (ls' := [mv_R 19, mv_I ((q + 1 : Nat) : Int), mv_R 36, mv_R 37, mv_I 0, mv_U, mv_U]) (st' := []) (M1 := M) rfl ?_
  refine mv_ff' (by omega) ?_
  refine mv_go' 5 (pc' := 18) (ls' := [mv_R 19, mv_I ((q + 1 : Nat) : Int), mv_R 36, mv_R 37, mv_I 0, mv_U, mv_U]) (st' := [mv_I (mv_w (((q + 1 : Nat) : Int) - 1)), mv_R 21]) (M1 := M) rfl ?_
  rw [show mv_w (((q + 1 : Nat) : Int) - 1) = (q : Int) from by (rw [show mv_w (((q + 1 : Nat) : Int) - 1) = ((q + 1 : Nat) : Int) - 1 from mv_w_id (by omega) (by omega)]) <;> omega]
  refine mv_go' 1 (pc' := if 0 ≤ (q : Int) ∧ (q : Int) < 3 then 19 else mv_bad) (ls' := [mv_R 19, mv_I ((q + 1 : Nat) : Int), mv_R 36, mv_R 37, mv_I 0, mv_U, mv_U]) (st' := [mv_I (M 21 q)]) (M1 := M) rfl ?_
  refine mv_tt' (by omega) ?_
  rw [show M 21 q = (i : Int) from by exact hi]
  refine mv_go' 1 (pc' := 21) (ls' := [mv_R 19, mv_I ((q + 1 : Nat) : Int), mv_R 36, mv_R 37, mv_I 0, mv_I (i : Int), mv_U]) (st' := []) (M1 := M) rfl ?_
  exact sp_val_lp_19_36 (p := q + 1) (by omega) code [] 0 i M mv_U rfl hw (by decide) hat hlen he trivial
theorem sp_value_19_36 {M : mv_M} {P : Nat → List Int} {p : Nat} (hp : p < 3) (hP : sp_ct 19 M P) :
    mv_Ru 1 3 0 [mv_R 19, mv_I (p : Int), mv_R 36, mv_R 37, mv_U, mv_U, mv_U] [] M (mv_I (sp_top (sp_run (M 36) (P p) []))) (fun M1 => mv_ag [37] M M1) := by
  obtain ⟨⟨e0, e1, e2⟩, ⟨a0, a1, a2⟩, ⟨w0, w1, w2⟩, hlen⟩ := hP
  match p, hp with
  | 0, _ => exact sp_val0_19_36 w0 a0 (by omega) e0
  | 1, _ => exact sp_valS_19_36 (q := 0) (by decide) w1 e0 a1 (by omega) e1
  | 2, _ => exact sp_valS_19_36 (q := 1) (by decide) w2 e1 a2 (by omega) e2
theorem sp_val_lp_22_36 {p : Nat} (hp : p < 3) : ∀ (code st : List Int) (h i : Nat) (M : mv_M) (l6 : mv_V), st.length = h → sp_wf code h → h ≤ 64 → sp_at (M 23) i code → i + code.length ≤ 160 → M 24 p = ((i + code.length : Nat) : Int) → sp_stk (M 37) st →
    mv_Ru 1 3 21 [mv_R 22, mv_I (p : Int), mv_R 36, mv_R 37, mv_I (h : Int), mv_I (i : Int), l6] [] M (mv_I (sp_top (sp_run (M 36) code st))) (fun M1 => mv_ag [37] M M1) := by
  intro code
  induction code with
  | nil =>
    intro st h i M l6 hl hw h64 hat hlen he hs
    match st, hl, hs with
    | [], hl, hs => simp only [sp_wf, List.length_nil] at hw hl; omega
    | _ :: _ :: _, hl, hs => simp only [sp_wf, List.length_cons] at hw hl; omega
    | [a], hl, hs =>
      refine mv_go' 5 (pc' := if 0 ≤ (p : Int) ∧ (p : Int) < 3 then 29 else mv_bad) (ls' := [mv_R 22, mv_I (p : Int), mv_R 36, mv_R 37, mv_I (h : Int), mv_I (i : Int), l6]) (st' := [mv_I (M 24 p), mv_I (i : Int)]) (M1 := M) rfl ?_
      refine mv_tt' (by omega) ?_
      rw [show M 24 p = (i : Int) from by rw [he]; rfl]
      refine mv_go' 1 (pc' := if (i : Int) < (i : Int) then 32 else 163) (ls' := [mv_R 22, mv_I (p : Int), mv_R 36, mv_R 37, mv_I (h : Int), mv_I (i : Int), l6]) (st' := []) (M1 := M) rfl ?_
      refine mv_ff' (by omega) ?_
      refine mv_go' 3 (pc' := if 0 ≤ 0 ∧ 0 < 64 then 166 else mv_bad) (ls' := [mv_R 22, mv_I (p : Int), mv_R 36, mv_R 37, mv_I (h : Int), mv_I (i : Int), l6]) (st' := [mv_I (M 37 0)]) (M1 := M) rfl ?_
      refine mv_tt' (by omega) ?_
      rw [show M 37 0 = a from by exact hs.1]
      exact mv_ret (fun n => rfl) (mv_ag.rf)
  | cons s r ih =>
    intro st h i M l6 hl hw h64 hat hlen he hs
    simp only [List.length_cons] at hlen he
    obtain ⟨⟨hs0, hs1⟩, hw⟩ := hw
    refine mv_go' 5 (pc' := if 0 ≤ (p : Int) ∧ (p : Int) < 3 then 29 else mv_bad) (ls' := [mv_R 22, mv_I (p : Int), mv_R 36, mv_R 37, mv_I (h : Int), mv_I (i : Int), l6]) (st' := [mv_I (M 24 p), mv_I (i : Int)]) (M1 := M) rfl ?_
    refine mv_tt' (by omega) ?_
    rw [show M 24 p = ((i + (r.length + 1) : Nat) : Int) from by exact he]
    refine mv_go' 1 (pc' := if (i : Int) < ((i + (r.length + 1) : Nat) : Int) then 32 else 163) (ls' := [mv_R 22, mv_I (p : Int), mv_R 36, mv_R 37, mv_I (h : Int), mv_I (i : Int), l6]) (st' := []) (M1 := M) rfl ?_
    refine mv_tt' (by omega) ?_
    refine mv_go' 4 (pc' := if 0 ≤ (i : Int) ∧ (i : Int) < 160 then 39 else mv_bad) (ls' := [mv_R 22, mv_I (p : Int), mv_R 36, mv_R 37, mv_I (h : Int), mv_I (i : Int), l6]) (st' := [mv_I (M 23 i)]) (M1 := M) rfl ?_
    refine mv_tt' (by omega) ?_
    rw [show M 23 i = s from by exact hat.1]
    refine mv_go' 4 (pc' := if s < 20000 then 49 else 89) (ls' := [mv_R 22, mv_I (p : Int), mv_R 36, mv_R 37, mv_I (h : Int), mv_I (i : Int), mv_I s]) (st' := []) (M1 := M) rfl ?_
    refine mv_sp' (fun c1 => ?_) (fun c1 => ?_)
    · rw [if_pos c1] at hw
      refine mv_go' 3 (pc' := if (h : Int) < 64 then 58 else 56) (ls' := [mv_R 22, mv_I (p : Int), mv_R 36, mv_R 37, mv_I (h : Int), mv_I (i : Int), mv_I s]) (st' := []) (M1 := M) rfl ?_
      refine mv_tt' (by omega) ?_
      refine mv_go' 5 (pc' := if s < 10000 then 69 else 74) (ls' := [mv_R 22, mv_I (p : Int), mv_R 36, mv_R 37, mv_I (h : Int), mv_I (i : Int), mv_I s]) (st' := [mv_I (h : Int), mv_R 37]) (M1 := M) rfl ?_
      refine mv_sp' (fun c0 => ?_) (fun c0 => ?_)
      · refine mv_go' 3 (pc' := if 0 ≤ (h : Int) ∧ (h : Int) < 64 then 83 else mv_bad) (ls' := [mv_R 22, mv_I (p : Int), mv_R 36, mv_R 37, mv_I (h : Int), mv_I (i : Int), mv_I s]) (st' := []) (M1 := (mv_st M 37 (mv_up (M 37) h s))) rfl ?_
        refine mv_tt' (by omega) ?_
        refine mv_go' 4 (pc' := 21) (ls' := [mv_R 22, mv_I (p : Int), mv_R 36, mv_R 37, mv_I (mv_w ((h : Int) + 1)), mv_I (mv_w ((i : Int) + 1)), mv_I s]) (st' := []) (M1 := (mv_st M 37 (mv_up (M 37) h s))) rfl ?_
        rw [show mv_w ((h : Int) + 1) = (h : Int) + 1 from mv_w_id (by omega) (by omega)]
        rw [show mv_w ((i : Int) + 1) = (i : Int) + 1 from mv_w_id (by omega) (by omega)]
        rw [show (h : Int) + 1 = ((h + 1 : Nat) : Int) from by omega]
        rw [show (i : Int) + 1 = ((i + 1 : Nat) : Int) from by omega]
        simp only [sp_run, if_pos c0]
        exact (ih (s :: st) (h + 1) (i + 1) (mv_st M 37 (mv_up (M 37) h s)) (mv_I s) (by simp only [List.length_cons]; omega) hw.2.2 (by omega) hat.2 (by omega) (by rw [show i + 1 + r.length = i + (r.length + 1) from by omega]; exact he) (sp_stk_ps hs hl)).imp (fun M2 h2 => mv_ag.tr (mv_ag.st mv_ag.rf (by decide)) h2)
      · refine mv_go' 4 (pc' := 81) (ls' := [mv_R 22, mv_I (p : Int), mv_R 36, mv_R 37, mv_I (h : Int), mv_I (i : Int), mv_I s]) (st' := [mv_I (mv_w (s - 10000)), mv_R 36, mv_I (h : Int), mv_R 37]) (M1 := M) rfl ?_
        rw [show mv_w (s - 10000) = s - 10000 from by unfold mv_w; omega]
        refine mv_go' 1 (pc' := if 0 ≤ (s - 10000) ∧ (s - 10000) < 6 then 82 else mv_bad) (ls' := [mv_R 22, mv_I (p : Int), mv_R 36, mv_R 37, mv_I (h : Int), mv_I (i : Int), mv_I s]) (st' := [mv_I (M 36 ((s - 10000).toNat)), mv_I (h : Int), mv_R 37]) (M1 := M) rfl ?_
        refine mv_tt' (by omega) ?_
        refine mv_go' 1 (pc' := if 0 ≤ (h : Int) ∧ (h : Int) < 64 then 83 else mv_bad) (ls' := [mv_R 22, mv_I (p : Int), mv_R 36, mv_R 37, mv_I (h : Int), mv_I (i : Int), mv_I s]) (st' := []) (M1 := (mv_st M 37 (mv_up (M 37) h (M 36 ((s - 10000).toNat))))) rfl ?_
        refine mv_tt' (by omega) ?_
        refine mv_go' 4 (pc' := 21) (ls' := [mv_R 22, mv_I (p : Int), mv_R 36, mv_R 37, mv_I (mv_w ((h : Int) + 1)), mv_I (mv_w ((i : Int) + 1)), mv_I s]) (st' := []) (M1 := (mv_st M 37 (mv_up (M 37) h (M 36 ((s - 10000).toNat))))) rfl ?_
        rw [show mv_w ((h : Int) + 1) = (h : Int) + 1 from mv_w_id (by omega) (by omega)]
        rw [show mv_w ((i : Int) + 1) = (i : Int) + 1 from mv_w_id (by omega) (by omega)]
        rw [show (h : Int) + 1 = ((h + 1 : Nat) : Int) from by omega]
        rw [show (i : Int) + 1 = ((i + 1 : Nat) : Int) from by omega]
        simp only [sp_run, if_neg c0, if_pos c1]
        exact (ih (M 36 (s - 10000).toNat :: st) (h + 1) (i + 1) (mv_st M 37 (mv_up (M 37) h (M 36 (s - 10000).toNat))) (mv_I s) (by simp only [List.length_cons]; omega) hw.2.2 (by omega) hat.2 (by omega) (by rw [show i + 1 + r.length = i + (r.length + 1) from by omega]; exact he) (sp_stk_ps hs hl)).imp (fun M2 h2 => mv_ag.tr (mv_ag.st mv_ag.rf (by decide)) h2)
    · rw [if_neg c1] at hw
      have c0 : ¬ s < 10000 := by omega
      refine mv_go' 3 (pc' := if s < 20007 then 125 else 97) (ls' := [mv_R 22, mv_I (p : Int), mv_R 36, mv_R 37, mv_I (h : Int), mv_I (i : Int), mv_I s]) (st' := []) (M1 := M) rfl ?_
      refine mv_sp' (fun c2 => ?_) (fun c2 => ?_)
      · have c3 : ¬ 20007 ≤ s := by omega
        rw [if_neg c3] at hw
        match st, hl, hs with
        | [], hl, hs => simp only [List.length_nil] at hl; omega
        | [_], hl, hs => simp only [List.length_cons, List.length_nil] at hl; omega
        | b :: a :: q, hl, hs =>
          simp only [List.length_cons] at hl
          subst hl
          refine mv_go' 3 (pc' := if ((q.length + 1 + 1 : Nat) : Int) < 2 then 131 else 133) (ls' := [mv_R 22, mv_I (p : Int), mv_R 36, mv_R 37, mv_I ((q.length + 1 + 1 : Nat) : Int), mv_I (i : Int), mv_I s]) (st' := []) (M1 := M) rfl ?_
          refine mv_ff' (by omega) ?_
          refine mv_go' 10 (pc' := 148) (ls' := [mv_R 22, mv_I (p : Int), mv_R 36, mv_R 37, mv_I (mv_w (((q.length + 1 + 1 : Nat) : Int) + (-1))), mv_I (i : Int), mv_I s]) (st' := [mv_I (mv_w ((mv_w (((q.length + 1 + 1 : Nat) : Int) + (-1))) - 1)), mv_R 37, mv_I s, mv_I (mv_w ((mv_w (((q.length + 1 + 1 : Nat) : Int) + (-1))) - 1)), mv_R 37]) (M1 := M) rfl ?_
          rw [show mv_w ((mv_w (((q.length + 1 + 1 : Nat) : Int) + (-1))) - 1) = (q.length : Int) from by (rw [show mv_w (((q.length + 1 + 1 : Nat) : Int) + (-1)) = ((q.length + 1 + 1 : Nat) : Int) + (-1) from mv_w_id (by omega) (by omega), show mv_w ((((q.length + 1 + 1 : Nat) : Int) + (-1)) - 1) = (((q.length + 1 + 1 : Nat) : Int) + (-1)) - 1 from mv_w_id (by omega) (by omega)]) <;> omega]
          refine mv_go' 1 (pc' := if 0 ≤ (q.length : Int) ∧ (q.length : Int) < 64 then 149 else mv_bad) (ls' := [mv_R 22, mv_I (p : Int), mv_R 36, mv_R 37, mv_I (mv_w (((q.length + 1 + 1 : Nat) : Int) + (-1))), mv_I (i : Int), mv_I s]) (st' := [mv_I (M 37 q.length), mv_I s, mv_I (q.length : Int), mv_R 37]) (M1 := M) rfl ?_
          refine mv_tt' (by omega) ?_
          rw [show M 37 q.length = a from by exact hs.2.1]
          refine mv_go' 2 (pc' := 152) (ls' := [mv_R 22, mv_I (p : Int), mv_R 36, mv_R 37, mv_I (mv_w (((q.length + 1 + 1 : Nat) : Int) + (-1))), mv_I (i : Int), mv_I s]) (st' := [mv_I (mv_w (((q.length + 1 + 1 : Nat) : Int) + (-1))), mv_R 37, mv_I a, mv_I s, mv_I (q.length : Int), mv_R 37]) (M1 := M) rfl ?_
          rw [show mv_w (((q.length + 1 + 1 : Nat) : Int) + (-1)) = ((q.length + 1 : Nat) : Int) from by (rw [show mv_w (((q.length + 1 + 1 : Nat) : Int) + (-1)) = ((q.length + 1 + 1 : Nat) : Int) + (-1) from mv_w_id (by omega) (by omega)]) <;> omega]
          refine mv_go' 1 (pc' := if 0 ≤ ((q.length + 1 : Nat) : Int) ∧ ((q.length + 1 : Nat) : Int) < 64 then 153 else mv_bad) (ls' := [mv_R 22, mv_I (p : Int), mv_R 36, mv_R 37, mv_I ((q.length + 1 : Nat) : Int), mv_I (i : Int), mv_I s]) (st' := [mv_I (M 37 (q.length + 1)), mv_I a, mv_I s, mv_I (q.length : Int), mv_R 37]) (M1 := M) rfl ?_
          refine mv_tt' (by omega) ?_
          rw [show M 37 (q.length + 1) = b from by exact hs.1]
          refine mv_callP (st2 := [mv_I (sp_bi s a b), mv_I (q.length : Int), mv_R 37]) rfl (Or.inr rfl) rfl rfl rfl (sp_ofTwo (by omega) (by omega)) (by first | decide | omega) ?_
          refine mv_go' 1 (pc' := if 0 ≤ (q.length : Int) ∧ (q.length : Int) < 64 then 157 else mv_bad) (ls' := [mv_R 22, mv_I (p : Int), mv_R 36, mv_R 37, mv_I ((q.length + 1 : Nat) : Int), mv_I (i : Int), mv_I s]) (st' := []) (M1 := (mv_st M 37 (mv_up (M 37) q.length (sp_bi s a b)))) rfl ?_
          refine mv_tt' (by omega) ?_
          refine mv_go' 2 (pc' := 21) (ls' := [mv_R 22, mv_I (p : Int), mv_R 36, mv_R 37, mv_I ((q.length + 1 : Nat) : Int), mv_I (mv_w ((i : Int) + 1)), mv_I s]) (st' := []) (M1 := (mv_st M 37 (mv_up (M 37) q.length (sp_bi s a b)))) rfl ?_
          rw [show mv_w ((i : Int) + 1) = (i : Int) + 1 from mv_w_id (by omega) (by omega)]
          rw [show (i : Int) + 1 = ((i + 1 : Nat) : Int) from by omega]
          simp only [sp_run, if_neg c0, if_neg c1, if_neg c3]
          exact (ih (sp_bi s a b :: q) (q.length + 1) (i + 1) (mv_st M 37 (mv_up (M 37) q.length (sp_bi s a b))) (mv_I s) rfl hw.2 (by omega) hat.2 (by omega) (by rw [show i + 1 + r.length = i + (r.length + 1) from by omega]; exact he) (sp_stk_ps hs.2.2 rfl)).imp (fun M2 h2 => mv_ag.tr (mv_ag.st mv_ag.rf (by decide)) h2)
      · have c3 : 20007 ≤ s := by omega
        rw [if_pos c3] at hw
        match st, hl, hs with
        | [], hl, hs => simp only [List.length_nil] at hl; omega
        | a :: q, hl, hs =>
          simp only [List.length_cons] at hl
          subst hl
          refine mv_go' 3 (pc' := if ((q.length + 1 : Nat) : Int) < 1 then 103 else 105) (ls' := [mv_R 22, mv_I (p : Int), mv_R 36, mv_R 37, mv_I ((q.length + 1 : Nat) : Int), mv_I (i : Int), mv_I s]) (st' := []) (M1 := M) rfl ?_
          refine mv_ff' (by omega) ?_
          refine mv_go' 9 (pc' := 117) (ls' := [mv_R 22, mv_I (p : Int), mv_R 36, mv_R 37, mv_I ((q.length + 1 : Nat) : Int), mv_I (i : Int), mv_I s]) (st' := [mv_I (mv_w (((q.length + 1 : Nat) : Int) - 1)), mv_R 37, mv_I s, mv_I (mv_w (((q.length + 1 : Nat) : Int) - 1)), mv_R 37]) (M1 := M) rfl ?_
          rw [show mv_w (((q.length + 1 : Nat) : Int) - 1) = (q.length : Int) from by (rw [show mv_w (((q.length + 1 : Nat) : Int) - 1) = ((q.length + 1 : Nat) : Int) - 1 from mv_w_id (by omega) (by omega)]) <;> omega]
          refine mv_go' 1 (pc' := if 0 ≤ (q.length : Int) ∧ (q.length : Int) < 64 then 118 else mv_bad) (ls' := [mv_R 22, mv_I (p : Int), mv_R 36, mv_R 37, mv_I ((q.length + 1 : Nat) : Int), mv_I (i : Int), mv_I s]) (st' := [mv_I (M 37 q.length), mv_I s, mv_I (q.length : Int), mv_R 37]) (M1 := M) rfl ?_
          refine mv_tt' (by omega) ?_
          rw [show M 37 q.length = a from by exact hs.1]
          refine mv_callP (st2 := [mv_I (sp_un s a), mv_I (q.length : Int), mv_R 37]) rfl (Or.inr rfl) rfl rfl rfl (sp_ofOne) (by first | decide | omega) ?_
          refine mv_go' 1 (pc' := if 0 ≤ (q.length : Int) ∧ (q.length : Int) < 64 then 122 else mv_bad) (ls' := [mv_R 22, mv_I (p : Int), mv_R 36, mv_R 37, mv_I ((q.length + 1 : Nat) : Int), mv_I (i : Int), mv_I s]) (st' := []) (M1 := (mv_st M 37 (mv_up (M 37) q.length (sp_un s a)))) rfl ?_
          refine mv_tt' (by omega) ?_
          refine mv_go' 3 (pc' := 21) (ls' := [mv_R 22, mv_I (p : Int), mv_R 36, mv_R 37, mv_I ((q.length + 1 : Nat) : Int), mv_I (mv_w ((i : Int) + 1)), mv_I s]) (st' := []) (M1 := (mv_st M 37 (mv_up (M 37) q.length (sp_un s a)))) rfl ?_
          rw [show mv_w ((i : Int) + 1) = (i : Int) + 1 from mv_w_id (by omega) (by omega)]
          rw [show (i : Int) + 1 = ((i + 1 : Nat) : Int) from by omega]
          simp only [sp_run, if_neg c0, if_neg c1, if_pos c3]
          exact (ih (sp_un s a :: q) (q.length + 1) (i + 1) (mv_st M 37 (mv_up (M 37) q.length (sp_un s a))) (mv_I s) rfl hw.2 (by omega) hat.2 (by omega) (by rw [show i + 1 + r.length = i + (r.length + 1) from by omega]; exact he) (sp_stk_ps hs.2 rfl)).imp (fun M2 h2 => mv_ag.tr (mv_ag.st mv_ag.rf (by decide)) h2)
theorem sp_val0_22_36 {M : mv_M} {code : List Int} (hw : sp_wf code 0) (hat : sp_at (M 23) 0 code) (hlen : code.length ≤ 160) (he : M 24 0 = ((code.length : Nat) : Int)) :
    mv_Ru 1 3 0 [mv_R 22, mv_I 0, mv_R 36, mv_R 37, mv_U, mv_U, mv_U] [] M (mv_I (sp_top (sp_run (M 36) code []))) (fun M1 => mv_ag [37] M M1) := by
  refine mv_go' 4 (pc' := if 0 = 0 then 7 else 11) (ls' := [mv_R 22, mv_I 0, mv_R 36, mv_R 37, mv_I 0, mv_U, mv_U]) (st' := []) (M1 := M) rfl ?_
  refine mv_tt' (rfl) ?_
  refine mv_go' 3 (pc' := 21) (ls' := [mv_R 22, mv_I 0, mv_R 36, mv_R 37, mv_I 0, mv_I 0, mv_U]) (st' := []) (M1 := M) rfl ?_
  exact sp_val_lp_22_36 (p := 0) (by decide) code [] 0 0 M mv_U rfl hw (by decide) hat (by omega) (by rw [he]; simp) trivial
theorem sp_valS_22_36 {M : mv_M} {code : List Int} {q i : Nat} (hq : q < 2) (hw : sp_wf code 0) (hi : M 24 q = (i : Int)) (hat : sp_at (M 23) i code) (hlen : i + code.length ≤ 160) (he : M 24 (q + 1) = ((i + code.length : Nat) : Int)) :
    mv_Ru 1 3 0 [mv_R 22, mv_I ((q + 1 : Nat) : Int), mv_R 36, mv_R 37, mv_U, mv_U, mv_U] [] M (mv_I (sp_top (sp_run (M 36) code []))) (fun M1 => mv_ag [37] M M1) := by
  refine mv_go' 4 (pc' := if ((q + 1 : Nat) : Int) = 0 then 7 else 11) (ls' := [mv_R 22, mv_I ((q + 1 : Nat) : Int), mv_R 36, mv_R 37, mv_I 0, mv_U, mv_U]) (st' := []) (M1 := M) rfl ?_
  refine mv_ff' (by omega) ?_
  refine mv_go' 5 (pc' := 18) (ls' := [mv_R 22, mv_I ((q + 1 : Nat) : Int), mv_R 36, mv_R 37, mv_I 0, mv_U, mv_U]) (st' := [mv_I (mv_w (((q + 1 : Nat) : Int) - 1)), mv_R 24]) (M1 := M) rfl ?_
  rw [show mv_w (((q + 1 : Nat) : Int) - 1) = (q : Int) from by (rw [show mv_w (((q + 1 : Nat) : Int) - 1) = ((q + 1 : Nat) : Int) - 1 from mv_w_id (by omega) (by omega)]) <;> omega]
  refine mv_go' 1 (pc' := if 0 ≤ (q : Int) ∧ (q : Int) < 3 then 19 else mv_bad) (ls' := [mv_R 22, mv_I ((q + 1 : Nat) : Int), mv_R 36, mv_R 37, mv_I 0, mv_U, mv_U]) (st' := [mv_I (M 24 q)]) (M1 := M) rfl ?_
  refine mv_tt' (by omega) ?_
  rw [show M 24 q = (i : Int) from by exact hi]
  refine mv_go' 1 (pc' := 21) (ls' := [mv_R 22, mv_I ((q + 1 : Nat) : Int), mv_R 36, mv_R 37, mv_I 0, mv_I (i : Int), mv_U]) (st' := []) (M1 := M) rfl ?_
  exact sp_val_lp_22_36 (p := q + 1) (by omega) code [] 0 i M mv_U rfl hw (by decide) hat hlen he trivial
theorem sp_value_22_36 {M : mv_M} {P : Nat → List Int} {p : Nat} (hp : p < 3) (hP : sp_ct 22 M P) :
    mv_Ru 1 3 0 [mv_R 22, mv_I (p : Int), mv_R 36, mv_R 37, mv_U, mv_U, mv_U] [] M (mv_I (sp_top (sp_run (M 36) (P p) []))) (fun M1 => mv_ag [37] M M1) := by
  obtain ⟨⟨e0, e1, e2⟩, ⟨a0, a1, a2⟩, ⟨w0, w1, w2⟩, hlen⟩ := hP
  match p, hp with
  | 0, _ => exact sp_val0_22_36 w0 a0 (by omega) e0
  | 1, _ => exact sp_valS_22_36 (q := 0) (by decide) w1 e0 a1 (by omega) e1
  | 2, _ => exact sp_valS_22_36 (q := 1) (by decide) w2 e1 a2 (by omega) e2
theorem sp_val_lp_25_36 {p : Nat} (hp : p < 3) : ∀ (code st : List Int) (h i : Nat) (M : mv_M) (l6 : mv_V), st.length = h → sp_wf code h → h ≤ 64 → sp_at (M 26) i code → i + code.length ≤ 160 → M 27 p = ((i + code.length : Nat) : Int) → sp_stk (M 37) st →
    mv_Ru 1 3 21 [mv_R 25, mv_I (p : Int), mv_R 36, mv_R 37, mv_I (h : Int), mv_I (i : Int), l6] [] M (mv_I (sp_top (sp_run (M 36) code st))) (fun M1 => mv_ag [37] M M1) := by
  intro code
  induction code with
  | nil =>
    intro st h i M l6 hl hw h64 hat hlen he hs
    match st, hl, hs with
    | [], hl, hs => simp only [sp_wf, List.length_nil] at hw hl; omega
    | _ :: _ :: _, hl, hs => simp only [sp_wf, List.length_cons] at hw hl; omega
    | [a], hl, hs =>
      refine mv_go' 5 (pc' := if 0 ≤ (p : Int) ∧ (p : Int) < 3 then 29 else mv_bad) (ls' := [mv_R 25, mv_I (p : Int), mv_R 36, mv_R 37, mv_I (h : Int), mv_I (i : Int), l6]) (st' := [mv_I (M 27 p), mv_I (i : Int)]) (M1 := M) rfl ?_
      refine mv_tt' (by omega) ?_
      rw [show M 27 p = (i : Int) from by rw [he]; rfl]
      refine mv_go' 1 (pc' := if (i : Int) < (i : Int) then 32 else 163) (ls' := [mv_R 25, mv_I (p : Int), mv_R 36, mv_R 37, mv_I (h : Int), mv_I (i : Int), l6]) (st' := []) (M1 := M) rfl ?_
      refine mv_ff' (by omega) ?_
      refine mv_go' 3 (pc' := if 0 ≤ 0 ∧ 0 < 64 then 166 else mv_bad) (ls' := [mv_R 25, mv_I (p : Int), mv_R 36, mv_R 37, mv_I (h : Int), mv_I (i : Int), l6]) (st' := [mv_I (M 37 0)]) (M1 := M) rfl ?_
      refine mv_tt' (by omega) ?_
      rw [show M 37 0 = a from by exact hs.1]
      exact mv_ret (fun n => rfl) (mv_ag.rf)
  | cons s r ih =>
    intro st h i M l6 hl hw h64 hat hlen he hs
    simp only [List.length_cons] at hlen he
    obtain ⟨⟨hs0, hs1⟩, hw⟩ := hw
    refine mv_go' 5 (pc' := if 0 ≤ (p : Int) ∧ (p : Int) < 3 then 29 else mv_bad) (ls' := [mv_R 25, mv_I (p : Int), mv_R 36, mv_R 37, mv_I (h : Int), mv_I (i : Int), l6]) (st' := [mv_I (M 27 p), mv_I (i : Int)]) (M1 := M) rfl ?_
    refine mv_tt' (by omega) ?_
    rw [show M 27 p = ((i + (r.length + 1) : Nat) : Int) from by exact he]
    refine mv_go' 1 (pc' := if (i : Int) < ((i + (r.length + 1) : Nat) : Int) then 32 else 163) (ls' := [mv_R 25, mv_I (p : Int), mv_R 36, mv_R 37, mv_I (h : Int), mv_I (i : Int), l6]) (st' := []) (M1 := M) rfl ?_
    refine mv_tt' (by omega) ?_
    refine mv_go' 4 (pc' := if 0 ≤ (i : Int) ∧ (i : Int) < 160 then 39 else mv_bad) (ls' := [mv_R 25, mv_I (p : Int), mv_R 36, mv_R 37, mv_I (h : Int), mv_I (i : Int), l6]) (st' := [mv_I (M 26 i)]) (M1 := M) rfl ?_
    refine mv_tt' (by omega) ?_
    rw [show M 26 i = s from by exact hat.1]
    refine mv_go' 4 (pc' := if s < 20000 then 49 else 89) (ls' := [mv_R 25, mv_I (p : Int), mv_R 36, mv_R 37, mv_I (h : Int), mv_I (i : Int), mv_I s]) (st' := []) (M1 := M) rfl ?_
    refine mv_sp' (fun c1 => ?_) (fun c1 => ?_)
    · rw [if_pos c1] at hw
      refine mv_go' 3 (pc' := if (h : Int) < 64 then 58 else 56) (ls' := [mv_R 25, mv_I (p : Int), mv_R 36, mv_R 37, mv_I (h : Int), mv_I (i : Int), mv_I s]) (st' := []) (M1 := M) rfl ?_
      refine mv_tt' (by omega) ?_
      refine mv_go' 5 (pc' := if s < 10000 then 69 else 74) (ls' := [mv_R 25, mv_I (p : Int), mv_R 36, mv_R 37, mv_I (h : Int), mv_I (i : Int), mv_I s]) (st' := [mv_I (h : Int), mv_R 37]) (M1 := M) rfl ?_
      refine mv_sp' (fun c0 => ?_) (fun c0 => ?_)
      · refine mv_go' 3 (pc' := if 0 ≤ (h : Int) ∧ (h : Int) < 64 then 83 else mv_bad) (ls' := [mv_R 25, mv_I (p : Int), mv_R 36, mv_R 37, mv_I (h : Int), mv_I (i : Int), mv_I s]) (st' := []) (M1 := (mv_st M 37 (mv_up (M 37) h s))) rfl ?_
        refine mv_tt' (by omega) ?_
        refine mv_go' 4 (pc' := 21) (ls' := [mv_R 25, mv_I (p : Int), mv_R 36, mv_R 37, mv_I (mv_w ((h : Int) + 1)), mv_I (mv_w ((i : Int) + 1)), mv_I s]) (st' := []) (M1 := (mv_st M 37 (mv_up (M 37) h s))) rfl ?_
        rw [show mv_w ((h : Int) + 1) = (h : Int) + 1 from mv_w_id (by omega) (by omega)]
        rw [show mv_w ((i : Int) + 1) = (i : Int) + 1 from mv_w_id (by omega) (by omega)]
        rw [show (h : Int) + 1 = ((h + 1 : Nat) : Int) from by omega]
        rw [show (i : Int) + 1 = ((i + 1 : Nat) : Int) from by omega]
        simp only [sp_run, if_pos c0]
        exact (ih (s :: st) (h + 1) (i + 1) (mv_st M 37 (mv_up (M 37) h s)) (mv_I s) (by simp only [List.length_cons]; omega) hw.2.2 (by omega) hat.2 (by omega) (by rw [show i + 1 + r.length = i + (r.length + 1) from by omega]; exact he) (sp_stk_ps hs hl)).imp (fun M2 h2 => mv_ag.tr (mv_ag.st mv_ag.rf (by decide)) h2)
      · refine mv_go' 4 (pc' := 81) (ls' := [mv_R 25, mv_I (p : Int), mv_R 36, mv_R 37, mv_I (h : Int), mv_I (i : Int), mv_I s]) (st' := [mv_I (mv_w (s - 10000)), mv_R 36, mv_I (h : Int), mv_R 37]) (M1 := M) rfl ?_
        rw [show mv_w (s - 10000) = s - 10000 from by unfold mv_w; omega]
        refine mv_go' 1 (pc' := if 0 ≤ (s - 10000) ∧ (s - 10000) < 6 then 82 else mv_bad) (ls' := [mv_R 25, mv_I (p : Int), mv_R 36, mv_R 37, mv_I (h : Int), mv_I (i : Int), mv_I s]) (st' := [mv_I (M 36 ((s - 10000).toNat)), mv_I (h : Int), mv_R 37]) (M1 := M) rfl ?_
        refine mv_tt' (by omega) ?_
        refine mv_go' 1 (pc' := if 0 ≤ (h : Int) ∧ (h : Int) < 64 then 83 else mv_bad) (ls' := [mv_R 25, mv_I (p : Int), mv_R 36, mv_R 37, mv_I (h : Int), mv_I (i : Int), mv_I s]) (st' := []) (M1 := (mv_st M 37 (mv_up (M 37) h (M 36 ((s - 10000).toNat))))) rfl ?_
        refine mv_tt' (by omega) ?_
        refine mv_go' 4 (pc' := 21) (ls' := [mv_R 25, mv_I (p : Int), mv_R 36, mv_R 37, mv_I (mv_w ((h : Int) + 1)), mv_I (mv_w ((i : Int) + 1)), mv_I s]) (st' := []) (M1 := (mv_st M 37 (mv_up (M 37) h (M 36 ((s - 10000).toNat))))) rfl ?_
        rw [show mv_w ((h : Int) + 1) = (h : Int) + 1 from mv_w_id (by omega) (by omega)]
        rw [show mv_w ((i : Int) + 1) = (i : Int) + 1 from mv_w_id (by omega) (by omega)]
        rw [show (h : Int) + 1 = ((h + 1 : Nat) : Int) from by omega]
        rw [show (i : Int) + 1 = ((i + 1 : Nat) : Int) from by omega]
        simp only [sp_run, if_neg c0, if_pos c1]
        exact (ih (M 36 (s - 10000).toNat :: st) (h + 1) (i + 1) (mv_st M 37 (mv_up (M 37) h (M 36 (s - 10000).toNat))) (mv_I s) (by simp only [List.length_cons]; omega) hw.2.2 (by omega) hat.2 (by omega) (by rw [show i + 1 + r.length = i + (r.length + 1) from by omega]; exact he) (sp_stk_ps hs hl)).imp (fun M2 h2 => mv_ag.tr (mv_ag.st mv_ag.rf (by decide)) h2)
    · rw [if_neg c1] at hw
      have c0 : ¬ s < 10000 := by omega
      refine mv_go' 3 (pc' := if s < 20007 then 125 else 97) (ls' := [mv_R 25, mv_I (p : Int), mv_R 36, mv_R 37, mv_I (h : Int), mv_I (i : Int), mv_I s]) (st' := []) (M1 := M) rfl ?_
      refine mv_sp' (fun c2 => ?_) (fun c2 => ?_)
      · have c3 : ¬ 20007 ≤ s := by omega
        rw [if_neg c3] at hw
        match st, hl, hs with
        | [], hl, hs => simp only [List.length_nil] at hl; omega
        | [_], hl, hs => simp only [List.length_cons, List.length_nil] at hl; omega
        | b :: a :: q, hl, hs =>
          simp only [List.length_cons] at hl
          subst hl
          refine mv_go' 3 (pc' := if ((q.length + 1 + 1 : Nat) : Int) < 2 then 131 else 133) (ls' := [mv_R 25, mv_I (p : Int), mv_R 36, mv_R 37, mv_I ((q.length + 1 + 1 : Nat) : Int), mv_I (i : Int), mv_I s]) (st' := []) (M1 := M) rfl ?_
          refine mv_ff' (by omega) ?_
          refine mv_go' 10 (pc' := 148) (ls' := [mv_R 25, mv_I (p : Int), mv_R 36, mv_R 37, mv_I (mv_w (((q.length + 1 + 1 : Nat) : Int) + (-1))), mv_I (i : Int), mv_I s]) (st' := [mv_I (mv_w ((mv_w (((q.length + 1 + 1 : Nat) : Int) + (-1))) - 1)), mv_R 37, mv_I s, mv_I (mv_w ((mv_w (((q.length + 1 + 1 : Nat) : Int) + (-1))) - 1)), mv_R 37]) (M1 := M) rfl ?_
          rw [show mv_w ((mv_w (((q.length + 1 + 1 : Nat) : Int) + (-1))) - 1) = (q.length : Int) from by (rw [show mv_w (((q.length + 1 + 1 : Nat) : Int) + (-1)) = ((q.length + 1 + 1 : Nat) : Int) + (-1) from mv_w_id (by omega) (by omega), show mv_w ((((q.length + 1 + 1 : Nat) : Int) + (-1)) - 1) = (((q.length + 1 + 1 : Nat) : Int) + (-1)) - 1 from mv_w_id (by omega) (by omega)]) <;> omega]
          refine mv_go' 1 (pc' := if 0 ≤ (q.length : Int) ∧ (q.length : Int) < 64 then 149 else mv_bad) (ls' := [mv_R 25, mv_I (p : Int), mv_R 36, mv_R 37, mv_I (mv_w (((q.length + 1 + 1 : Nat) : Int) + (-1))), mv_I (i : Int), mv_I s]) (st' := [mv_I (M 37 q.length), mv_I s, mv_I (q.length : Int), mv_R 37]) (M1 := M) rfl ?_
          refine mv_tt' (by omega) ?_
          rw [show M 37 q.length = a from by exact hs.2.1]
          refine mv_go' 2 (pc' := 152) (ls' := [mv_R 25, mv_I (p : Int), mv_R 36, mv_R 37, mv_I (mv_w (((q.length + 1 + 1 : Nat) : Int) + (-1))), mv_I (i : Int), mv_I s]) (st' := [mv_I (mv_w (((q.length + 1 + 1 : Nat) : Int) + (-1))), mv_R 37, mv_I a, mv_I s, mv_I (q.length : Int), mv_R 37]) (M1 := M) rfl ?_
          rw [show mv_w (((q.length + 1 + 1 : Nat) : Int) + (-1)) = ((q.length + 1 : Nat) : Int) from by (rw [show mv_w (((q.length + 1 + 1 : Nat) : Int) + (-1)) = ((q.length + 1 + 1 : Nat) : Int) + (-1) from mv_w_id (by omega) (by omega)]) <;> omega]
          refine mv_go' 1 (pc' := if 0 ≤ ((q.length + 1 : Nat) : Int) ∧ ((q.length + 1 : Nat) : Int) < 64 then 153 else mv_bad) (ls' := [mv_R 25, mv_I (p : Int), mv_R 36, mv_R 37, mv_I ((q.length + 1 : Nat) : Int), mv_I (i : Int), mv_I s]) (st' := [mv_I (M 37 (q.length + 1)), mv_I a, mv_I s, mv_I (q.length : Int), mv_R 37]) (M1 := M) rfl ?_
          refine mv_tt' (by omega) ?_
          rw [show M 37 (q.length + 1) = b from by exact hs.1]
          refine mv_callP (st2 := [mv_I (sp_bi s a b), mv_I (q.length : Int), mv_R 37]) rfl (Or.inr rfl) rfl rfl rfl (sp_ofTwo (by omega) (by omega)) (by first | decide | omega) ?_
          refine mv_go' 1 (pc' := if 0 ≤ (q.length : Int) ∧ (q.length : Int) < 64 then 157 else mv_bad) (ls' := [mv_R 25, mv_I (p : Int), mv_R 36, mv_R 37, mv_I ((q.length + 1 : Nat) : Int), mv_I (i : Int), mv_I s]) (st' := []) (M1 := (mv_st M 37 (mv_up (M 37) q.length (sp_bi s a b)))) rfl ?_
          refine mv_tt' (by omega) ?_
          refine mv_go' 2 (pc' := 21) (ls' := [mv_R 25, mv_I (p : Int), mv_R 36, mv_R 37, mv_I ((q.length + 1 : Nat) : Int), mv_I (mv_w ((i : Int) + 1)), mv_I s]) (st' := []) (M1 := (mv_st M 37 (mv_up (M 37) q.length (sp_bi s a b)))) rfl ?_
          rw [show mv_w ((i : Int) + 1) = (i : Int) + 1 from mv_w_id (by omega) (by omega)]
          rw [show (i : Int) + 1 = ((i + 1 : Nat) : Int) from by omega]
          simp only [sp_run, if_neg c0, if_neg c1, if_neg c3]
          exact (ih (sp_bi s a b :: q) (q.length + 1) (i + 1) (mv_st M 37 (mv_up (M 37) q.length (sp_bi s a b))) (mv_I s) rfl hw.2 (by omega) hat.2 (by omega) (by rw [show i + 1 + r.length = i + (r.length + 1) from by omega]; exact he) (sp_stk_ps hs.2.2 rfl)).imp (fun M2 h2 => mv_ag.tr (mv_ag.st mv_ag.rf (by decide)) h2)
      · have c3 : 20007 ≤ s := by omega
        rw [if_pos c3] at hw
        match st, hl, hs with
        | [], hl, hs => simp only [List.length_nil] at hl; omega
        | a :: q, hl, hs =>
          simp only [List.length_cons] at hl
          subst hl
          refine mv_go' 3 (pc' := if ((q.length + 1 : Nat) : Int) < 1 then 103 else 105) (ls' := [mv_R 25, mv_I (p : Int), mv_R 36, mv_R 37, mv_I ((q.length + 1 : Nat) : Int), mv_I (i : Int), mv_I s]) (st' := []) (M1 := M) rfl ?_
          refine mv_ff' (by omega) ?_
          refine mv_go' 9 (pc' := 117) (ls' := [mv_R 25, mv_I (p : Int), mv_R 36, mv_R 37, mv_I ((q.length + 1 : Nat) : Int), mv_I (i : Int), mv_I s]) (st' := [mv_I (mv_w (((q.length + 1 : Nat) : Int) - 1)), mv_R 37, mv_I s, mv_I (mv_w (((q.length + 1 : Nat) : Int) - 1)), mv_R 37]) (M1 := M) rfl ?_
          rw [show mv_w (((q.length + 1 : Nat) : Int) - 1) = (q.length : Int) from by (rw [show mv_w (((q.length + 1 : Nat) : Int) - 1) = ((q.length + 1 : Nat) : Int) - 1 from mv_w_id (by omega) (by omega)]) <;> omega]
          refine mv_go' 1 (pc' := if 0 ≤ (q.length : Int) ∧ (q.length : Int) < 64 then 118 else mv_bad) (ls' := [mv_R 25, mv_I (p : Int), mv_R 36, mv_R 37, mv_I ((q.length + 1 : Nat) : Int), mv_I (i : Int), mv_I s]) (st' := [mv_I (M 37 q.length), mv_I s, mv_I (q.length : Int), mv_R 37]) (M1 := M) rfl ?_
          refine mv_tt' (by omega) ?_
          rw [show M 37 q.length = a from by exact hs.1]
          refine mv_callP (st2 := [mv_I (sp_un s a), mv_I (q.length : Int), mv_R 37]) rfl (Or.inr rfl) rfl rfl rfl (sp_ofOne) (by first | decide | omega) ?_
          refine mv_go' 1 (pc' := if 0 ≤ (q.length : Int) ∧ (q.length : Int) < 64 then 122 else mv_bad) (ls' := [mv_R 25, mv_I (p : Int), mv_R 36, mv_R 37, mv_I ((q.length + 1 : Nat) : Int), mv_I (i : Int), mv_I s]) (st' := []) (M1 := (mv_st M 37 (mv_up (M 37) q.length (sp_un s a)))) rfl ?_
          refine mv_tt' (by omega) ?_
          refine mv_go' 3 (pc' := 21) (ls' := [mv_R 25, mv_I (p : Int), mv_R 36, mv_R 37, mv_I ((q.length + 1 : Nat) : Int), mv_I (mv_w ((i : Int) + 1)), mv_I s]) (st' := []) (M1 := (mv_st M 37 (mv_up (M 37) q.length (sp_un s a)))) rfl ?_
          rw [show mv_w ((i : Int) + 1) = (i : Int) + 1 from mv_w_id (by omega) (by omega)]
          rw [show (i : Int) + 1 = ((i + 1 : Nat) : Int) from by omega]
          simp only [sp_run, if_neg c0, if_neg c1, if_pos c3]
          exact (ih (sp_un s a :: q) (q.length + 1) (i + 1) (mv_st M 37 (mv_up (M 37) q.length (sp_un s a))) (mv_I s) rfl hw.2 (by omega) hat.2 (by omega) (by rw [show i + 1 + r.length = i + (r.length + 1) from by omega]; exact he) (sp_stk_ps hs.2 rfl)).imp (fun M2 h2 => mv_ag.tr (mv_ag.st mv_ag.rf (by decide)) h2)
theorem sp_val0_25_36 {M : mv_M} {code : List Int} (hw : sp_wf code 0) (hat : sp_at (M 26) 0 code) (hlen : code.length ≤ 160) (he : M 27 0 = ((code.length : Nat) : Int)) :
    mv_Ru 1 3 0 [mv_R 25, mv_I 0, mv_R 36, mv_R 37, mv_U, mv_U, mv_U] [] M (mv_I (sp_top (sp_run (M 36) code []))) (fun M1 => mv_ag [37] M M1) := by
  refine mv_go' 4 (pc' := if 0 = 0 then 7 else 11) (ls' := [mv_R 25, mv_I 0, mv_R 36, mv_R 37, mv_I 0, mv_U, mv_U]) (st' := []) (M1 := M) rfl ?_
  refine mv_tt' (rfl) ?_
  refine mv_go' 3 (pc' := 21) (ls' := [mv_R 25, mv_I 0, mv_R 36, mv_R 37, mv_I 0, mv_I 0, mv_U]) (st' := []) (M1 := M) rfl ?_
  exact sp_val_lp_25_36 (p := 0) (by decide) code [] 0 0 M mv_U rfl hw (by decide) hat (by omega) (by rw [he]; simp) trivial
theorem sp_valS_25_36 {M : mv_M} {code : List Int} {q i : Nat} (hq : q < 2) (hw : sp_wf code 0) (hi : M 27 q = (i : Int)) (hat : sp_at (M 26) i code) (hlen : i + code.length ≤ 160) (he : M 27 (q + 1) = ((i + code.length : Nat) : Int)) :
    mv_Ru 1 3 0 [mv_R 25, mv_I ((q + 1 : Nat) : Int), mv_R 36, mv_R 37, mv_U, mv_U, mv_U] [] M (mv_I (sp_top (sp_run (M 36) code []))) (fun M1 => mv_ag [37] M M1) := by
  refine mv_go' 4 (pc' := if ((q + 1 : Nat) : Int) = 0 then 7 else 11) (ls' := [mv_R 25, mv_I ((q + 1 : Nat) : Int), mv_R 36, mv_R 37, mv_I 0, mv_U, mv_U]) (st' := []) (M1 := M) rfl ?_
  refine mv_ff' (by omega) ?_
  refine mv_go' 5 (pc' := 18) (ls' := [mv_R 25, mv_I ((q + 1 : Nat) : Int), mv_R 36, mv_R 37, mv_I 0, mv_U, mv_U]) (st' := [mv_I (mv_w (((q + 1 : Nat) : Int) - 1)), mv_R 27]) (M1 := M) rfl ?_
  rw [show mv_w (((q + 1 : Nat) : Int) - 1) = (q : Int) from by (rw [show mv_w (((q + 1 : Nat) : Int) - 1) = ((q + 1 : Nat) : Int) - 1 from mv_w_id (by omega) (by omega)]) <;> omega]
  refine mv_go' 1 (pc' := if 0 ≤ (q : Int) ∧ (q : Int) < 3 then 19 else mv_bad) (ls' := [mv_R 25, mv_I ((q + 1 : Nat) : Int), mv_R 36, mv_R 37, mv_I 0, mv_U, mv_U]) (st' := [mv_I (M 27 q)]) (M1 := M) rfl ?_
  refine mv_tt' (by omega) ?_
  rw [show M 27 q = (i : Int) from by exact hi]
  refine mv_go' 1 (pc' := 21) (ls' := [mv_R 25, mv_I ((q + 1 : Nat) : Int), mv_R 36, mv_R 37, mv_I 0, mv_I (i : Int), mv_U]) (st' := []) (M1 := M) rfl ?_
  exact sp_val_lp_25_36 (p := q + 1) (by omega) code [] 0 i M mv_U rfl hw (by decide) hat hlen he trivial
theorem sp_value_25_36 {M : mv_M} {P : Nat → List Int} {p : Nat} (hp : p < 3) (hP : sp_ct 25 M P) :
    mv_Ru 1 3 0 [mv_R 25, mv_I (p : Int), mv_R 36, mv_R 37, mv_U, mv_U, mv_U] [] M (mv_I (sp_top (sp_run (M 36) (P p) []))) (fun M1 => mv_ag [37] M M1) := by
  obtain ⟨⟨e0, e1, e2⟩, ⟨a0, a1, a2⟩, ⟨w0, w1, w2⟩, hlen⟩ := hP
  match p, hp with
  | 0, _ => exact sp_val0_25_36 w0 a0 (by omega) e0
  | 1, _ => exact sp_valS_25_36 (q := 0) (by decide) w1 e0 a1 (by omega) e1
  | 2, _ => exact sp_valS_25_36 (q := 1) (by decide) w2 e1 a2 (by omega) e2
theorem sp_val_lp_10_56 {p : Nat} (hp : p < 3) : ∀ (code st : List Int) (h i : Nat) (M : mv_M) (l6 : mv_V), st.length = h → sp_wf code h → h ≤ 64 → sp_at (M 11) i code → i + code.length ≤ 160 → M 12 p = ((i + code.length : Nat) : Int) → sp_stk (M 57) st →
    mv_Ru 1 3 21 [mv_R 10, mv_I (p : Int), mv_R 56, mv_R 57, mv_I (h : Int), mv_I (i : Int), l6] [] M (mv_I (sp_top (sp_run (M 56) code st))) (fun M1 => mv_ag [57] M M1) := by
  intro code
  induction code with
  | nil =>
    intro st h i M l6 hl hw h64 hat hlen he hs
    match st, hl, hs with
    | [], hl, hs => simp only [sp_wf, List.length_nil] at hw hl; omega
    | _ :: _ :: _, hl, hs => simp only [sp_wf, List.length_cons] at hw hl; omega
    | [a], hl, hs =>
      refine mv_go' 5 (pc' := if 0 ≤ (p : Int) ∧ (p : Int) < 3 then 29 else mv_bad) (ls' := [mv_R 10, mv_I (p : Int), mv_R 56, mv_R 57, mv_I (h : Int), mv_I (i : Int), l6]) (st' := [mv_I (M 12 p), mv_I (i : Int)]) (M1 := M) rfl ?_
      refine mv_tt' (by omega) ?_
      rw [show M 12 p = (i : Int) from by rw [he]; rfl]
      refine mv_go' 1 (pc' := if (i : Int) < (i : Int) then 32 else 163) (ls' := [mv_R 10, mv_I (p : Int), mv_R 56, mv_R 57, mv_I (h : Int), mv_I (i : Int), l6]) (st' := []) (M1 := M) rfl ?_
      refine mv_ff' (by omega) ?_
      refine mv_go' 3 (pc' := if 0 ≤ 0 ∧ 0 < 64 then 166 else mv_bad) (ls' := [mv_R 10, mv_I (p : Int), mv_R 56, mv_R 57, mv_I (h : Int), mv_I (i : Int), l6]) (st' := [mv_I (M 57 0)]) (M1 := M) rfl ?_
      refine mv_tt' (by omega) ?_
      rw [show M 57 0 = a from by exact hs.1]
      exact mv_ret (fun n => rfl) (mv_ag.rf)
  | cons s r ih =>
    intro st h i M l6 hl hw h64 hat hlen he hs
    simp only [List.length_cons] at hlen he
    obtain ⟨⟨hs0, hs1⟩, hw⟩ := hw
    refine mv_go' 5 (pc' := if 0 ≤ (p : Int) ∧ (p : Int) < 3 then 29 else mv_bad) (ls' := [mv_R 10, mv_I (p : Int), mv_R 56, mv_R 57, mv_I (h : Int), mv_I (i : Int), l6]) (st' := [mv_I (M 12 p), mv_I (i : Int)]) (M1 := M) rfl ?_
    refine mv_tt' (by omega) ?_
    rw [show M 12 p = ((i + (r.length + 1) : Nat) : Int) from by exact he]
    refine mv_go' 1 (pc' := if (i : Int) < ((i + (r.length + 1) : Nat) : Int) then 32 else 163) (ls' := [mv_R 10, mv_I (p : Int), mv_R 56, mv_R 57, mv_I (h : Int), mv_I (i : Int), l6]) (st' := []) (M1 := M) rfl ?_
    refine mv_tt' (by omega) ?_
    refine mv_go' 4 (pc' := if 0 ≤ (i : Int) ∧ (i : Int) < 160 then 39 else mv_bad) (ls' := [mv_R 10, mv_I (p : Int), mv_R 56, mv_R 57, mv_I (h : Int), mv_I (i : Int), l6]) (st' := [mv_I (M 11 i)]) (M1 := M) rfl ?_
    refine mv_tt' (by omega) ?_
    rw [show M 11 i = s from by exact hat.1]
    refine mv_go' 4 (pc' := if s < 20000 then 49 else 89) (ls' := [mv_R 10, mv_I (p : Int), mv_R 56, mv_R 57, mv_I (h : Int), mv_I (i : Int), mv_I s]) (st' := []) (M1 := M) rfl ?_
    refine mv_sp' (fun c1 => ?_) (fun c1 => ?_)
    · rw [if_pos c1] at hw
      refine mv_go' 3 (pc' := if (h : Int) < 64 then 58 else 56) (ls' := [mv_R 10, mv_I (p : Int), mv_R 56, mv_R 57, mv_I (h : Int), mv_I (i : Int), mv_I s]) (st' := []) (M1 := M) rfl ?_
      refine mv_tt' (by omega) ?_
      refine mv_go' 5 (pc' := if s < 10000 then 69 else 74) (ls' := [mv_R 10, mv_I (p : Int), mv_R 56, mv_R 57, mv_I (h : Int), mv_I (i : Int), mv_I s]) (st' := [mv_I (h : Int), mv_R 57]) (M1 := M) rfl ?_
      refine mv_sp' (fun c0 => ?_) (fun c0 => ?_)
      · refine mv_go' 3 (pc' := if 0 ≤ (h : Int) ∧ (h : Int) < 64 then 83 else mv_bad) (ls' := [mv_R 10, mv_I (p : Int), mv_R 56, mv_R 57, mv_I (h : Int), mv_I (i : Int), mv_I s]) (st' := []) (M1 := (mv_st M 57 (mv_up (M 57) h s))) rfl ?_
        refine mv_tt' (by omega) ?_
        refine mv_go' 4 (pc' := 21) (ls' := [mv_R 10, mv_I (p : Int), mv_R 56, mv_R 57, mv_I (mv_w ((h : Int) + 1)), mv_I (mv_w ((i : Int) + 1)), mv_I s]) (st' := []) (M1 := (mv_st M 57 (mv_up (M 57) h s))) rfl ?_
        rw [show mv_w ((h : Int) + 1) = (h : Int) + 1 from mv_w_id (by omega) (by omega)]
        rw [show mv_w ((i : Int) + 1) = (i : Int) + 1 from mv_w_id (by omega) (by omega)]
        rw [show (h : Int) + 1 = ((h + 1 : Nat) : Int) from by omega]
        rw [show (i : Int) + 1 = ((i + 1 : Nat) : Int) from by omega]
        simp only [sp_run, if_pos c0]
        exact (ih (s :: st) (h + 1) (i + 1) (mv_st M 57 (mv_up (M 57) h s)) (mv_I s) (by simp only [List.length_cons]; omega) hw.2.2 (by omega) hat.2 (by omega) (by rw [show i + 1 + r.length = i + (r.length + 1) from by omega]; exact he) (sp_stk_ps hs hl)).imp (fun M2 h2 => mv_ag.tr (mv_ag.st mv_ag.rf (by decide)) h2)
      · refine mv_go' 4 (pc' := 81) (ls' := [mv_R 10, mv_I (p : Int), mv_R 56, mv_R 57, mv_I (h : Int), mv_I (i : Int), mv_I s]) (st' := [mv_I (mv_w (s - 10000)), mv_R 56, mv_I (h : Int), mv_R 57]) (M1 := M) rfl ?_
        rw [show mv_w (s - 10000) = s - 10000 from by unfold mv_w; omega]
        refine mv_go' 1 (pc' := if 0 ≤ (s - 10000) ∧ (s - 10000) < 6 then 82 else mv_bad) (ls' := [mv_R 10, mv_I (p : Int), mv_R 56, mv_R 57, mv_I (h : Int), mv_I (i : Int), mv_I s]) (st' := [mv_I (M 56 ((s - 10000).toNat)), mv_I (h : Int), mv_R 57]) (M1 := M) rfl ?_
        refine mv_tt' (by omega) ?_
        refine mv_go' 1 (pc' := if 0 ≤ (h : Int) ∧ (h : Int) < 64 then 83 else mv_bad) (ls' := [mv_R 10, mv_I (p : Int), mv_R 56, mv_R 57, mv_I (h : Int), mv_I (i : Int), mv_I s]) (st' := []) (M1 := (mv_st M 57 (mv_up (M 57) h (M 56 ((s - 10000).toNat))))) rfl ?_
        refine mv_tt' (by omega) ?_
        refine mv_go' 4 (pc' := 21) (ls' := [mv_R 10, mv_I (p : Int), mv_R 56, mv_R 57, mv_I (mv_w ((h : Int) + 1)), mv_I (mv_w ((i : Int) + 1)), mv_I s]) (st' := []) (M1 := (mv_st M 57 (mv_up (M 57) h (M 56 ((s - 10000).toNat))))) rfl ?_
        rw [show mv_w ((h : Int) + 1) = (h : Int) + 1 from mv_w_id (by omega) (by omega)]
        rw [show mv_w ((i : Int) + 1) = (i : Int) + 1 from mv_w_id (by omega) (by omega)]
        rw [show (h : Int) + 1 = ((h + 1 : Nat) : Int) from by omega]
        rw [show (i : Int) + 1 = ((i + 1 : Nat) : Int) from by omega]
        simp only [sp_run, if_neg c0, if_pos c1]
        exact (ih (M 56 (s - 10000).toNat :: st) (h + 1) (i + 1) (mv_st M 57 (mv_up (M 57) h (M 56 (s - 10000).toNat))) (mv_I s) (by simp only [List.length_cons]; omega) hw.2.2 (by omega) hat.2 (by omega) (by rw [show i + 1 + r.length = i + (r.length + 1) from by omega]; exact he) (sp_stk_ps hs hl)).imp (fun M2 h2 => mv_ag.tr (mv_ag.st mv_ag.rf (by decide)) h2)
    · rw [if_neg c1] at hw
      have c0 : ¬ s < 10000 := by omega
      refine mv_go' 3 (pc' := if s < 20007 then 125 else 97) (ls' := [mv_R 10, mv_I (p : Int), mv_R 56, mv_R 57, mv_I (h : Int), mv_I (i : Int), mv_I s]) (st' := []) (M1 := M) rfl ?_
      refine mv_sp' (fun c2 => ?_) (fun c2 => ?_)
      · have c3 : ¬ 20007 ≤ s := by omega
        rw [if_neg c3] at hw
        match st, hl, hs with
        | [], hl, hs => simp only [List.length_nil] at hl; omega
        | [_], hl, hs => simp only [List.length_cons, List.length_nil] at hl; omega
        | b :: a :: q, hl, hs =>
          simp only [List.length_cons] at hl
          subst hl
          refine mv_go' 3 (pc' := if ((q.length + 1 + 1 : Nat) : Int) < 2 then 131 else 133) (ls' := [mv_R 10, mv_I (p : Int), mv_R 56, mv_R 57, mv_I ((q.length + 1 + 1 : Nat) : Int), mv_I (i : Int), mv_I s]) (st' := []) (M1 := M) rfl ?_
          refine mv_ff' (by omega) ?_
          refine mv_go' 10 (pc' := 148) (ls' := [mv_R 10, mv_I (p : Int), mv_R 56, mv_R 57, mv_I (mv_w (((q.length + 1 + 1 : Nat) : Int) + (-1))), mv_I (i : Int), mv_I s]) (st' := [mv_I (mv_w ((mv_w (((q.length + 1 + 1 : Nat) : Int) + (-1))) - 1)), mv_R 57, mv_I s, mv_I (mv_w ((mv_w (((q.length + 1 + 1 : Nat) : Int) + (-1))) - 1)), mv_R 57]) (M1 := M) rfl ?_
          rw [show mv_w ((mv_w (((q.length + 1 + 1 : Nat) : Int) + (-1))) - 1) = (q.length : Int) from by (rw [show mv_w (((q.length + 1 + 1 : Nat) : Int) + (-1)) = ((q.length + 1 + 1 : Nat) : Int) + (-1) from mv_w_id (by omega) (by omega), show mv_w ((((q.length + 1 + 1 : Nat) : Int) + (-1)) - 1) = (((q.length + 1 + 1 : Nat) : Int) + (-1)) - 1 from mv_w_id (by omega) (by omega)]) <;> omega]
          refine mv_go' 1 (pc' := if 0 ≤ (q.length : Int) ∧ (q.length : Int) < 64 then 149 else mv_bad) (ls' := [mv_R 10, mv_I (p : Int), mv_R 56, mv_R 57, mv_I (mv_w (((q.length + 1 + 1 : Nat) : Int) + (-1))), mv_I (i : Int), mv_I s]) (st' := [mv_I (M 57 q.length), mv_I s, mv_I (q.length : Int), mv_R 57]) (M1 := M) rfl ?_
          refine mv_tt' (by omega) ?_
          rw [show M 57 q.length = a from by exact hs.2.1]
          refine mv_go' 2 (pc' := 152) (ls' := [mv_R 10, mv_I (p : Int), mv_R 56, mv_R 57, mv_I (mv_w (((q.length + 1 + 1 : Nat) : Int) + (-1))), mv_I (i : Int), mv_I s]) (st' := [mv_I (mv_w (((q.length + 1 + 1 : Nat) : Int) + (-1))), mv_R 57, mv_I a, mv_I s, mv_I (q.length : Int), mv_R 57]) (M1 := M) rfl ?_
          rw [show mv_w (((q.length + 1 + 1 : Nat) : Int) + (-1)) = ((q.length + 1 : Nat) : Int) from by (rw [show mv_w (((q.length + 1 + 1 : Nat) : Int) + (-1)) = ((q.length + 1 + 1 : Nat) : Int) + (-1) from mv_w_id (by omega) (by omega)]) <;> omega]
          refine mv_go' 1 (pc' := if 0 ≤ ((q.length + 1 : Nat) : Int) ∧ ((q.length + 1 : Nat) : Int) < 64 then 153 else mv_bad) (ls' := [mv_R 10, mv_I (p : Int), mv_R 56, mv_R 57, mv_I ((q.length + 1 : Nat) : Int), mv_I (i : Int), mv_I s]) (st' := [mv_I (M 57 (q.length + 1)), mv_I a, mv_I s, mv_I (q.length : Int), mv_R 57]) (M1 := M) rfl ?_
          refine mv_tt' (by omega) ?_
          rw [show M 57 (q.length + 1) = b from by exact hs.1]
          refine mv_callP (st2 := [mv_I (sp_bi s a b), mv_I (q.length : Int), mv_R 57]) rfl (Or.inr rfl) rfl rfl rfl (sp_ofTwo (by omega) (by omega)) (by first | decide | omega) ?_
          refine mv_go' 1 (pc' := if 0 ≤ (q.length : Int) ∧ (q.length : Int) < 64 then 157 else mv_bad) (ls' := [mv_R 10, mv_I (p : Int), mv_R 56, mv_R 57, mv_I ((q.length + 1 : Nat) : Int), mv_I (i : Int), mv_I s]) (st' := []) (M1 := (mv_st M 57 (mv_up (M 57) q.length (sp_bi s a b)))) rfl ?_
          refine mv_tt' (by omega) ?_
          refine mv_go' 2 (pc' := 21) (ls' := [mv_R 10, mv_I (p : Int), mv_R 56, mv_R 57, mv_I ((q.length + 1 : Nat) : Int), mv_I (mv_w ((i : Int) + 1)), mv_I s]) (st' := []) (M1 := (mv_st M 57 (mv_up (M 57) q.length (sp_bi s a b)))) rfl ?_
          rw [show mv_w ((i : Int) + 1) = (i : Int) + 1 from mv_w_id (by omega) (by omega)]
          rw [show (i : Int) + 1 = ((i + 1 : Nat) : Int) from by omega]
          simp only [sp_run, if_neg c0, if_neg c1, if_neg c3]
          exact (ih (sp_bi s a b :: q) (q.length + 1) (i + 1) (mv_st M 57 (mv_up (M 57) q.length (sp_bi s a b))) (mv_I s) rfl hw.2 (by omega) hat.2 (by omega) (by rw [show i + 1 + r.length = i + (r.length + 1) from by omega]; exact he) (sp_stk_ps hs.2.2 rfl)).imp (fun M2 h2 => mv_ag.tr (mv_ag.st mv_ag.rf (by decide)) h2)
      · have c3 : 20007 ≤ s := by omega
        rw [if_pos c3] at hw
        match st, hl, hs with
        | [], hl, hs => simp only [List.length_nil] at hl; omega
        | a :: q, hl, hs =>
          simp only [List.length_cons] at hl
          subst hl
          refine mv_go' 3 (pc' := if ((q.length + 1 : Nat) : Int) < 1 then 103 else 105) (ls' := [mv_R 10, mv_I (p : Int), mv_R 56, mv_R 57, mv_I ((q.length + 1 : Nat) : Int), mv_I (i : Int), mv_I s]) (st' := []) (M1 := M) rfl ?_
          refine mv_ff' (by omega) ?_
          refine mv_go' 9 (pc' := 117) (ls' := [mv_R 10, mv_I (p : Int), mv_R 56, mv_R 57, mv_I ((q.length + 1 : Nat) : Int), mv_I (i : Int), mv_I s]) (st' := [mv_I (mv_w (((q.length + 1 : Nat) : Int) - 1)), mv_R 57, mv_I s, mv_I (mv_w (((q.length + 1 : Nat) : Int) - 1)), mv_R 57]) (M1 := M) rfl ?_
          rw [show mv_w (((q.length + 1 : Nat) : Int) - 1) = (q.length : Int) from by (rw [show mv_w (((q.length + 1 : Nat) : Int) - 1) = ((q.length + 1 : Nat) : Int) - 1 from mv_w_id (by omega) (by omega)]) <;> omega]
          refine mv_go' 1 (pc' := if 0 ≤ (q.length : Int) ∧ (q.length : Int) < 64 then 118 else mv_bad) (ls' := [mv_R 10, mv_I (p : Int), mv_R 56, mv_R 57, mv_I ((q.length + 1 : Nat) : Int), mv_I (i : Int), mv_I s]) (st' := [mv_I (M 57 q.length), mv_I s, mv_I (q.length : Int), mv_R 57]) (M1 := M) rfl ?_
          refine mv_tt' (by omega) ?_
          rw [show M 57 q.length = a from by exact hs.1]
          refine mv_callP (st2 := [mv_I (sp_un s a), mv_I (q.length : Int), mv_R 57]) rfl (Or.inr rfl) rfl rfl rfl (sp_ofOne) (by first | decide | omega) ?_
          refine mv_go' 1 (pc' := if 0 ≤ (q.length : Int) ∧ (q.length : Int) < 64 then 122 else mv_bad) (ls' := [mv_R 10, mv_I (p : Int), mv_R 56, mv_R 57, mv_I ((q.length + 1 : Nat) : Int), mv_I (i : Int), mv_I s]) (st' := []) (M1 := (mv_st M 57 (mv_up (M 57) q.length (sp_un s a)))) rfl ?_
          refine mv_tt' (by omega) ?_
          refine mv_go' 3 (pc' := 21) (ls' := [mv_R 10, mv_I (p : Int), mv_R 56, mv_R 57, mv_I ((q.length + 1 : Nat) : Int), mv_I (mv_w ((i : Int) + 1)), mv_I s]) (st' := []) (M1 := (mv_st M 57 (mv_up (M 57) q.length (sp_un s a)))) rfl ?_
          rw [show mv_w ((i : Int) + 1) = (i : Int) + 1 from mv_w_id (by omega) (by omega)]
          rw [show (i : Int) + 1 = ((i + 1 : Nat) : Int) from by omega]
          simp only [sp_run, if_neg c0, if_neg c1, if_pos c3]
          exact (ih (sp_un s a :: q) (q.length + 1) (i + 1) (mv_st M 57 (mv_up (M 57) q.length (sp_un s a))) (mv_I s) rfl hw.2 (by omega) hat.2 (by omega) (by rw [show i + 1 + r.length = i + (r.length + 1) from by omega]; exact he) (sp_stk_ps hs.2 rfl)).imp (fun M2 h2 => mv_ag.tr (mv_ag.st mv_ag.rf (by decide)) h2)
theorem sp_val0_10_56 {M : mv_M} {code : List Int} (hw : sp_wf code 0) (hat : sp_at (M 11) 0 code) (hlen : code.length ≤ 160) (he : M 12 0 = ((code.length : Nat) : Int)) :
    mv_Ru 1 3 0 [mv_R 10, mv_I 0, mv_R 56, mv_R 57, mv_U, mv_U, mv_U] [] M (mv_I (sp_top (sp_run (M 56) code []))) (fun M1 => mv_ag [57] M M1) := by
  refine mv_go' 4 (pc' := if 0 = 0 then 7 else 11) (ls' := [mv_R 10, mv_I 0, mv_R 56, mv_R 57, mv_I 0, mv_U, mv_U]) (st' := []) (M1 := M) rfl ?_
  refine mv_tt' (rfl) ?_
  refine mv_go' 3 (pc' := 21) (ls' := [mv_R 10, mv_I 0, mv_R 56, mv_R 57, mv_I 0, mv_I 0, mv_U]) (st' := []) (M1 := M) rfl ?_
  exact sp_val_lp_10_56 (p := 0) (by decide) code [] 0 0 M mv_U rfl hw (by decide) hat (by omega) (by rw [he]; simp) trivial
theorem sp_valS_10_56 {M : mv_M} {code : List Int} {q i : Nat} (hq : q < 2) (hw : sp_wf code 0) (hi : M 12 q = (i : Int)) (hat : sp_at (M 11) i code) (hlen : i + code.length ≤ 160) (he : M 12 (q + 1) = ((i + code.length : Nat) : Int)) :
    mv_Ru 1 3 0 [mv_R 10, mv_I ((q + 1 : Nat) : Int), mv_R 56, mv_R 57, mv_U, mv_U, mv_U] [] M (mv_I (sp_top (sp_run (M 56) code []))) (fun M1 => mv_ag [57] M M1) := by
  refine mv_go' 4 (pc' := if ((q + 1 : Nat) : Int) = 0 then 7 else 11) (ls' := [mv_R 10, mv_I ((q + 1 : Nat) : Int), mv_R 56, mv_R 57, mv_I 0, mv_U, mv_U]) (st' := []) (M1 := M) rfl ?_
  refine mv_ff' (by omega) ?_
  refine mv_go' 5 (pc' := 18) (ls' := [mv_R 10, mv_I ((q + 1 : Nat) : Int), mv_R 56, mv_R 57, mv_I 0, mv_U, mv_U]) (st' := [mv_I (mv_w (((q + 1 : Nat) : Int) - 1)), mv_R 12]) (M1 := M) rfl ?_
  rw [show mv_w (((q + 1 : Nat) : Int) - 1) = (q : Int) from by (rw [show mv_w (((q + 1 : Nat) : Int) - 1) = ((q + 1 : Nat) : Int) - 1 from mv_w_id (by omega) (by omega)]) <;> omega]
  refine mv_go' 1 (pc' := if 0 ≤ (q : Int) ∧ (q : Int) < 3 then 19 else mv_bad) (ls' := [mv_R 10, mv_I ((q + 1 : Nat) : Int), mv_R 56, mv_R 57, mv_I 0, mv_U, mv_U]) (st' := [mv_I (M 12 q)]) (M1 := M) rfl ?_
  refine mv_tt' (by omega) ?_
  rw [show M 12 q = (i : Int) from by exact hi]
  refine mv_go' 1 (pc' := 21) (ls' := [mv_R 10, mv_I ((q + 1 : Nat) : Int), mv_R 56, mv_R 57, mv_I 0, mv_I (i : Int), mv_U]) (st' := []) (M1 := M) rfl ?_
  exact sp_val_lp_10_56 (p := q + 1) (by omega) code [] 0 i M mv_U rfl hw (by decide) hat hlen he trivial
theorem sp_value_10_56 {M : mv_M} {P : Nat → List Int} {p : Nat} (hp : p < 3) (hP : sp_ct 10 M P) :
    mv_Ru 1 3 0 [mv_R 10, mv_I (p : Int), mv_R 56, mv_R 57, mv_U, mv_U, mv_U] [] M (mv_I (sp_top (sp_run (M 56) (P p) []))) (fun M1 => mv_ag [57] M M1) := by
  obtain ⟨⟨e0, e1, e2⟩, ⟨a0, a1, a2⟩, ⟨w0, w1, w2⟩, hlen⟩ := hP
  match p, hp with
  | 0, _ => exact sp_val0_10_56 w0 a0 (by omega) e0
  | 1, _ => exact sp_valS_10_56 (q := 0) (by decide) w1 e0 a1 (by omega) e1
  | 2, _ => exact sp_valS_10_56 (q := 1) (by decide) w2 e1 a2 (by omega) e2
theorem sp_val_lp_13_56 {p : Nat} (hp : p < 3) : ∀ (code st : List Int) (h i : Nat) (M : mv_M) (l6 : mv_V), st.length = h → sp_wf code h → h ≤ 64 → sp_at (M 14) i code → i + code.length ≤ 160 → M 15 p = ((i + code.length : Nat) : Int) → sp_stk (M 57) st →
    mv_Ru 1 3 21 [mv_R 13, mv_I (p : Int), mv_R 56, mv_R 57, mv_I (h : Int), mv_I (i : Int), l6] [] M (mv_I (sp_top (sp_run (M 56) code st))) (fun M1 => mv_ag [57] M M1) := by
  intro code
  induction code with
  | nil =>
    intro st h i M l6 hl hw h64 hat hlen he hs
    match st, hl, hs with
    | [], hl, hs => simp only [sp_wf, List.length_nil] at hw hl; omega
    | _ :: _ :: _, hl, hs => simp only [sp_wf, List.length_cons] at hw hl; omega
    | [a], hl, hs =>
      refine mv_go' 5 (pc' := if 0 ≤ (p : Int) ∧ (p : Int) < 3 then 29 else mv_bad) (ls' := [mv_R 13, mv_I (p : Int), mv_R 56, mv_R 57, mv_I (h : Int), mv_I (i : Int), l6]) (st' := [mv_I (M 15 p), mv_I (i : Int)]) (M1 := M) rfl ?_
      refine mv_tt' (by omega) ?_
      rw [show M 15 p = (i : Int) from by rw [he]; rfl]
      refine mv_go' 1 (pc' := if (i : Int) < (i : Int) then 32 else 163) (ls' := [mv_R 13, mv_I (p : Int), mv_R 56, mv_R 57, mv_I (h : Int), mv_I (i : Int), l6]) (st' := []) (M1 := M) rfl ?_
      refine mv_ff' (by omega) ?_
      refine mv_go' 3 (pc' := if 0 ≤ 0 ∧ 0 < 64 then 166 else mv_bad) (ls' := [mv_R 13, mv_I (p : Int), mv_R 56, mv_R 57, mv_I (h : Int), mv_I (i : Int), l6]) (st' := [mv_I (M 57 0)]) (M1 := M) rfl ?_
      refine mv_tt' (by omega) ?_
      rw [show M 57 0 = a from by exact hs.1]
      exact mv_ret (fun n => rfl) (mv_ag.rf)
  | cons s r ih =>
    intro st h i M l6 hl hw h64 hat hlen he hs
    simp only [List.length_cons] at hlen he
    obtain ⟨⟨hs0, hs1⟩, hw⟩ := hw
    refine mv_go' 5 (pc' := if 0 ≤ (p : Int) ∧ (p : Int) < 3 then 29 else mv_bad) (ls' := [mv_R 13, mv_I (p : Int), mv_R 56, mv_R 57, mv_I (h : Int), mv_I (i : Int), l6]) (st' := [mv_I (M 15 p), mv_I (i : Int)]) (M1 := M) rfl ?_
    refine mv_tt' (by omega) ?_
    rw [show M 15 p = ((i + (r.length + 1) : Nat) : Int) from by exact he]
    refine mv_go' 1 (pc' := if (i : Int) < ((i + (r.length + 1) : Nat) : Int) then 32 else 163) (ls' := [mv_R 13, mv_I (p : Int), mv_R 56, mv_R 57, mv_I (h : Int), mv_I (i : Int), l6]) (st' := []) (M1 := M) rfl ?_
    refine mv_tt' (by omega) ?_
    refine mv_go' 4 (pc' := if 0 ≤ (i : Int) ∧ (i : Int) < 160 then 39 else mv_bad) (ls' := [mv_R 13, mv_I (p : Int), mv_R 56, mv_R 57, mv_I (h : Int), mv_I (i : Int), l6]) (st' := [mv_I (M 14 i)]) (M1 := M) rfl ?_
    refine mv_tt' (by omega) ?_
    rw [show M 14 i = s from by exact hat.1]
    refine mv_go' 4 (pc' := if s < 20000 then 49 else 89) (ls' := [mv_R 13, mv_I (p : Int), mv_R 56, mv_R 57, mv_I (h : Int), mv_I (i : Int), mv_I s]) (st' := []) (M1 := M) rfl ?_
    refine mv_sp' (fun c1 => ?_) (fun c1 => ?_)
    · rw [if_pos c1] at hw
      refine mv_go' 3 (pc' := if (h : Int) < 64 then 58 else 56) (ls' := [mv_R 13, mv_I (p : Int), mv_R 56, mv_R 57, mv_I (h : Int), mv_I (i : Int), mv_I s]) (st' := []) (M1 := M) rfl ?_
      refine mv_tt' (by omega) ?_
      refine mv_go' 5 (pc' := if s < 10000 then 69 else 74) (ls' := [mv_R 13, mv_I (p : Int), mv_R 56, mv_R 57, mv_I (h : Int), mv_I (i : Int), mv_I s]) (st' := [mv_I (h : Int), mv_R 57]) (M1 := M) rfl ?_
      refine mv_sp' (fun c0 => ?_) (fun c0 => ?_)
      · refine mv_go' 3 (pc' := if 0 ≤ (h : Int) ∧ (h : Int) < 64 then 83 else mv_bad) (ls' := [mv_R 13, mv_I (p : Int), mv_R 56, mv_R 57, mv_I (h : Int), mv_I (i : Int), mv_I s]) (st' := []) (M1 := (mv_st M 57 (mv_up (M 57) h s))) rfl ?_
        refine mv_tt' (by omega) ?_
        refine mv_go' 4 (pc' := 21) (ls' := [mv_R 13, mv_I (p : Int), mv_R 56, mv_R 57, mv_I (mv_w ((h : Int) + 1)), mv_I (mv_w ((i : Int) + 1)), mv_I s]) (st' := []) (M1 := (mv_st M 57 (mv_up (M 57) h s))) rfl ?_
        rw [show mv_w ((h : Int) + 1) = (h : Int) + 1 from mv_w_id (by omega) (by omega)]
        rw [show mv_w ((i : Int) + 1) = (i : Int) + 1 from mv_w_id (by omega) (by omega)]
        rw [show (h : Int) + 1 = ((h + 1 : Nat) : Int) from by omega]
        rw [show (i : Int) + 1 = ((i + 1 : Nat) : Int) from by omega]
        simp only [sp_run, if_pos c0]
        exact (ih (s :: st) (h + 1) (i + 1) (mv_st M 57 (mv_up (M 57) h s)) (mv_I s) (by simp only [List.length_cons]; omega) hw.2.2 (by omega) hat.2 (by omega) (by rw [show i + 1 + r.length = i + (r.length + 1) from by omega]; exact he) (sp_stk_ps hs hl)).imp (fun M2 h2 => mv_ag.tr (mv_ag.st mv_ag.rf (by decide)) h2)
      · refine mv_go' 4 (pc' := 81) (ls' := [mv_R 13, mv_I (p : Int), mv_R 56, mv_R 57, mv_I (h : Int), mv_I (i : Int), mv_I s]) (st' := [mv_I (mv_w (s - 10000)), mv_R 56, mv_I (h : Int), mv_R 57]) (M1 := M) rfl ?_
        rw [show mv_w (s - 10000) = s - 10000 from by unfold mv_w; omega]
        refine mv_go' 1 (pc' := if 0 ≤ (s - 10000) ∧ (s - 10000) < 6 then 82 else mv_bad) (ls' := [mv_R 13, mv_I (p : Int), mv_R 56, mv_R 57, mv_I (h : Int), mv_I (i : Int), mv_I s]) (st' := [mv_I (M 56 ((s - 10000).toNat)), mv_I (h : Int), mv_R 57]) (M1 := M) rfl ?_
        refine mv_tt' (by omega) ?_
        refine mv_go' 1 (pc' := if 0 ≤ (h : Int) ∧ (h : Int) < 64 then 83 else mv_bad) (ls' := [mv_R 13, mv_I (p : Int), mv_R 56, mv_R 57, mv_I (h : Int), mv_I (i : Int), mv_I s]) (st' := []) (M1 := (mv_st M 57 (mv_up (M 57) h (M 56 ((s - 10000).toNat))))) rfl ?_
        refine mv_tt' (by omega) ?_
        refine mv_go' 4 (pc' := 21) (ls' := [mv_R 13, mv_I (p : Int), mv_R 56, mv_R 57, mv_I (mv_w ((h : Int) + 1)), mv_I (mv_w ((i : Int) + 1)), mv_I s]) (st' := []) (M1 := (mv_st M 57 (mv_up (M 57) h (M 56 ((s - 10000).toNat))))) rfl ?_
        rw [show mv_w ((h : Int) + 1) = (h : Int) + 1 from mv_w_id (by omega) (by omega)]
        rw [show mv_w ((i : Int) + 1) = (i : Int) + 1 from mv_w_id (by omega) (by omega)]
        rw [show (h : Int) + 1 = ((h + 1 : Nat) : Int) from by omega]
        rw [show (i : Int) + 1 = ((i + 1 : Nat) : Int) from by omega]
        simp only [sp_run, if_neg c0, if_pos c1]
        exact (ih (M 56 (s - 10000).toNat :: st) (h + 1) (i + 1) (mv_st M 57 (mv_up (M 57) h (M 56 (s - 10000).toNat))) (mv_I s) (by simp only [List.length_cons]; omega) hw.2.2 (by omega) hat.2 (by omega) (by rw [show i + 1 + r.length = i + (r.length + 1) from by omega]; exact he) (sp_stk_ps hs hl)).imp (fun M2 h2 => mv_ag.tr (mv_ag.st mv_ag.rf (by decide)) h2)
    · rw [if_neg c1] at hw
      have c0 : ¬ s < 10000 := by omega
      refine mv_go' 3 (pc' := if s < 20007 then 125 else 97) (ls' := [mv_R 13, mv_I (p : Int), mv_R 56, mv_R 57, mv_I (h : Int), mv_I (i : Int), mv_I s]) (st' := []) (M1 := M) rfl ?_
      refine mv_sp' (fun c2 => ?_) (fun c2 => ?_)
      · have c3 : ¬ 20007 ≤ s := by omega
        rw [if_neg c3] at hw
        match st, hl, hs with
        | [], hl, hs => simp only [List.length_nil] at hl; omega
        | [_], hl, hs => simp only [List.length_cons, List.length_nil] at hl; omega
        | b :: a :: q, hl, hs =>
          simp only [List.length_cons] at hl
          subst hl
          refine mv_go' 3 (pc' := if ((q.length + 1 + 1 : Nat) : Int) < 2 then 131 else 133) (ls' := [mv_R 13, mv_I (p : Int), mv_R 56, mv_R 57, mv_I ((q.length + 1 + 1 : Nat) : Int), mv_I (i : Int), mv_I s]) (st' := []) (M1 := M) rfl ?_
          refine mv_ff' (by omega) ?_
          refine mv_go' 10 (pc' := 148) (ls' := [mv_R 13, mv_I (p : Int), mv_R 56, mv_R 57, mv_I (mv_w (((q.length + 1 + 1 : Nat) : Int) + (-1))), mv_I (i : Int), mv_I s]) (st' := [mv_I (mv_w ((mv_w (((q.length + 1 + 1 : Nat) : Int) + (-1))) - 1)), mv_R 57, mv_I s, mv_I (mv_w ((mv_w (((q.length + 1 + 1 : Nat) : Int) + (-1))) - 1)), mv_R 57]) (M1 := M) rfl ?_
          rw [show mv_w ((mv_w (((q.length + 1 + 1 : Nat) : Int) + (-1))) - 1) = (q.length : Int) from by (rw [show mv_w (((q.length + 1 + 1 : Nat) : Int) + (-1)) = ((q.length + 1 + 1 : Nat) : Int) + (-1) from mv_w_id (by omega) (by omega), show mv_w ((((q.length + 1 + 1 : Nat) : Int) + (-1)) - 1) = (((q.length + 1 + 1 : Nat) : Int) + (-1)) - 1 from mv_w_id (by omega) (by omega)]) <;> omega]
          refine mv_go' 1 (pc' := if 0 ≤ (q.length : Int) ∧ (q.length : Int) < 64 then 149 else mv_bad) (ls' := [mv_R 13, mv_I (p : Int), mv_R 56, mv_R 57, mv_I (mv_w (((q.length + 1 + 1 : Nat) : Int) + (-1))), mv_I (i : Int), mv_I s]) (st' := [mv_I (M 57 q.length), mv_I s, mv_I (q.length : Int), mv_R 57]) (M1 := M) rfl ?_
          refine mv_tt' (by omega) ?_
          rw [show M 57 q.length = a from by exact hs.2.1]
          refine mv_go' 2 (pc' := 152) (ls' := [mv_R 13, mv_I (p : Int), mv_R 56, mv_R 57, mv_I (mv_w (((q.length + 1 + 1 : Nat) : Int) + (-1))), mv_I (i : Int), mv_I s]) (st' := [mv_I (mv_w (((q.length + 1 + 1 : Nat) : Int) + (-1))), mv_R 57, mv_I a, mv_I s, mv_I (q.length : Int), mv_R 57]) (M1 := M) rfl ?_
          rw [show mv_w (((q.length + 1 + 1 : Nat) : Int) + (-1)) = ((q.length + 1 : Nat) : Int) from by (rw [show mv_w (((q.length + 1 + 1 : Nat) : Int) + (-1)) = ((q.length + 1 + 1 : Nat) : Int) + (-1) from mv_w_id (by omega) (by omega)]) <;> omega]
          refine mv_go' 1 (pc' := if 0 ≤ ((q.length + 1 : Nat) : Int) ∧ ((q.length + 1 : Nat) : Int) < 64 then 153 else mv_bad) (ls' := [mv_R 13, mv_I (p : Int), mv_R 56, mv_R 57, mv_I ((q.length + 1 : Nat) : Int), mv_I (i : Int), mv_I s]) (st' := [mv_I (M 57 (q.length + 1)), mv_I a, mv_I s, mv_I (q.length : Int), mv_R 57]) (M1 := M) rfl ?_
          refine mv_tt' (by omega) ?_
          rw [show M 57 (q.length + 1) = b from by exact hs.1]
          refine mv_callP (st2 := [mv_I (sp_bi s a b), mv_I (q.length : Int), mv_R 57]) rfl (Or.inr rfl) rfl rfl rfl (sp_ofTwo (by omega) (by omega)) (by first | decide | omega) ?_
          refine mv_go' 1 (pc' := if 0 ≤ (q.length : Int) ∧ (q.length : Int) < 64 then 157 else mv_bad) (ls' := [mv_R 13, mv_I (p : Int), mv_R 56, mv_R 57, mv_I ((q.length + 1 : Nat) : Int), mv_I (i : Int), mv_I s]) (st' := []) (M1 := (mv_st M 57 (mv_up (M 57) q.length (sp_bi s a b)))) rfl ?_
          refine mv_tt' (by omega) ?_
          refine mv_go' 2 (pc' := 21) (ls' := [mv_R 13, mv_I (p : Int), mv_R 56, mv_R 57, mv_I ((q.length + 1 : Nat) : Int), mv_I (mv_w ((i : Int) + 1)), mv_I s]) (st' := []) (M1 := (mv_st M 57 (mv_up (M 57) q.length (sp_bi s a b)))) rfl ?_
          rw [show mv_w ((i : Int) + 1) = (i : Int) + 1 from mv_w_id (by omega) (by omega)]
          rw [show (i : Int) + 1 = ((i + 1 : Nat) : Int) from by omega]
          simp only [sp_run, if_neg c0, if_neg c1, if_neg c3]
          exact (ih (sp_bi s a b :: q) (q.length + 1) (i + 1) (mv_st M 57 (mv_up (M 57) q.length (sp_bi s a b))) (mv_I s) rfl hw.2 (by omega) hat.2 (by omega) (by rw [show i + 1 + r.length = i + (r.length + 1) from by omega]; exact he) (sp_stk_ps hs.2.2 rfl)).imp (fun M2 h2 => mv_ag.tr (mv_ag.st mv_ag.rf (by decide)) h2)
      · have c3 : 20007 ≤ s := by omega
        rw [if_pos c3] at hw
        match st, hl, hs with
        | [], hl, hs => simp only [List.length_nil] at hl; omega
        | a :: q, hl, hs =>
          simp only [List.length_cons] at hl
          subst hl
          refine mv_go' 3 (pc' := if ((q.length + 1 : Nat) : Int) < 1 then 103 else 105) (ls' := [mv_R 13, mv_I (p : Int), mv_R 56, mv_R 57, mv_I ((q.length + 1 : Nat) : Int), mv_I (i : Int), mv_I s]) (st' := []) (M1 := M) rfl ?_
          refine mv_ff' (by omega) ?_
          refine mv_go' 9 (pc' := 117) (ls' := [mv_R 13, mv_I (p : Int), mv_R 56, mv_R 57, mv_I ((q.length + 1 : Nat) : Int), mv_I (i : Int), mv_I s]) (st' := [mv_I (mv_w (((q.length + 1 : Nat) : Int) - 1)), mv_R 57, mv_I s, mv_I (mv_w (((q.length + 1 : Nat) : Int) - 1)), mv_R 57]) (M1 := M) rfl ?_
          rw [show mv_w (((q.length + 1 : Nat) : Int) - 1) = (q.length : Int) from by (rw [show mv_w (((q.length + 1 : Nat) : Int) - 1) = ((q.length + 1 : Nat) : Int) - 1 from mv_w_id (by omega) (by omega)]) <;> omega]
          refine mv_go' 1 (pc' := if 0 ≤ (q.length : Int) ∧ (q.length : Int) < 64 then 118 else mv_bad) (ls' := [mv_R 13, mv_I (p : Int), mv_R 56, mv_R 57, mv_I ((q.length + 1 : Nat) : Int), mv_I (i : Int), mv_I s]) (st' := [mv_I (M 57 q.length), mv_I s, mv_I (q.length : Int), mv_R 57]) (M1 := M) rfl ?_
          refine mv_tt' (by omega) ?_
          rw [show M 57 q.length = a from by exact hs.1]
          refine mv_callP (st2 := [mv_I (sp_un s a), mv_I (q.length : Int), mv_R 57]) rfl (Or.inr rfl) rfl rfl rfl (sp_ofOne) (by first | decide | omega) ?_
          refine mv_go' 1 (pc' := if 0 ≤ (q.length : Int) ∧ (q.length : Int) < 64 then 122 else mv_bad) (ls' := [mv_R 13, mv_I (p : Int), mv_R 56, mv_R 57, mv_I ((q.length + 1 : Nat) : Int), mv_I (i : Int), mv_I s]) (st' := []) (M1 := (mv_st M 57 (mv_up (M 57) q.length (sp_un s a)))) rfl ?_
          refine mv_tt' (by omega) ?_
          refine mv_go' 3 (pc' := 21) (ls' := [mv_R 13, mv_I (p : Int), mv_R 56, mv_R 57, mv_I ((q.length + 1 : Nat) : Int), mv_I (mv_w ((i : Int) + 1)), mv_I s]) (st' := []) (M1 := (mv_st M 57 (mv_up (M 57) q.length (sp_un s a)))) rfl ?_
          rw [show mv_w ((i : Int) + 1) = (i : Int) + 1 from mv_w_id (by omega) (by omega)]
          rw [show (i : Int) + 1 = ((i + 1 : Nat) : Int) from by omega]
          simp only [sp_run, if_neg c0, if_neg c1, if_pos c3]
          exact (ih (sp_un s a :: q) (q.length + 1) (i + 1) (mv_st M 57 (mv_up (M 57) q.length (sp_un s a))) (mv_I s) rfl hw.2 (by omega) hat.2 (by omega) (by rw [show i + 1 + r.length = i + (r.length + 1) from by omega]; exact he) (sp_stk_ps hs.2 rfl)).imp (fun M2 h2 => mv_ag.tr (mv_ag.st mv_ag.rf (by decide)) h2)
theorem sp_val0_13_56 {M : mv_M} {code : List Int} (hw : sp_wf code 0) (hat : sp_at (M 14) 0 code) (hlen : code.length ≤ 160) (he : M 15 0 = ((code.length : Nat) : Int)) :
    mv_Ru 1 3 0 [mv_R 13, mv_I 0, mv_R 56, mv_R 57, mv_U, mv_U, mv_U] [] M (mv_I (sp_top (sp_run (M 56) code []))) (fun M1 => mv_ag [57] M M1) := by
  refine mv_go' 4 (pc' := if 0 = 0 then 7 else 11) (ls' := [mv_R 13, mv_I 0, mv_R 56, mv_R 57, mv_I 0, mv_U, mv_U]) (st' := []) (M1 := M) rfl ?_
  refine mv_tt' (rfl) ?_
  refine mv_go' 3 (pc' := 21) (ls' := [mv_R 13, mv_I 0, mv_R 56, mv_R 57, mv_I 0, mv_I 0, mv_U]) (st' := []) (M1 := M) rfl ?_
  exact sp_val_lp_13_56 (p := 0) (by decide) code [] 0 0 M mv_U rfl hw (by decide) hat (by omega) (by rw [he]; simp) trivial
theorem sp_valS_13_56 {M : mv_M} {code : List Int} {q i : Nat} (hq : q < 2) (hw : sp_wf code 0) (hi : M 15 q = (i : Int)) (hat : sp_at (M 14) i code) (hlen : i + code.length ≤ 160) (he : M 15 (q + 1) = ((i + code.length : Nat) : Int)) :
    mv_Ru 1 3 0 [mv_R 13, mv_I ((q + 1 : Nat) : Int), mv_R 56, mv_R 57, mv_U, mv_U, mv_U] [] M (mv_I (sp_top (sp_run (M 56) code []))) (fun M1 => mv_ag [57] M M1) := by
  refine mv_go' 4 (pc' := if ((q + 1 : Nat) : Int) = 0 then 7 else 11) (ls' := [mv_R 13, mv_I ((q + 1 : Nat) : Int), mv_R 56, mv_R 57, mv_I 0, mv_U, mv_U]) (st' := []) (M1 := M) rfl ?_
  refine mv_ff' (by omega) ?_
  refine mv_go' 5 (pc' := 18) (ls' := [mv_R 13, mv_I ((q + 1 : Nat) : Int), mv_R 56, mv_R 57, mv_I 0, mv_U, mv_U]) (st' := [mv_I (mv_w (((q + 1 : Nat) : Int) - 1)), mv_R 15]) (M1 := M) rfl ?_
  rw [show mv_w (((q + 1 : Nat) : Int) - 1) = (q : Int) from by (rw [show mv_w (((q + 1 : Nat) : Int) - 1) = ((q + 1 : Nat) : Int) - 1 from mv_w_id (by omega) (by omega)]) <;> omega]
  refine mv_go' 1 (pc' := if 0 ≤ (q : Int) ∧ (q : Int) < 3 then 19 else mv_bad) (ls' := [mv_R 13, mv_I ((q + 1 : Nat) : Int), mv_R 56, mv_R 57, mv_I 0, mv_U, mv_U]) (st' := [mv_I (M 15 q)]) (M1 := M) rfl ?_
  refine mv_tt' (by omega) ?_
  rw [show M 15 q = (i : Int) from by exact hi]
  refine mv_go' 1 (pc' := 21) (ls' := [mv_R 13, mv_I ((q + 1 : Nat) : Int), mv_R 56, mv_R 57, mv_I 0, mv_I (i : Int), mv_U]) (st' := []) (M1 := M) rfl ?_
  exact sp_val_lp_13_56 (p := q + 1) (by omega) code [] 0 i M mv_U rfl hw (by decide) hat hlen he trivial
theorem sp_value_13_56 {M : mv_M} {P : Nat → List Int} {p : Nat} (hp : p < 3) (hP : sp_ct 13 M P) :
    mv_Ru 1 3 0 [mv_R 13, mv_I (p : Int), mv_R 56, mv_R 57, mv_U, mv_U, mv_U] [] M (mv_I (sp_top (sp_run (M 56) (P p) []))) (fun M1 => mv_ag [57] M M1) := by
  obtain ⟨⟨e0, e1, e2⟩, ⟨a0, a1, a2⟩, ⟨w0, w1, w2⟩, hlen⟩ := hP
  match p, hp with
  | 0, _ => exact sp_val0_13_56 w0 a0 (by omega) e0
  | 1, _ => exact sp_valS_13_56 (q := 0) (by decide) w1 e0 a1 (by omega) e1
  | 2, _ => exact sp_valS_13_56 (q := 1) (by decide) w2 e1 a2 (by omega) e2
theorem sp_val_lp_16_56 {p : Nat} (hp : p < 3) : ∀ (code st : List Int) (h i : Nat) (M : mv_M) (l6 : mv_V), st.length = h → sp_wf code h → h ≤ 64 → sp_at (M 17) i code → i + code.length ≤ 160 → M 18 p = ((i + code.length : Nat) : Int) → sp_stk (M 57) st →
    mv_Ru 1 3 21 [mv_R 16, mv_I (p : Int), mv_R 56, mv_R 57, mv_I (h : Int), mv_I (i : Int), l6] [] M (mv_I (sp_top (sp_run (M 56) code st))) (fun M1 => mv_ag [57] M M1) := by
  intro code
  induction code with
  | nil =>
    intro st h i M l6 hl hw h64 hat hlen he hs
    match st, hl, hs with
    | [], hl, hs => simp only [sp_wf, List.length_nil] at hw hl; omega
    | _ :: _ :: _, hl, hs => simp only [sp_wf, List.length_cons] at hw hl; omega
    | [a], hl, hs =>
      refine mv_go' 5 (pc' := if 0 ≤ (p : Int) ∧ (p : Int) < 3 then 29 else mv_bad) (ls' := [mv_R 16, mv_I (p : Int), mv_R 56, mv_R 57, mv_I (h : Int), mv_I (i : Int), l6]) (st' := [mv_I (M 18 p), mv_I (i : Int)]) (M1 := M) rfl ?_
      refine mv_tt' (by omega) ?_
      rw [show M 18 p = (i : Int) from by rw [he]; rfl]
      refine mv_go' 1 (pc' := if (i : Int) < (i : Int) then 32 else 163) (ls' := [mv_R 16, mv_I (p : Int), mv_R 56, mv_R 57, mv_I (h : Int), mv_I (i : Int), l6]) (st' := []) (M1 := M) rfl ?_
      refine mv_ff' (by omega) ?_
      refine mv_go' 3 (pc' := if 0 ≤ 0 ∧ 0 < 64 then 166 else mv_bad) (ls' := [mv_R 16, mv_I (p : Int), mv_R 56, mv_R 57, mv_I (h : Int), mv_I (i : Int), l6]) (st' := [mv_I (M 57 0)]) (M1 := M) rfl ?_
      refine mv_tt' (by omega) ?_
      rw [show M 57 0 = a from by exact hs.1]
      exact mv_ret (fun n => rfl) (mv_ag.rf)
  | cons s r ih =>
    intro st h i M l6 hl hw h64 hat hlen he hs
    simp only [List.length_cons] at hlen he
    obtain ⟨⟨hs0, hs1⟩, hw⟩ := hw
    refine mv_go' 5 (pc' := if 0 ≤ (p : Int) ∧ (p : Int) < 3 then 29 else mv_bad) (ls' := [mv_R 16, mv_I (p : Int), mv_R 56, mv_R 57, mv_I (h : Int), mv_I (i : Int), l6]) (st' := [mv_I (M 18 p), mv_I (i : Int)]) (M1 := M) rfl ?_
    refine mv_tt' (by omega) ?_
    rw [show M 18 p = ((i + (r.length + 1) : Nat) : Int) from by exact he]
    refine mv_go' 1 (pc' := if (i : Int) < ((i + (r.length + 1) : Nat) : Int) then 32 else 163) (ls' := [mv_R 16, mv_I (p : Int), mv_R 56, mv_R 57, mv_I (h : Int), mv_I (i : Int), l6]) (st' := []) (M1 := M) rfl ?_
    refine mv_tt' (by omega) ?_
    refine mv_go' 4 (pc' := if 0 ≤ (i : Int) ∧ (i : Int) < 160 then 39 else mv_bad) (ls' := [mv_R 16, mv_I (p : Int), mv_R 56, mv_R 57, mv_I (h : Int), mv_I (i : Int), l6]) (st' := [mv_I (M 17 i)]) (M1 := M) rfl ?_
    refine mv_tt' (by omega) ?_
    rw [show M 17 i = s from by exact hat.1]
    refine mv_go' 4 (pc' := if s < 20000 then 49 else 89) (ls' := [mv_R 16, mv_I (p : Int), mv_R 56, mv_R 57, mv_I (h : Int), mv_I (i : Int), mv_I s]) (st' := []) (M1 := M) rfl ?_
    refine mv_sp' (fun c1 => ?_) (fun c1 => ?_)
    · rw [if_pos c1] at hw
      refine mv_go' 3 (pc' := if (h : Int) < 64 then 58 else 56) (ls' := [mv_R 16, mv_I (p : Int), mv_R 56, mv_R 57, mv_I (h : Int), mv_I (i : Int), mv_I s]) (st' := []) (M1 := M) rfl ?_
      refine mv_tt' (by omega) ?_
      refine mv_go' 5 (pc' := if s < 10000 then 69 else 74) (ls' := [mv_R 16, mv_I (p : Int), mv_R 56, mv_R 57, mv_I (h : Int), mv_I (i : Int), mv_I s]) (st' := [mv_I (h : Int), mv_R 57]) (M1 := M) rfl ?_
      refine mv_sp' (fun c0 => ?_) (fun c0 => ?_)
      · refine mv_go' 3 (pc' := if 0 ≤ (h : Int) ∧ (h : Int) < 64 then 83 else mv_bad) (ls' := [mv_R 16, mv_I (p : Int), mv_R 56, mv_R 57, mv_I (h : Int), mv_I (i : Int), mv_I s]) (st' := []) (M1 := (mv_st M 57 (mv_up (M 57) h s))) rfl ?_
        refine mv_tt' (by omega) ?_
        refine mv_go' 4 (pc' := 21) (ls' := [mv_R 16, mv_I (p : Int), mv_R 56, mv_R 57, mv_I (mv_w ((h : Int) + 1)), mv_I (mv_w ((i : Int) + 1)), mv_I s]) (st' := []) (M1 := (mv_st M 57 (mv_up (M 57) h s))) rfl ?_
        rw [show mv_w ((h : Int) + 1) = (h : Int) + 1 from mv_w_id (by omega) (by omega)]
        rw [show mv_w ((i : Int) + 1) = (i : Int) + 1 from mv_w_id (by omega) (by omega)]
        rw [show (h : Int) + 1 = ((h + 1 : Nat) : Int) from by omega]
        rw [show (i : Int) + 1 = ((i + 1 : Nat) : Int) from by omega]
        simp only [sp_run, if_pos c0]
        exact (ih (s :: st) (h + 1) (i + 1) (mv_st M 57 (mv_up (M 57) h s)) (mv_I s) (by simp only [List.length_cons]; omega) hw.2.2 (by omega) hat.2 (by omega) (by rw [show i + 1 + r.length = i + (r.length + 1) from by omega]; exact he) (sp_stk_ps hs hl)).imp (fun M2 h2 => mv_ag.tr (mv_ag.st mv_ag.rf (by decide)) h2)
      · refine mv_go' 4 (pc' := 81) (ls' := [mv_R 16, mv_I (p : Int), mv_R 56, mv_R 57, mv_I (h : Int), mv_I (i : Int), mv_I s]) (st' := [mv_I (mv_w (s - 10000)), mv_R 56, mv_I (h : Int), mv_R 57]) (M1 := M) rfl ?_
        rw [show mv_w (s - 10000) = s - 10000 from by unfold mv_w; omega]
        refine mv_go' 1 (pc' := if 0 ≤ (s - 10000) ∧ (s - 10000) < 6 then 82 else mv_bad) (ls' := [mv_R 16, mv_I (p : Int), mv_R 56, mv_R 57, mv_I (h : Int), mv_I (i : Int), mv_I s]) (st' := [mv_I (M 56 ((s - 10000).toNat)), mv_I (h : Int), mv_R 57]) (M1 := M) rfl ?_
        refine mv_tt' (by omega) ?_
        refine mv_go' 1 (pc' := if 0 ≤ (h : Int) ∧ (h : Int) < 64 then 83 else mv_bad) (ls' := [mv_R 16, mv_I (p : Int), mv_R 56, mv_R 57, mv_I (h : Int), mv_I (i : Int), mv_I s]) (st' := []) (M1 := (mv_st M 57 (mv_up (M 57) h (M 56 ((s - 10000).toNat))))) rfl ?_
        refine mv_tt' (by omega) ?_
        refine mv_go' 4 (pc' := 21) (ls' := [mv_R 16, mv_I (p : Int), mv_R 56, mv_R 57, mv_I (mv_w ((h : Int) + 1)), mv_I (mv_w ((i : Int) + 1)), mv_I s]) (st' := []) (M1 := (mv_st M 57 (mv_up (M 57) h (M 56 ((s - 10000).toNat))))) rfl ?_
        rw [show mv_w ((h : Int) + 1) = (h : Int) + 1 from mv_w_id (by omega) (by omega)]
        rw [show mv_w ((i : Int) + 1) = (i : Int) + 1 from mv_w_id (by omega) (by omega)]
        rw [show (h : Int) + 1 = ((h + 1 : Nat) : Int) from by omega]
        rw [show (i : Int) + 1 = ((i + 1 : Nat) : Int) from by omega]
        simp only [sp_run, if_neg c0, if_pos c1]
        exact (ih (M 56 (s - 10000).toNat :: st) (h + 1) (i + 1) (mv_st M 57 (mv_up (M 57) h (M 56 (s - 10000).toNat))) (mv_I s) (by simp only [List.length_cons]; omega) hw.2.2 (by omega) hat.2 (by omega) (by rw [show i + 1 + r.length = i + (r.length + 1) from by omega]; exact he) (sp_stk_ps hs hl)).imp (fun M2 h2 => mv_ag.tr (mv_ag.st mv_ag.rf (by decide)) h2)
    · rw [if_neg c1] at hw
      have c0 : ¬ s < 10000 := by omega
      refine mv_go' 3 (pc' := if s < 20007 then 125 else 97) (ls' := [mv_R 16, mv_I (p : Int), mv_R 56, mv_R 57, mv_I (h : Int), mv_I (i : Int), mv_I s]) (st' := []) (M1 := M) rfl ?_
      refine mv_sp' (fun c2 => ?_) (fun c2 => ?_)
      · have c3 : ¬ 20007 ≤ s := by omega
        rw [if_neg c3] at hw
        match st, hl, hs with
        | [], hl, hs => simp only [List.length_nil] at hl; omega
        | [_], hl, hs => simp only [List.length_cons, List.length_nil] at hl; omega
        | b :: a :: q, hl, hs =>
          simp only [List.length_cons] at hl
          subst hl
          refine mv_go' 3 (pc' := if ((q.length + 1 + 1 : Nat) : Int) < 2 then 131 else 133) (ls' := [mv_R 16, mv_I (p : Int), mv_R 56, mv_R 57, mv_I ((q.length + 1 + 1 : Nat) : Int), mv_I (i : Int), mv_I s]) (st' := []) (M1 := M) rfl ?_
          refine mv_ff' (by omega) ?_
          refine mv_go' 10 (pc' := 148) (ls' := [mv_R 16, mv_I (p : Int), mv_R 56, mv_R 57, mv_I (mv_w (((q.length + 1 + 1 : Nat) : Int) + (-1))), mv_I (i : Int), mv_I s]) (st' := [mv_I (mv_w ((mv_w (((q.length + 1 + 1 : Nat) : Int) + (-1))) - 1)), mv_R 57, mv_I s, mv_I (mv_w ((mv_w (((q.length + 1 + 1 : Nat) : Int) + (-1))) - 1)), mv_R 57]) (M1 := M) rfl ?_
          rw [show mv_w ((mv_w (((q.length + 1 + 1 : Nat) : Int) + (-1))) - 1) = (q.length : Int) from by (rw [show mv_w (((q.length + 1 + 1 : Nat) : Int) + (-1)) = ((q.length + 1 + 1 : Nat) : Int) + (-1) from mv_w_id (by omega) (by omega), show mv_w ((((q.length + 1 + 1 : Nat) : Int) + (-1)) - 1) = (((q.length + 1 + 1 : Nat) : Int) + (-1)) - 1 from mv_w_id (by omega) (by omega)]) <;> omega]
          refine mv_go' 1 (pc' := if 0 ≤ (q.length : Int) ∧ (q.length : Int) < 64 then 149 else mv_bad) (ls' := [mv_R 16, mv_I (p : Int), mv_R 56, mv_R 57, mv_I (mv_w (((q.length + 1 + 1 : Nat) : Int) + (-1))), mv_I (i : Int), mv_I s]) (st' := [mv_I (M 57 q.length), mv_I s, mv_I (q.length : Int), mv_R 57]) (M1 := M) rfl ?_
          refine mv_tt' (by omega) ?_
          rw [show M 57 q.length = a from by exact hs.2.1]
          refine mv_go' 2 (pc' := 152) (ls' := [mv_R 16, mv_I (p : Int), mv_R 56, mv_R 57, mv_I (mv_w (((q.length + 1 + 1 : Nat) : Int) + (-1))), mv_I (i : Int), mv_I s]) (st' := [mv_I (mv_w (((q.length + 1 + 1 : Nat) : Int) + (-1))), mv_R 57, mv_I a, mv_I s, mv_I (q.length : Int), mv_R 57]) (M1 := M) rfl ?_
          rw [show mv_w (((q.length + 1 + 1 : Nat) : Int) + (-1)) = ((q.length + 1 : Nat) : Int) from by (rw [show mv_w (((q.length + 1 + 1 : Nat) : Int) + (-1)) = ((q.length + 1 + 1 : Nat) : Int) + (-1) from mv_w_id (by omega) (by omega)]) <;> omega]
          refine mv_go' 1 (pc' := if 0 ≤ ((q.length + 1 : Nat) : Int) ∧ ((q.length + 1 : Nat) : Int) < 64 then 153 else mv_bad) (ls' := [mv_R 16, mv_I (p : Int), mv_R 56, mv_R 57, mv_I ((q.length + 1 : Nat) : Int), mv_I (i : Int), mv_I s]) (st' := [mv_I (M 57 (q.length + 1)), mv_I a, mv_I s, mv_I (q.length : Int), mv_R 57]) (M1 := M) rfl ?_
          refine mv_tt' (by omega) ?_
          rw [show M 57 (q.length + 1) = b from by exact hs.1]
          refine mv_callP (st2 := [mv_I (sp_bi s a b), mv_I (q.length : Int), mv_R 57]) rfl (Or.inr rfl) rfl rfl rfl (sp_ofTwo (by omega) (by omega)) (by first | decide | omega) ?_
          refine mv_go' 1 (pc' := if 0 ≤ (q.length : Int) ∧ (q.length : Int) < 64 then 157 else mv_bad) (ls' := [mv_R 16, mv_I (p : Int), mv_R 56, mv_R 57, mv_I ((q.length + 1 : Nat) : Int), mv_I (i : Int), mv_I s]) (st' := []) (M1 := (mv_st M 57 (mv_up (M 57) q.length (sp_bi s a b)))) rfl ?_
          refine mv_tt' (by omega) ?_
          refine mv_go' 2 (pc' := 21) (ls' := [mv_R 16, mv_I (p : Int), mv_R 56, mv_R 57, mv_I ((q.length + 1 : Nat) : Int), mv_I (mv_w ((i : Int) + 1)), mv_I s]) (st' := []) (M1 := (mv_st M 57 (mv_up (M 57) q.length (sp_bi s a b)))) rfl ?_
          rw [show mv_w ((i : Int) + 1) = (i : Int) + 1 from mv_w_id (by omega) (by omega)]
          rw [show (i : Int) + 1 = ((i + 1 : Nat) : Int) from by omega]
          simp only [sp_run, if_neg c0, if_neg c1, if_neg c3]
          exact (ih (sp_bi s a b :: q) (q.length + 1) (i + 1) (mv_st M 57 (mv_up (M 57) q.length (sp_bi s a b))) (mv_I s) rfl hw.2 (by omega) hat.2 (by omega) (by rw [show i + 1 + r.length = i + (r.length + 1) from by omega]; exact he) (sp_stk_ps hs.2.2 rfl)).imp (fun M2 h2 => mv_ag.tr (mv_ag.st mv_ag.rf (by decide)) h2)
      · have c3 : 20007 ≤ s := by omega
        rw [if_pos c3] at hw
        match st, hl, hs with
        | [], hl, hs => simp only [List.length_nil] at hl; omega
        | a :: q, hl, hs =>
          simp only [List.length_cons] at hl
          subst hl
          refine mv_go' 3 (pc' := if ((q.length + 1 : Nat) : Int) < 1 then 103 else 105) (ls' := [mv_R 16, mv_I (p : Int), mv_R 56, mv_R 57, mv_I ((q.length + 1 : Nat) : Int), mv_I (i : Int), mv_I s]) (st' := []) (M1 := M) rfl ?_
          refine mv_ff' (by omega) ?_
          refine mv_go' 9 (pc' := 117) (ls' := [mv_R 16, mv_I (p : Int), mv_R 56, mv_R 57, mv_I ((q.length + 1 : Nat) : Int), mv_I (i : Int), mv_I s]) (st' := [mv_I (mv_w (((q.length + 1 : Nat) : Int) - 1)), mv_R 57, mv_I s, mv_I (mv_w (((q.length + 1 : Nat) : Int) - 1)), mv_R 57]) (M1 := M) rfl ?_
          rw [show mv_w (((q.length + 1 : Nat) : Int) - 1) = (q.length : Int) from by (rw [show mv_w (((q.length + 1 : Nat) : Int) - 1) = ((q.length + 1 : Nat) : Int) - 1 from mv_w_id (by omega) (by omega)]) <;> omega]
          refine mv_go' 1 (pc' := if 0 ≤ (q.length : Int) ∧ (q.length : Int) < 64 then 118 else mv_bad) (ls' := [mv_R 16, mv_I (p : Int), mv_R 56, mv_R 57, mv_I ((q.length + 1 : Nat) : Int), mv_I (i : Int), mv_I s]) (st' := [mv_I (M 57 q.length), mv_I s, mv_I (q.length : Int), mv_R 57]) (M1 := M) rfl ?_
          refine mv_tt' (by omega) ?_
          rw [show M 57 q.length = a from by exact hs.1]
          refine mv_callP (st2 := [mv_I (sp_un s a), mv_I (q.length : Int), mv_R 57]) rfl (Or.inr rfl) rfl rfl rfl (sp_ofOne) (by first | decide | omega) ?_
          refine mv_go' 1 (pc' := if 0 ≤ (q.length : Int) ∧ (q.length : Int) < 64 then 122 else mv_bad) (ls' := [mv_R 16, mv_I (p : Int), mv_R 56, mv_R 57, mv_I ((q.length + 1 : Nat) : Int), mv_I (i : Int), mv_I s]) (st' := []) (M1 := (mv_st M 57 (mv_up (M 57) q.length (sp_un s a)))) rfl ?_
          refine mv_tt' (by omega) ?_
          refine mv_go' 3 (pc' := 21) (ls' := [mv_R 16, mv_I (p : Int), mv_R 56, mv_R 57, mv_I ((q.length + 1 : Nat) : Int), mv_I (mv_w ((i : Int) + 1)), mv_I s]) (st' := []) (M1 := (mv_st M 57 (mv_up (M 57) q.length (sp_un s a)))) rfl ?_
          rw [show mv_w ((i : Int) + 1) = (i : Int) + 1 from mv_w_id (by omega) (by omega)]
          rw [show (i : Int) + 1 = ((i + 1 : Nat) : Int) from by omega]
          simp only [sp_run, if_neg c0, if_neg c1, if_pos c3]
          exact (ih (sp_un s a :: q) (q.length + 1) (i + 1) (mv_st M 57 (mv_up (M 57) q.length (sp_un s a))) (mv_I s) rfl hw.2 (by omega) hat.2 (by omega) (by rw [show i + 1 + r.length = i + (r.length + 1) from by omega]; exact he) (sp_stk_ps hs.2 rfl)).imp (fun M2 h2 => mv_ag.tr (mv_ag.st mv_ag.rf (by decide)) h2)
theorem sp_val0_16_56 {M : mv_M} {code : List Int} (hw : sp_wf code 0) (hat : sp_at (M 17) 0 code) (hlen : code.length ≤ 160) (he : M 18 0 = ((code.length : Nat) : Int)) :
    mv_Ru 1 3 0 [mv_R 16, mv_I 0, mv_R 56, mv_R 57, mv_U, mv_U, mv_U] [] M (mv_I (sp_top (sp_run (M 56) code []))) (fun M1 => mv_ag [57] M M1) := by
  refine mv_go' 4 (pc' := if 0 = 0 then 7 else 11) (ls' := [mv_R 16, mv_I 0, mv_R 56, mv_R 57, mv_I 0, mv_U, mv_U]) (st' := []) (M1 := M) rfl ?_
  refine mv_tt' (rfl) ?_
  refine mv_go' 3 (pc' := 21) (ls' := [mv_R 16, mv_I 0, mv_R 56, mv_R 57, mv_I 0, mv_I 0, mv_U]) (st' := []) (M1 := M) rfl ?_
  exact sp_val_lp_16_56 (p := 0) (by decide) code [] 0 0 M mv_U rfl hw (by decide) hat (by omega) (by rw [he]; simp) trivial
theorem sp_valS_16_56 {M : mv_M} {code : List Int} {q i : Nat} (hq : q < 2) (hw : sp_wf code 0) (hi : M 18 q = (i : Int)) (hat : sp_at (M 17) i code) (hlen : i + code.length ≤ 160) (he : M 18 (q + 1) = ((i + code.length : Nat) : Int)) :
    mv_Ru 1 3 0 [mv_R 16, mv_I ((q + 1 : Nat) : Int), mv_R 56, mv_R 57, mv_U, mv_U, mv_U] [] M (mv_I (sp_top (sp_run (M 56) code []))) (fun M1 => mv_ag [57] M M1) := by
  refine mv_go' 4 (pc' := if ((q + 1 : Nat) : Int) = 0 then 7 else 11) (ls' := [mv_R 16, mv_I ((q + 1 : Nat) : Int), mv_R 56, mv_R 57, mv_I 0, mv_U, mv_U]) (st' := []) (M1 := M) rfl ?_
  refine mv_ff' (by omega) ?_
  refine mv_go' 5 (pc' := 18) (ls' := [mv_R 16, mv_I ((q + 1 : Nat) : Int), mv_R 56, mv_R 57, mv_I 0, mv_U, mv_U]) (st' := [mv_I (mv_w (((q + 1 : Nat) : Int) - 1)), mv_R 18]) (M1 := M) rfl ?_
  rw [show mv_w (((q + 1 : Nat) : Int) - 1) = (q : Int) from by (rw [show mv_w (((q + 1 : Nat) : Int) - 1) = ((q + 1 : Nat) : Int) - 1 from mv_w_id (by omega) (by omega)]) <;> omega]
  refine mv_go' 1 (pc' := if 0 ≤ (q : Int) ∧ (q : Int) < 3 then 19 else mv_bad) (ls' := [mv_R 16, mv_I ((q + 1 : Nat) : Int), mv_R 56, mv_R 57, mv_I 0, mv_U, mv_U]) (st' := [mv_I (M 18 q)]) (M1 := M) rfl ?_
  refine mv_tt' (by omega) ?_
  rw [show M 18 q = (i : Int) from by exact hi]
  refine mv_go' 1 (pc' := 21) (ls' := [mv_R 16, mv_I ((q + 1 : Nat) : Int), mv_R 56, mv_R 57, mv_I 0, mv_I (i : Int), mv_U]) (st' := []) (M1 := M) rfl ?_
  exact sp_val_lp_16_56 (p := q + 1) (by omega) code [] 0 i M mv_U rfl hw (by decide) hat hlen he trivial
theorem sp_value_16_56 {M : mv_M} {P : Nat → List Int} {p : Nat} (hp : p < 3) (hP : sp_ct 16 M P) :
    mv_Ru 1 3 0 [mv_R 16, mv_I (p : Int), mv_R 56, mv_R 57, mv_U, mv_U, mv_U] [] M (mv_I (sp_top (sp_run (M 56) (P p) []))) (fun M1 => mv_ag [57] M M1) := by
  obtain ⟨⟨e0, e1, e2⟩, ⟨a0, a1, a2⟩, ⟨w0, w1, w2⟩, hlen⟩ := hP
  match p, hp with
  | 0, _ => exact sp_val0_16_56 w0 a0 (by omega) e0
  | 1, _ => exact sp_valS_16_56 (q := 0) (by decide) w1 e0 a1 (by omega) e1
  | 2, _ => exact sp_valS_16_56 (q := 1) (by decide) w2 e1 a2 (by omega) e2
theorem sp_val_lp_19_56 {p : Nat} (hp : p < 3) : ∀ (code st : List Int) (h i : Nat) (M : mv_M) (l6 : mv_V), st.length = h → sp_wf code h → h ≤ 64 → sp_at (M 20) i code → i + code.length ≤ 160 → M 21 p = ((i + code.length : Nat) : Int) → sp_stk (M 57) st →
    mv_Ru 1 3 21 [mv_R 19, mv_I (p : Int), mv_R 56, mv_R 57, mv_I (h : Int), mv_I (i : Int), l6] [] M (mv_I (sp_top (sp_run (M 56) code st))) (fun M1 => mv_ag [57] M M1) := by
  intro code
  induction code with
  | nil =>
    intro st h i M l6 hl hw h64 hat hlen he hs
    match st, hl, hs with
    | [], hl, hs => simp only [sp_wf, List.length_nil] at hw hl; omega
    | _ :: _ :: _, hl, hs => simp only [sp_wf, List.length_cons] at hw hl; omega
    | [a], hl, hs =>
      refine mv_go' 5 (pc' := if 0 ≤ (p : Int) ∧ (p : Int) < 3 then 29 else mv_bad) (ls' := [mv_R 19, mv_I (p : Int), mv_R 56, mv_R 57, mv_I (h : Int), mv_I (i : Int), l6]) (st' := [mv_I (M 21 p), mv_I (i : Int)]) (M1 := M) rfl ?_
      refine mv_tt' (by omega) ?_
      rw [show M 21 p = (i : Int) from by rw [he]; rfl]
      refine mv_go' 1 (pc' := if (i : Int) < (i : Int) then 32 else 163) (ls' := [mv_R 19, mv_I (p : Int), mv_R 56, mv_R 57, mv_I (h : Int), mv_I (i : Int), l6]) (st' := []) (M1 := M) rfl ?_
      refine mv_ff' (by omega) ?_
      refine mv_go' 3 (pc' := if 0 ≤ 0 ∧ 0 < 64 then 166 else mv_bad) (ls' := [mv_R 19, mv_I (p : Int), mv_R 56, mv_R 57, mv_I (h : Int), mv_I (i : Int), l6]) (st' := [mv_I (M 57 0)]) (M1 := M) rfl ?_
      refine mv_tt' (by omega) ?_
      rw [show M 57 0 = a from by exact hs.1]
      exact mv_ret (fun n => rfl) (mv_ag.rf)
  | cons s r ih =>
    intro st h i M l6 hl hw h64 hat hlen he hs
    simp only [List.length_cons] at hlen he
    obtain ⟨⟨hs0, hs1⟩, hw⟩ := hw
    refine mv_go' 5 (pc' := if 0 ≤ (p : Int) ∧ (p : Int) < 3 then 29 else mv_bad) (ls' := [mv_R 19, mv_I (p : Int), mv_R 56, mv_R 57, mv_I (h : Int), mv_I (i : Int), l6]) (st' := [mv_I (M 21 p), mv_I (i : Int)]) (M1 := M) rfl ?_
    refine mv_tt' (by omega) ?_
    rw [show M 21 p = ((i + (r.length + 1) : Nat) : Int) from by exact he]
    refine mv_go' 1 (pc' := if (i : Int) < ((i + (r.length + 1) : Nat) : Int) then 32 else 163) (ls' := [mv_R 19, mv_I (p : Int), mv_R 56, mv_R 57, mv_I (h : Int), mv_I (i : Int), l6]) (st' := []) (M1 := M) rfl ?_
    refine mv_tt' (by omega) ?_
    refine mv_go' 4 (pc' := if 0 ≤ (i : Int) ∧ (i : Int) < 160 then 39 else mv_bad) (ls' := [mv_R 19, mv_I (p : Int), mv_R 56, mv_R 57, mv_I (h : Int), mv_I (i : Int), l6]) (st' := [mv_I (M 20 i)]) (M1 := M) rfl ?_
    refine mv_tt' (by omega) ?_
    rw [show M 20 i = s from by exact hat.1]
    refine mv_go' 4 (pc' := if s < 20000 then 49 else 89) (ls' := [mv_R 19, mv_I (p : Int), mv_R 56, mv_R 57, mv_I (h : Int), mv_I (i : Int), mv_I s]) (st' := []) (M1 := M) rfl ?_
    refine mv_sp' (fun c1 => ?_) (fun c1 => ?_)
    · rw [if_pos c1] at hw
      refine mv_go' 3 (pc' := if (h : Int) < 64 then 58 else 56) (ls' := [mv_R 19, mv_I (p : Int), mv_R 56, mv_R 57, mv_I (h : Int), mv_I (i : Int), mv_I s]) (st' := []) (M1 := M) rfl ?_
      refine mv_tt' (by omega) ?_
      refine mv_go' 5 (pc' := if s < 10000 then 69 else 74) (ls' := [mv_R 19, mv_I (p : Int), mv_R 56, mv_R 57, mv_I (h : Int), mv_I (i : Int), mv_I s]) (st' := [mv_I (h : Int), mv_R 57]) (M1 := M) rfl ?_
      refine mv_sp' (fun c0 => ?_) (fun c0 => ?_)
      · refine mv_go' 3 (pc' := if 0 ≤ (h : Int) ∧ (h : Int) < 64 then 83 else mv_bad) (ls' := [mv_R 19, mv_I (p : Int), mv_R 56, mv_R 57, mv_I (h : Int), mv_I (i : Int), mv_I s]) (st' := []) (M1 := (mv_st M 57 (mv_up (M 57) h s))) rfl ?_
        refine mv_tt' (by omega) ?_
        refine mv_go' 4 (pc' := 21) (ls' := [mv_R 19, mv_I (p : Int), mv_R 56, mv_R 57, mv_I (mv_w ((h : Int) + 1)), mv_I (mv_w ((i : Int) + 1)), mv_I s]) (st' := []) (M1 := (mv_st M 57 (mv_up (M 57) h s))) rfl ?_
        rw [show mv_w ((h : Int) + 1) = (h : Int) + 1 from mv_w_id (by omega) (by omega)]
        rw [show mv_w ((i : Int) + 1) = (i : Int) + 1 from mv_w_id (by omega) (by omega)]
        rw [show (h : Int) + 1 = ((h + 1 : Nat) : Int) from by omega]
        rw [show (i : Int) + 1 = ((i + 1 : Nat) : Int) from by omega]
        simp only [sp_run, if_pos c0]
        exact (ih (s :: st) (h + 1) (i + 1) (mv_st M 57 (mv_up (M 57) h s)) (mv_I s) (by simp only [List.length_cons]; omega) hw.2.2 (by omega) hat.2 (by omega) (by rw [show i + 1 + r.length = i + (r.length + 1) from by omega]; exact he) (sp_stk_ps hs hl)).imp (fun M2 h2 => mv_ag.tr (mv_ag.st mv_ag.rf (by decide)) h2)
      · refine mv_go' 4 (pc' := 81) (ls' := [mv_R 19, mv_I (p : Int), mv_R 56, mv_R 57, mv_I (h : Int), mv_I (i : Int), mv_I s]) (st' := [mv_I (mv_w (s - 10000)), mv_R 56, mv_I (h : Int), mv_R 57]) (M1 := M) rfl ?_
        rw [show mv_w (s - 10000) = s - 10000 from by unfold mv_w; omega]
        refine mv_go' 1 (pc' := if 0 ≤ (s - 10000) ∧ (s - 10000) < 6 then 82 else mv_bad) (ls' := [mv_R 19, mv_I (p : Int), mv_R 56, mv_R 57, mv_I (h : Int), mv_I (i : Int), mv_I s]) (st' := [mv_I (M 56 ((s - 10000).toNat)), mv_I (h : Int), mv_R 57]) (M1 := M) rfl ?_
        refine mv_tt' (by omega) ?_
        refine mv_go' 1 (pc' := if 0 ≤ (h : Int) ∧ (h : Int) < 64 then 83 else mv_bad) (ls' := [mv_R 19, mv_I (p : Int), mv_R 56, mv_R 57, mv_I (h : Int), mv_I (i : Int), mv_I s]) (st' := []) (M1 := (mv_st M 57 (mv_up (M 57) h (M 56 ((s - 10000).toNat))))) rfl ?_
        refine mv_tt' (by omega) ?_
        refine mv_go' 4 (pc' := 21) (ls' := [mv_R 19, mv_I (p : Int), mv_R 56, mv_R 57, mv_I (mv_w ((h : Int) + 1)), mv_I (mv_w ((i : Int) + 1)), mv_I s]) (st' := []) (M1 := (mv_st M 57 (mv_up (M 57) h (M 56 ((s - 10000).toNat))))) rfl ?_
        rw [show mv_w ((h : Int) + 1) = (h : Int) + 1 from mv_w_id (by omega) (by omega)]
        rw [show mv_w ((i : Int) + 1) = (i : Int) + 1 from mv_w_id (by omega) (by omega)]
        rw [show (h : Int) + 1 = ((h + 1 : Nat) : Int) from by omega]
        rw [show (i : Int) + 1 = ((i + 1 : Nat) : Int) from by omega]
        simp only [sp_run, if_neg c0, if_pos c1]
        exact (ih (M 56 (s - 10000).toNat :: st) (h + 1) (i + 1) (mv_st M 57 (mv_up (M 57) h (M 56 (s - 10000).toNat))) (mv_I s) (by simp only [List.length_cons]; omega) hw.2.2 (by omega) hat.2 (by omega) (by rw [show i + 1 + r.length = i + (r.length + 1) from by omega]; exact he) (sp_stk_ps hs hl)).imp (fun M2 h2 => mv_ag.tr (mv_ag.st mv_ag.rf (by decide)) h2)
    · rw [if_neg c1] at hw
      have c0 : ¬ s < 10000 := by omega
      refine mv_go' 3 (pc' := if s < 20007 then 125 else 97) (ls' := [mv_R 19, mv_I (p : Int), mv_R 56, mv_R 57, mv_I (h : Int), mv_I (i : Int), mv_I s]) (st' := []) (M1 := M) rfl ?_
      refine mv_sp' (fun c2 => ?_) (fun c2 => ?_)
      · have c3 : ¬ 20007 ≤ s := by omega
        rw [if_neg c3] at hw
        match st, hl, hs with
        | [], hl, hs => simp only [List.length_nil] at hl; omega
        | [_], hl, hs => simp only [List.length_cons, List.length_nil] at hl; omega
        | b :: a :: q, hl, hs =>
          simp only [List.length_cons] at hl
          subst hl
          refine mv_go' 3 (pc' := if ((q.length + 1 + 1 : Nat) : Int) < 2 then 131 else 133) (ls' := [mv_R 19, mv_I (p : Int), mv_R 56, mv_R 57, mv_I ((q.length + 1 + 1 : Nat) : Int), mv_I (i : Int), mv_I s]) (st' := []) (M1 := M) rfl ?_
          refine mv_ff' (by omega) ?_
          refine mv_go' 10 (pc' := 148) (ls' := [mv_R 19, mv_I (p : Int), mv_R 56, mv_R 57, mv_I (mv_w (((q.length + 1 + 1 : Nat) : Int) + (-1))), mv_I (i : Int), mv_I s]) (st' := [mv_I (mv_w ((mv_w (((q.length + 1 + 1 : Nat) : Int) + (-1))) - 1)), mv_R 57, mv_I s, mv_I (mv_w ((mv_w (((q.length + 1 + 1 : Nat) : Int) + (-1))) - 1)), mv_R 57]) (M1 := M) rfl ?_
          rw [show mv_w ((mv_w (((q.length + 1 + 1 : Nat) : Int) + (-1))) - 1) = (q.length : Int) from by (rw [show mv_w (((q.length + 1 + 1 : Nat) : Int) + (-1)) = ((q.length + 1 + 1 : Nat) : Int) + (-1) from mv_w_id (by omega) (by omega), show mv_w ((((q.length + 1 + 1 : Nat) : Int) + (-1)) - 1) = (((q.length + 1 + 1 : Nat) : Int) + (-1)) - 1 from mv_w_id (by omega) (by omega)]) <;> omega]
          refine mv_go' 1 (pc' := if 0 ≤ (q.length : Int) ∧ (q.length : Int) < 64 then 149 else mv_bad) (ls' := [mv_R 19, mv_I (p : Int), mv_R 56, mv_R 57, mv_I (mv_w (((q.length + 1 + 1 : Nat) : Int) + (-1))), mv_I (i : Int), mv_I s]) (st' := [mv_I (M 57 q.length), mv_I s, mv_I (q.length : Int), mv_R 57]) (M1 := M) rfl ?_
          refine mv_tt' (by omega) ?_
          rw [show M 57 q.length = a from by exact hs.2.1]
          refine mv_go' 2 (pc' := 152) (ls' := [mv_R 19, mv_I (p : Int), mv_R 56, mv_R 57, mv_I (mv_w (((q.length + 1 + 1 : Nat) : Int) + (-1))), mv_I (i : Int), mv_I s]) (st' := [mv_I (mv_w (((q.length + 1 + 1 : Nat) : Int) + (-1))), mv_R 57, mv_I a, mv_I s, mv_I (q.length : Int), mv_R 57]) (M1 := M) rfl ?_
          rw [show mv_w (((q.length + 1 + 1 : Nat) : Int) + (-1)) = ((q.length + 1 : Nat) : Int) from by (rw [show mv_w (((q.length + 1 + 1 : Nat) : Int) + (-1)) = ((q.length + 1 + 1 : Nat) : Int) + (-1) from mv_w_id (by omega) (by omega)]) <;> omega]
          refine mv_go' 1 (pc' := if 0 ≤ ((q.length + 1 : Nat) : Int) ∧ ((q.length + 1 : Nat) : Int) < 64 then 153 else mv_bad) (ls' := [mv_R 19, mv_I (p : Int), mv_R 56, mv_R 57, mv_I ((q.length + 1 : Nat) : Int), mv_I (i : Int), mv_I s]) (st' := [mv_I (M 57 (q.length + 1)), mv_I a, mv_I s, mv_I (q.length : Int), mv_R 57]) (M1 := M) rfl ?_
          refine mv_tt' (by omega) ?_
          rw [show M 57 (q.length + 1) = b from by exact hs.1]
          refine mv_callP (st2 := [mv_I (sp_bi s a b), mv_I (q.length : Int), mv_R 57]) rfl (Or.inr rfl) rfl rfl rfl (sp_ofTwo (by omega) (by omega)) (by first | decide | omega) ?_
          refine mv_go' 1 (pc' := if 0 ≤ (q.length : Int) ∧ (q.length : Int) < 64 then 157 else mv_bad) (ls' := [mv_R 19, mv_I (p : Int), mv_R 56, mv_R 57, mv_I ((q.length + 1 : Nat) : Int), mv_I (i : Int), mv_I s]) (st' := []) (M1 := (mv_st M 57 (mv_up (M 57) q.length (sp_bi s a b)))) rfl ?_
          refine mv_tt' (by omega) ?_
          refine mv_go' 2 (pc' := 21) (ls' := [mv_R 19, mv_I (p : Int), mv_R 56, mv_R 57, mv_I ((q.length + 1 : Nat) : Int), mv_I (mv_w ((i : Int) + 1)), mv_I s]) (st' := []) (M1 := (mv_st M 57 (mv_up (M 57) q.length (sp_bi s a b)))) rfl ?_
          rw [show mv_w ((i : Int) + 1) = (i : Int) + 1 from mv_w_id (by omega) (by omega)]
          rw [show (i : Int) + 1 = ((i + 1 : Nat) : Int) from by omega]
          simp only [sp_run, if_neg c0, if_neg c1, if_neg c3]
          exact (ih (sp_bi s a b :: q) (q.length + 1) (i + 1) (mv_st M 57 (mv_up (M 57) q.length (sp_bi s a b))) (mv_I s) rfl hw.2 (by omega) hat.2 (by omega) (by rw [show i + 1 + r.length = i + (r.length + 1) from by omega]; exact he) (sp_stk_ps hs.2.2 rfl)).imp (fun M2 h2 => mv_ag.tr (mv_ag.st mv_ag.rf (by decide)) h2)
      · have c3 : 20007 ≤ s := by omega
        rw [if_pos c3] at hw
        match st, hl, hs with
        | [], hl, hs => simp only [List.length_nil] at hl; omega
        | a :: q, hl, hs =>
          simp only [List.length_cons] at hl
          subst hl
          refine mv_go' 3 (pc' := if ((q.length + 1 : Nat) : Int) < 1 then 103 else 105) (ls' := [mv_R 19, mv_I (p : Int), mv_R 56, mv_R 57, mv_I ((q.length + 1 : Nat) : Int), mv_I (i : Int), mv_I s]) (st' := []) (M1 := M) rfl ?_
          refine mv_ff' (by omega) ?_
          refine mv_go' 9 (pc' := 117) (ls' := [mv_R 19, mv_I (p : Int), mv_R 56, mv_R 57, mv_I ((q.length + 1 : Nat) : Int), mv_I (i : Int), mv_I s]) (st' := [mv_I (mv_w (((q.length + 1 : Nat) : Int) - 1)), mv_R 57, mv_I s, mv_I (mv_w (((q.length + 1 : Nat) : Int) - 1)), mv_R 57]) (M1 := M) rfl ?_
          rw [show mv_w (((q.length + 1 : Nat) : Int) - 1) = (q.length : Int) from by (rw [show mv_w (((q.length + 1 : Nat) : Int) - 1) = ((q.length + 1 : Nat) : Int) - 1 from mv_w_id (by omega) (by omega)]) <;> omega]
          refine mv_go' 1 (pc' := if 0 ≤ (q.length : Int) ∧ (q.length : Int) < 64 then 118 else mv_bad) (ls' := [mv_R 19, mv_I (p : Int), mv_R 56, mv_R 57, mv_I ((q.length + 1 : Nat) : Int), mv_I (i : Int), mv_I s]) (st' := [mv_I (M 57 q.length), mv_I s, mv_I (q.length : Int), mv_R 57]) (M1 := M) rfl ?_
          refine mv_tt' (by omega) ?_
          rw [show M 57 q.length = a from by exact hs.1]
          refine mv_callP (st2 := [mv_I (sp_un s a), mv_I (q.length : Int), mv_R 57]) rfl (Or.inr rfl) rfl rfl rfl (sp_ofOne) (by first | decide | omega) ?_
          refine mv_go' 1 (pc' := if 0 ≤ (q.length : Int) ∧ (q.length : Int) < 64 then 122 else mv_bad) (ls' := [mv_R 19, mv_I (p : Int), mv_R 56, mv_R 57, mv_I ((q.length + 1 : Nat) : Int), mv_I (i : Int), mv_I s]) (st' := []) (M1 := (mv_st M 57 (mv_up (M 57) q.length (sp_un s a)))) rfl ?_
          refine mv_tt' (by omega) ?_
          refine mv_go' 3 (pc' := 21) (ls' := [mv_R 19, mv_I (p : Int), mv_R 56, mv_R 57, mv_I ((q.length + 1 : Nat) : Int), mv_I (mv_w ((i : Int) + 1)), mv_I s]) (st' := []) (M1 := (mv_st M 57 (mv_up (M 57) q.length (sp_un s a)))) rfl ?_
          rw [show mv_w ((i : Int) + 1) = (i : Int) + 1 from mv_w_id (by omega) (by omega)]
          rw [show (i : Int) + 1 = ((i + 1 : Nat) : Int) from by omega]
          simp only [sp_run, if_neg c0, if_neg c1, if_pos c3]
          exact (ih (sp_un s a :: q) (q.length + 1) (i + 1) (mv_st M 57 (mv_up (M 57) q.length (sp_un s a))) (mv_I s) rfl hw.2 (by omega) hat.2 (by omega) (by rw [show i + 1 + r.length = i + (r.length + 1) from by omega]; exact he) (sp_stk_ps hs.2 rfl)).imp (fun M2 h2 => mv_ag.tr (mv_ag.st mv_ag.rf (by decide)) h2)
theorem sp_val0_19_56 {M : mv_M} {code : List Int} (hw : sp_wf code 0) (hat : sp_at (M 20) 0 code) (hlen : code.length ≤ 160) (he : M 21 0 = ((code.length : Nat) : Int)) :
    mv_Ru 1 3 0 [mv_R 19, mv_I 0, mv_R 56, mv_R 57, mv_U, mv_U, mv_U] [] M (mv_I (sp_top (sp_run (M 56) code []))) (fun M1 => mv_ag [57] M M1) := by
  refine mv_go' 4 (pc' := if 0 = 0 then 7 else 11) (ls' := [mv_R 19, mv_I 0, mv_R 56, mv_R 57, mv_I 0, mv_U, mv_U]) (st' := []) (M1 := M) rfl ?_
  refine mv_tt' (rfl) ?_
  refine mv_go' 3 (pc' := 21) (ls' := [mv_R 19, mv_I 0, mv_R 56, mv_R 57, mv_I 0, mv_I 0, mv_U]) (st' := []) (M1 := M) rfl ?_
  exact sp_val_lp_19_56 (p := 0) (by decide) code [] 0 0 M mv_U rfl hw (by decide) hat (by omega) (by rw [he]; simp) trivial
theorem sp_valS_19_56 {M : mv_M} {code : List Int} {q i : Nat} (hq : q < 2) (hw : sp_wf code 0) (hi : M 21 q = (i : Int)) (hat : sp_at (M 20) i code) (hlen : i + code.length ≤ 160) (he : M 21 (q + 1) = ((i + code.length : Nat) : Int)) :
    mv_Ru 1 3 0 [mv_R 19, mv_I ((q + 1 : Nat) : Int), mv_R 56, mv_R 57, mv_U, mv_U, mv_U] [] M (mv_I (sp_top (sp_run (M 56) code []))) (fun M1 => mv_ag [57] M M1) := by
  refine mv_go' 4 (pc' := if ((q + 1 : Nat) : Int) = 0 then 7 else 11) (ls' := [mv_R 19, mv_I ((q + 1 : Nat) : Int), mv_R 56, mv_R 57, mv_I 0, mv_U, mv_U]) (st' := []) (M1 := M) rfl ?_
  refine mv_ff' (by omega) ?_
  refine mv_go' 5 (pc' := 18) (ls' := [mv_R 19, mv_I ((q + 1 : Nat) : Int), mv_R 56, mv_R 57, mv_I 0, mv_U, mv_U]) (st' := [mv_I (mv_w (((q + 1 : Nat) : Int) - 1)), mv_R 21]) (M1 := M) rfl ?_
  rw [show mv_w (((q + 1 : Nat) : Int) - 1) = (q : Int) from by (rw [show mv_w (((q + 1 : Nat) : Int) - 1) = ((q + 1 : Nat) : Int) - 1 from mv_w_id (by omega) (by omega)]) <;> omega]
  refine mv_go' 1 (pc' := if 0 ≤ (q : Int) ∧ (q : Int) < 3 then 19 else mv_bad) (ls' := [mv_R 19, mv_I ((q + 1 : Nat) : Int), mv_R 56, mv_R 57, mv_I 0, mv_U, mv_U]) (st' := [mv_I (M 21 q)]) (M1 := M) rfl ?_
  refine mv_tt' (by omega) ?_
  rw [show M 21 q = (i : Int) from by exact hi]
  refine mv_go' 1 (pc' := 21) (ls' := [mv_R 19, mv_I ((q + 1 : Nat) : Int), mv_R 56, mv_R 57, mv_I 0, mv_I (i : Int), mv_U]) (st' := []) (M1 := M) rfl ?_
  exact sp_val_lp_19_56 (p := q + 1) (by omega) code [] 0 i M mv_U rfl hw (by decide) hat hlen he trivial
theorem sp_value_19_56 {M : mv_M} {P : Nat → List Int} {p : Nat} (hp : p < 3) (hP : sp_ct 19 M P) :
    mv_Ru 1 3 0 [mv_R 19, mv_I (p : Int), mv_R 56, mv_R 57, mv_U, mv_U, mv_U] [] M (mv_I (sp_top (sp_run (M 56) (P p) []))) (fun M1 => mv_ag [57] M M1) := by
  obtain ⟨⟨e0, e1, e2⟩, ⟨a0, a1, a2⟩, ⟨w0, w1, w2⟩, hlen⟩ := hP
  match p, hp with
  | 0, _ => exact sp_val0_19_56 w0 a0 (by omega) e0
  | 1, _ => exact sp_valS_19_56 (q := 0) (by decide) w1 e0 a1 (by omega) e1
  | 2, _ => exact sp_valS_19_56 (q := 1) (by decide) w2 e1 a2 (by omega) e2
theorem sp_val_lp_22_56 {p : Nat} (hp : p < 3) : ∀ (code st : List Int) (h i : Nat) (M : mv_M) (l6 : mv_V), st.length = h → sp_wf code h → h ≤ 64 → sp_at (M 23) i code → i + code.length ≤ 160 → M 24 p = ((i + code.length : Nat) : Int) → sp_stk (M 57) st →
    mv_Ru 1 3 21 [mv_R 22, mv_I (p : Int), mv_R 56, mv_R 57, mv_I (h : Int), mv_I (i : Int), l6] [] M (mv_I (sp_top (sp_run (M 56) code st))) (fun M1 => mv_ag [57] M M1) := by
  intro code
  induction code with
  | nil =>
    intro st h i M l6 hl hw h64 hat hlen he hs
    match st, hl, hs with
    | [], hl, hs => simp only [sp_wf, List.length_nil] at hw hl; omega
    | _ :: _ :: _, hl, hs => simp only [sp_wf, List.length_cons] at hw hl; omega
    | [a], hl, hs =>
      refine mv_go' 5 (pc' := if 0 ≤ (p : Int) ∧ (p : Int) < 3 then 29 else mv_bad) (ls' := [mv_R 22, mv_I (p : Int), mv_R 56, mv_R 57, mv_I (h : Int), mv_I (i : Int), l6]) (st' := [mv_I (M 24 p), mv_I (i : Int)]) (M1 := M) rfl ?_
      refine mv_tt' (by omega) ?_
      rw [show M 24 p = (i : Int) from by rw [he]; rfl]
      refine mv_go' 1 (pc' := if (i : Int) < (i : Int) then 32 else 163) (ls' := [mv_R 22, mv_I (p : Int), mv_R 56, mv_R 57, mv_I (h : Int), mv_I (i : Int), l6]) (st' := []) (M1 := M) rfl ?_
      refine mv_ff' (by omega) ?_
      refine mv_go' 3 (pc' := if 0 ≤ 0 ∧ 0 < 64 then 166 else mv_bad) (ls' := [mv_R 22, mv_I (p : Int), mv_R 56, mv_R 57, mv_I (h : Int), mv_I (i : Int), l6]) (st' := [mv_I (M 57 0)]) (M1 := M) rfl ?_
      refine mv_tt' (by omega) ?_
      rw [show M 57 0 = a from by exact hs.1]
      exact mv_ret (fun n => rfl) (mv_ag.rf)
  | cons s r ih =>
    intro st h i M l6 hl hw h64 hat hlen he hs
    simp only [List.length_cons] at hlen he
    obtain ⟨⟨hs0, hs1⟩, hw⟩ := hw
    refine mv_go' 5 (pc' := if 0 ≤ (p : Int) ∧ (p : Int) < 3 then 29 else mv_bad) (ls' := [mv_R 22, mv_I (p : Int), mv_R 56, mv_R 57, mv_I (h : Int), mv_I (i : Int), l6]) (st' := [mv_I (M 24 p), mv_I (i : Int)]) (M1 := M) rfl ?_
    refine mv_tt' (by omega) ?_
    rw [show M 24 p = ((i + (r.length + 1) : Nat) : Int) from by exact he]
    refine mv_go' 1 (pc' := if (i : Int) < ((i + (r.length + 1) : Nat) : Int) then 32 else 163) (ls' := [mv_R 22, mv_I (p : Int), mv_R 56, mv_R 57, mv_I (h : Int), mv_I (i : Int), l6]) (st' := []) (M1 := M) rfl ?_
    refine mv_tt' (by omega) ?_
    refine mv_go' 4 (pc' := if 0 ≤ (i : Int) ∧ (i : Int) < 160 then 39 else mv_bad) (ls' := [mv_R 22, mv_I (p : Int), mv_R 56, mv_R 57, mv_I (h : Int), mv_I (i : Int), l6]) (st' := [mv_I (M 23 i)]) (M1 := M) rfl ?_
    refine mv_tt' (by omega) ?_
    rw [show M 23 i = s from by exact hat.1]
    refine mv_go' 4 (pc' := if s < 20000 then 49 else 89) (ls' := [mv_R 22, mv_I (p : Int), mv_R 56, mv_R 57, mv_I (h : Int), mv_I (i : Int), mv_I s]) (st' := []) (M1 := M) rfl ?_
    refine mv_sp' (fun c1 => ?_) (fun c1 => ?_)
    · rw [if_pos c1] at hw
      refine mv_go' 3 (pc' := if (h : Int) < 64 then 58 else 56) (ls' := [mv_R 22, mv_I (p : Int), mv_R 56, mv_R 57, mv_I (h : Int), mv_I (i : Int), mv_I s]) (st' := []) (M1 := M) rfl ?_
      refine mv_tt' (by omega) ?_
      refine mv_go' 5 (pc' := if s < 10000 then 69 else 74) (ls' := [mv_R 22, mv_I (p : Int), mv_R 56, mv_R 57, mv_I (h : Int), mv_I (i : Int), mv_I s]) (st' := [mv_I (h : Int), mv_R 57]) (M1 := M) rfl ?_
      refine mv_sp' (fun c0 => ?_) (fun c0 => ?_)
      · refine mv_go' 3 (pc' := if 0 ≤ (h : Int) ∧ (h : Int) < 64 then 83 else mv_bad) (ls' := [mv_R 22, mv_I (p : Int), mv_R 56, mv_R 57, mv_I (h : Int), mv_I (i : Int), mv_I s]) (st' := []) (M1 := (mv_st M 57 (mv_up (M 57) h s))) rfl ?_
        refine mv_tt' (by omega) ?_
        refine mv_go' 4 (pc' := 21) (ls' := [mv_R 22, mv_I (p : Int), mv_R 56, mv_R 57, mv_I (mv_w ((h : Int) + 1)), mv_I (mv_w ((i : Int) + 1)), mv_I s]) (st' := []) (M1 := (mv_st M 57 (mv_up (M 57) h s))) rfl ?_
        rw [show mv_w ((h : Int) + 1) = (h : Int) + 1 from mv_w_id (by omega) (by omega)]
        rw [show mv_w ((i : Int) + 1) = (i : Int) + 1 from mv_w_id (by omega) (by omega)]
        rw [show (h : Int) + 1 = ((h + 1 : Nat) : Int) from by omega]
        rw [show (i : Int) + 1 = ((i + 1 : Nat) : Int) from by omega]
        simp only [sp_run, if_pos c0]
        exact (ih (s :: st) (h + 1) (i + 1) (mv_st M 57 (mv_up (M 57) h s)) (mv_I s) (by simp only [List.length_cons]; omega) hw.2.2 (by omega) hat.2 (by omega) (by rw [show i + 1 + r.length = i + (r.length + 1) from by omega]; exact he) (sp_stk_ps hs hl)).imp (fun M2 h2 => mv_ag.tr (mv_ag.st mv_ag.rf (by decide)) h2)
      · refine mv_go' 4 (pc' := 81) (ls' := [mv_R 22, mv_I (p : Int), mv_R 56, mv_R 57, mv_I (h : Int), mv_I (i : Int), mv_I s]) (st' := [mv_I (mv_w (s - 10000)), mv_R 56, mv_I (h : Int), mv_R 57]) (M1 := M) rfl ?_
        rw [show mv_w (s - 10000) = s - 10000 from by unfold mv_w; omega]
        refine mv_go' 1 (pc' := if 0 ≤ (s - 10000) ∧ (s - 10000) < 6 then 82 else mv_bad) (ls' := [mv_R 22, mv_I (p : Int), mv_R 56, mv_R 57, mv_I (h : Int), mv_I (i : Int), mv_I s]) (st' := [mv_I (M 56 ((s - 10000).toNat)), mv_I (h : Int), mv_R 57]) (M1 := M) rfl ?_
        refine mv_tt' (by omega) ?_
        refine mv_go' 1 (pc' := if 0 ≤ (h : Int) ∧ (h : Int) < 64 then 83 else mv_bad) (ls' := [mv_R 22, mv_I (p : Int), mv_R 56, mv_R 57, mv_I (h : Int), mv_I (i : Int), mv_I s]) (st' := []) (M1 := (mv_st M 57 (mv_up (M 57) h (M 56 ((s - 10000).toNat))))) rfl ?_
        refine mv_tt' (by omega) ?_
        refine mv_go' 4 (pc' := 21) (ls' := [mv_R 22, mv_I (p : Int), mv_R 56, mv_R 57, mv_I (mv_w ((h : Int) + 1)), mv_I (mv_w ((i : Int) + 1)), mv_I s]) (st' := []) (M1 := (mv_st M 57 (mv_up (M 57) h (M 56 ((s - 10000).toNat))))) rfl ?_
        rw [show mv_w ((h : Int) + 1) = (h : Int) + 1 from mv_w_id (by omega) (by omega)]
        rw [show mv_w ((i : Int) + 1) = (i : Int) + 1 from mv_w_id (by omega) (by omega)]
        rw [show (h : Int) + 1 = ((h + 1 : Nat) : Int) from by omega]
        rw [show (i : Int) + 1 = ((i + 1 : Nat) : Int) from by omega]
        simp only [sp_run, if_neg c0, if_pos c1]
        exact (ih (M 56 (s - 10000).toNat :: st) (h + 1) (i + 1) (mv_st M 57 (mv_up (M 57) h (M 56 (s - 10000).toNat))) (mv_I s) (by simp only [List.length_cons]; omega) hw.2.2 (by omega) hat.2 (by omega) (by rw [show i + 1 + r.length = i + (r.length + 1) from by omega]; exact he) (sp_stk_ps hs hl)).imp (fun M2 h2 => mv_ag.tr (mv_ag.st mv_ag.rf (by decide)) h2)
    · rw [if_neg c1] at hw
      have c0 : ¬ s < 10000 := by omega
      refine mv_go' 3 (pc' := if s < 20007 then 125 else 97) (ls' := [mv_R 22, mv_I (p : Int), mv_R 56, mv_R 57, mv_I (h : Int), mv_I (i : Int), mv_I s]) (st' := []) (M1 := M) rfl ?_
      refine mv_sp' (fun c2 => ?_) (fun c2 => ?_)
      · have c3 : ¬ 20007 ≤ s := by omega
        rw [if_neg c3] at hw
        match st, hl, hs with
        | [], hl, hs => simp only [List.length_nil] at hl; omega
        | [_], hl, hs => simp only [List.length_cons, List.length_nil] at hl; omega
        | b :: a :: q, hl, hs =>
          simp only [List.length_cons] at hl
          subst hl
          refine mv_go' 3 (pc' := if ((q.length + 1 + 1 : Nat) : Int) < 2 then 131 else 133) (ls' := [mv_R 22, mv_I (p : Int), mv_R 56, mv_R 57, mv_I ((q.length + 1 + 1 : Nat) : Int), mv_I (i : Int), mv_I s]) (st' := []) (M1 := M) rfl ?_
          refine mv_ff' (by omega) ?_
          refine mv_go' 10 (pc' := 148) (ls' := [mv_R 22, mv_I (p : Int), mv_R 56, mv_R 57, mv_I (mv_w (((q.length + 1 + 1 : Nat) : Int) + (-1))), mv_I (i : Int), mv_I s]) (st' := [mv_I (mv_w ((mv_w (((q.length + 1 + 1 : Nat) : Int) + (-1))) - 1)), mv_R 57, mv_I s, mv_I (mv_w ((mv_w (((q.length + 1 + 1 : Nat) : Int) + (-1))) - 1)), mv_R 57]) (M1 := M) rfl ?_
          rw [show mv_w ((mv_w (((q.length + 1 + 1 : Nat) : Int) + (-1))) - 1) = (q.length : Int) from by (rw [show mv_w (((q.length + 1 + 1 : Nat) : Int) + (-1)) = ((q.length + 1 + 1 : Nat) : Int) + (-1) from mv_w_id (by omega) (by omega), show mv_w ((((q.length + 1 + 1 : Nat) : Int) + (-1)) - 1) = (((q.length + 1 + 1 : Nat) : Int) + (-1)) - 1 from mv_w_id (by omega) (by omega)]) <;> omega]
          refine mv_go' 1 (pc' := if 0 ≤ (q.length : Int) ∧ (q.length : Int) < 64 then 149 else mv_bad) (ls' := [mv_R 22, mv_I (p : Int), mv_R 56, mv_R 57, mv_I (mv_w (((q.length + 1 + 1 : Nat) : Int) + (-1))), mv_I (i : Int), mv_I s]) (st' := [mv_I (M 57 q.length), mv_I s, mv_I (q.length : Int), mv_R 57]) (M1 := M) rfl ?_
          refine mv_tt' (by omega) ?_
          rw [show M 57 q.length = a from by exact hs.2.1]
          refine mv_go' 2 (pc' := 152) (ls' := [mv_R 22, mv_I (p : Int), mv_R 56, mv_R 57, mv_I (mv_w (((q.length + 1 + 1 : Nat) : Int) + (-1))), mv_I (i : Int), mv_I s]) (st' := [mv_I (mv_w (((q.length + 1 + 1 : Nat) : Int) + (-1))), mv_R 57, mv_I a, mv_I s, mv_I (q.length : Int), mv_R 57]) (M1 := M) rfl ?_
          rw [show mv_w (((q.length + 1 + 1 : Nat) : Int) + (-1)) = ((q.length + 1 : Nat) : Int) from by (rw [show mv_w (((q.length + 1 + 1 : Nat) : Int) + (-1)) = ((q.length + 1 + 1 : Nat) : Int) + (-1) from mv_w_id (by omega) (by omega)]) <;> omega]
          refine mv_go' 1 (pc' := if 0 ≤ ((q.length + 1 : Nat) : Int) ∧ ((q.length + 1 : Nat) : Int) < 64 then 153 else mv_bad) (ls' := [mv_R 22, mv_I (p : Int), mv_R 56, mv_R 57, mv_I ((q.length + 1 : Nat) : Int), mv_I (i : Int), mv_I s]) (st' := [mv_I (M 57 (q.length + 1)), mv_I a, mv_I s, mv_I (q.length : Int), mv_R 57]) (M1 := M) rfl ?_
          refine mv_tt' (by omega) ?_
          rw [show M 57 (q.length + 1) = b from by exact hs.1]
          refine mv_callP (st2 := [mv_I (sp_bi s a b), mv_I (q.length : Int), mv_R 57]) rfl (Or.inr rfl) rfl rfl rfl (sp_ofTwo (by omega) (by omega)) (by first | decide | omega) ?_
          refine mv_go' 1 (pc' := if 0 ≤ (q.length : Int) ∧ (q.length : Int) < 64 then 157 else mv_bad) (ls' := [mv_R 22, mv_I (p : Int), mv_R 56, mv_R 57, mv_I ((q.length + 1 : Nat) : Int), mv_I (i : Int), mv_I s]) (st' := []) (M1 := (mv_st M 57 (mv_up (M 57) q.length (sp_bi s a b)))) rfl ?_
          refine mv_tt' (by omega) ?_
          refine mv_go' 2 (pc' := 21) (ls' := [mv_R 22, mv_I (p : Int), mv_R 56, mv_R 57, mv_I ((q.length + 1 : Nat) : Int), mv_I (mv_w ((i : Int) + 1)), mv_I s]) (st' := []) (M1 := (mv_st M 57 (mv_up (M 57) q.length (sp_bi s a b)))) rfl ?_
          rw [show mv_w ((i : Int) + 1) = (i : Int) + 1 from mv_w_id (by omega) (by omega)]
          rw [show (i : Int) + 1 = ((i + 1 : Nat) : Int) from by omega]
          simp only [sp_run, if_neg c0, if_neg c1, if_neg c3]
          exact (ih (sp_bi s a b :: q) (q.length + 1) (i + 1) (mv_st M 57 (mv_up (M 57) q.length (sp_bi s a b))) (mv_I s) rfl hw.2 (by omega) hat.2 (by omega) (by rw [show i + 1 + r.length = i + (r.length + 1) from by omega]; exact he) (sp_stk_ps hs.2.2 rfl)).imp (fun M2 h2 => mv_ag.tr (mv_ag.st mv_ag.rf (by decide)) h2)
      · have c3 : 20007 ≤ s := by omega
        rw [if_pos c3] at hw
        match st, hl, hs with
        | [], hl, hs => simp only [List.length_nil] at hl; omega
        | a :: q, hl, hs =>
          simp only [List.length_cons] at hl
          subst hl
          refine mv_go' 3 (pc' := if ((q.length + 1 : Nat) : Int) < 1 then 103 else 105) (ls' := [mv_R 22, mv_I (p : Int), mv_R 56, mv_R 57, mv_I ((q.length + 1 : Nat) : Int), mv_I (i : Int), mv_I s]) (st' := []) (M1 := M) rfl ?_
          refine mv_ff' (by omega) ?_
          refine mv_go' 9 (pc' := 117) (ls' := [mv_R 22, mv_I (p : Int), mv_R 56, mv_R 57, mv_I ((q.length + 1 : Nat) : Int), mv_I (i : Int), mv_I s]) (st' := [mv_I (mv_w (((q.length + 1 : Nat) : Int) - 1)), mv_R 57, mv_I s, mv_I (mv_w (((q.length + 1 : Nat) : Int) - 1)), mv_R 57]) (M1 := M) rfl ?_
          rw [show mv_w (((q.length + 1 : Nat) : Int) - 1) = (q.length : Int) from by (rw [show mv_w (((q.length + 1 : Nat) : Int) - 1) = ((q.length + 1 : Nat) : Int) - 1 from mv_w_id (by omega) (by omega)]) <;> omega]
          refine mv_go' 1 (pc' := if 0 ≤ (q.length : Int) ∧ (q.length : Int) < 64 then 118 else mv_bad) (ls' := [mv_R 22, mv_I (p : Int), mv_R 56, mv_R 57, mv_I ((q.length + 1 : Nat) : Int), mv_I (i : Int), mv_I s]) (st' := [mv_I (M 57 q.length), mv_I s, mv_I (q.length : Int), mv_R 57]) (M1 := M) rfl ?_
          refine mv_tt' (by omega) ?_
          rw [show M 57 q.length = a from by exact hs.1]
          refine mv_callP (st2 := [mv_I (sp_un s a), mv_I (q.length : Int), mv_R 57]) rfl (Or.inr rfl) rfl rfl rfl (sp_ofOne) (by first | decide | omega) ?_
          refine mv_go' 1 (pc' := if 0 ≤ (q.length : Int) ∧ (q.length : Int) < 64 then 122 else mv_bad) (ls' := [mv_R 22, mv_I (p : Int), mv_R 56, mv_R 57, mv_I ((q.length + 1 : Nat) : Int), mv_I (i : Int), mv_I s]) (st' := []) (M1 := (mv_st M 57 (mv_up (M 57) q.length (sp_un s a)))) rfl ?_
          refine mv_tt' (by omega) ?_
          refine mv_go' 3 (pc' := 21) (ls' := [mv_R 22, mv_I (p : Int), mv_R 56, mv_R 57, mv_I ((q.length + 1 : Nat) : Int), mv_I (mv_w ((i : Int) + 1)), mv_I s]) (st' := []) (M1 := (mv_st M 57 (mv_up (M 57) q.length (sp_un s a)))) rfl ?_
          rw [show mv_w ((i : Int) + 1) = (i : Int) + 1 from mv_w_id (by omega) (by omega)]
          rw [show (i : Int) + 1 = ((i + 1 : Nat) : Int) from by omega]
          simp only [sp_run, if_neg c0, if_neg c1, if_pos c3]
          exact (ih (sp_un s a :: q) (q.length + 1) (i + 1) (mv_st M 57 (mv_up (M 57) q.length (sp_un s a))) (mv_I s) rfl hw.2 (by omega) hat.2 (by omega) (by rw [show i + 1 + r.length = i + (r.length + 1) from by omega]; exact he) (sp_stk_ps hs.2 rfl)).imp (fun M2 h2 => mv_ag.tr (mv_ag.st mv_ag.rf (by decide)) h2)
theorem sp_val0_22_56 {M : mv_M} {code : List Int} (hw : sp_wf code 0) (hat : sp_at (M 23) 0 code) (hlen : code.length ≤ 160) (he : M 24 0 = ((code.length : Nat) : Int)) :
    mv_Ru 1 3 0 [mv_R 22, mv_I 0, mv_R 56, mv_R 57, mv_U, mv_U, mv_U] [] M (mv_I (sp_top (sp_run (M 56) code []))) (fun M1 => mv_ag [57] M M1) := by
  refine mv_go' 4 (pc' := if 0 = 0 then 7 else 11) (ls' := [mv_R 22, mv_I 0, mv_R 56, mv_R 57, mv_I 0, mv_U, mv_U]) (st' := []) (M1 := M) rfl ?_
  refine mv_tt' (rfl) ?_
  refine mv_go' 3 (pc' := 21) (ls' := [mv_R 22, mv_I 0, mv_R 56, mv_R 57, mv_I 0, mv_I 0, mv_U]) (st' := []) (M1 := M) rfl ?_
  exact sp_val_lp_22_56 (p := 0) (by decide) code [] 0 0 M mv_U rfl hw (by decide) hat (by omega) (by rw [he]; simp) trivial
theorem sp_valS_22_56 {M : mv_M} {code : List Int} {q i : Nat} (hq : q < 2) (hw : sp_wf code 0) (hi : M 24 q = (i : Int)) (hat : sp_at (M 23) i code) (hlen : i + code.length ≤ 160) (he : M 24 (q + 1) = ((i + code.length : Nat) : Int)) :
    mv_Ru 1 3 0 [mv_R 22, mv_I ((q + 1 : Nat) : Int), mv_R 56, mv_R 57, mv_U, mv_U, mv_U] [] M (mv_I (sp_top (sp_run (M 56) code []))) (fun M1 => mv_ag [57] M M1) := by
  refine mv_go' 4 (pc' := if ((q + 1 : Nat) : Int) = 0 then 7 else 11) (ls' := [mv_R 22, mv_I ((q + 1 : Nat) : Int), mv_R 56, mv_R 57, mv_I 0, mv_U, mv_U]) (st' := []) (M1 := M) rfl ?_
  refine mv_ff' (by omega) ?_
  refine mv_go' 5 (pc' := 18) (ls' := [mv_R 22, mv_I ((q + 1 : Nat) : Int), mv_R 56, mv_R 57, mv_I 0, mv_U, mv_U]) (st' := [mv_I (mv_w (((q + 1 : Nat) : Int) - 1)), mv_R 24]) (M1 := M) rfl ?_
  rw [show mv_w (((q + 1 : Nat) : Int) - 1) = (q : Int) from by (rw [show mv_w (((q + 1 : Nat) : Int) - 1) = ((q + 1 : Nat) : Int) - 1 from mv_w_id (by omega) (by omega)]) <;> omega]
  refine mv_go' 1 (pc' := if 0 ≤ (q : Int) ∧ (q : Int) < 3 then 19 else mv_bad) (ls' := [mv_R 22, mv_I ((q + 1 : Nat) : Int), mv_R 56, mv_R 57, mv_I 0, mv_U, mv_U]) (st' := [mv_I (M 24 q)]) (M1 := M) rfl ?_
  refine mv_tt' (by omega) ?_
  rw [show M 24 q = (i : Int) from by exact hi]
  refine mv_go' 1 (pc' := 21) (ls' := [mv_R 22, mv_I ((q + 1 : Nat) : Int), mv_R 56, mv_R 57, mv_I 0, mv_I (i : Int), mv_U]) (st' := []) (M1 := M) rfl ?_
  exact sp_val_lp_22_56 (p := q + 1) (by omega) code [] 0 i M mv_U rfl hw (by decide) hat hlen he trivial
theorem sp_value_22_56 {M : mv_M} {P : Nat → List Int} {p : Nat} (hp : p < 3) (hP : sp_ct 22 M P) :
    mv_Ru 1 3 0 [mv_R 22, mv_I (p : Int), mv_R 56, mv_R 57, mv_U, mv_U, mv_U] [] M (mv_I (sp_top (sp_run (M 56) (P p) []))) (fun M1 => mv_ag [57] M M1) := by
  obtain ⟨⟨e0, e1, e2⟩, ⟨a0, a1, a2⟩, ⟨w0, w1, w2⟩, hlen⟩ := hP
  match p, hp with
  | 0, _ => exact sp_val0_22_56 w0 a0 (by omega) e0
  | 1, _ => exact sp_valS_22_56 (q := 0) (by decide) w1 e0 a1 (by omega) e1
  | 2, _ => exact sp_valS_22_56 (q := 1) (by decide) w2 e1 a2 (by omega) e2
theorem sp_val_lp_25_56 {p : Nat} (hp : p < 3) : ∀ (code st : List Int) (h i : Nat) (M : mv_M) (l6 : mv_V), st.length = h → sp_wf code h → h ≤ 64 → sp_at (M 26) i code → i + code.length ≤ 160 → M 27 p = ((i + code.length : Nat) : Int) → sp_stk (M 57) st →
    mv_Ru 1 3 21 [mv_R 25, mv_I (p : Int), mv_R 56, mv_R 57, mv_I (h : Int), mv_I (i : Int), l6] [] M (mv_I (sp_top (sp_run (M 56) code st))) (fun M1 => mv_ag [57] M M1) := by
  intro code
  induction code with
  | nil =>
    intro st h i M l6 hl hw h64 hat hlen he hs
    match st, hl, hs with
    | [], hl, hs => simp only [sp_wf, List.length_nil] at hw hl; omega
    | _ :: _ :: _, hl, hs => simp only [sp_wf, List.length_cons] at hw hl; omega
    | [a], hl, hs =>
      refine mv_go' 5 (pc' := if 0 ≤ (p : Int) ∧ (p : Int) < 3 then 29 else mv_bad) (ls' := [mv_R 25, mv_I (p : Int), mv_R 56, mv_R 57, mv_I (h : Int), mv_I (i : Int), l6]) (st' := [mv_I (M 27 p), mv_I (i : Int)]) (M1 := M) rfl ?_
      refine mv_tt' (by omega) ?_
      rw [show M 27 p = (i : Int) from by rw [he]; rfl]
      refine mv_go' 1 (pc' := if (i : Int) < (i : Int) then 32 else 163) (ls' := [mv_R 25, mv_I (p : Int), mv_R 56, mv_R 57, mv_I (h : Int), mv_I (i : Int), l6]) (st' := []) (M1 := M) rfl ?_
      refine mv_ff' (by omega) ?_
      refine mv_go' 3 (pc' := if 0 ≤ 0 ∧ 0 < 64 then 166 else mv_bad) (ls' := [mv_R 25, mv_I (p : Int), mv_R 56, mv_R 57, mv_I (h : Int), mv_I (i : Int), l6]) (st' := [mv_I (M 57 0)]) (M1 := M) rfl ?_
      refine mv_tt' (by omega) ?_
      rw [show M 57 0 = a from by exact hs.1]
      exact mv_ret (fun n => rfl) (mv_ag.rf)
  | cons s r ih =>
    intro st h i M l6 hl hw h64 hat hlen he hs
    simp only [List.length_cons] at hlen he
    obtain ⟨⟨hs0, hs1⟩, hw⟩ := hw
    refine mv_go' 5 (pc' := if 0 ≤ (p : Int) ∧ (p : Int) < 3 then 29 else mv_bad) (ls' := [mv_R 25, mv_I (p : Int), mv_R 56, mv_R 57, mv_I (h : Int), mv_I (i : Int), l6]) (st' := [mv_I (M 27 p), mv_I (i : Int)]) (M1 := M) rfl ?_
    refine mv_tt' (by omega) ?_
    rw [show M 27 p = ((i + (r.length + 1) : Nat) : Int) from by exact he]
    refine mv_go' 1 (pc' := if (i : Int) < ((i + (r.length + 1) : Nat) : Int) then 32 else 163) (ls' := [mv_R 25, mv_I (p : Int), mv_R 56, mv_R 57, mv_I (h : Int), mv_I (i : Int), l6]) (st' := []) (M1 := M) rfl ?_
    refine mv_tt' (by omega) ?_
    refine mv_go' 4 (pc' := if 0 ≤ (i : Int) ∧ (i : Int) < 160 then 39 else mv_bad) (ls' := [mv_R 25, mv_I (p : Int), mv_R 56, mv_R 57, mv_I (h : Int), mv_I (i : Int), l6]) (st' := [mv_I (M 26 i)]) (M1 := M) rfl ?_
    refine mv_tt' (by omega) ?_
    rw [show M 26 i = s from by exact hat.1]
    refine mv_go' 4 (pc' := if s < 20000 then 49 else 89) (ls' := [mv_R 25, mv_I (p : Int), mv_R 56, mv_R 57, mv_I (h : Int), mv_I (i : Int), mv_I s]) (st' := []) (M1 := M) rfl ?_
    refine mv_sp' (fun c1 => ?_) (fun c1 => ?_)
    · rw [if_pos c1] at hw
      refine mv_go' 3 (pc' := if (h : Int) < 64 then 58 else 56) (ls' := [mv_R 25, mv_I (p : Int), mv_R 56, mv_R 57, mv_I (h : Int), mv_I (i : Int), mv_I s]) (st' := []) (M1 := M) rfl ?_
      refine mv_tt' (by omega) ?_
      refine mv_go' 5 (pc' := if s < 10000 then 69 else 74) (ls' := [mv_R 25, mv_I (p : Int), mv_R 56, mv_R 57, mv_I (h : Int), mv_I (i : Int), mv_I s]) (st' := [mv_I (h : Int), mv_R 57]) (M1 := M) rfl ?_
      refine mv_sp' (fun c0 => ?_) (fun c0 => ?_)
      · refine mv_go' 3 (pc' := if 0 ≤ (h : Int) ∧ (h : Int) < 64 then 83 else mv_bad) (ls' := [mv_R 25, mv_I (p : Int), mv_R 56, mv_R 57, mv_I (h : Int), mv_I (i : Int), mv_I s]) (st' := []) (M1 := (mv_st M 57 (mv_up (M 57) h s))) rfl ?_
        refine mv_tt' (by omega) ?_
        refine mv_go' 4 (pc' := 21) (ls' := [mv_R 25, mv_I (p : Int), mv_R 56, mv_R 57, mv_I (mv_w ((h : Int) + 1)), mv_I (mv_w ((i : Int) + 1)), mv_I s]) (st' := []) (M1 := (mv_st M 57 (mv_up (M 57) h s))) rfl ?_
        rw [show mv_w ((h : Int) + 1) = (h : Int) + 1 from mv_w_id (by omega) (by omega)]
        rw [show mv_w ((i : Int) + 1) = (i : Int) + 1 from mv_w_id (by omega) (by omega)]
        rw [show (h : Int) + 1 = ((h + 1 : Nat) : Int) from by omega]
        rw [show (i : Int) + 1 = ((i + 1 : Nat) : Int) from by omega]
        simp only [sp_run, if_pos c0]
        exact (ih (s :: st) (h + 1) (i + 1) (mv_st M 57 (mv_up (M 57) h s)) (mv_I s) (by simp only [List.length_cons]; omega) hw.2.2 (by omega) hat.2 (by omega) (by rw [show i + 1 + r.length = i + (r.length + 1) from by omega]; exact he) (sp_stk_ps hs hl)).imp (fun M2 h2 => mv_ag.tr (mv_ag.st mv_ag.rf (by decide)) h2)
      · refine mv_go' 4 (pc' := 81) (ls' := [mv_R 25, mv_I (p : Int), mv_R 56, mv_R 57, mv_I (h : Int), mv_I (i : Int), mv_I s]) (st' := [mv_I (mv_w (s - 10000)), mv_R 56, mv_I (h : Int), mv_R 57]) (M1 := M) rfl ?_
        rw [show mv_w (s - 10000) = s - 10000 from by unfold mv_w; omega]
        refine mv_go' 1 (pc' := if 0 ≤ (s - 10000) ∧ (s - 10000) < 6 then 82 else mv_bad) (ls' := [mv_R 25, mv_I (p : Int), mv_R 56, mv_R 57, mv_I (h : Int), mv_I (i : Int), mv_I s]) (st' := [mv_I (M 56 ((s - 10000).toNat)), mv_I (h : Int), mv_R 57]) (M1 := M) rfl ?_
        refine mv_tt' (by omega) ?_
        refine mv_go' 1 (pc' := if 0 ≤ (h : Int) ∧ (h : Int) < 64 then 83 else mv_bad) (ls' := [mv_R 25, mv_I (p : Int), mv_R 56, mv_R 57, mv_I (h : Int), mv_I (i : Int), mv_I s]) (st' := []) (M1 := (mv_st M 57 (mv_up (M 57) h (M 56 ((s - 10000).toNat))))) rfl ?_
        refine mv_tt' (by omega) ?_
        refine mv_go' 4 (pc' := 21) (ls' := [mv_R 25, mv_I (p : Int), mv_R 56, mv_R 57, mv_I (mv_w ((h : Int) + 1)), mv_I (mv_w ((i : Int) + 1)), mv_I s]) (st' := []) (M1 := (mv_st M 57 (mv_up (M 57) h (M 56 ((s - 10000).toNat))))) rfl ?_
        rw [show mv_w ((h : Int) + 1) = (h : Int) + 1 from mv_w_id (by omega) (by omega)]
        rw [show mv_w ((i : Int) + 1) = (i : Int) + 1 from mv_w_id (by omega) (by omega)]
        rw [show (h : Int) + 1 = ((h + 1 : Nat) : Int) from by omega]
        rw [show (i : Int) + 1 = ((i + 1 : Nat) : Int) from by omega]
        simp only [sp_run, if_neg c0, if_pos c1]
        exact (ih (M 56 (s - 10000).toNat :: st) (h + 1) (i + 1) (mv_st M 57 (mv_up (M 57) h (M 56 (s - 10000).toNat))) (mv_I s) (by simp only [List.length_cons]; omega) hw.2.2 (by omega) hat.2 (by omega) (by rw [show i + 1 + r.length = i + (r.length + 1) from by omega]; exact he) (sp_stk_ps hs hl)).imp (fun M2 h2 => mv_ag.tr (mv_ag.st mv_ag.rf (by decide)) h2)
    · rw [if_neg c1] at hw
      have c0 : ¬ s < 10000 := by omega
      refine mv_go' 3 (pc' := if s < 20007 then 125 else 97) (ls' := [mv_R 25, mv_I (p : Int), mv_R 56, mv_R 57, mv_I (h : Int), mv_I (i : Int), mv_I s]) (st' := []) (M1 := M) rfl ?_
      refine mv_sp' (fun c2 => ?_) (fun c2 => ?_)
      · have c3 : ¬ 20007 ≤ s := by omega
        rw [if_neg c3] at hw
        match st, hl, hs with
        | [], hl, hs => simp only [List.length_nil] at hl; omega
        | [_], hl, hs => simp only [List.length_cons, List.length_nil] at hl; omega
        | b :: a :: q, hl, hs =>
          simp only [List.length_cons] at hl
          subst hl
          refine mv_go' 3 (pc' := if ((q.length + 1 + 1 : Nat) : Int) < 2 then 131 else 133) (ls' := [mv_R 25, mv_I (p : Int), mv_R 56, mv_R 57, mv_I ((q.length + 1 + 1 : Nat) : Int), mv_I (i : Int), mv_I s]) (st' := []) (M1 := M) rfl ?_
          refine mv_ff' (by omega) ?_
          refine mv_go' 10 (pc' := 148) (ls' := [mv_R 25, mv_I (p : Int), mv_R 56, mv_R 57, mv_I (mv_w (((q.length + 1 + 1 : Nat) : Int) + (-1))), mv_I (i : Int), mv_I s]) (st' := [mv_I (mv_w ((mv_w (((q.length + 1 + 1 : Nat) : Int) + (-1))) - 1)), mv_R 57, mv_I s, mv_I (mv_w ((mv_w (((q.length + 1 + 1 : Nat) : Int) + (-1))) - 1)), mv_R 57]) (M1 := M) rfl ?_
          rw [show mv_w ((mv_w (((q.length + 1 + 1 : Nat) : Int) + (-1))) - 1) = (q.length : Int) from by (rw [show mv_w (((q.length + 1 + 1 : Nat) : Int) + (-1)) = ((q.length + 1 + 1 : Nat) : Int) + (-1) from mv_w_id (by omega) (by omega), show mv_w ((((q.length + 1 + 1 : Nat) : Int) + (-1)) - 1) = (((q.length + 1 + 1 : Nat) : Int) + (-1)) - 1 from mv_w_id (by omega) (by omega)]) <;> omega]
          refine mv_go' 1 (pc' := if 0 ≤ (q.length : Int) ∧ (q.length : Int) < 64 then 149 else mv_bad) (ls' := [mv_R 25, mv_I (p : Int), mv_R 56, mv_R 57, mv_I (mv_w (((q.length + 1 + 1 : Nat) : Int) + (-1))), mv_I (i : Int), mv_I s]) (st' := [mv_I (M 57 q.length), mv_I s, mv_I (q.length : Int), mv_R 57]) (M1 := M) rfl ?_
          refine mv_tt' (by omega) ?_
          rw [show M 57 q.length = a from by exact hs.2.1]
          refine mv_go' 2 (pc' := 152) (ls' := [mv_R 25, mv_I (p : Int), mv_R 56, mv_R 57, mv_I (mv_w (((q.length + 1 + 1 : Nat) : Int) + (-1))), mv_I (i : Int), mv_I s]) (st' := [mv_I (mv_w (((q.length + 1 + 1 : Nat) : Int) + (-1))), mv_R 57, mv_I a, mv_I s, mv_I (q.length : Int), mv_R 57]) (M1 := M) rfl ?_
          rw [show mv_w (((q.length + 1 + 1 : Nat) : Int) + (-1)) = ((q.length + 1 : Nat) : Int) from by (rw [show mv_w (((q.length + 1 + 1 : Nat) : Int) + (-1)) = ((q.length + 1 + 1 : Nat) : Int) + (-1) from mv_w_id (by omega) (by omega)]) <;> omega]
          refine mv_go' 1 (pc' := if 0 ≤ ((q.length + 1 : Nat) : Int) ∧ ((q.length + 1 : Nat) : Int) < 64 then 153 else mv_bad) (ls' := [mv_R 25, mv_I (p : Int), mv_R 56, mv_R 57, mv_I ((q.length + 1 : Nat) : Int), mv_I (i : Int), mv_I s]) (st' := [mv_I (M 57 (q.length + 1)), mv_I a, mv_I s, mv_I (q.length : Int), mv_R 57]) (M1 := M) rfl ?_
          refine mv_tt' (by omega) ?_
          rw [show M 57 (q.length + 1) = b from by exact hs.1]
          refine mv_callP (st2 := [mv_I (sp_bi s a b), mv_I (q.length : Int), mv_R 57]) rfl (Or.inr rfl) rfl rfl rfl (sp_ofTwo (by omega) (by omega)) (by first | decide | omega) ?_
          refine mv_go' 1 (pc' := if 0 ≤ (q.length : Int) ∧ (q.length : Int) < 64 then 157 else mv_bad) (ls' := [mv_R 25, mv_I (p : Int), mv_R 56, mv_R 57, mv_I ((q.length + 1 : Nat) : Int), mv_I (i : Int), mv_I s]) (st' := []) (M1 := (mv_st M 57 (mv_up (M 57) q.length (sp_bi s a b)))) rfl ?_
          refine mv_tt' (by omega) ?_
          refine mv_go' 2 (pc' := 21) (ls' := [mv_R 25, mv_I (p : Int), mv_R 56, mv_R 57, mv_I ((q.length + 1 : Nat) : Int), mv_I (mv_w ((i : Int) + 1)), mv_I s]) (st' := []) (M1 := (mv_st M 57 (mv_up (M 57) q.length (sp_bi s a b)))) rfl ?_
          rw [show mv_w ((i : Int) + 1) = (i : Int) + 1 from mv_w_id (by omega) (by omega)]
          rw [show (i : Int) + 1 = ((i + 1 : Nat) : Int) from by omega]
          simp only [sp_run, if_neg c0, if_neg c1, if_neg c3]
          exact (ih (sp_bi s a b :: q) (q.length + 1) (i + 1) (mv_st M 57 (mv_up (M 57) q.length (sp_bi s a b))) (mv_I s) rfl hw.2 (by omega) hat.2 (by omega) (by rw [show i + 1 + r.length = i + (r.length + 1) from by omega]; exact he) (sp_stk_ps hs.2.2 rfl)).imp (fun M2 h2 => mv_ag.tr (mv_ag.st mv_ag.rf (by decide)) h2)
      · have c3 : 20007 ≤ s := by omega
        rw [if_pos c3] at hw
        match st, hl, hs with
        | [], hl, hs => simp only [List.length_nil] at hl; omega
        | a :: q, hl, hs =>
          simp only [List.length_cons] at hl
          subst hl
          refine mv_go' 3 (pc' := if ((q.length + 1 : Nat) : Int) < 1 then 103 else 105) (ls' := [mv_R 25, mv_I (p : Int), mv_R 56, mv_R 57, mv_I ((q.length + 1 : Nat) : Int), mv_I (i : Int), mv_I s]) (st' := []) (M1 := M) rfl ?_
          refine mv_ff' (by omega) ?_
          refine mv_go' 9 (pc' := 117) (ls' := [mv_R 25, mv_I (p : Int), mv_R 56, mv_R 57, mv_I ((q.length + 1 : Nat) : Int), mv_I (i : Int), mv_I s]) (st' := [mv_I (mv_w (((q.length + 1 : Nat) : Int) - 1)), mv_R 57, mv_I s, mv_I (mv_w (((q.length + 1 : Nat) : Int) - 1)), mv_R 57]) (M1 := M) rfl ?_
          rw [show mv_w (((q.length + 1 : Nat) : Int) - 1) = (q.length : Int) from by (rw [show mv_w (((q.length + 1 : Nat) : Int) - 1) = ((q.length + 1 : Nat) : Int) - 1 from mv_w_id (by omega) (by omega)]) <;> omega]
          refine mv_go' 1 (pc' := if 0 ≤ (q.length : Int) ∧ (q.length : Int) < 64 then 118 else mv_bad) (ls' := [mv_R 25, mv_I (p : Int), mv_R 56, mv_R 57, mv_I ((q.length + 1 : Nat) : Int), mv_I (i : Int), mv_I s]) (st' := [mv_I (M 57 q.length), mv_I s, mv_I (q.length : Int), mv_R 57]) (M1 := M) rfl ?_
          refine mv_tt' (by omega) ?_
          rw [show M 57 q.length = a from by exact hs.1]
          refine mv_callP (st2 := [mv_I (sp_un s a), mv_I (q.length : Int), mv_R 57]) rfl (Or.inr rfl) rfl rfl rfl (sp_ofOne) (by first | decide | omega) ?_
          refine mv_go' 1 (pc' := if 0 ≤ (q.length : Int) ∧ (q.length : Int) < 64 then 122 else mv_bad) (ls' := [mv_R 25, mv_I (p : Int), mv_R 56, mv_R 57, mv_I ((q.length + 1 : Nat) : Int), mv_I (i : Int), mv_I s]) (st' := []) (M1 := (mv_st M 57 (mv_up (M 57) q.length (sp_un s a)))) rfl ?_
          refine mv_tt' (by omega) ?_
          refine mv_go' 3 (pc' := 21) (ls' := [mv_R 25, mv_I (p : Int), mv_R 56, mv_R 57, mv_I ((q.length + 1 : Nat) : Int), mv_I (mv_w ((i : Int) + 1)), mv_I s]) (st' := []) (M1 := (mv_st M 57 (mv_up (M 57) q.length (sp_un s a)))) rfl ?_
          rw [show mv_w ((i : Int) + 1) = (i : Int) + 1 from mv_w_id (by omega) (by omega)]
          rw [show (i : Int) + 1 = ((i + 1 : Nat) : Int) from by omega]
          simp only [sp_run, if_neg c0, if_neg c1, if_pos c3]
          exact (ih (sp_un s a :: q) (q.length + 1) (i + 1) (mv_st M 57 (mv_up (M 57) q.length (sp_un s a))) (mv_I s) rfl hw.2 (by omega) hat.2 (by omega) (by rw [show i + 1 + r.length = i + (r.length + 1) from by omega]; exact he) (sp_stk_ps hs.2 rfl)).imp (fun M2 h2 => mv_ag.tr (mv_ag.st mv_ag.rf (by decide)) h2)
theorem sp_val0_25_56 {M : mv_M} {code : List Int} (hw : sp_wf code 0) (hat : sp_at (M 26) 0 code) (hlen : code.length ≤ 160) (he : M 27 0 = ((code.length : Nat) : Int)) :
    mv_Ru 1 3 0 [mv_R 25, mv_I 0, mv_R 56, mv_R 57, mv_U, mv_U, mv_U] [] M (mv_I (sp_top (sp_run (M 56) code []))) (fun M1 => mv_ag [57] M M1) := by
  refine mv_go' 4 (pc' := if 0 = 0 then 7 else 11) (ls' := [mv_R 25, mv_I 0, mv_R 56, mv_R 57, mv_I 0, mv_U, mv_U]) (st' := []) (M1 := M) rfl ?_
  refine mv_tt' (rfl) ?_
  refine mv_go' 3 (pc' := 21) (ls' := [mv_R 25, mv_I 0, mv_R 56, mv_R 57, mv_I 0, mv_I 0, mv_U]) (st' := []) (M1 := M) rfl ?_
  exact sp_val_lp_25_56 (p := 0) (by decide) code [] 0 0 M mv_U rfl hw (by decide) hat (by omega) (by rw [he]; simp) trivial
theorem sp_valS_25_56 {M : mv_M} {code : List Int} {q i : Nat} (hq : q < 2) (hw : sp_wf code 0) (hi : M 27 q = (i : Int)) (hat : sp_at (M 26) i code) (hlen : i + code.length ≤ 160) (he : M 27 (q + 1) = ((i + code.length : Nat) : Int)) :
    mv_Ru 1 3 0 [mv_R 25, mv_I ((q + 1 : Nat) : Int), mv_R 56, mv_R 57, mv_U, mv_U, mv_U] [] M (mv_I (sp_top (sp_run (M 56) code []))) (fun M1 => mv_ag [57] M M1) := by
  refine mv_go' 4 (pc' := if ((q + 1 : Nat) : Int) = 0 then 7 else 11) (ls' := [mv_R 25, mv_I ((q + 1 : Nat) : Int), mv_R 56, mv_R 57, mv_I 0, mv_U, mv_U]) (st' := []) (M1 := M) rfl ?_
  refine mv_ff' (by omega) ?_
  refine mv_go' 5 (pc' := 18) (ls' := [mv_R 25, mv_I ((q + 1 : Nat) : Int), mv_R 56, mv_R 57, mv_I 0, mv_U, mv_U]) (st' := [mv_I (mv_w (((q + 1 : Nat) : Int) - 1)), mv_R 27]) (M1 := M) rfl ?_
  rw [show mv_w (((q + 1 : Nat) : Int) - 1) = (q : Int) from by (rw [show mv_w (((q + 1 : Nat) : Int) - 1) = ((q + 1 : Nat) : Int) - 1 from mv_w_id (by omega) (by omega)]) <;> omega]
  refine mv_go' 1 (pc' := if 0 ≤ (q : Int) ∧ (q : Int) < 3 then 19 else mv_bad) (ls' := [mv_R 25, mv_I ((q + 1 : Nat) : Int), mv_R 56, mv_R 57, mv_I 0, mv_U, mv_U]) (st' := [mv_I (M 27 q)]) (M1 := M) rfl ?_
  refine mv_tt' (by omega) ?_
  rw [show M 27 q = (i : Int) from by exact hi]
  refine mv_go' 1 (pc' := 21) (ls' := [mv_R 25, mv_I ((q + 1 : Nat) : Int), mv_R 56, mv_R 57, mv_I 0, mv_I (i : Int), mv_U]) (st' := []) (M1 := M) rfl ?_
  exact sp_val_lp_25_56 (p := q + 1) (by omega) code [] 0 i M mv_U rfl hw (by decide) hat hlen he trivial
theorem sp_value_25_56 {M : mv_M} {P : Nat → List Int} {p : Nat} (hp : p < 3) (hP : sp_ct 25 M P) :
    mv_Ru 1 3 0 [mv_R 25, mv_I (p : Int), mv_R 56, mv_R 57, mv_U, mv_U, mv_U] [] M (mv_I (sp_top (sp_run (M 56) (P p) []))) (fun M1 => mv_ag [57] M M1) := by
  obtain ⟨⟨e0, e1, e2⟩, ⟨a0, a1, a2⟩, ⟨w0, w1, w2⟩, hlen⟩ := hP
  match p, hp with
  | 0, _ => exact sp_val0_25_56 w0 a0 (by omega) e0
  | 1, _ => exact sp_valS_25_56 (q := 0) (by decide) w1 e0 a1 (by omega) e1
  | 2, _ => exact sp_valS_25_56 (q := 1) (by decide) w2 e1 a2 (by omega) e2
