/-! the model reads a text: signs -/
def sp_sgm (m : Int) : Int := if m = 4 then 11 else if m = 5 then 12 else if m = 60 then 14 else if m = 61 then 15 else if m = 43 then 16 else if m = 45 then 17 else if m = 42 then 18 else -1
def sp_sgk (k : Int) : Int := if k = 259 then 11 else if k = 260 then 12 else if k = 60 then 14 else if k = 61 then 15 else if k = 43 then 16 else if k = 45 then 17 else if k = 42 then 18 else -1
def sp_lst (s : Int) : Int := if sp_rnk s = 4 then 5 else sp_rnk s
def sp_tp4 : List Int → Bool
  | [] => false
  | s :: _ => decide (sp_rnk s = 4)
theorem sp_msg {M : mv_M} {m : Int} (h : M 100 23 = m) : mv_Ru 0 134 0 [mv_R 100] [] M (mv_I (sp_sgm m)) (fun M1 => M1 = M) := by
  refine mv_go' 2 (pc' := 4) (ls' := [mv_R 100]) (st' := [mv_I (M 100 23)]) (M1 := M) rfl ?_
  rw [show M 100 23 = m from by exact h]
  refine mv_go' 2 (pc' := if m = 4 then 8 else 13) (ls' := [mv_R 100]) (st' := []) (M1 := M) rfl ?_
  refine mv_sp' (fun ha1 => ?_) (fun ha1 => ?_)
  · refine mv_go' 2 (pc' := 97) (ls' := [mv_R 100]) (st' := [mv_I 11]) (M1 := M) rfl ?_
    refine mv_Ru.val (mv_ret (fun n => rfl) rfl) (congrArg mv_I ?_)
    unfold sp_sgm
    repeat (first | omega | split)
  · refine mv_go' 2 (pc' := 17) (ls' := [mv_R 100]) (st' := [mv_I (M 100 23)]) (M1 := M) rfl ?_
    rw [show M 100 23 = m from by exact h]
    refine mv_go' 2 (pc' := if m = 5 then 21 else 26) (ls' := [mv_R 100]) (st' := []) (M1 := M) rfl ?_
    refine mv_sp' (fun ha2 => ?_) (fun ha2 => ?_)
    · refine mv_go' 2 (pc' := 97) (ls' := [mv_R 100]) (st' := [mv_I 12]) (M1 := M) rfl ?_
      refine mv_Ru.val (mv_ret (fun n => rfl) rfl) (congrArg mv_I ?_)
      unfold sp_sgm
      repeat (first | omega | split)
    · refine mv_go' 2 (pc' := 30) (ls' := [mv_R 100]) (st' := [mv_I (M 100 23)]) (M1 := M) rfl ?_
      rw [show M 100 23 = m from by exact h]
      refine mv_go' 2 (pc' := if m = 60 then 35 else 40) (ls' := [mv_R 100]) (st' := []) (M1 := M) rfl ?_
      refine mv_sp' (fun ha3 => ?_) (fun ha3 => ?_)
      · refine mv_go' 2 (pc' := 97) (ls' := [mv_R 100]) (st' := [mv_I 14]) (M1 := M) rfl ?_
        refine mv_Ru.val (mv_ret (fun n => rfl) rfl) (congrArg mv_I ?_)
        unfold sp_sgm
        repeat (first | omega | split)
      · refine mv_go' 2 (pc' := 44) (ls' := [mv_R 100]) (st' := [mv_I (M 100 23)]) (M1 := M) rfl ?_
        rw [show M 100 23 = m from by exact h]
        refine mv_go' 2 (pc' := if m = 61 then 49 else 54) (ls' := [mv_R 100]) (st' := []) (M1 := M) rfl ?_
        refine mv_sp' (fun ha4 => ?_) (fun ha4 => ?_)
        · refine mv_go' 2 (pc' := 97) (ls' := [mv_R 100]) (st' := [mv_I 15]) (M1 := M) rfl ?_
          refine mv_Ru.val (mv_ret (fun n => rfl) rfl) (congrArg mv_I ?_)
          unfold sp_sgm
          repeat (first | omega | split)
        · refine mv_go' 2 (pc' := 58) (ls' := [mv_R 100]) (st' := [mv_I (M 100 23)]) (M1 := M) rfl ?_
          rw [show M 100 23 = m from by exact h]
          refine mv_go' 2 (pc' := if m = 43 then 63 else 68) (ls' := [mv_R 100]) (st' := []) (M1 := M) rfl ?_
          refine mv_sp' (fun ha5 => ?_) (fun ha5 => ?_)
          · refine mv_go' 2 (pc' := 97) (ls' := [mv_R 100]) (st' := [mv_I 16]) (M1 := M) rfl ?_
            refine mv_Ru.val (mv_ret (fun n => rfl) rfl) (congrArg mv_I ?_)
            unfold sp_sgm
            repeat (first | omega | split)
          · refine mv_go' 2 (pc' := 72) (ls' := [mv_R 100]) (st' := [mv_I (M 100 23)]) (M1 := M) rfl ?_
            rw [show M 100 23 = m from by exact h]
            refine mv_go' 2 (pc' := if m = 45 then 77 else 82) (ls' := [mv_R 100]) (st' := []) (M1 := M) rfl ?_
            refine mv_sp' (fun ha6 => ?_) (fun ha6 => ?_)
            · refine mv_go' 2 (pc' := 97) (ls' := [mv_R 100]) (st' := [mv_I 17]) (M1 := M) rfl ?_
              refine mv_Ru.val (mv_ret (fun n => rfl) rfl) (congrArg mv_I ?_)
              unfold sp_sgm
              repeat (first | omega | split)
            · refine mv_go' 2 (pc' := 86) (ls' := [mv_R 100]) (st' := [mv_I (M 100 23)]) (M1 := M) rfl ?_
              rw [show M 100 23 = m from by exact h]
              refine mv_go' 2 (pc' := if m = 42 then 91 else 96) (ls' := [mv_R 100]) (st' := []) (M1 := M) rfl ?_
              refine mv_sp' (fun ha7 => ?_) (fun ha7 => ?_)
              · refine mv_go' 2 (pc' := 97) (ls' := [mv_R 100]) (st' := [mv_I 18]) (M1 := M) rfl ?_
                refine mv_Ru.val (mv_ret (fun n => rfl) rfl) (congrArg mv_I ?_)
                unfold sp_sgm
                repeat (first | omega | split)
              · refine mv_go' 1 (pc' := 97) (ls' := [mv_R 100]) (st' := [mv_I (-1)]) (M1 := M) rfl ?_
                refine mv_Ru.val (mv_ret (fun n => rfl) rfl) (congrArg mv_I ?_)
                unfold sp_sgm
                repeat (first | omega | split)
theorem sp_mop_f {n : Nat} {h k : List Int} {M0 M : mv_M} {s : Int} (hm : sp_mhs n h k M0 M) (h5 : sp_kz h = 5) : mv_Ru 1 132 0 [mv_R 100, mv_I s] [] M (mv_I 0) (fun M1 => M1 = M) := by
  have e := hm.2.2.1.trans h5
  refine mv_go' 2 (pc' := 4) (ls' := [mv_R 100, mv_I s]) (st' := [mv_I (M 100 28)]) (M1 := M) rfl ?_
  rw [show M 100 28 = 5 from by exact e]
  refine mv_go' 2 (pc' := if 5 = 5 then 8 else 10) (ls' := [mv_R 100, mv_I s]) (st' := []) (M1 := M) rfl ?_
  refine mv_tt' (by first | decide | omega) ?_
  refine mv_go' 1 (pc' := 9) (ls' := [mv_R 100, mv_I s]) (st' := [mv_I 0]) (M1 := M) rfl ?_
  exact mv_ret (fun n => rfl) rfl
theorem sp_mop_t {n : Nat} {h k : List Int} {M0 M : mv_M} {s : Int} (hm : sp_mhs n h k M0 M) (h5 : ¬ sp_kz h = 5) (hs : s = 0 ∨ s = 13 ∨ s = 19) (hl : h.length < 199) : mv_Ru 1 132 0 [mv_R 100, mv_I s] [] M (mv_I 1) (sp_mhs n (s :: h) k M0) := by
  obtain ⟨⟨a1, a2⟩, ⟨b1, b2⟩, b3, ⟨b4, b5⟩, b6⟩ := hm
  have hkz := sp_kz_b h
  have ekz : sp_kz (s :: h) = sp_kz h + 1 := by rw [sp_kz, if_pos hs]
  obtain ⟨x, hx⟩ : ∃ x, x = sp_kz h := ⟨_, rfl⟩
  rw [← hx] at b3 hkz h5 ekz
  have hsb := sp_stk_ps (z := s) b2 rfl
  have hlen : (s :: h).length = h.length + 1 := rfl
  obtain ⟨m, hm⟩ : ∃ m, m = h.length := ⟨_, rfl⟩
  rw [← hm] at b1 hl hkz hsb hlen
  refine mv_go' 2 (pc' := 4) (ls' := [mv_R 100, mv_I s]) (st' := [mv_I (M 100 28)]) (M1 := M) rfl ?_
  rw [show M 100 28 = x from by exact b3]
  refine mv_go' 2 (pc' := if x = 5 then 8 else 10) (ls' := [mv_R 100, mv_I s]) (st' := []) (M1 := M) rfl ?_
  refine mv_ff' (by omega) ?_
  refine mv_go' 3 (pc' := 15) (ls' := [mv_R 100, mv_I s]) (st' := [mv_I (M 100 28), mv_R 100]) (M1 := M) rfl ?_
  rw [show M 100 28 = x from by exact b3]
  refine mv_go' 3 (pc' := 20) (ls' := [mv_R 100, mv_I s]) (st' := []) (M1 := (mv_st M 100 (mv_up (M 100) 28 (mv_w (x + 1))))) rfl ?_
  rw [show mv_w (x + 1) = x + 1 from mv_w_id (by omega) (by omega)]
  have u28 : x + 1 = x + 1 := by omega
  have hho := sp_mho (M := (mv_st M 100 (mv_up (M 100) 28 (x + 1)))) (m := m) (s := s) b1 (by omega)
  refine mv_go' 2 (pc' := 22) (ls' := [mv_R 100, mv_I s]) (st' := [mv_I s, mv_R 100]) (M1 := (mv_st M 100 (mv_up (M 100) 28 (x + 1)))) rfl ?_
  refine mv_call (st2 := []) rfl (Or.inl rfl) rfl rfl rfl (hho) (by first | decide | omega) (fun Ma8 hm9 => ?_)
  have hq := hm9
  refine mv_go' 1 (pc' := 26) (ls' := [mv_R 100, mv_I s]) (st' := [mv_I 1]) (M1 := Ma8) rfl ?_
  refine mv_ret (fun n => rfl) ⟨⟨?_, fun j hj => (hq.2.1 j hj.1).trans ((mv_up_n _ _ hj.2.1).trans (a2 j hj))⟩, ⟨?_, ?_⟩, ?_, ⟨(hq.2.1 29 (by decide)).trans b4, ?_⟩, fun j hj => ?_⟩
  · exact a1.tr ((mv_ag.st mv_ag.rf (by decide)).tr (hq.1.wd (by decide)))
  · rw [hq.2.2.1, hlen]
  · rw [hq.2.2.2]
    exact hsb
  · rw [hq.2.1 28 (by decide), ekz]
    exact u28
  · rw [hq.1 110 (by decide)]
    exact b5
  · rw [hq.1 110 (by decide)]
    exact b6 j hj
theorem sp_rnk_s {s : Int} (h : s = 11 ∨ s = 12 ∨ (14 ≤ s ∧ s ≤ 18)) : 1 ≤ sp_lst s ∧ 1 ≤ sp_rnk s ∧ (sp_rnk s = 4 ↔ (s = 14 ∨ s = 15)) := by
  have h1 : sp_rnk s = if s = 11 then 1 else if s = 12 then 2 else if s ≤ 15 then 4 else if s ≤ 17 then 5 else 6 := by
    unfold sp_rnk
    repeat (first | omega | split)
  unfold sp_lst
  rw [h1]
  refine ⟨?_, ?_, ?_⟩ <;> repeat (first | omega | split)
theorem sp_mbt {n : Nat} {h k : List Int} {M0 M : mv_M} {s : Int} (hn : n < 6) (h12 : M0 100 12 = (n : Int)) (hm : sp_mhs n h k M0 M) (hs : s = 11 ∨ s = 12 ∨ (14 ≤ s ∧ s ≤ 18)) (hl : h.length + k.length < 199) :
    mv_Ru 2 133 0 [mv_R 100, mv_I s] [] M (mv_I (if sp_rnk s = 4 ∧ sp_tp4 (sp_uwh (sp_lst s) h) = true then 0 else 1)) (fun M1 => sp_mhs n (if sp_rnk s = 4 ∧ sp_tp4 (sp_uwh (sp_lst s) h) = true then sp_uwh (sp_lst s) h else s :: sp_uwh (sp_lst s) h) (k ++ sp_uwc (sp_lst s) h) M0 M1) := by
  have hr := sp_rnk_s hs
  have huw := sp_muw (least := sp_lst s) hn h12 hr.1 h k M mv_U hm (by omega) rfl
  have hul := sp_uw_len (sp_lst s) h
  obtain ⟨h1, hh1⟩ : ∃ h1, h1 = sp_uwh (sp_lst s) h := ⟨_, rfl⟩
  obtain ⟨k1, hk1⟩ : ∃ k1, k1 = k ++ sp_uwc (sp_lst s) h := ⟨_, rfl⟩
  rw [← hh1] at huw hul ⊢
  rw [← hk1] at huw ⊢
  have hh1l : h1.length < 199 := by omega
  have hps : ∀ MX, sp_mhs n h1 k1 M0 MX → mv_Ru 0 131 0 [mv_R 100, mv_I s] [] MX mv_U (sp_mhs n (s :: h1) k1 M0) := fun MX q => by
    obtain ⟨⟨a1, a2⟩, ⟨b1, b2⟩, b3, ⟨b4, b5⟩, b6⟩ := q
    refine (sp_mho (s := s) b1 (by omega)).imp (fun M1 hq => ⟨⟨a1.tr (hq.1.wd (by decide)), fun j hj => (hq.2.1 j hj.1).trans (a2 j hj)⟩, ⟨hq.2.2.1, ?_⟩, ?_, ⟨(hq.2.1 29 (by decide)).trans b4, ?_⟩, fun j hj => ?_⟩)
    · rw [hq.2.2.2]
      exact sp_stk_ps b2 rfl
    · rw [hq.2.1 28 (by decide), b3, sp_kz, if_neg (by omega)]
      omega
    · rw [hq.1 110 (by decide)]
      exact b5
    · rw [hq.1 110 (by decide)]
      exact b6 j hj
  have fin : ∀ MX, sp_mhs n h1 k1 M0 MX → mv_Ru 2 133 20 [mv_R 100, mv_I s] [] MX (mv_I (if sp_rnk s = 4 ∧ sp_tp4 h1 = true then 0 else 1)) (fun M1 => sp_mhs n (if sp_rnk s = 4 ∧ sp_tp4 h1 = true then h1 else s :: h1) k1 M0 M1) := fun MX q => by
    have b1 := q.2.1.1
    have b2 := q.2.1.2
    have hpm := hps MX q
    by_cases c4 : sp_rnk s = 4
    · match h1, hh1l, hpm, b1, b2, q with
      | [], hh1l, hpm, b1, b2, q =>
        rw [if_neg (fun z => Bool.false_ne_true z.2), if_neg (fun z => Bool.false_ne_true z.2)]
        have b1' : MX 100 27 = 0 := b1
        obtain ⟨x, hx⟩ : ∃ x, x = sp_rnk s := ⟨_, rfl⟩
        rw [← hx] at c4
        refine mv_go' 1 (pc' := 21) (ls' := [mv_R 100, mv_I s]) (st' := [mv_I s]) (M1 := MX) rfl ?_
        refine mv_callP (st2 := [mv_I x]) rfl (Or.inr rfl) rfl rfl rfl ((mv_Ru.val sp_mrnk (congrArg mv_I hx.symm))) (by first | decide | omega) ?_
        refine mv_go' 2 (pc' := if x = 4 then 28 else 55) (ls' := [mv_R 100, mv_I s]) (st' := []) (M1 := MX) rfl ?_
        refine mv_tt' (by omega) ?_
        refine mv_go' 2 (pc' := 32) (ls' := [mv_R 100, mv_I s]) (st' := [mv_I (MX 100 27)]) (M1 := MX) rfl ?_
        rw [show MX 100 27 = 0 from by exact b1']
        refine mv_go' 1 (pc' := if 0 < 0 then 35 else 55) (ls' := [mv_R 100, mv_I s]) (st' := []) (M1 := MX) rfl ?_
        refine mv_ff' (by first | decide | omega) ?_
        refine mv_go' 2 (pc' := 57) (ls' := [mv_R 100, mv_I s]) (st' := [mv_I s, mv_R 100]) (M1 := MX) rfl ?_
        refine mv_call (st2 := []) rfl (Or.inl rfl) rfl rfl rfl (hpm) (by first | decide | omega) (fun Ma10 hm11 => ?_)
        have hq := hm11
        refine mv_go' 1 (pc' := 61) (ls' := [mv_R 100, mv_I s]) (st' := [mv_I 1]) (M1 := Ma10) rfl ?_
        exact mv_ret (fun n => rfl) hq
      | a :: r, hh1l, hpm, b1, b2, q =>
        have b1' : MX 100 27 = ((r.length + 1 : Nat) : Int) := b1
        have b2' : MX 126 r.length = a := b2.1
        obtain ⟨m, hm2⟩ : ∃ m, m = r.length := ⟨_, rfl⟩
        rw [List.length_cons, ← hm2] at hh1l
        rw [← hm2] at b1' b2'
        by_cases c5 : sp_rnk a = 4
        · have e : sp_rnk s = 4 ∧ sp_tp4 (a :: r) = true := ⟨c4, decide_eq_true c5⟩
          rw [if_pos e, if_pos e]
          obtain ⟨x, hx⟩ : ∃ x, x = sp_rnk s := ⟨_, rfl⟩
          rw [← hx] at c4
          refine mv_go' 1 (pc' := 21) (ls' := [mv_R 100, mv_I s]) (st' := [mv_I s]) (M1 := MX) rfl ?_
          refine mv_callP (st2 := [mv_I x]) rfl (Or.inr rfl) rfl rfl rfl ((mv_Ru.val sp_mrnk (congrArg mv_I hx.symm))) (by first | decide | omega) ?_
          refine mv_go' 2 (pc' := if x = 4 then 28 else 55) (ls' := [mv_R 100, mv_I s]) (st' := []) (M1 := MX) rfl ?_
          refine mv_tt' (by omega) ?_
          refine mv_go' 2 (pc' := 32) (ls' := [mv_R 100, mv_I s]) (st' := [mv_I (MX 100 27)]) (M1 := MX) rfl ?_
          rw [show MX 100 27 = ((m + 1 : Nat) : Int) from by exact b1']
          refine mv_go' 1 (pc' := if 0 < ((m + 1 : Nat) : Int) then 35 else 55) (ls' := [mv_R 100, mv_I s]) (st' := []) (M1 := MX) rfl ?_
          refine mv_tt' (by omega) ?_
          refine mv_go' 4 (pc' := 43) (ls' := [mv_R 100, mv_I s]) (st' := [mv_I (MX 100 27), mv_R 126]) (M1 := MX) rfl ?_
          rw [show MX 100 27 = ((m + 1 : Nat) : Int) from by exact b1']
          refine mv_go' 2 (pc' := 45) (ls' := [mv_R 100, mv_I s]) (st' := [mv_I (mv_w (((m + 1 : Nat) : Int) - 1)), mv_R 126]) (M1 := MX) rfl ?_
          rw [show mv_w (((m + 1 : Nat) : Int) - 1) = (m : Int) from by (rw [show mv_w (((m + 1 : Nat) : Int) - 1) = ((m + 1 : Nat) : Int) - 1 from mv_w_id (by omega) (by omega)]) <;> omega]
          refine mv_go' 1 (pc' := if 0 ≤ (m : Int) ∧ (m : Int) < 200 then 46 else mv_bad) (ls' := [mv_R 100, mv_I s]) (st' := [mv_I (MX 126 m)]) (M1 := MX) rfl ?_
          refine mv_tt' (by omega) ?_
          rw [show MX 126 m = a from by exact b2']
          refine mv_callP (st2 := [mv_I 4]) rfl (Or.inr rfl) rfl rfl rfl ((mv_Ru.val sp_mrnk (congrArg mv_I c5))) (by first | decide | omega) ?_
          refine mv_go' 2 (pc' := if 4 = 4 then 53 else 55) (ls' := [mv_R 100, mv_I s]) (st' := []) (M1 := MX) rfl ?_
          refine mv_tt' (by first | decide | omega) ?_
          refine mv_go' 1 (pc' := 54) (ls' := [mv_R 100, mv_I s]) (st' := [mv_I 0]) (M1 := MX) rfl ?_
          exact mv_ret (fun n => rfl) q
        · have e : ¬ (sp_rnk s = 4 ∧ sp_tp4 (a :: r) = true) := fun z => c5 (of_decide_eq_true z.2)
          rw [if_neg e, if_neg e]
          obtain ⟨x, hx⟩ : ∃ x, x = sp_rnk s := ⟨_, rfl⟩
          rw [← hx] at c4
          obtain ⟨z, hz⟩ : ∃ z, z = sp_rnk a := ⟨_, rfl⟩
          rw [← hz] at c5
          refine mv_go' 1 (pc' := 21) (ls' := [mv_R 100, mv_I s]) (st' := [mv_I s]) (M1 := MX) rfl ?_
          refine mv_callP (st2 := [mv_I x]) rfl (Or.inr rfl) rfl rfl rfl ((mv_Ru.val sp_mrnk (congrArg mv_I hx.symm))) (by first | decide | omega) ?_
          refine mv_go' 2 (pc' := if x = 4 then 28 else 55) (ls' := [mv_R 100, mv_I s]) (st' := []) (M1 := MX) rfl ?_
          refine mv_tt' (by omega) ?_
          refine mv_go' 2 (pc' := 32) (ls' := [mv_R 100, mv_I s]) (st' := [mv_I (MX 100 27)]) (M1 := MX) rfl ?_
          rw [show MX 100 27 = ((m + 1 : Nat) : Int) from by exact b1']
          refine mv_go' 1 (pc' := if 0 < ((m + 1 : Nat) : Int) then 35 else 55) (ls' := [mv_R 100, mv_I s]) (st' := []) (M1 := MX) rfl ?_
          refine mv_tt' (by omega) ?_
          refine mv_go' 4 (pc' := 43) (ls' := [mv_R 100, mv_I s]) (st' := [mv_I (MX 100 27), mv_R 126]) (M1 := MX) rfl ?_
          rw [show MX 100 27 = ((m + 1 : Nat) : Int) from by exact b1']
          refine mv_go' 2 (pc' := 45) (ls' := [mv_R 100, mv_I s]) (st' := [mv_I (mv_w (((m + 1 : Nat) : Int) - 1)), mv_R 126]) (M1 := MX) rfl ?_
          rw [show mv_w (((m + 1 : Nat) : Int) - 1) = (m : Int) from by (rw [show mv_w (((m + 1 : Nat) : Int) - 1) = ((m + 1 : Nat) : Int) - 1 from mv_w_id (by omega) (by omega)]) <;> omega]
          refine mv_go' 1 (pc' := if 0 ≤ (m : Int) ∧ (m : Int) < 200 then 46 else mv_bad) (ls' := [mv_R 100, mv_I s]) (st' := [mv_I (MX 126 m)]) (M1 := MX) rfl ?_
          refine mv_tt' (by omega) ?_
          rw [show MX 126 m = a from by exact b2']
          refine mv_callP (st2 := [mv_I z]) rfl (Or.inr rfl) rfl rfl rfl ((mv_Ru.val sp_mrnk (congrArg mv_I hz.symm))) (by first | decide | omega) ?_
          refine mv_go' 2 (pc' := if z = 4 then 53 else 55) (ls' := [mv_R 100, mv_I s]) (st' := []) (M1 := MX) rfl ?_
          refine mv_ff' (by omega) ?_
          refine mv_go' 2 (pc' := 57) (ls' := [mv_R 100, mv_I s]) (st' := [mv_I s, mv_R 100]) (M1 := MX) rfl ?_
          refine mv_call (st2 := []) rfl (Or.inl rfl) rfl rfl rfl (hpm) (by first | decide | omega) (fun Ma12 hm13 => ?_)
          have hq := hm13
          refine mv_go' 1 (pc' := 61) (ls' := [mv_R 100, mv_I s]) (st' := [mv_I 1]) (M1 := Ma12) rfl ?_
          exact mv_ret (fun n => rfl) hq
    · rw [if_neg (fun z => c4 z.1), if_neg (fun z => c4 z.1)]
      obtain ⟨x, hx⟩ : ∃ x, x = sp_rnk s := ⟨_, rfl⟩
      rw [← hx] at c4
      refine mv_go' 1 (pc' := 21) (ls' := [mv_R 100, mv_I s]) (st' := [mv_I s]) (M1 := MX) rfl ?_
      refine mv_callP (st2 := [mv_I x]) rfl (Or.inr rfl) rfl rfl rfl ((mv_Ru.val sp_mrnk (congrArg mv_I hx.symm))) (by first | decide | omega) ?_
      refine mv_go' 2 (pc' := if x = 4 then 28 else 55) (ls' := [mv_R 100, mv_I s]) (st' := []) (M1 := MX) rfl ?_
      refine mv_ff' (by omega) ?_
      refine mv_go' 2 (pc' := 57) (ls' := [mv_R 100, mv_I s]) (st' := [mv_I s, mv_R 100]) (M1 := MX) rfl ?_
      refine mv_call (st2 := []) rfl (Or.inl rfl) rfl rfl rfl (hpm) (by first | decide | omega) (fun Ma14 hm15 => ?_)
      have hq := hm15
      refine mv_go' 1 (pc' := 61) (ls' := [mv_R 100, mv_I s]) (st' := [mv_I 1]) (M1 := Ma14) rfl ?_
      exact mv_ret (fun n => rfl) hq
  have elst : sp_lst s = if sp_rnk s = 4 then 5 else sp_rnk s := rfl
  obtain ⟨x, hx⟩ : ∃ x, x = sp_rnk s := ⟨_, rfl⟩
  rw [← hx] at elst
  by_cases c4 : x = 4
  · rw [if_pos c4] at elst
    rw [elst] at huw
    refine mv_go' 2 (pc' := 2) (ls' := [mv_R 100, mv_I s]) (st' := [mv_I s, mv_R 100]) (M1 := M) rfl ?_
    refine mv_callP (st2 := [mv_I x, mv_R 100]) rfl (Or.inr rfl) rfl rfl rfl ((mv_Ru.val sp_mrnk (congrArg mv_I hx.symm))) (by first | decide | omega) ?_
    refine mv_go' 2 (pc' := if x = 4 then 9 else 13) (ls' := [mv_R 100, mv_I s]) (st' := [mv_R 100]) (M1 := M) rfl ?_
    refine mv_tt' (by omega) ?_
    refine mv_go' 2 (pc' := 17) (ls' := [mv_R 100, mv_I s]) (st' := [mv_I 5, mv_R 100]) (M1 := M) rfl ?_
    refine mv_call (st2 := []) rfl (Or.inl rfl) rfl rfl rfl (huw) (by first | decide | omega) (fun Ma16 hm17 => ?_)
    have hq := hm17
    exact fin _ hq
  · rw [if_neg c4] at elst
    rw [elst] at huw
    refine mv_go' 2 (pc' := 2) (ls' := [mv_R 100, mv_I s]) (st' := [mv_I s, mv_R 100]) (M1 := M) rfl ?_
    refine mv_callP (st2 := [mv_I x, mv_R 100]) rfl (Or.inr rfl) rfl rfl rfl ((mv_Ru.val sp_mrnk (congrArg mv_I hx.symm))) (by first | decide | omega) ?_
    refine mv_go' 2 (pc' := if x = 4 then 9 else 13) (ls' := [mv_R 100, mv_I s]) (st' := [mv_R 100]) (M1 := M) rfl ?_
    refine mv_ff' (by omega) ?_
    refine mv_go' 1 (pc' := 14) (ls' := [mv_R 100, mv_I s]) (st' := [mv_I s, mv_R 100]) (M1 := M) rfl ?_
    refine mv_callP (st2 := [mv_I x, mv_R 100]) rfl (Or.inr rfl) rfl rfl rfl ((mv_Ru.val sp_mrnk (congrArg mv_I hx.symm))) (by first | decide | omega) ?_
    refine mv_call (st2 := []) rfl (Or.inl rfl) rfl rfl rfl (huw) (by first | decide | omega) (fun Ma18 hm19 => ?_)
    have hq := hm19
    exact fin _ hq
