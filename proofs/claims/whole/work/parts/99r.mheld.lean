/-! the model reads a text: what it holds -/
def sp_rnk (s : Int) : Int := if s = 0 then 0 else if s = 11 then 1 else if s = 12 then 2 else if s = 13 then 3 else if s ≤ 15 then 4 else if s ≤ 17 then 5 else if s = 18 then 6 else 7
def sp_uwh (least : Int) : List Int → List Int
  | [] => []
  | s :: r => if sp_rnk s < least then s :: r else sp_uwh least r
def sp_uwc (least : Int) : List Int → List Int
  | [] => []
  | s :: r => if sp_rnk s < least then [] else s :: sp_uwc least r
def sp_kz : List Int → Int
  | [] => 0
  | s :: r => sp_kz r + (if s = 0 ∨ s = 13 ∨ s = 19 then 1 else 0)
theorem sp_kz_b : ∀ h : List Int, 0 ≤ sp_kz h ∧ sp_kz h ≤ (h.length : Int)
  | [] => by simp [sp_kz]
  | s :: r => by
    have ih := sp_kz_b r
    simp only [sp_kz, List.length_cons]
    split <;> omega
theorem sp_uw_len (least : Int) : ∀ h : List Int, (sp_uwh least h).length + (sp_uwc least h).length = h.length
  | [] => rfl
  | s :: r => by
    have ih := sp_uw_len least r
    simp only [sp_uwh, sp_uwc]
    split
    · simp
    · simp only [List.length_cons]
      omega
def sp_mhs (n : Nat) (h k : List Int) (M0 M : mv_M) : Prop :=
  (mv_ag [100, 110, 126] M0 M ∧ ∀ j, (j ≠ 27 ∧ j ≠ 28 ∧ j ≠ 29) → M 100 j = M0 100 j) ∧ (M 100 27 = (h.length : Int) ∧ sp_stk (M 126) h) ∧ M 100 28 = sp_kz h ∧ (M 100 29 = (k.length : Int) ∧ sp_at (M 110) (200 * n) k) ∧ ∀ j, j < 200 * n → M 110 j = M0 110 j
theorem sp_mrnk {M : mv_M} {s : Int} : mv_Ru 0 128 0 [mv_I s] [] M (mv_I (sp_rnk s)) (fun M1 => M1 = M) := by
  refine mv_go' 2 (pc' := if s = 0 then 4 else 8) (ls' := [mv_I s]) (st' := []) (M1 := M) rfl ?_
  refine mv_sp' (fun ha1 => ?_) (fun ha1 => ?_)
  · refine mv_go' 2 (pc' := 71) (ls' := [mv_I s]) (st' := [mv_I 0]) (M1 := M) rfl ?_
    refine mv_Ru.val (mv_ret (fun n => rfl) rfl) (congrArg mv_I ?_)
    unfold sp_rnk
    repeat (first | omega | split)
  · refine mv_go' 3 (pc' := if s = 11 then 14 else 18) (ls' := [mv_I s]) (st' := []) (M1 := M) rfl ?_
    refine mv_sp' (fun ha2 => ?_) (fun ha2 => ?_)
    · refine mv_go' 2 (pc' := 71) (ls' := [mv_I s]) (st' := [mv_I 1]) (M1 := M) rfl ?_
      refine mv_Ru.val (mv_ret (fun n => rfl) rfl) (congrArg mv_I ?_)
      unfold sp_rnk
      repeat (first | omega | split)
    · refine mv_go' 3 (pc' := if s = 12 then 24 else 28) (ls' := [mv_I s]) (st' := []) (M1 := M) rfl ?_
      refine mv_sp' (fun ha3 => ?_) (fun ha3 => ?_)
      · refine mv_go' 2 (pc' := 71) (ls' := [mv_I s]) (st' := [mv_I 2]) (M1 := M) rfl ?_
        refine mv_Ru.val (mv_ret (fun n => rfl) rfl) (congrArg mv_I ?_)
        unfold sp_rnk
        repeat (first | omega | split)
      · refine mv_go' 3 (pc' := if s = 13 then 34 else 38) (ls' := [mv_I s]) (st' := []) (M1 := M) rfl ?_
        refine mv_sp' (fun ha4 => ?_) (fun ha4 => ?_)
        · refine mv_go' 2 (pc' := 71) (ls' := [mv_I s]) (st' := [mv_I 3]) (M1 := M) rfl ?_
          refine mv_Ru.val (mv_ret (fun n => rfl) rfl) (congrArg mv_I ?_)
          unfold sp_rnk
          repeat (first | omega | split)
        · refine mv_go' 3 (pc' := if 15 < s then 48 else 44) (ls' := [mv_I s]) (st' := []) (M1 := M) rfl ?_
          refine mv_sp' (fun ha5 => ?_) (fun ha5 => ?_)
          · refine mv_go' 3 (pc' := if 17 < s then 58 else 54) (ls' := [mv_I s]) (st' := []) (M1 := M) rfl ?_
            refine mv_sp' (fun ha6 => ?_) (fun ha6 => ?_)
            · refine mv_go' 3 (pc' := if s = 18 then 64 else 69) (ls' := [mv_I s]) (st' := []) (M1 := M) rfl ?_
              refine mv_sp' (fun ha7 => ?_) (fun ha7 => ?_)
              · refine mv_go' 2 (pc' := 71) (ls' := [mv_I s]) (st' := [mv_I 6]) (M1 := M) rfl ?_
                refine mv_Ru.val (mv_ret (fun n => rfl) rfl) (congrArg mv_I ?_)
                unfold sp_rnk
                repeat (first | omega | split)
              · refine mv_go' 1 (pc' := 71) (ls' := [mv_I s]) (st' := [mv_I 7]) (M1 := M) rfl ?_
                refine mv_Ru.val (mv_ret (fun n => rfl) rfl) (congrArg mv_I ?_)
                unfold sp_rnk
                repeat (first | omega | split)
            · refine mv_go' 2 (pc' := 71) (ls' := [mv_I s]) (st' := [mv_I 5]) (M1 := M) rfl ?_
              refine mv_Ru.val (mv_ret (fun n => rfl) rfl) (congrArg mv_I ?_)
              unfold sp_rnk
              repeat (first | omega | split)
          · refine mv_go' 2 (pc' := 71) (ls' := [mv_I s]) (st' := [mv_I 4]) (M1 := M) rfl ?_
            refine mv_Ru.val (mv_ret (fun n => rfl) rfl) (congrArg mv_I ?_)
            unfold sp_rnk
            repeat (first | omega | split)
theorem sp_rnk_b (s : Int) : 0 ≤ sp_rnk s ∧ sp_rnk s ≤ 7 ∧ (sp_rnk s < 1 → s = 0) ∧ (s = 0 → sp_rnk s = 0) := by
  unfold sp_rnk
  refine ⟨?_, ?_, ?_, ?_⟩ <;> repeat (first | omega | split)
theorem sp_mpt {n : Nat} {h k : List Int} {M0 M : mv_M} {c : Int} (hn : n < 6) (h12 : M0 100 12 = (n : Int)) (hm : sp_mhs n h k M0 M) (hk : k.length < 200) : mv_Ru 0 129 0 [mv_R 100, mv_I c] [] M mv_U (sp_mhs n h (k ++ [c]) M0) := by
  obtain ⟨⟨a1, a2⟩, ⟨b1, b2⟩, b3, ⟨b4, b5⟩, b6⟩ := hm
  have e12 := (a2 12 (by decide)).trans h12
  have hl : (k ++ [c]).length = k.length + 1 := by simp
  have hat : sp_at (mv_up (M 110) (200 * n + k.length) c) (200 * n) (k ++ [c]) := by
    rw [sp_at_app]
    exact ⟨sp_at_up b5 (Nat.le_refl _), mv_up_s _ _ _, trivial⟩
  obtain ⟨q, hq⟩ : ∃ q, q = k.length := ⟨_, rfl⟩
  rw [← hq] at b4 hk hl hat
  refine mv_go' 5 (pc' := 11) (ls' := [mv_R 100, mv_I c]) (st' := [mv_I (M 100 12), mv_I 200, mv_R 110]) (M1 := M) rfl ?_
  rw [show M 100 12 = (n : Int) from by exact e12]
  refine mv_go' 3 (pc' := 16) (ls' := [mv_R 100, mv_I c]) (st' := [mv_I (M 100 29), mv_I (mv_w (200 * (n : Int))), mv_R 110]) (M1 := M) rfl ?_
  rw [show M 100 29 = (q : Int) from by exact b4]
  refine mv_go' 2 (pc' := 18) (ls' := [mv_R 100, mv_I c]) (st' := [mv_I c, mv_I (mv_w ((mv_w (200 * (n : Int))) + (q : Int))), mv_R 110]) (M1 := M) rfl ?_
  rw [show mv_w ((mv_w (200 * (n : Int))) + (q : Int)) = ((200 * n + q : Nat) : Int) from by (rw [show mv_w (200 * (n : Int)) = 200 * (n : Int) from mv_w_id (by omega) (by omega), show mv_w ((200 * (n : Int)) + (q : Int)) = (200 * (n : Int)) + (q : Int) from mv_w_id (by omega) (by omega)]) <;> omega]
  refine mv_go' 1 (pc' := if 0 ≤ ((200 * n + q : Nat) : Int) ∧ ((200 * n + q : Nat) : Int) < 1200 then 19 else mv_bad) (ls' := [mv_R 100, mv_I c]) (st' := []) (M1 := (mv_st M 110 (mv_up (M 110) (200 * n + q) c))) rfl ?_
  refine mv_tt' (by omega) ?_
  refine mv_go' 3 (pc' := 24) (ls' := [mv_R 100, mv_I c]) (st' := [mv_I (M 100 29), mv_R 100]) (M1 := (mv_st M 110 (mv_up (M 110) (200 * n + q) c))) rfl ?_
  rw [show M 100 29 = (q : Int) from by exact b4]
  refine mv_go' 3 (pc' := 29) (ls' := [mv_R 100, mv_I c]) (st' := []) (M1 := (mv_st (mv_st M 110 (mv_up (M 110) (200 * n + q) c)) 100 (mv_up (M 100) 29 (mv_w ((q : Int) + 1))))) rfl ?_
  rw [show mv_w ((q : Int) + 1) = (q : Int) + 1 from mv_w_id (by omega) (by omega)]
  refine mv_ret (fun n => rfl) ⟨⟨?_, fun j hj => (mv_up_n _ _ hj.2.2).trans (a2 j hj)⟩, ⟨b1, b2⟩, b3, ⟨?_, ?_⟩, fun j hj => ?_⟩
  · repeat (first | exact a1 | refine mv_ag.st ?_ (by decide))
  · show (q : Int) + 1 = _
    rw [hl]
    omega
  · exact hat
  · exact (mv_up_n _ _ (by omega)).trans (b6 j hj)
theorem sp_mho {M : mv_M} {m : Nat} {s : Int} (h : M 100 27 = (m : Int)) (hm : m < 200) : mv_Ru 0 131 0 [mv_R 100, mv_I s] [] M mv_U (fun M1 => mv_ag [100, 126] M M1 ∧ (∀ j, j ≠ 27 → M1 100 j = M 100 j) ∧ M1 100 27 = ((m + 1 : Nat) : Int) ∧ M1 126 = mv_up (M 126) m s) := by
  refine mv_go' 4 (pc' := 8) (ls' := [mv_R 100, mv_I s]) (st' := [mv_I (M 100 27), mv_R 126]) (M1 := M) rfl ?_
  rw [show M 100 27 = (m : Int) from by exact h]
  refine mv_go' 2 (pc' := if 0 ≤ (m : Int) ∧ (m : Int) < 200 then 10 else mv_bad) (ls' := [mv_R 100, mv_I s]) (st' := []) (M1 := (mv_st M 126 (mv_up (M 126) m s))) rfl ?_
  refine mv_tt' (by omega) ?_
  refine mv_go' 3 (pc' := 15) (ls' := [mv_R 100, mv_I s]) (st' := [mv_I (M 100 27), mv_R 100]) (M1 := (mv_st M 126 (mv_up (M 126) m s))) rfl ?_
  rw [show M 100 27 = (m : Int) from by exact h]
  refine mv_go' 3 (pc' := 20) (ls' := [mv_R 100, mv_I s]) (st' := []) (M1 := (mv_st (mv_st M 126 (mv_up (M 126) m s)) 100 (mv_up (M 100) 27 (mv_w ((m : Int) + 1))))) rfl ?_
  rw [show mv_w ((m : Int) + 1) = (m : Int) + 1 from mv_w_id (by omega) (by omega)]
  refine mv_ret (fun n => rfl) ⟨?_, fun j hj => mv_up_n _ _ hj, ?_, rfl⟩
  · repeat (first | exact mv_ag.rf | refine mv_ag.st ?_ (by decide))
  · show (m : Int) + 1 = _
    omega
theorem sp_muw {n : Nat} {M0 : mv_M} {least : Int} (hn : n < 6) (h12 : M0 100 12 = (n : Int)) (hle : 1 ≤ least) : ∀ (h k : List Int) (M : mv_M) (l2 : mv_V), sp_mhs n h k M0 M → h.length + k.length < 200 → mv_isL l2 = false →
    mv_Ru 1 130 0 [mv_R 100, mv_I least, l2] [] M mv_U (sp_mhs n (sp_uwh least h) (k ++ sp_uwc least h) M0)
  | [], k, M, l2, hm, hl, h2 => by
    have b1 := hm.2.1.1
    have hm2 : sp_mhs n (sp_uwh least []) (k ++ sp_uwc least []) M0 M := by
      show sp_mhs n [] (k ++ []) M0 M
      rw [List.append_nil]
      exact hm
    have b1' : M 100 27 = 0 := b1
    refine mv_go' 2 (pc' := 4) (ls' := [mv_R 100, mv_I least, l2]) (st' := [mv_I (M 100 27)]) (M1 := M) rfl ?_
    rw [show M 100 27 = 0 from by exact b1']
    refine mv_go' 1 (pc' := if 0 < 0 then 7 else 79) (ls' := [mv_R 100, mv_I least, l2]) (st' := []) (M1 := M) rfl ?_
    refine mv_ff' (by first | decide | omega) ?_
    exact mv_ret (fun n => rfl) hm2
  | s :: r, k, M, l2, hm, hl, h2 => by
    have hmm := hm
    obtain ⟨⟨a1, a2⟩, ⟨b1, b2⟩, b3, ⟨b4, b5⟩, b6⟩ := hmm
    have b2a := b2.1
    have b2b := b2.2
    have hkz := sp_kz_b r
    have hrk := sp_rnk_b s
    rw [List.length_cons] at b1 hl
    by_cases c : sp_rnk s < least
    · have e1 : sp_uwh least (s :: r) = s :: r := by rw [sp_uwh, if_pos c]
      have e2 : sp_uwc least (s :: r) = [] := by rw [sp_uwc, if_pos c]
      rw [e1, e2, List.append_nil]
      obtain ⟨m, hmm2⟩ : ∃ m, m = r.length := ⟨_, rfl⟩
      rw [← hmm2] at b1 b2a hl
      obtain ⟨x, hx⟩ : ∃ x, x = sp_rnk s := ⟨_, rfl⟩
      rw [← hx] at c
      refine mv_go' 2 (pc' := 4) (ls' := [mv_R 100, mv_I least, l2]) (st' := [mv_I (M 100 27)]) (M1 := M) rfl ?_
      rw [show M 100 27 = ((m + 1 : Nat) : Int) from by exact b1]
      refine mv_go' 1 (pc' := if 0 < ((m + 1 : Nat) : Int) then 7 else 79) (ls' := [mv_R 100, mv_I least, l2]) (st' := []) (M1 := M) rfl ?_
      refine mv_tt' (by omega) ?_
      refine mv_go' 4 (pc' := 15) (ls' := [mv_R 100, mv_I least, l2]) (st' := [mv_I (M 100 27), mv_R 126]) (M1 := M) rfl ?_
      rw [show M 100 27 = ((m + 1 : Nat) : Int) from by exact b1]
      refine mv_go' 2 (pc' := 17) (ls' := [mv_R 100, mv_I least, l2]) (st' := [mv_I (mv_w (((m + 1 : Nat) : Int) - 1)), mv_R 126]) (M1 := M) rfl ?_
      rw [show mv_w (((m + 1 : Nat) : Int) - 1) = (m : Int) from by (rw [show mv_w (((m + 1 : Nat) : Int) - 1) = ((m + 1 : Nat) : Int) - 1 from mv_w_id (by omega) (by omega)]) <;> omega]
      refine mv_go' 1 (pc' := if 0 ≤ (m : Int) ∧ (m : Int) < 200 then 18 else mv_bad) (ls' := [mv_R 100, mv_I least, l2]) (st' := [mv_I (M 126 m)]) (M1 := M) rfl ?_
      refine mv_tt' (by omega) ?_
      rw [show M 126 m = s from by exact b2a]
      refine mv_callP (st2 := [mv_I x]) rfl (Or.inr rfl) rfl rfl rfl ((mv_Ru.val sp_mrnk (congrArg mv_I hx.symm))) (by first | decide | omega) ?_
      refine mv_go' 2 (pc' := if x < least then 79 else 25) (ls' := [mv_R 100, mv_I least, l2]) (st' := []) (M1 := M) rfl ?_
      refine mv_tt' (by omega) ?_
      exact mv_ret (fun n => rfl) hm
    · have e1 : sp_uwh least (s :: r) = sp_uwh least r := by rw [sp_uwh, if_neg c]
      have e2 : sp_uwc least (s :: r) = s :: sp_uwc least r := by rw [sp_uwc, if_neg c]
      have hs0 : s ≠ 0 := fun z => by have := hrk.2.2.2 z; omega
      have ih := fun M1 l2 q q2 => sp_muw (least := least) hn h12 hle r (k ++ [s]) M1 l2 q (by rw [List.length_append, List.length_cons, List.length_nil]; omega) q2
      rw [e1, e2, show k ++ s :: sp_uwc least r = (k ++ [s]) ++ sp_uwc least r from by rw [List.append_assoc]; rfl]
      have b3' : M 100 28 = sp_kz r + (if s = 13 ∨ s = 19 then 1 else 0) := by
        rw [b3, sp_kz]
        by_cases z : s = 13 ∨ s = 19
        · rw [if_pos z, if_pos (by omega)]
        · rw [if_neg z, if_neg (by omega)]
      have hpt := fun MX (q : sp_mhs n r k M0 MX) => sp_mpt (c := s) hn h12 q (by omega)
      obtain ⟨y, hy⟩ : ∃ y, y = sp_kz r := ⟨_, rfl⟩
      rw [← hy] at b3' hkz
      have hst : ∀ MX : mv_M, mv_ag [100] M MX → (∀ j, (j ≠ 27 ∧ j ≠ 28) → MX 100 j = M 100 j) → MX 100 27 = (r.length : Int) → MX 100 28 = y → sp_mhs n r k M0 MX := fun MX q1 q2 q3 q4 => by
        refine ⟨⟨a1.tr (q1.wd (by simp)), fun j hj => (q2 j ⟨hj.1, hj.2.1⟩).trans (a2 j hj)⟩, ⟨q3, by rw [q1 126 (by decide)]; exact b2b⟩, by rw [q4, hy], ⟨(q2 29 (by decide)).trans b4, by rw [q1 110 (by decide)]; exact b5⟩, fun j hj => by rw [q1 110 (by decide)]; exact b6 j hj⟩
      obtain ⟨m, hmm2⟩ : ∃ m, m = r.length := ⟨_, rfl⟩
      rw [← hmm2] at b1 b2a hl hst hkz
      obtain ⟨x, hx⟩ : ∃ x, x = sp_rnk s := ⟨_, rfl⟩
      rw [← hx] at c
      by_cases z : s = 13 ∨ s = 19
      · rw [if_pos z] at b3'
        refine mv_go' 2 (pc' := 4) (ls' := [mv_R 100, mv_I least, l2]) (st' := [mv_I (M 100 27)]) (M1 := M) rfl ?_
        rw [show M 100 27 = ((m + 1 : Nat) : Int) from by exact b1]
        refine mv_go' 1 (pc' := if 0 < ((m + 1 : Nat) : Int) then 7 else 79) (ls' := [mv_R 100, mv_I least, l2]) (st' := []) (M1 := M) rfl ?_
        refine mv_tt' (by omega) ?_
        refine mv_go' 4 (pc' := 15) (ls' := [mv_R 100, mv_I least, l2]) (st' := [mv_I (M 100 27), mv_R 126]) (M1 := M) rfl ?_
        rw [show M 100 27 = ((m + 1 : Nat) : Int) from by exact b1]
        refine mv_go' 2 (pc' := 17) (ls' := [mv_R 100, mv_I least, l2]) (st' := [mv_I (mv_w (((m + 1 : Nat) : Int) - 1)), mv_R 126]) (M1 := M) rfl ?_
        rw [show mv_w (((m + 1 : Nat) : Int) - 1) = (m : Int) from by (rw [show mv_w (((m + 1 : Nat) : Int) - 1) = ((m + 1 : Nat) : Int) - 1 from mv_w_id (by omega) (by omega)]) <;> omega]
        refine mv_go' 1 (pc' := if 0 ≤ (m : Int) ∧ (m : Int) < 200 then 18 else mv_bad) (ls' := [mv_R 100, mv_I least, l2]) (st' := [mv_I (M 126 m)]) (M1 := M) rfl ?_
        refine mv_tt' (by omega) ?_
        rw [show M 126 m = s from by exact b2a]
        refine mv_callP (st2 := [mv_I x]) rfl (Or.inr rfl) rfl rfl rfl ((mv_Ru.val sp_mrnk (congrArg mv_I hx.symm))) (by first | decide | omega) ?_
        refine mv_go' 2 (pc' := if x < least then 79 else 25) (ls' := [mv_R 100, mv_I least, l2]) (st' := []) (M1 := M) rfl ?_
        refine mv_ff' (by omega) ?_
        refine mv_go' 3 (pc' := 30) (ls' := [mv_R 100, mv_I least, l2]) (st' := [mv_I (M 100 27), mv_R 100]) (M1 := M) rfl ?_
        rw [show M 100 27 = ((m + 1 : Nat) : Int) from by exact b1]
        refine mv_go' 7 (pc' := 43) (ls' := [mv_R 100, mv_I least, l2]) (st' := [mv_I (mv_w (((m + 1 : Nat) : Int) - 1)), mv_R 126]) (M1 := (mv_st M 100 (mv_up (M 100) 27 (mv_w (((m + 1 : Nat) : Int) - 1))))) rfl ?_
        rw [show mv_w (((m + 1 : Nat) : Int) - 1) = (m : Int) from by (rw [show mv_w (((m + 1 : Nat) : Int) - 1) = ((m + 1 : Nat) : Int) - 1 from mv_w_id (by omega) (by omega)]) <;> omega]
        refine mv_go' 1 (pc' := if 0 ≤ (m : Int) ∧ (m : Int) < 200 then 44 else mv_bad) (ls' := [mv_R 100, mv_I least, l2]) (st' := [mv_I (M 126 m)]) (M1 := (mv_st M 100 (mv_up (M 100) 27 (m : Int)))) rfl ?_
        refine mv_tt' (by omega) ?_
        rw [show M 126 m = s from by exact b2a]
        refine mv_go' 4 (pc' := 50) (ls' := [mv_R 100, mv_I least, mv_I s]) (st' := [mv_I (M 100 28), mv_R 100]) (M1 := (mv_st M 100 (mv_up (M 100) 27 (m : Int)))) rfl ?_
        rw [show M 100 28 = (y + 1) from by exact b3']
        refine mv_go' 3 (pc' := if s = 13 then 62 else 56) (ls' := [mv_R 100, mv_I least, mv_I s]) (st' := [mv_I (y + 1), mv_R 100]) (M1 := (mv_st M 100 (mv_up (M 100) 27 (m : Int)))) rfl ?_
        refine mv_sp' (fun ha8 => ?_) (fun ha8 => ?_)
        · refine mv_go' 4 (pc' := 71) (ls' := [mv_R 100, mv_I least, mv_I s]) (st' := []) (M1 := (mv_st (mv_st M 100 (mv_up (M 100) 27 (m : Int))) 100 (mv_up (mv_up (M 100) 27 (m : Int)) 28 (mv_w ((y + 1) - 1))))) rfl ?_
          rw [show mv_w ((y + 1) - 1) = (y + 1) - 1 from mv_w_id (by omega) (by omega)]
          have u27 : (m : Int) = (m : Int) := by omega
          have u28 : (y + 1) - 1 = y := by omega
          refine mv_go' 2 (pc' := 73) (ls' := [mv_R 100, mv_I least, mv_I s]) (st' := [mv_I s, mv_R 100]) (M1 := (mv_st (mv_st M 100 (mv_up (M 100) 27 (m : Int))) 100 (mv_up (mv_up (M 100) 27 (m : Int)) 28 ((y + 1) - 1)))) rfl ?_
          refine mv_call (st2 := []) rfl (Or.inl rfl) rfl rfl rfl ((hpt _ (hst _ (by repeat (first | exact mv_ag.rf | refine mv_ag.st ?_ (by decide))) (fun j hj => (mv_up_n _ _ hj.2).trans (mv_up_n _ _ hj.1)) u27 u28))) (by first | decide | omega) (fun Ma9 hm10 => ?_)
          have hp := hm10
          refine mv_go' 1 (pc' := 0) (ls' := [mv_R 100, mv_I least, mv_I s]) (st' := []) (M1 := Ma9) rfl ?_
          exact ih _ _ hp rfl
        · refine mv_go' 3 (pc' := if s = 19 then 62 else 66) (ls' := [mv_R 100, mv_I least, mv_I s]) (st' := [mv_I (y + 1), mv_R 100]) (M1 := (mv_st M 100 (mv_up (M 100) 27 (m : Int)))) rfl ?_
          refine mv_tt' (by omega) ?_
          refine mv_go' 4 (pc' := 71) (ls' := [mv_R 100, mv_I least, mv_I s]) (st' := []) (M1 := (mv_st (mv_st M 100 (mv_up (M 100) 27 (m : Int))) 100 (mv_up (mv_up (M 100) 27 (m : Int)) 28 (mv_w ((y + 1) - 1))))) rfl ?_
          rw [show mv_w ((y + 1) - 1) = (y + 1) - 1 from mv_w_id (by omega) (by omega)]
          have u27 : (m : Int) = (m : Int) := by omega
          have u28 : (y + 1) - 1 = y := by omega
          refine mv_go' 2 (pc' := 73) (ls' := [mv_R 100, mv_I least, mv_I s]) (st' := [mv_I s, mv_R 100]) (M1 := (mv_st (mv_st M 100 (mv_up (M 100) 27 (m : Int))) 100 (mv_up (mv_up (M 100) 27 (m : Int)) 28 ((y + 1) - 1)))) rfl ?_
          refine mv_call (st2 := []) rfl (Or.inl rfl) rfl rfl rfl ((hpt _ (hst _ (by repeat (first | exact mv_ag.rf | refine mv_ag.st ?_ (by decide))) (fun j hj => (mv_up_n _ _ hj.2).trans (mv_up_n _ _ hj.1)) u27 u28))) (by first | decide | omega) (fun Ma11 hm12 => ?_)
          have hp := hm12
          refine mv_go' 1 (pc' := 0) (ls' := [mv_R 100, mv_I least, mv_I s]) (st' := []) (M1 := Ma11) rfl ?_
          exact ih _ _ hp rfl
      · rw [if_neg z] at b3'
        refine mv_go' 2 (pc' := 4) (ls' := [mv_R 100, mv_I least, l2]) (st' := [mv_I (M 100 27)]) (M1 := M) rfl ?_
        rw [show M 100 27 = ((m + 1 : Nat) : Int) from by exact b1]
        refine mv_go' 1 (pc' := if 0 < ((m + 1 : Nat) : Int) then 7 else 79) (ls' := [mv_R 100, mv_I least, l2]) (st' := []) (M1 := M) rfl ?_
        refine mv_tt' (by omega) ?_
        refine mv_go' 4 (pc' := 15) (ls' := [mv_R 100, mv_I least, l2]) (st' := [mv_I (M 100 27), mv_R 126]) (M1 := M) rfl ?_
        rw [show M 100 27 = ((m + 1 : Nat) : Int) from by exact b1]
        refine mv_go' 2 (pc' := 17) (ls' := [mv_R 100, mv_I least, l2]) (st' := [mv_I (mv_w (((m + 1 : Nat) : Int) - 1)), mv_R 126]) (M1 := M) rfl ?_
        rw [show mv_w (((m + 1 : Nat) : Int) - 1) = (m : Int) from by (rw [show mv_w (((m + 1 : Nat) : Int) - 1) = ((m + 1 : Nat) : Int) - 1 from mv_w_id (by omega) (by omega)]) <;> omega]
        refine mv_go' 1 (pc' := if 0 ≤ (m : Int) ∧ (m : Int) < 200 then 18 else mv_bad) (ls' := [mv_R 100, mv_I least, l2]) (st' := [mv_I (M 126 m)]) (M1 := M) rfl ?_
        refine mv_tt' (by omega) ?_
        rw [show M 126 m = s from by exact b2a]
        refine mv_callP (st2 := [mv_I x]) rfl (Or.inr rfl) rfl rfl rfl ((mv_Ru.val sp_mrnk (congrArg mv_I hx.symm))) (by first | decide | omega) ?_
        refine mv_go' 2 (pc' := if x < least then 79 else 25) (ls' := [mv_R 100, mv_I least, l2]) (st' := []) (M1 := M) rfl ?_
        refine mv_ff' (by omega) ?_
        refine mv_go' 3 (pc' := 30) (ls' := [mv_R 100, mv_I least, l2]) (st' := [mv_I (M 100 27), mv_R 100]) (M1 := M) rfl ?_
        rw [show M 100 27 = ((m + 1 : Nat) : Int) from by exact b1]
        refine mv_go' 7 (pc' := 43) (ls' := [mv_R 100, mv_I least, l2]) (st' := [mv_I (mv_w (((m + 1 : Nat) : Int) - 1)), mv_R 126]) (M1 := (mv_st M 100 (mv_up (M 100) 27 (mv_w (((m + 1 : Nat) : Int) - 1))))) rfl ?_
        rw [show mv_w (((m + 1 : Nat) : Int) - 1) = (m : Int) from by (rw [show mv_w (((m + 1 : Nat) : Int) - 1) = ((m + 1 : Nat) : Int) - 1 from mv_w_id (by omega) (by omega)]) <;> omega]
        refine mv_go' 1 (pc' := if 0 ≤ (m : Int) ∧ (m : Int) < 200 then 44 else mv_bad) (ls' := [mv_R 100, mv_I least, l2]) (st' := [mv_I (M 126 m)]) (M1 := (mv_st M 100 (mv_up (M 100) 27 (m : Int)))) rfl ?_
        refine mv_tt' (by omega) ?_
        rw [show M 126 m = s from by exact b2a]
        refine mv_go' 4 (pc' := 50) (ls' := [mv_R 100, mv_I least, mv_I s]) (st' := [mv_I (M 100 28), mv_R 100]) (M1 := (mv_st M 100 (mv_up (M 100) 27 (m : Int)))) rfl ?_
        rw [show M 100 28 = (y + 0) from by exact b3']
        refine mv_go' 3 (pc' := if s = 13 then 62 else 56) (ls' := [mv_R 100, mv_I least, mv_I s]) (st' := [mv_I (y + 0), mv_R 100]) (M1 := (mv_st M 100 (mv_up (M 100) 27 (m : Int)))) rfl ?_
        refine mv_ff' (by omega) ?_
        refine mv_go' 3 (pc' := if s = 19 then 62 else 66) (ls' := [mv_R 100, mv_I least, mv_I s]) (st' := [mv_I (y + 0), mv_R 100]) (M1 := (mv_st M 100 (mv_up (M 100) 27 (m : Int)))) rfl ?_
        refine mv_ff' (by omega) ?_
        refine mv_go' 3 (pc' := 71) (ls' := [mv_R 100, mv_I least, mv_I s]) (st' := []) (M1 := (mv_st (mv_st M 100 (mv_up (M 100) 27 (m : Int))) 100 (mv_up (mv_up (M 100) 27 (m : Int)) 28 (mv_w ((y + 0) - 0))))) rfl ?_
        rw [show mv_w ((y + 0) - 0) = (y + 0) - 0 from mv_w_id (by omega) (by omega)]
        have u27 : (m : Int) = (m : Int) := by omega
        have u28 : (y + 0) - 0 = y := by omega
        refine mv_go' 2 (pc' := 73) (ls' := [mv_R 100, mv_I least, mv_I s]) (st' := [mv_I s, mv_R 100]) (M1 := (mv_st (mv_st M 100 (mv_up (M 100) 27 (m : Int))) 100 (mv_up (mv_up (M 100) 27 (m : Int)) 28 ((y + 0) - 0)))) rfl ?_
        refine mv_call (st2 := []) rfl (Or.inl rfl) rfl rfl rfl ((hpt _ (hst _ (by repeat (first | exact mv_ag.rf | refine mv_ag.st ?_ (by decide))) (fun j hj => (mv_up_n _ _ hj.2).trans (mv_up_n _ _ hj.1)) u27 u28))) (by first | decide | omega) (fun Ma13 hm14 => ?_)
        have hp := hm14
        refine mv_go' 1 (pc' := 0) (ls' := [mv_R 100, mv_I least, mv_I s]) (st' := []) (M1 := Ma13) rfl ?_
        exact ih _ _ hp rfl
