/-! the class' tokens -/
theorem sp_iw_t {M : mv_M} {q e w : Nat} (hw : w < 12) (he : e ≤ 160) (h4 : M 28 4 = (q : Int)) (h2 : M 28 2 = (e : Int)) (h : sp_wm w (M 29) q e) : mv_Ru 4 12 0 [mv_R 28, mv_R (211 + w), mv_U] [] M (mv_I 1) (fun M1 => M1 = M) := by
  rcases (by omega : w = 0 ∨ w = 1 ∨ w = 2 ∨ w = 3 ∨ w = 4 ∨ w = 5 ∨ w = 6 ∨ w = 7 ∨ w = 8 ∨ w = 9 ∨ w = 10 ∨ w = 11) with q | q | q | q | q | q | q | q | q | q | q | q <;> subst q
  · exact sp_iw1_t he h4 h2 h
  · exact sp_iw2_t he h4 h2 h
  · exact sp_iw3_t he h4 h2 h
  · exact sp_iw4_t he h4 h2 h
  · exact sp_iw5_t he h4 h2 h
  · exact sp_iw6_t he h4 h2 h
  · exact sp_iw7_t he h4 h2 h
  · exact sp_iw8_t he h4 h2 h
  · exact sp_iw9_t he h4 h2 h
  · exact sp_iw10_t he h4 h2 h
  · exact sp_iw11_t he h4 h2 h
  · exact sp_iw12_t he h4 h2 h
theorem sp_iw_f {M : mv_M} {q e w : Nat} (hw : w < 12) (hq : q ≤ e) (he : e ≤ 160) (h4 : M 28 4 = (q : Int)) (h2 : M 28 2 = (e : Int)) (h : ¬ sp_wm w (M 29) q e) : mv_Ru 4 12 0 [mv_R 28, mv_R (211 + w), mv_U] [] M (mv_I 0) (fun M1 => M1 = M) := by
  rcases (by omega : w = 0 ∨ w = 1 ∨ w = 2 ∨ w = 3 ∨ w = 4 ∨ w = 5 ∨ w = 6 ∨ w = 7 ∨ w = 8 ∨ w = 9 ∨ w = 10 ∨ w = 11) with q | q | q | q | q | q | q | q | q | q | q | q <;> subst q
  · exact sp_iw1_f hq he h4 h2 h
  · exact sp_iw2_f hq he h4 h2 h
  · exact sp_iw3_f hq he h4 h2 h
  · exact sp_iw4_f hq he h4 h2 h
  · exact sp_iw5_f hq he h4 h2 h
  · exact sp_iw6_f hq he h4 h2 h
  · exact sp_iw7_f hq he h4 h2 h
  · exact sp_iw8_f hq he h4 h2 h
  · exact sp_iw9_f hq he h4 h2 h
  · exact sp_iw10_f hq he h4 h2 h
  · exact sp_iw11_f hq he h4 h2 h
  · exact sp_iw12_f hq he h4 h2 h
theorem sp_wof {M : mv_M} {w : Nat} (hw : w < 12) : mv_Ru 0 13 0 [mv_I (w : Int)] [] M (mv_R (211 + w)) (fun M1 => M1 = M) := by
  rcases (by omega : w = 0 ∨ w = 1 ∨ w = 2 ∨ w = 3 ∨ w = 4 ∨ w = 5 ∨ w = 6 ∨ w = 7 ∨ w = 8 ∨ w = 9 ∨ w = 10 ∨ w = 11) with q | q | q | q | q | q | q | q | q | q | q | q <;> subst q
  · exact mv_go' 3 rfl (mv_ret (fun n => rfl) rfl)
  · exact mv_go' 3 rfl (mv_ret (fun n => rfl) rfl)
  · exact mv_go' 3 rfl (mv_ret (fun n => rfl) rfl)
  · exact mv_go' 3 rfl (mv_ret (fun n => rfl) rfl)
  · exact mv_go' 3 rfl (mv_ret (fun n => rfl) rfl)
  · exact mv_go' 3 rfl (mv_ret (fun n => rfl) rfl)
  · exact mv_go' 3 rfl (mv_ret (fun n => rfl) rfl)
  · exact mv_go' 3 rfl (mv_ret (fun n => rfl) rfl)
  · exact mv_go' 3 rfl (mv_ret (fun n => rfl) rfl)
  · exact mv_go' 3 rfl (mv_ret (fun n => rfl) rfl)
  · exact mv_go' 3 rfl (mv_ret (fun n => rfl) rfl)
  · exact mv_go' 3 rfl (mv_ret (fun n => rfl) rfl)
theorem sp_cil_t {M : mv_M} {b : Int} (h : 97 ≤ b ∧ b ≤ 122) : mv_Ru 0 21 0 [mv_I b] [] M (mv_I 1) (fun M1 => M1 = M) := by
  refine mv_go' 3 (pc' := if b < 97 then 16 else 6) (ls' := [mv_I b]) (st' := []) (M1 := M) rfl ?_
  refine mv_ff' (by omega) ?_
  refine mv_go' 3 (pc' := if 122 < b then 16 else 12) (ls' := [mv_I b]) (st' := []) (M1 := M) rfl ?_
  refine mv_ff' (by omega) ?_
  refine mv_go' 2 (pc' := 17) (ls' := [mv_I b]) (st' := [mv_I 1]) (M1 := M) rfl ?_
  exact mv_ret (fun n => rfl) rfl
theorem sp_cil_f {M : mv_M} {b : Int} (h : ¬ (97 ≤ b ∧ b ≤ 122)) : mv_Ru 0 21 0 [mv_I b] [] M (mv_I 0) (fun M1 => M1 = M) := by
  refine mv_go' 3 (pc' := if b < 97 then 16 else 6) (ls' := [mv_I b]) (st' := []) (M1 := M) rfl ?_
  refine mv_sp' (fun ha1 => ?_) (fun ha1 => ?_)
  · refine mv_go' 1 (pc' := 17) (ls' := [mv_I b]) (st' := [mv_I 0]) (M1 := M) rfl ?_
    exact mv_ret (fun n => rfl) rfl
  · refine mv_go' 3 (pc' := if 122 < b then 16 else 12) (ls' := [mv_I b]) (st' := []) (M1 := M) rfl ?_
    refine mv_tt' (by omega) ?_
    refine mv_go' 1 (pc' := 17) (ls' := [mv_I b]) (st' := [mv_I 0]) (M1 := M) rfl ?_
    exact mv_ret (fun n => rfl) rfl
theorem sp_cid_t {M : mv_M} {b : Int} (h : 48 ≤ b ∧ b ≤ 57) : mv_Ru 0 22 0 [mv_I b] [] M (mv_I 1) (fun M1 => M1 = M) := by
  refine mv_go' 3 (pc' := if b < 48 then 16 else 6) (ls' := [mv_I b]) (st' := []) (M1 := M) rfl ?_
  refine mv_ff' (by omega) ?_
  refine mv_go' 3 (pc' := if 57 < b then 16 else 12) (ls' := [mv_I b]) (st' := []) (M1 := M) rfl ?_
  refine mv_ff' (by omega) ?_
  refine mv_go' 2 (pc' := 17) (ls' := [mv_I b]) (st' := [mv_I 1]) (M1 := M) rfl ?_
  exact mv_ret (fun n => rfl) rfl
theorem sp_cid_f {M : mv_M} {b : Int} (h : ¬ (48 ≤ b ∧ b ≤ 57)) : mv_Ru 0 22 0 [mv_I b] [] M (mv_I 0) (fun M1 => M1 = M) := by
  refine mv_go' 3 (pc' := if b < 48 then 16 else 6) (ls' := [mv_I b]) (st' := []) (M1 := M) rfl ?_
  refine mv_sp' (fun ha2 => ?_) (fun ha2 => ?_)
  · refine mv_go' 1 (pc' := 17) (ls' := [mv_I b]) (st' := [mv_I 0]) (M1 := M) rfl ?_
    exact mv_ret (fun n => rfl) rfl
  · refine mv_go' 3 (pc' := if 57 < b then 16 else 12) (ls' := [mv_I b]) (st' := []) (M1 := M) rfl ?_
    refine mv_tt' (by omega) ?_
    refine mv_go' 1 (pc' := 17) (ls' := [mv_I b]) (st' := [mv_I 0]) (M1 := M) rfl ?_
    exact mv_ret (fun n => rfl) rfl
theorem sp_crf {M : mv_M} : mv_Ru 0 8 0 [mv_R 28] [] M mv_U (fun M1 => mv_ag [28] M M1 ∧ (∀ j, j ≠ 3 → j ≠ 6 → M1 28 j = M 28 j) ∧ M1 28 3 = 303 ∧ M1 28 6 = if M 28 6 = -1 then M 28 4 else M 28 6) := by
  refine mv_go' 4 (pc' := if (M 28 6) = (-1) then 8 else 16) (ls' := [mv_R 28]) (st' := []) (M1 := M) rfl ?_
  refine mv_sp' (fun ha3 => ?_) (fun ha3 => ?_)
  · refine mv_go' 7 (pc' := 23) (ls' := [mv_R 28]) (st' := []) (M1 := (mv_st (mv_st M 28 (mv_up (M 28) 6 (M 28 4))) 28 (mv_up (mv_up (M 28) 6 (M 28 4)) 3 303))) rfl ?_
    refine mv_ret (fun n => rfl) ⟨?_, fun j j1 j2 => ?_, rfl, ?_⟩
    · repeat (first | exact mv_ag.rf | refine mv_ag.st ?_ (by decide))
    · first | exact (mv_up_n _ _ j1).trans (mv_up_n _ _ j2) | exact mv_up_n _ _ j1
    · first | (rw [if_pos (by assumption)]; rfl) | (rw [if_neg (by assumption)]; rfl)
  · refine mv_go' 3 (pc' := 23) (ls' := [mv_R 28]) (st' := []) (M1 := (mv_st M 28 (mv_up (M 28) 3 303))) rfl ?_
    refine mv_ret (fun n => rfl) ⟨?_, fun j j1 j2 => ?_, rfl, ?_⟩
    · repeat (first | exact mv_ag.rf | refine mv_ag.st ?_ (by decide))
    · first | exact (mv_up_n _ _ j1).trans (mv_up_n _ _ j2) | exact mv_up_n _ _ j1
    · first | (rw [if_pos (by assumption)]; rfl) | (rw [if_neg (by assumption)]; rfl)
theorem sp_crwl {M0 : mv_M} {t d : Nat} {Q : mv_M → Prop} (ht : t ≤ 160) (h1 : M0 28 1 = (t : Int)) :
    ∀ (r p : Nat) (M : mv_M), p + r = t → mv_ag [28] M0 M → (∀ j, j ≠ 2 → M 28 j = M0 28 j) → M 28 2 = (p : Int) →
      (∀ M2, mv_ag [28] M0 M2 → (∀ j, j ≠ 2 → M2 28 j = M0 28 j) → M2 28 2 = ((sp_skp sp_isL (M0 29) r p : Nat) : Int) → mv_Ru (d + 1) 11 39 [mv_R 28, mv_U] [] M2 mv_U Q) →
      mv_Ru (d + 1) 11 0 [mv_R 28, mv_U] [] M mv_U Q := by
  intro r
  induction r with
  | zero =>
    intro p M hk hag hf h2 e
    have e1 : M 28 1 = (p : Int) := by rw [hf 1 (by decide), h1]; omega
    refine mv_go' 2 (pc' := 4) (ls' := [mv_R 28, mv_U]) (st' := [mv_I (M 28 2)]) (M1 := M) rfl ?_
    rw [show M 28 2 = (p : Int) from by exact h2]
    refine mv_go' 2 (pc' := 8) (ls' := [mv_R 28, mv_U]) (st' := [mv_I (M 28 1), mv_I (p : Int)]) (M1 := M) rfl ?_
    rw [show M 28 1 = (p : Int) from by exact e1]
    refine mv_go' 1 (pc' := if (p : Int) < (p : Int) then 11 else 39) (ls' := [mv_R 28, mv_U]) (st' := []) (M1 := M) rfl ?_
    refine mv_ff' (by omega) ?_
    exact e M hag hf h2
  | succ r ih =>
    intro p M hk hag hf h2 e
    have e1 : M 28 1 = (t : Int) := by rw [hf 1 (by decide), h1]
    rw [sp_skp] at e
    by_cases q : sp_isL (M0 29 p) = true
    · rw [if_pos q] at e
      have q2 := sp_isL_t.1 q
      obtain ⟨x, hx⟩ : ∃ x, x = M0 29 p := ⟨_, rfl⟩
      rw [← hx] at q2
      have ex : M 29 p = x := by rw [hag 29 (by decide), hx]
      refine mv_go' 2 (pc' := 4) (ls' := [mv_R 28, mv_U]) (st' := [mv_I (M 28 2)]) (M1 := M) rfl ?_
      rw [show M 28 2 = (p : Int) from by exact h2]
      refine mv_go' 2 (pc' := 8) (ls' := [mv_R 28, mv_U]) (st' := [mv_I (M 28 1), mv_I (p : Int)]) (M1 := M) rfl ?_
      rw [show M 28 1 = (t : Int) from by exact e1]
      refine mv_go' 1 (pc' := if (p : Int) < (t : Int) then 11 else 39) (ls' := [mv_R 28, mv_U]) (st' := []) (M1 := M) rfl ?_
      refine mv_tt' (by omega) ?_
      refine mv_go' 4 (pc' := 19) (ls' := [mv_R 28, mv_U]) (st' := [mv_I (M 28 2), mv_R 29]) (M1 := M) rfl ?_
      rw [show M 28 2 = (p : Int) from by exact h2]
      refine mv_go' 1 (pc' := if 0 ≤ (p : Int) ∧ (p : Int) < 160 then 20 else mv_bad) (ls' := [mv_R 28, mv_U]) (st' := [mv_I (M 29 p)]) (M1 := M) rfl ?_
      refine mv_tt' (by omega) ?_
      rw [show M 29 p = x from by exact ex]
      have ha4 : 97 ≤ x ∧ x ≤ 122 := by omega
      refine mv_callP (st2 := [mv_I 1]) rfl (Or.inr rfl) rfl rfl rfl (sp_cil_t ha4) (by first | decide | omega) ?_
      refine mv_go' 1 (pc' := if 1 = 0 then 39 else 26) (ls' := [mv_R 28, mv_U]) (st' := []) (M1 := M) rfl ?_
      refine mv_ff' (by first | decide | omega) ?_
      refine mv_go' 3 (pc' := 31) (ls' := [mv_R 28, mv_U]) (st' := [mv_I (M 28 2), mv_R 28]) (M1 := M) rfl ?_
      rw [show M 28 2 = (p : Int) from by exact h2]
      refine mv_go' 4 (pc' := 0) (ls' := [mv_R 28, mv_U]) (st' := []) (M1 := (mv_st M 28 (mv_up (M 28) 2 (mv_w ((p : Int) + 1))))) rfl ?_
      rw [show mv_w ((p : Int) + 1) = (p : Int) + 1 from mv_w_id (by omega) (by omega)]
      refine ih (p + 1) _ (by omega) (hag.st (by decide)) (fun j hj => (mv_up_n _ _ hj).trans (hf j hj)) ?_ e
      show (p : Int) + 1 = _
      omega
    · rw [if_neg q] at e
      have q2 : ¬ (97 ≤ M0 29 p ∧ M0 29 p ≤ 122) := fun z => q (sp_isL_t.2 z)
      obtain ⟨x, hx⟩ : ∃ x, x = M0 29 p := ⟨_, rfl⟩
      rw [← hx] at q2
      have ex : M 29 p = x := by rw [hag 29 (by decide), hx]
      refine mv_go' 2 (pc' := 4) (ls' := [mv_R 28, mv_U]) (st' := [mv_I (M 28 2)]) (M1 := M) rfl ?_
      rw [show M 28 2 = (p : Int) from by exact h2]
      refine mv_go' 2 (pc' := 8) (ls' := [mv_R 28, mv_U]) (st' := [mv_I (M 28 1), mv_I (p : Int)]) (M1 := M) rfl ?_
      rw [show M 28 1 = (t : Int) from by exact e1]
      refine mv_go' 1 (pc' := if (p : Int) < (t : Int) then 11 else 39) (ls' := [mv_R 28, mv_U]) (st' := []) (M1 := M) rfl ?_
      refine mv_tt' (by omega) ?_
      refine mv_go' 4 (pc' := 19) (ls' := [mv_R 28, mv_U]) (st' := [mv_I (M 28 2), mv_R 29]) (M1 := M) rfl ?_
      rw [show M 28 2 = (p : Int) from by exact h2]
      refine mv_go' 1 (pc' := if 0 ≤ (p : Int) ∧ (p : Int) < 160 then 20 else mv_bad) (ls' := [mv_R 28, mv_U]) (st' := [mv_I (M 29 p)]) (M1 := M) rfl ?_
      refine mv_tt' (by omega) ?_
      rw [show M 29 p = x from by exact ex]
      have ha5 : ¬ (97 ≤ x ∧ x ≤ 122) := by omega
      refine mv_callP (st2 := [mv_I 0]) rfl (Or.inr rfl) rfl rfl rfl (sp_cil_f ha5) (by first | decide | omega) ?_
      refine mv_go' 1 (pc' := if 0 = 0 then 39 else 26) (ls' := [mv_R 28, mv_U]) (st' := []) (M1 := M) rfl ?_
      refine mv_tt' (by first | decide | omega) ?_
      exact e M hag hf h2
theorem sp_crw2 {M : mv_M} {q e d : Nat} (hq : q ≤ e) (he : e ≤ 160) (h4 : M 28 4 = (q : Int)) (h2 : M 28 2 = (e : Int)) (h6 : M 28 6 = -1) :
    ∀ (r w : Nat), r + w = 12 → mv_Ru (d + 5) 11 41 [mv_R 28, mv_I (w : Int)] [] M mv_U (fun M1 => mv_ag [28] M M1 ∧ (∀ j, (j ≠ 3 ∧ j ≠ 5 ∧ j ≠ 6) → M1 28 j = M 28 j) ∧ M1 28 3 = sp_rw (sp_wi (M 29) q e r w) ∧ (sp_wi (M 29) q e r w < 12 → M1 28 5 = (sp_wi (M 29) q e r w : Int) - 6) ∧ M1 28 6 = if sp_wi (M 29) q e r w < 12 then -1 else (q : Int)) := by
  intro r
  induction r with
  | zero =>
    intro w hk
    have hw : w = 12 := by omega
    subst hw
    refine mv_go' 3 (pc' := if ((12 : Nat) : Int) < 12 then 47 else 94) (ls' := [mv_R 28, mv_I ((12 : Nat) : Int)]) (st' := []) (M1 := M) rfl ?_
    rw [show ((12 : Nat) : Int) = 12 from by omega]
    refine mv_ff' (by first | decide | omega) ?_
    refine mv_go' 1 (pc' := 95) (ls' := [mv_R 28, mv_I 12]) (st' := [mv_R 28]) (M1 := M) rfl ?_
    refine mv_call (st2 := []) rfl (Or.inl rfl) rfl rfl rfl (sp_crf) (by first | decide | omega) (fun Ma6 hm7 => ?_)
    have hx := hm7
    exact mv_ret (fun n => rfl) ⟨hx.1, fun j hj => hx.2.1 j hj.1 hj.2.2, hx.2.2.1, fun z => absurd z (by rw [sp_wi]; omega), by rw [hx.2.2.2, if_pos h6, if_neg (by rw [sp_wi]; omega)]; exact h4⟩
  | succ r ih =>
    intro w hk
    have hw : w < 12 := by omega
    have ih2 := ih (w + 1) (by omega)
    rw [sp_wi]
    by_cases c0 : sp_wmb w (M 29) q e = true
    · have c := sp_wmb_t.1 c0
      rw [if_pos c0]
      refine mv_go' 3 (pc' := if (w : Int) < 12 then 47 else 94) (ls' := [mv_R 28, mv_I (w : Int)]) (st' := []) (M1 := M) rfl ?_
      refine mv_tt' (by omega) ?_
      refine mv_go' 2 (pc' := 49) (ls' := [mv_R 28, mv_I (w : Int)]) (st' := [mv_I (w : Int), mv_R 28]) (M1 := M) rfl ?_
      refine mv_callP (st2 := [mv_R (211 + w), mv_R 28]) rfl (Or.inr rfl) rfl rfl rfl (sp_wof hw) (by first | decide | omega) ?_
      refine mv_callP (st2 := [mv_I 1]) rfl (Or.inl rfl) rfl rfl rfl (sp_iw_t hw he h4 h2 c) (by first | decide | omega) ?_
      refine mv_go' 1 (pc' := if 1 = 0 then 88 else 58) (ls' := [mv_R 28, mv_I (w : Int)]) (st' := []) (M1 := M) rfl ?_
      refine mv_ff' (by first | decide | omega) ?_
      refine mv_go' 4 (pc' := if (w : Int) < 6 then 65 else 73) (ls' := [mv_R 28, mv_I (w : Int)]) (st' := [mv_R 28]) (M1 := M) rfl ?_
      refine mv_sp' (fun ha8 => ?_) (fun ha8 => ?_)
      · refine mv_go' 10 (pc' := 87) (ls' := [mv_R 28, mv_I (w : Int)]) (st' := []) (M1 := (mv_st (mv_st M 28 (mv_up (M 28) 3 (mv_w (256 + (w : Int))))) 28 (mv_up (mv_up (M 28) 3 (mv_w (256 + (w : Int)))) 5 (mv_w ((w : Int) - 6))))) rfl ?_
        rw [show mv_w (256 + (w : Int)) = 256 + (w : Int) from mv_w_id (by omega) (by omega)]
        rw [show mv_w ((w : Int) - 6) = (w : Int) - 6 from mv_w_id (by omega) (by omega)]
        refine mv_ret (fun n => rfl) ⟨?_, fun j hj => ?_, ?_, fun _ => ?_, ?_⟩
        · repeat (first | exact mv_ag.rf | refine mv_ag.st ?_ (by decide))
        · exact (mv_up_n _ _ hj.2.1).trans (mv_up_n _ _ hj.1)
        · show 256 + (w : Int) = _
          unfold sp_rw
          repeat (first | omega | split)
        · show (w : Int) - 6 = _
          omega
        · rw [if_pos hw]
          exact h6
      · refine mv_go' 7 (pc' := 87) (ls' := [mv_R 28, mv_I (w : Int)]) (st' := []) (M1 := (mv_st (mv_st M 28 (mv_up (M 28) 3 301)) 28 (mv_up (mv_up (M 28) 3 301) 5 (mv_w ((w : Int) - 6))))) rfl ?_
        rw [show mv_w ((w : Int) - 6) = (w : Int) - 6 from mv_w_id (by omega) (by omega)]
        refine mv_ret (fun n => rfl) ⟨?_, fun j hj => ?_, ?_, fun _ => ?_, ?_⟩
        · repeat (first | exact mv_ag.rf | refine mv_ag.st ?_ (by decide))
        · exact (mv_up_n _ _ hj.2.1).trans (mv_up_n _ _ hj.1)
        · show 301 = _
          unfold sp_rw
          repeat (first | omega | split)
        · show (w : Int) - 6 = _
          omega
        · rw [if_pos hw]
          exact h6
    · have c : ¬ sp_wm w (M 29) q e := fun z => c0 (sp_wmb_t.2 z)
      rw [if_neg c0]
      refine mv_go' 3 (pc' := if (w : Int) < 12 then 47 else 94) (ls' := [mv_R 28, mv_I (w : Int)]) (st' := []) (M1 := M) rfl ?_
      refine mv_tt' (by omega) ?_
      refine mv_go' 2 (pc' := 49) (ls' := [mv_R 28, mv_I (w : Int)]) (st' := [mv_I (w : Int), mv_R 28]) (M1 := M) rfl ?_
      refine mv_callP (st2 := [mv_R (211 + w), mv_R 28]) rfl (Or.inr rfl) rfl rfl rfl (sp_wof hw) (by first | decide | omega) ?_
      refine mv_callP (st2 := [mv_I 0]) rfl (Or.inl rfl) rfl rfl rfl (sp_iw_f hw hq he h4 h2 c) (by first | decide | omega) ?_
      refine mv_go' 1 (pc' := if 0 = 0 then 88 else 58) (ls' := [mv_R 28, mv_I (w : Int)]) (st' := []) (M1 := M) rfl ?_
      refine mv_tt' (by first | decide | omega) ?_
      refine mv_go' 2 (pc' := 41) (ls' := [mv_R 28, mv_I (mv_w ((w : Int) + 1))]) (st' := []) (M1 := M) rfl ?_
      rw [show mv_w ((w : Int) + 1) = (w : Int) + 1 from mv_w_id (by omega) (by omega)]
      rw [show (w : Int) + 1 = ((w + 1 : Nat) : Int) from by omega]
      exact ih2
theorem sp_crw {M : mv_M} {t q d : Nat} (ht : t ≤ 160) (hq : q ≤ t) (h1 : M 28 1 = (t : Int)) (h2 : M 28 2 = (q : Int)) (h4 : M 28 4 = (q : Int)) (h6 : M 28 6 = -1) : mv_Ru (d + 5) 11 0 [mv_R 28, mv_U] [] M mv_U
    (fun M1 => mv_ag [28] M M1 ∧ (∀ j, (j ≠ 2 ∧ j ≠ 3 ∧ j ≠ 5 ∧ j ≠ 6) → M1 28 j = M 28 j) ∧ M1 28 2 = ((sp_skp sp_isL (M 29) (t - q) q : Nat) : Int) ∧ M1 28 3 = sp_rw (sp_word (M 29) q (sp_skp sp_isL (M 29) (t - q) q)) ∧ (sp_word (M 29) q (sp_skp sp_isL (M 29) (t - q) q) < 12 → M1 28 5 = (sp_word (M 29) q (sp_skp sp_isL (M 29) (t - q) q) : Int) - 6) ∧ M1 28 6 = if sp_word (M 29) q (sp_skp sp_isL (M 29) (t - q) q) < 12 then -1 else (q : Int)) := by
  have hb := sp_skp_b sp_isL (M 29) (t - q) q
  refine sp_crwl (d := d + 4) (M0 := M) ht h1 (t - q) q M (by omega) mv_ag.rf (fun _ _ => rfl) h2 (fun M2 q1 q2 q3 => ?_)
  have e29 : M2 29 = M 29 := q1 29 (by decide)
  refine mv_go' 2 (pc' := 41) (ls' := [mv_R 28, mv_I 0]) (st' := []) (M1 := M2) rfl ?_
  have h := sp_crw2 (M := M2) (d := d) hb.1 (by omega) ((q2 4 (by decide)).trans h4) q3 ((q2 6 (by decide)).trans h6) 12 0 rfl
  rw [e29] at h
  exact h.imp (fun M1 z => ⟨q1.tr z.1, fun j hj => (z.2.1 j hj.2).trans (q2 j hj.1), (z.2.1 2 (by decide)).trans q3, z.2.2⟩)
