/-! the class reads a token -/
def sp_rt (t p : Nat) (M0 M : mv_M) : Prop :=
  mv_ag [28] M0 M ∧ (∀ j, (j ≠ 2 ∧ j ≠ 3 ∧ j ≠ 4 ∧ j ≠ 5 ∧ j ≠ 6) → M 28 j = M0 28 j) ∧ M 28 3 = tk_K (M0 29) t p ∧ M 28 4 = (tk_Q (M0 29) t p : Int) ∧ (tk_K (M0 29) t p ≠ 303 → M 28 2 = (tk_N (M0 29) t p : Int)) ∧
  ((tk_K (M0 29) t p = 300 ∨ tk_K (M0 29) t p = 301) → M 28 5 = tk_W (M0 29) t p) ∧ M 28 6 = if tk_K (M0 29) t p = 303 then (tk_Q (M0 29) t p : Int) else -1
theorem sp_rw_b (w : Nat) : (sp_rw w = 303 ↔ ¬ (w < 12)) ∧ sp_rw w ≠ 300 ∧ (sp_rw w = 301 → w < 12) := by
  unfold sp_rw
  refine ⟨?_, ?_, ?_⟩ <;> repeat (first | omega | split)
theorem sp_crtl {M0 : mv_M} {t d : Nat} {Q : mv_M → Prop} (ht : t ≤ 160) (h1 : M0 28 1 = (t : Int)) :
    ∀ (r p : Nat) (M : mv_M), p + r = t → mv_ag [28] M0 M → (∀ j, j ≠ 2 → M 28 j = M0 28 j) → M 28 2 = (p : Int) →
      (∀ M2, mv_ag [28] M0 M2 → (∀ j, j ≠ 2 → M2 28 j = M0 28 j) → M2 28 2 = ((sp_skp sp_isS (M0 29) r p : Nat) : Int) → mv_Ru (d + 1) 10 52 [mv_R 28] [] M2 mv_U Q) →
      mv_Ru (d + 1) 10 0 [mv_R 28] [] M mv_U Q := by
  intro r
  induction r with
  | zero =>
    intro p M hk hag hf h2 e
    have e1 : M 28 1 = (p : Int) := by rw [hf 1 (by decide), h1]; omega
    refine mv_go' 2 (pc' := 4) (ls' := [mv_R 28]) (st' := [mv_I (M 28 2)]) (M1 := M) rfl ?_
    rw [show M 28 2 = (p : Int) from by exact h2]
    refine mv_go' 2 (pc' := 8) (ls' := [mv_R 28]) (st' := [mv_I (M 28 1), mv_I (p : Int)]) (M1 := M) rfl ?_
    rw [show M 28 1 = (p : Int) from by exact e1]
    refine mv_go' 1 (pc' := if (p : Int) < (p : Int) then 11 else 52) (ls' := [mv_R 28]) (st' := []) (M1 := M) rfl ?_
    refine mv_ff' (by omega) ?_
    exact e M hag hf h2
  | succ r ih =>
    intro p M hk hag hf h2 e
    have e1 : M 28 1 = (t : Int) := by rw [hf 1 (by decide), h1]
    rw [sp_skp] at e
    obtain ⟨x, hx⟩ : ∃ x, x = M0 29 p := ⟨_, rfl⟩
    have ex : M 29 p = x := by rw [hag 29 (by decide), hx]
    by_cases q : sp_isS (M0 29 p) = true
    · rw [if_pos q] at e
      have q2 := sp_isS_t.1 q
      rw [← hx] at q2
      refine mv_go' 2 (pc' := 4) (ls' := [mv_R 28]) (st' := [mv_I (M 28 2)]) (M1 := M) rfl ?_
      rw [show M 28 2 = (p : Int) from by exact h2]
      refine mv_go' 2 (pc' := 8) (ls' := [mv_R 28]) (st' := [mv_I (M 28 1), mv_I (p : Int)]) (M1 := M) rfl ?_
      rw [show M 28 1 = (t : Int) from by exact e1]
      refine mv_go' 1 (pc' := if (p : Int) < (t : Int) then 11 else 52) (ls' := [mv_R 28]) (st' := []) (M1 := M) rfl ?_
      refine mv_tt' (by omega) ?_
      refine mv_go' 4 (pc' := 19) (ls' := [mv_R 28]) (st' := [mv_I (M 28 2), mv_R 29]) (M1 := M) rfl ?_
      rw [show M 28 2 = (p : Int) from by exact h2]
      refine mv_go' 1 (pc' := if 0 ≤ (p : Int) ∧ (p : Int) < 160 then 20 else mv_bad) (ls' := [mv_R 28]) (st' := [mv_I (M 29 p)]) (M1 := M) rfl ?_
      refine mv_tt' (by omega) ?_
      rw [show M 29 p = x from by exact ex]
      refine mv_go' 2 (pc' := if x = 32 then 39 else 25) (ls' := [mv_R 28]) (st' := []) (M1 := M) rfl ?_
      refine mv_sp' (fun ha1 => ?_) (fun ha1 => ?_)
      · refine mv_go' 3 (pc' := 44) (ls' := [mv_R 28]) (st' := [mv_I (M 28 2), mv_R 28]) (M1 := M) rfl ?_
        rw [show M 28 2 = (p : Int) from by exact h2]
        refine mv_go' 4 (pc' := 0) (ls' := [mv_R 28]) (st' := []) (M1 := (mv_st M 28 (mv_up (M 28) 2 (mv_w ((p : Int) + 1))))) rfl ?_
        rw [show mv_w ((p : Int) + 1) = (p : Int) + 1 from mv_w_id (by omega) (by omega)]
        refine ih (p + 1) _ (by omega) (hag.st (by decide)) (fun j hj => (mv_up_n _ _ hj).trans (hf j hj)) ?_ e
        show (p : Int) + 1 = _
        omega
      · refine mv_go' 4 (pc' := 33) (ls' := [mv_R 28]) (st' := [mv_I (M 28 2), mv_R 29]) (M1 := M) rfl ?_
        rw [show M 28 2 = (p : Int) from by exact h2]
        refine mv_go' 1 (pc' := if 0 ≤ (p : Int) ∧ (p : Int) < 160 then 34 else mv_bad) (ls' := [mv_R 28]) (st' := [mv_I (M 29 p)]) (M1 := M) rfl ?_
        refine mv_tt' (by omega) ?_
        rw [show M 29 p = x from by exact ex]
        refine mv_go' 2 (pc' := if x = 10 then 39 else 52) (ls' := [mv_R 28]) (st' := []) (M1 := M) rfl ?_
        refine mv_tt' (by omega) ?_
        refine mv_go' 3 (pc' := 44) (ls' := [mv_R 28]) (st' := [mv_I (M 28 2), mv_R 28]) (M1 := M) rfl ?_
        rw [show M 28 2 = (p : Int) from by exact h2]
        refine mv_go' 4 (pc' := 0) (ls' := [mv_R 28]) (st' := []) (M1 := (mv_st M 28 (mv_up (M 28) 2 (mv_w ((p : Int) + 1))))) rfl ?_
        rw [show mv_w ((p : Int) + 1) = (p : Int) + 1 from mv_w_id (by omega) (by omega)]
        refine ih (p + 1) _ (by omega) (hag.st (by decide)) (fun j hj => (mv_up_n _ _ hj).trans (hf j hj)) ?_ e
        show (p : Int) + 1 = _
        omega
    · rw [if_neg q] at e
      have q2 : ¬ (M0 29 p = 32 ∨ M0 29 p = 10) := fun z => q (sp_isS_t.2 z)
      rw [← hx] at q2
      refine mv_go' 2 (pc' := 4) (ls' := [mv_R 28]) (st' := [mv_I (M 28 2)]) (M1 := M) rfl ?_
      rw [show M 28 2 = (p : Int) from by exact h2]
      refine mv_go' 2 (pc' := 8) (ls' := [mv_R 28]) (st' := [mv_I (M 28 1), mv_I (p : Int)]) (M1 := M) rfl ?_
      rw [show M 28 1 = (t : Int) from by exact e1]
      refine mv_go' 1 (pc' := if (p : Int) < (t : Int) then 11 else 52) (ls' := [mv_R 28]) (st' := []) (M1 := M) rfl ?_
      refine mv_tt' (by omega) ?_
      refine mv_go' 4 (pc' := 19) (ls' := [mv_R 28]) (st' := [mv_I (M 28 2), mv_R 29]) (M1 := M) rfl ?_
      rw [show M 28 2 = (p : Int) from by exact h2]
      refine mv_go' 1 (pc' := if 0 ≤ (p : Int) ∧ (p : Int) < 160 then 20 else mv_bad) (ls' := [mv_R 28]) (st' := [mv_I (M 29 p)]) (M1 := M) rfl ?_
      refine mv_tt' (by omega) ?_
      rw [show M 29 p = x from by exact ex]
      refine mv_go' 2 (pc' := if x = 32 then 39 else 25) (ls' := [mv_R 28]) (st' := []) (M1 := M) rfl ?_
      refine mv_ff' (by omega) ?_
      refine mv_go' 4 (pc' := 33) (ls' := [mv_R 28]) (st' := [mv_I (M 28 2), mv_R 29]) (M1 := M) rfl ?_
      rw [show M 28 2 = (p : Int) from by exact h2]
      refine mv_go' 1 (pc' := if 0 ≤ (p : Int) ∧ (p : Int) < 160 then 34 else mv_bad) (ls' := [mv_R 28]) (st' := [mv_I (M 29 p)]) (M1 := M) rfl ?_
      refine mv_tt' (by omega) ?_
      rw [show M 29 p = x from by exact ex]
      refine mv_go' 2 (pc' := if x = 10 then 39 else 52) (ls' := [mv_R 28]) (st' := []) (M1 := M) rfl ?_
      refine mv_ff' (by omega) ?_
      exact e M hag hf h2
theorem sp_crt {M0 : mv_M} {t p d : Nat} (ht : t ≤ 160) (hp : p ≤ t) (hb : ∀ j, j < t → 0 ≤ M0 29 j ∧ M0 29 j ≤ 255) (h1 : M0 28 1 = (t : Int)) (h2 : M0 28 2 = (p : Int)) (h6 : M0 28 6 = -1) : mv_Ru (d + 7) 10 0 [mv_R 28] [] M0 mv_U (sp_rt t p M0) := by
  have hqb := tk_Q_b (M0 29) hp
  refine sp_crtl (d := d + 6) (M0 := M0) ht h1 (t - p) p M0 (by omega) mv_ag.rf (fun _ _ => rfl) h2 (fun M q1 q2 q3 => ?_)
  have q3' : M 28 2 = (tk_Q (M0 29) t p : Int) := q3
  clear q3
  have e1 : M 28 1 = (t : Int) := (q2 1 (by decide)).trans h1
  have e6 : M 28 6 = -1 := (q2 6 (by decide)).trans h6
  have e29 : M 29 = M0 29 := q1 29 (by decide)
  unfold sp_rt
  by_cases c : t ≤ tk_Q (M0 29) t p
  · obtain ⟨k1, k2⟩ := tk_end c
    rw [k1, k2]
    obtain ⟨q, hq⟩ : ∃ q, q = tk_Q (M0 29) t p := ⟨_, rfl⟩
    rw [← hq] at q3' hqb c ⊢
    refine mv_go' 3 (pc' := 57) (ls' := [mv_R 28]) (st' := [mv_I (M 28 2), mv_R 28]) (M1 := M) rfl ?_
    rw [show M 28 2 = (q : Int) from by exact q3']
    refine mv_go' 3 (pc' := 64) (ls' := [mv_R 28]) (st' := [mv_I (M 28 2)]) (M1 := (mv_st M 28 (mv_up (M 28) 4 (q : Int)))) rfl ?_
    rw [show M 28 2 = (q : Int) from by exact q3']
    refine mv_go' 2 (pc' := 68) (ls' := [mv_R 28]) (st' := [mv_I (M 28 1), mv_I (q : Int)]) (M1 := (mv_st M 28 (mv_up (M 28) 4 (q : Int)))) rfl ?_
    rw [show M 28 1 = (t : Int) from by exact e1]
    refine mv_go' 1 (pc' := if (q : Int) < (t : Int) then 81 else 71) (ls' := [mv_R 28]) (st' := []) (M1 := (mv_st M 28 (mv_up (M 28) 4 (q : Int)))) rfl ?_
    refine mv_ff' (by omega) ?_
    refine mv_go' 4 (pc' := 173) (ls' := [mv_R 28]) (st' := []) (M1 := (mv_st (mv_st M 28 (mv_up (M 28) 4 (q : Int))) 28 (mv_up (mv_up (M 28) 4 (q : Int)) 3 302))) rfl ?_
    exact mv_ret (fun n => rfl) ⟨mv_ag.st (mv_ag.st q1 (by decide)) (by decide), fun j hj => (mv_up_n _ _ hj.2.1).trans ((mv_up_n _ _ hj.2.2.1).trans (q2 j hj.1)), rfl, rfl, fun _ => q3', fun z => by omega, by rw [if_neg (by decide)]; exact e6⟩
  · have hlt : tk_Q (M0 29) t p < t := by omega
    obtain ⟨x, hx⟩ : ∃ x, x = M0 29 (tk_Q (M0 29) t p) := ⟨_, rfl⟩
    have hx255 := hb _ hlt
    rw [← hx] at hx255
    have ex : M 29 (tk_Q (M0 29) t p) = x := by rw [e29, hx]
    by_cases cl : sp_isL (M0 29 (tk_Q (M0 29) t p)) = true
    · obtain ⟨k1, k2, k3⟩ := tk_let hlt cl
      rw [k1, k2, k3]
      have cl2 := sp_isL_t.1 cl
      rw [← hx] at cl2
      clear k1 k2 k3
      obtain ⟨q, hq⟩ : ∃ q, q = tk_Q (M0 29) t p := ⟨_, rfl⟩
      rw [← hq] at q3' hqb c hlt ex ⊢
      have hrb := sp_rw_b (sp_word (M0 29) q (sp_skp sp_isL (M0 29) (t - q) q))
      refine mv_go' 3 (pc' := 57) (ls' := [mv_R 28]) (st' := [mv_I (M 28 2), mv_R 28]) (M1 := M) rfl ?_
      rw [show M 28 2 = (q : Int) from by exact q3']
      refine mv_go' 3 (pc' := 64) (ls' := [mv_R 28]) (st' := [mv_I (M 28 2)]) (M1 := (mv_st M 28 (mv_up (M 28) 4 (q : Int)))) rfl ?_
      rw [show M 28 2 = (q : Int) from by exact q3']
      refine mv_go' 2 (pc' := 68) (ls' := [mv_R 28]) (st' := [mv_I (M 28 1), mv_I (q : Int)]) (M1 := (mv_st M 28 (mv_up (M 28) 4 (q : Int)))) rfl ?_
      rw [show M 28 1 = (t : Int) from by exact e1]
      refine mv_go' 1 (pc' := if (q : Int) < (t : Int) then 81 else 71) (ls' := [mv_R 28]) (st' := []) (M1 := (mv_st M 28 (mv_up (M 28) 4 (q : Int)))) rfl ?_
      refine mv_tt' (by omega) ?_
      refine mv_go' 4 (pc' := 89) (ls' := [mv_R 28]) (st' := [mv_I (M 28 2), mv_R 29]) (M1 := (mv_st M 28 (mv_up (M 28) 4 (q : Int)))) rfl ?_
      rw [show M 28 2 = (q : Int) from by exact q3']
      refine mv_go' 1 (pc' := if 0 ≤ (q : Int) ∧ (q : Int) < 160 then 90 else mv_bad) (ls' := [mv_R 28]) (st' := [mv_I (M 29 q)]) (M1 := (mv_st M 28 (mv_up (M 28) 4 (q : Int)))) rfl ?_
      refine mv_tt' (by omega) ?_
      rw [show M 29 q = x from by exact ex]
      have ha2 : 97 ≤ x ∧ x ≤ 122 := by omega
      refine mv_callP (st2 := [mv_I 1]) rfl (Or.inr rfl) rfl rfl rfl (sp_cil_t ha2) (by first | decide | omega) ?_
      refine mv_go' 1 (pc' := if 1 = 0 then 103 else 96) (ls' := [mv_R 28]) (st' := []) (M1 := (mv_st M 28 (mv_up (M 28) 4 (q : Int)))) rfl ?_
      refine mv_ff' (by first | decide | omega) ?_
      refine mv_go' 1 (pc' := 97) (ls' := [mv_R 28]) (st' := [mv_R 28]) (M1 := (mv_st M 28 (mv_up (M 28) 4 (q : Int)))) rfl ?_
      refine mv_call (st2 := []) rfl (Or.inl rfl) rfl rfl rfl (sp_crw (d := d) (t := t) (q := q) ht hqb.2 e1 q3' rfl e6) (by first | decide | omega) (fun Ma3 hm4 => ?_)
      have hy := hm4
      rw [show (mv_st M 28 (mv_up (M 28) 4 (q : Int))) 29 = M0 29 from e29] at hy
      refine mv_go' 1 (pc' := 173) (ls' := [mv_R 28]) (st' := []) (M1 := Ma3) rfl ?_
      refine mv_ret (fun n => rfl) ⟨(mv_ag.st q1 (by decide)).tr hy.1, fun j hj => (hy.2.1 j ⟨hj.1, hj.2.1, hj.2.2.2.1, hj.2.2.2.2⟩).trans ((mv_up_n _ _ hj.2.2.1).trans (q2 j hj.1)), hy.2.2.2.1, (hy.2.1 4 (by decide)).trans rfl, fun _ => hy.2.2.1, fun z => hy.2.2.2.2.1 ?_, ?_⟩
      · rcases z with z | z
        · exact absurd z hrb.2.1
        · exact hrb.2.2 z
      · rw [hy.2.2.2.2.2]
        by_cases w : sp_word (M0 29) q (sp_skp sp_isL (M0 29) (t - q) q) < 12
        · rw [if_pos w, if_neg (fun z => hrb.1.1 z w)]
        · rw [if_neg w, if_pos (hrb.1.2 w)]
    · have cl2 : ¬ (97 ≤ x ∧ x ≤ 122) := fun z => cl (sp_isL_t.2 (hx ▸ z))
      by_cases cd : sp_isD (M0 29 (tk_Q (M0 29) t p)) = true
      · obtain ⟨k1, k2, k3⟩ := tk_dig hlt cl cd
        rw [k1, k2, k3]
        have cd2 := sp_isD_t.1 cd
        rw [← hx] at cd2
        clear k1 k2 k3
        obtain ⟨q, hq⟩ : ∃ q, q = tk_Q (M0 29) t p := ⟨_, rfl⟩
        rw [← hq] at q3' hqb c hlt ex ⊢
        obtain ⟨e, he⟩ : ∃ e, e = sp_skp sp_isD (M0 29) (t - q) q := ⟨_, rfl⟩
        rw [← he]
        refine mv_go' 3 (pc' := 57) (ls' := [mv_R 28]) (st' := [mv_I (M 28 2), mv_R 28]) (M1 := M) rfl ?_
        rw [show M 28 2 = (q : Int) from by exact q3']
        refine mv_go' 3 (pc' := 64) (ls' := [mv_R 28]) (st' := [mv_I (M 28 2)]) (M1 := (mv_st M 28 (mv_up (M 28) 4 (q : Int)))) rfl ?_
        rw [show M 28 2 = (q : Int) from by exact q3']
        refine mv_go' 2 (pc' := 68) (ls' := [mv_R 28]) (st' := [mv_I (M 28 1), mv_I (q : Int)]) (M1 := (mv_st M 28 (mv_up (M 28) 4 (q : Int)))) rfl ?_
        rw [show M 28 1 = (t : Int) from by exact e1]
        refine mv_go' 1 (pc' := if (q : Int) < (t : Int) then 81 else 71) (ls' := [mv_R 28]) (st' := []) (M1 := (mv_st M 28 (mv_up (M 28) 4 (q : Int)))) rfl ?_
        refine mv_tt' (by omega) ?_
        refine mv_go' 4 (pc' := 89) (ls' := [mv_R 28]) (st' := [mv_I (M 28 2), mv_R 29]) (M1 := (mv_st M 28 (mv_up (M 28) 4 (q : Int)))) rfl ?_
        rw [show M 28 2 = (q : Int) from by exact q3']
        refine mv_go' 1 (pc' := if 0 ≤ (q : Int) ∧ (q : Int) < 160 then 90 else mv_bad) (ls' := [mv_R 28]) (st' := [mv_I (M 29 q)]) (M1 := (mv_st M 28 (mv_up (M 28) 4 (q : Int)))) rfl ?_
        refine mv_tt' (by omega) ?_
        rw [show M 29 q = x from by exact ex]
        have ha5 : ¬ (97 ≤ x ∧ x ≤ 122) := by omega
        refine mv_callP (st2 := [mv_I 0]) rfl (Or.inr rfl) rfl rfl rfl (sp_cil_f ha5) (by first | decide | omega) ?_
        refine mv_go' 1 (pc' := if 0 = 0 then 103 else 96) (ls' := [mv_R 28]) (st' := []) (M1 := (mv_st M 28 (mv_up (M 28) 4 (q : Int)))) rfl ?_
        refine mv_tt' (by first | decide | omega) ?_
        refine mv_go' 4 (pc' := 111) (ls' := [mv_R 28]) (st' := [mv_I (M 28 2), mv_R 29]) (M1 := (mv_st M 28 (mv_up (M 28) 4 (q : Int)))) rfl ?_
        rw [show M 28 2 = (q : Int) from by exact q3']
        refine mv_go' 1 (pc' := if 0 ≤ (q : Int) ∧ (q : Int) < 160 then 112 else mv_bad) (ls' := [mv_R 28]) (st' := [mv_I (M 29 q)]) (M1 := (mv_st M 28 (mv_up (M 28) 4 (q : Int)))) rfl ?_
        refine mv_tt' (by omega) ?_
        rw [show M 29 q = x from by exact ex]
        have ha6 : 48 ≤ x ∧ x ≤ 57 := by omega
        refine mv_callP (st2 := [mv_I 1]) rfl (Or.inr rfl) rfl rfl rfl (sp_cid_t ha6) (by first | decide | omega) ?_
        refine mv_go' 1 (pc' := if 1 = 0 then 125 else 118) (ls' := [mv_R 28]) (st' := []) (M1 := (mv_st M 28 (mv_up (M 28) 4 (q : Int)))) rfl ?_
        refine mv_ff' (by first | decide | omega) ?_
        refine mv_go' 1 (pc' := 119) (ls' := [mv_R 28]) (st' := [mv_R 28]) (M1 := (mv_st M 28 (mv_up (M 28) 4 (q : Int)))) rfl ?_
        refine mv_call (st2 := []) rfl (Or.inl rfl) rfl rfl rfl (sp_crnum (d := d) (t := t) (q := q) (e := e) ht hqb.2 (by rw [show (mv_st M 28 (mv_up (M 28) 4 (q : Int))) 29 = M0 29 from e29]; exact he.symm) e1 q3' rfl e6) (by first | decide | omega) (fun Ma7 hm8 => ?_)
        have hy := hm8
        rw [show (mv_st M 28 (mv_up (M 28) 4 (q : Int))) 29 = M0 29 from e29] at hy
        refine mv_go' 1 (pc' := 173) (ls' := [mv_R 28]) (st' := []) (M1 := Ma7) rfl ?_
        refine mv_ret (fun n => rfl) ⟨(mv_ag.st q1 (by decide)).tr hy.1, fun j hj => (hy.2.1 j ⟨hj.1, hj.2.1, hj.2.2.2.1, hj.2.2.2.2⟩).trans ((mv_up_n _ _ hj.2.2.1).trans (q2 j hj.1)), hy.2.2.2.1, (hy.2.1 4 (by decide)).trans rfl, fun _ => hy.2.2.1, fun z => hy.2.2.2.2.1 (fun w => ?_), ?_⟩
        · rw [if_pos w] at z
          omega
        · rw [hy.2.2.2.2.2]
          by_cases w : 4 < e - q
          · rw [if_pos w, if_pos w, if_pos rfl]
          · rw [if_neg w, if_neg w, if_neg (by decide)]
      · have cd2 : ¬ (48 ≤ x ∧ x ≤ 57) := fun z => cd (sp_isD_t.2 (hx ▸ z))
        obtain ⟨k1, k2⟩ := tk_sig hlt cl cd
        rw [k1, k2, ← hx]
        clear k1 k2
        obtain ⟨q, hq⟩ : ∃ q, q = tk_Q (M0 29) t p := ⟨_, rfl⟩
        rw [← hq] at q3' hqb c hlt ex ⊢
        have hix := sp_ix_d ⟨x.toNat, by omega⟩
        rw [show ((((⟨x.toNat, by omega⟩ : Fin 256) : Nat)) : Int) = x from by show ((x.toNat : Nat) : Int) = x; omega] at hix
        obtain ⟨y, hy⟩ : ∃ y, y = sp_ixf x 8 0 := ⟨_, rfl⟩
        rw [← hy] at hix
        by_cases cg : sp_isG x = true
        · have hxg := sp_isG_t.1 cg
          have hy0 := hix.2.1 cg
          rw [if_pos cg]
          refine mv_go' 3 (pc' := 57) (ls' := [mv_R 28]) (st' := [mv_I (M 28 2), mv_R 28]) (M1 := M) rfl ?_
          rw [show M 28 2 = (q : Int) from by exact q3']
          refine mv_go' 3 (pc' := 64) (ls' := [mv_R 28]) (st' := [mv_I (M 28 2)]) (M1 := (mv_st M 28 (mv_up (M 28) 4 (q : Int)))) rfl ?_
          rw [show M 28 2 = (q : Int) from by exact q3']
          refine mv_go' 2 (pc' := 68) (ls' := [mv_R 28]) (st' := [mv_I (M 28 1), mv_I (q : Int)]) (M1 := (mv_st M 28 (mv_up (M 28) 4 (q : Int)))) rfl ?_
          rw [show M 28 1 = (t : Int) from by exact e1]
          refine mv_go' 1 (pc' := if (q : Int) < (t : Int) then 81 else 71) (ls' := [mv_R 28]) (st' := []) (M1 := (mv_st M 28 (mv_up (M 28) 4 (q : Int)))) rfl ?_
          refine mv_tt' (by omega) ?_
          refine mv_go' 4 (pc' := 89) (ls' := [mv_R 28]) (st' := [mv_I (M 28 2), mv_R 29]) (M1 := (mv_st M 28 (mv_up (M 28) 4 (q : Int)))) rfl ?_
          rw [show M 28 2 = (q : Int) from by exact q3']
          refine mv_go' 1 (pc' := if 0 ≤ (q : Int) ∧ (q : Int) < 160 then 90 else mv_bad) (ls' := [mv_R 28]) (st' := [mv_I (M 29 q)]) (M1 := (mv_st M 28 (mv_up (M 28) 4 (q : Int)))) rfl ?_
          refine mv_tt' (by omega) ?_
          rw [show M 29 q = x from by exact ex]
          have ha9 : ¬ (97 ≤ x ∧ x ≤ 122) := by omega
          refine mv_callP (st2 := [mv_I 0]) rfl (Or.inr rfl) rfl rfl rfl (sp_cil_f ha9) (by first | decide | omega) ?_
          refine mv_go' 1 (pc' := if 0 = 0 then 103 else 96) (ls' := [mv_R 28]) (st' := []) (M1 := (mv_st M 28 (mv_up (M 28) 4 (q : Int)))) rfl ?_
          refine mv_tt' (by first | decide | omega) ?_
          refine mv_go' 4 (pc' := 111) (ls' := [mv_R 28]) (st' := [mv_I (M 28 2), mv_R 29]) (M1 := (mv_st M 28 (mv_up (M 28) 4 (q : Int)))) rfl ?_
          rw [show M 28 2 = (q : Int) from by exact q3']
          refine mv_go' 1 (pc' := if 0 ≤ (q : Int) ∧ (q : Int) < 160 then 112 else mv_bad) (ls' := [mv_R 28]) (st' := [mv_I (M 29 q)]) (M1 := (mv_st M 28 (mv_up (M 28) 4 (q : Int)))) rfl ?_
          refine mv_tt' (by omega) ?_
          rw [show M 29 q = x from by exact ex]
          have ha10 : ¬ (48 ≤ x ∧ x ≤ 57) := by omega
          refine mv_callP (st2 := [mv_I 0]) rfl (Or.inr rfl) rfl rfl rfl (sp_cid_f ha10) (by first | decide | omega) ?_
          refine mv_go' 1 (pc' := if 0 = 0 then 125 else 118) (ls' := [mv_R 28]) (st' := []) (M1 := (mv_st M 28 (mv_up (M 28) 4 (q : Int)))) rfl ?_
          refine mv_tt' (by first | decide | omega) ?_
          refine mv_go' 5 (pc' := 135) (ls' := [mv_R 28]) (st' := [mv_I (M 28 2), mv_R 29, mv_R 223]) (M1 := (mv_st M 28 (mv_up (M 28) 4 (q : Int)))) rfl ?_
          rw [show M 28 2 = (q : Int) from by exact q3']
          refine mv_go' 1 (pc' := if 0 ≤ (q : Int) ∧ (q : Int) < 160 then 136 else mv_bad) (ls' := [mv_R 28]) (st' := [mv_I (M 29 q), mv_R 223]) (M1 := (mv_st M 28 (mv_up (M 28) 4 (q : Int)))) rfl ?_
          refine mv_tt' (by omega) ?_
          rw [show M 29 q = x from by exact ex]
          refine mv_go' 1 (pc' := 137) (ls' := [mv_R 28]) (st' := [mv_I (mv_i2c x), mv_R 223]) (M1 := (mv_st M 28 (mv_up (M 28) 4 (q : Int)))) rfl ?_
          rw [show mv_i2c x = x from by exact hix.1]
          refine mv_callP (st2 := [mv_I y]) rfl (Or.inl rfl) rfl rfl rfl ((mv_Ru.val (sp_io hx255) (congrArg mv_I hy.symm))) (by first | decide | omega) ?_
          refine mv_go' 1 (pc' := if y < 0 then 169 else 143) (ls' := [mv_R 28]) (st' := []) (M1 := (mv_st M 28 (mv_up (M 28) 4 (q : Int)))) rfl ?_
          refine mv_ff' (by omega) ?_
          refine mv_go' 5 (pc' := 152) (ls' := [mv_R 28]) (st' := [mv_I (M 28 2), mv_R 29, mv_R 28]) (M1 := (mv_st M 28 (mv_up (M 28) 4 (q : Int)))) rfl ?_
          rw [show M 28 2 = (q : Int) from by exact q3']
          refine mv_go' 1 (pc' := if 0 ≤ (q : Int) ∧ (q : Int) < 160 then 153 else mv_bad) (ls' := [mv_R 28]) (st' := [mv_I (M 29 q), mv_R 28]) (M1 := (mv_st M 28 (mv_up (M 28) 4 (q : Int)))) rfl ?_
          refine mv_tt' (by omega) ?_
          rw [show M 29 q = x from by exact ex]
          refine mv_go' 4 (pc' := 161) (ls' := [mv_R 28]) (st' := [mv_I (M 28 2), mv_R 28]) (M1 := (mv_st (mv_st M 28 (mv_up (M 28) 4 (q : Int))) 28 (mv_up (mv_up (M 28) 4 (q : Int)) 3 x))) rfl ?_
          rw [show M 28 2 = (q : Int) from by exact q3']
          refine mv_go' 4 (pc' := 173) (ls' := [mv_R 28]) (st' := []) (M1 := (mv_st (mv_st (mv_st M 28 (mv_up (M 28) 4 (q : Int))) 28 (mv_up (mv_up (M 28) 4 (q : Int)) 3 x)) 28 (mv_up (mv_up (mv_up (M 28) 4 (q : Int)) 3 x) 2 (mv_w ((q : Int) + 1))))) rfl ?_
          rw [show mv_w ((q : Int) + 1) = (q : Int) + 1 from mv_w_id (by omega) (by omega)]
          refine mv_ret (fun n => rfl) ⟨?_, fun j hj => (mv_up_n _ _ hj.1).trans ((mv_up_n _ _ hj.2.1).trans ((mv_up_n _ _ hj.2.2.1).trans (q2 j hj.1))), rfl, rfl, fun _ => ?_, fun z => by omega, by rw [if_neg (by omega)]; exact e6⟩
          · repeat (first | exact q1 | refine mv_ag.st ?_ (by decide))
          · show (q : Int) + 1 = _
            omega
        · have hy0 := hix.2.2 (by simpa using cg)
          rw [if_neg cg]
          refine mv_go' 3 (pc' := 57) (ls' := [mv_R 28]) (st' := [mv_I (M 28 2), mv_R 28]) (M1 := M) rfl ?_
          rw [show M 28 2 = (q : Int) from by exact q3']
          refine mv_go' 3 (pc' := 64) (ls' := [mv_R 28]) (st' := [mv_I (M 28 2)]) (M1 := (mv_st M 28 (mv_up (M 28) 4 (q : Int)))) rfl ?_
          rw [show M 28 2 = (q : Int) from by exact q3']
          refine mv_go' 2 (pc' := 68) (ls' := [mv_R 28]) (st' := [mv_I (M 28 1), mv_I (q : Int)]) (M1 := (mv_st M 28 (mv_up (M 28) 4 (q : Int)))) rfl ?_
          rw [show M 28 1 = (t : Int) from by exact e1]
          refine mv_go' 1 (pc' := if (q : Int) < (t : Int) then 81 else 71) (ls' := [mv_R 28]) (st' := []) (M1 := (mv_st M 28 (mv_up (M 28) 4 (q : Int)))) rfl ?_
          refine mv_tt' (by omega) ?_
          refine mv_go' 4 (pc' := 89) (ls' := [mv_R 28]) (st' := [mv_I (M 28 2), mv_R 29]) (M1 := (mv_st M 28 (mv_up (M 28) 4 (q : Int)))) rfl ?_
          rw [show M 28 2 = (q : Int) from by exact q3']
          refine mv_go' 1 (pc' := if 0 ≤ (q : Int) ∧ (q : Int) < 160 then 90 else mv_bad) (ls' := [mv_R 28]) (st' := [mv_I (M 29 q)]) (M1 := (mv_st M 28 (mv_up (M 28) 4 (q : Int)))) rfl ?_
          refine mv_tt' (by omega) ?_
          rw [show M 29 q = x from by exact ex]
          have ha11 : ¬ (97 ≤ x ∧ x ≤ 122) := by omega
          refine mv_callP (st2 := [mv_I 0]) rfl (Or.inr rfl) rfl rfl rfl (sp_cil_f ha11) (by first | decide | omega) ?_
          refine mv_go' 1 (pc' := if 0 = 0 then 103 else 96) (ls' := [mv_R 28]) (st' := []) (M1 := (mv_st M 28 (mv_up (M 28) 4 (q : Int)))) rfl ?_
          refine mv_tt' (by first | decide | omega) ?_
          refine mv_go' 4 (pc' := 111) (ls' := [mv_R 28]) (st' := [mv_I (M 28 2), mv_R 29]) (M1 := (mv_st M 28 (mv_up (M 28) 4 (q : Int)))) rfl ?_
          rw [show M 28 2 = (q : Int) from by exact q3']
          refine mv_go' 1 (pc' := if 0 ≤ (q : Int) ∧ (q : Int) < 160 then 112 else mv_bad) (ls' := [mv_R 28]) (st' := [mv_I (M 29 q)]) (M1 := (mv_st M 28 (mv_up (M 28) 4 (q : Int)))) rfl ?_
          refine mv_tt' (by omega) ?_
          rw [show M 29 q = x from by exact ex]
          have ha12 : ¬ (48 ≤ x ∧ x ≤ 57) := by omega
          refine mv_callP (st2 := [mv_I 0]) rfl (Or.inr rfl) rfl rfl rfl (sp_cid_f ha12) (by first | decide | omega) ?_
          refine mv_go' 1 (pc' := if 0 = 0 then 125 else 118) (ls' := [mv_R 28]) (st' := []) (M1 := (mv_st M 28 (mv_up (M 28) 4 (q : Int)))) rfl ?_
          refine mv_tt' (by first | decide | omega) ?_
          refine mv_go' 5 (pc' := 135) (ls' := [mv_R 28]) (st' := [mv_I (M 28 2), mv_R 29, mv_R 223]) (M1 := (mv_st M 28 (mv_up (M 28) 4 (q : Int)))) rfl ?_
          rw [show M 28 2 = (q : Int) from by exact q3']
          refine mv_go' 1 (pc' := if 0 ≤ (q : Int) ∧ (q : Int) < 160 then 136 else mv_bad) (ls' := [mv_R 28]) (st' := [mv_I (M 29 q), mv_R 223]) (M1 := (mv_st M 28 (mv_up (M 28) 4 (q : Int)))) rfl ?_
          refine mv_tt' (by omega) ?_
          rw [show M 29 q = x from by exact ex]
          refine mv_go' 1 (pc' := 137) (ls' := [mv_R 28]) (st' := [mv_I (mv_i2c x), mv_R 223]) (M1 := (mv_st M 28 (mv_up (M 28) 4 (q : Int)))) rfl ?_
          rw [show mv_i2c x = x from by exact hix.1]
          refine mv_callP (st2 := [mv_I y]) rfl (Or.inl rfl) rfl rfl rfl ((mv_Ru.val (sp_io hx255) (congrArg mv_I hy.symm))) (by first | decide | omega) ?_
          refine mv_go' 1 (pc' := if y < 0 then 169 else 143) (ls' := [mv_R 28]) (st' := []) (M1 := (mv_st M 28 (mv_up (M 28) 4 (q : Int)))) rfl ?_
          refine mv_tt' (by omega) ?_
          refine mv_go' 1 (pc' := 170) (ls' := [mv_R 28]) (st' := [mv_R 28]) (M1 := (mv_st M 28 (mv_up (M 28) 4 (q : Int)))) rfl ?_
          refine mv_call (st2 := []) rfl (Or.inl rfl) rfl rfl rfl (sp_crf) (by first | decide | omega) (fun Ma13 hm14 => ?_)
          have hx := hm14
          exact mv_ret (fun n => rfl) ⟨(mv_ag.st q1 (by decide)).tr hx.1, fun j hj => (hx.2.1 j hj.2.1 hj.2.2.2.2).trans ((mv_up_n _ _ hj.2.2.1).trans (q2 j hj.1)), hx.2.2.1, (hx.2.1 4 (by decide) (by decide)).trans rfl, fun z => absurd rfl z, fun z => by omega, by rw [hx.2.2.2, if_pos (show (mv_st M 28 (mv_up (M 28) 4 (q : Int))) 28 6 = -1 from e6), if_pos rfl]; rfl⟩
