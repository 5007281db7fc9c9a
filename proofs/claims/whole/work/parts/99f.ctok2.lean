/-! the class' tokens: numbers, signs -/
theorem sp_crnl {M0 : mv_M} {t q d : Nat} {Q : mv_M → Prop} (ht : t ≤ 160) (h1 : M0 28 1 = (t : Int)) :
    ∀ (r p : Nat) (M : mv_M), p + r = t → q ≤ p → mv_ag [28] M0 M → (∀ j, (j ≠ 2 ∧ j ≠ 5) → M 28 j = M0 28 j) → M 28 2 = (p : Int) → (p - q ≤ 4 → M 28 5 = sp_nv (M0 29) q (p - q)) → (∀ j, j < p - q → 48 ≤ M0 29 (q + j) ∧ M0 29 (q + j) ≤ 57) →
      (∀ M2, mv_ag [28] M0 M2 → (∀ j, (j ≠ 2 ∧ j ≠ 5) → M2 28 j = M0 28 j) → M2 28 2 = ((sp_skp sp_isD (M0 29) r p : Nat) : Int) → (sp_skp sp_isD (M0 29) r p - q ≤ 4 → M2 28 5 = sp_nv (M0 29) q (sp_skp sp_isD (M0 29) r p - q)) → mv_Ru (d + 1) 14 68 [mv_R 28] [] M2 mv_U Q) →
      mv_Ru (d + 1) 14 5 [mv_R 28] [] M mv_U Q := by
  intro r
  induction r with
  | zero =>
    intro p M hk hqp hag hf h2 h5 hd e
    have e1 : M 28 1 = (p : Int) := by rw [hf 1 (by decide), h1]; omega
    refine mv_go' 2 (pc' := 9) (ls' := [mv_R 28]) (st' := [mv_I (M 28 2)]) (M1 := M) rfl ?_
    rw [show M 28 2 = (p : Int) from by exact h2]
    refine mv_go' 2 (pc' := 13) (ls' := [mv_R 28]) (st' := [mv_I (M 28 1), mv_I (p : Int)]) (M1 := M) rfl ?_
    rw [show M 28 1 = (p : Int) from by exact e1]
    refine mv_go' 1 (pc' := if (p : Int) < (p : Int) then 16 else 68) (ls' := [mv_R 28]) (st' := []) (M1 := M) rfl ?_
    refine mv_ff' (by omega) ?_
    exact e M hag hf h2 h5
  | succ r ih =>
    intro p M hk hqp hag hf h2 h5 hd e
    have e1 : M 28 1 = (t : Int) := by rw [hf 1 (by decide), h1]
    rw [sp_skp] at e
    obtain ⟨x, hx⟩ : ∃ x, x = M0 29 p := ⟨_, rfl⟩
    have ex : M 29 p = x := by rw [hag 29 (by decide), hx]
    obtain ⟨v, hv⟩ : ∃ v, M 28 5 = v := ⟨_, rfl⟩
    by_cases qc : sp_isD (M0 29 p) = true
    · rw [if_pos qc] at e
      have q2 := sp_isD_t.1 qc
      rw [← hx] at q2
      refine mv_go' 2 (pc' := 9) (ls' := [mv_R 28]) (st' := [mv_I (M 28 2)]) (M1 := M) rfl ?_
      rw [show M 28 2 = (p : Int) from by exact h2]
      refine mv_go' 2 (pc' := 13) (ls' := [mv_R 28]) (st' := [mv_I (M 28 1), mv_I (p : Int)]) (M1 := M) rfl ?_
      rw [show M 28 1 = (t : Int) from by exact e1]
      refine mv_go' 1 (pc' := if (p : Int) < (t : Int) then 16 else 68) (ls' := [mv_R 28]) (st' := []) (M1 := M) rfl ?_
      refine mv_tt' (by omega) ?_
      refine mv_go' 4 (pc' := 24) (ls' := [mv_R 28]) (st' := [mv_I (M 28 2), mv_R 29]) (M1 := M) rfl ?_
      rw [show M 28 2 = (p : Int) from by exact h2]
      refine mv_go' 1 (pc' := if 0 ≤ (p : Int) ∧ (p : Int) < 160 then 25 else mv_bad) (ls' := [mv_R 28]) (st' := [mv_I (M 29 p)]) (M1 := M) rfl ?_
      refine mv_tt' (by omega) ?_
      rw [show M 29 p = x from by exact ex]
      have ha1 : 48 ≤ x ∧ x ≤ 57 := by omega
      refine mv_callP (st2 := [mv_I 1]) rfl (Or.inr rfl) rfl rfl rfl (sp_cid_t ha1) (by first | decide | omega) ?_
      refine mv_go' 1 (pc' := if 1 = 0 then 68 else 31) (ls' := [mv_R 28]) (st' := []) (M1 := M) rfl ?_
      refine mv_ff' (by first | decide | omega) ?_
      refine mv_go' 3 (pc' := 36) (ls' := [mv_R 28]) (st' := [mv_I (M 28 5), mv_R 28]) (M1 := M) rfl ?_
      rw [show M 28 5 = v from by exact hv]
      refine mv_go' 6 (pc' := 47) (ls' := [mv_R 28]) (st' := [mv_I (M 28 2), mv_R 29, mv_I (mv_w (v * 10)), mv_R 28]) (M1 := M) rfl ?_
      rw [show M 28 2 = (p : Int) from by exact h2]
      refine mv_go' 1 (pc' := if 0 ≤ (p : Int) ∧ (p : Int) < 160 then 48 else mv_bad) (ls' := [mv_R 28]) (st' := [mv_I (M 29 p), mv_I (mv_w (v * 10)), mv_R 28]) (M1 := M) rfl ?_
      refine mv_tt' (by omega) ?_
      rw [show M 29 p = x from by exact ex]
      refine mv_go' 7 (pc' := 60) (ls' := [mv_R 28]) (st' := [mv_I (M 28 2), mv_R 28]) (M1 := (mv_st M 28 (mv_up (M 28) 5 (mv_w ((mv_w ((mv_w (v * 10)) + x)) - 48))))) rfl ?_
      rw [show M 28 2 = (p : Int) from by exact h2]
      refine mv_go' 4 (pc' := 5) (ls' := [mv_R 28]) (st' := []) (M1 := (mv_st (mv_st M 28 (mv_up (M 28) 5 (mv_w ((mv_w ((mv_w (v * 10)) + x)) - 48)))) 28 (mv_up (mv_up (M 28) 5 (mv_w ((mv_w ((mv_w (v * 10)) + x)) - 48))) 2 (mv_w ((p : Int) + 1))))) rfl ?_
      rw [show mv_w ((p : Int) + 1) = (p : Int) + 1 from mv_w_id (by omega) (by omega)]
      refine ih (p + 1) _ (by omega) (by omega) (by repeat (first | exact hag | refine mv_ag.st ?_ (by decide))) (fun j hj => (mv_up_n _ _ hj.1).trans ((mv_up_n _ _ hj.2).trans (hf j hj))) ?_ (fun h4 => ?_) (fun j hj => ?_) e
      · show (p : Int) + 1 = _
        omega
      · show mv_w ((mv_w ((mv_w (v * 10)) + x)) - 48) = _
        have hn := sp_nv_b (f := M0 29) (q := q) (p - q) hd
        have h5b := h5 (by omega)
        rw [show p + 1 - q = (p - q) + 1 from by omega, sp_nv, show q + (p - q) = p from by omega, ← hx, ← h5b, hv]
        rw [← h5b, hv] at hn
        rw [mv_w_id (z := v * 10) (by omega) (by omega), mv_w_id (z := v * 10 + x) (by omega) (by omega), mv_w_id (by omega) (by omega)]
      · by_cases q3 : j < p - q
        · exact hd j q3
        · rw [show q + j = p from by omega, ← hx]
          exact q2
    · rw [if_neg qc] at e
      have q2 : ¬ (48 ≤ M0 29 p ∧ M0 29 p ≤ 57) := fun z => qc (sp_isD_t.2 z)
      rw [← hx] at q2
      refine mv_go' 2 (pc' := 9) (ls' := [mv_R 28]) (st' := [mv_I (M 28 2)]) (M1 := M) rfl ?_
      rw [show M 28 2 = (p : Int) from by exact h2]
      refine mv_go' 2 (pc' := 13) (ls' := [mv_R 28]) (st' := [mv_I (M 28 1), mv_I (p : Int)]) (M1 := M) rfl ?_
      rw [show M 28 1 = (t : Int) from by exact e1]
      refine mv_go' 1 (pc' := if (p : Int) < (t : Int) then 16 else 68) (ls' := [mv_R 28]) (st' := []) (M1 := M) rfl ?_
      refine mv_tt' (by omega) ?_
      refine mv_go' 4 (pc' := 24) (ls' := [mv_R 28]) (st' := [mv_I (M 28 2), mv_R 29]) (M1 := M) rfl ?_
      rw [show M 28 2 = (p : Int) from by exact h2]
      refine mv_go' 1 (pc' := if 0 ≤ (p : Int) ∧ (p : Int) < 160 then 25 else mv_bad) (ls' := [mv_R 28]) (st' := [mv_I (M 29 p)]) (M1 := M) rfl ?_
      refine mv_tt' (by omega) ?_
      rw [show M 29 p = x from by exact ex]
      have ha2 : ¬ (48 ≤ x ∧ x ≤ 57) := by omega
      refine mv_callP (st2 := [mv_I 0]) rfl (Or.inr rfl) rfl rfl rfl (sp_cid_f ha2) (by first | decide | omega) ?_
      refine mv_go' 1 (pc' := if 0 = 0 then 68 else 31) (ls' := [mv_R 28]) (st' := []) (M1 := M) rfl ?_
      refine mv_tt' (by first | decide | omega) ?_
      exact e M hag hf h2 h5
theorem sp_crnum {M : mv_M} {t q e d : Nat} (ht : t ≤ 160) (hq : q ≤ t) (he : sp_skp sp_isD (M 29) (t - q) q = e) (h1 : M 28 1 = (t : Int)) (h2 : M 28 2 = (q : Int)) (h4 : M 28 4 = (q : Int)) (h6 : M 28 6 = -1) : mv_Ru (d + 2) 14 0 [mv_R 28] [] M mv_U
    (fun M1 => mv_ag [28] M M1 ∧ (∀ j, (j ≠ 2 ∧ j ≠ 3 ∧ j ≠ 5 ∧ j ≠ 6) → M1 28 j = M 28 j) ∧ M1 28 2 = (e : Int) ∧ M1 28 3 = (if 4 < e - q then 303 else 300) ∧ (¬ (4 < e - q) → M1 28 5 = sp_nv (M 29) q (e - q)) ∧ M1 28 6 = if 4 < e - q then (q : Int) else -1) := by
  have hb := sp_skp_b sp_isD (M 29) (t - q) q
  rw [he] at hb
  refine mv_go' 3 (pc' := 5) (ls' := [mv_R 28]) (st' := []) (M1 := (mv_st M 28 (mv_up (M 28) 5 0))) rfl ?_
  refine sp_crnl (d := d + 1) (M0 := (mv_st M 28 (mv_up (M 28) 5 0))) (q := q) ht h1 (t - q) q (mv_st M 28 (mv_up (M 28) 5 0)) (by omega) (Nat.le_refl _) mv_ag.rf (fun _ _ => rfl) h2 (fun _ => by rw [Nat.sub_self]; rfl) (fun j hj => absurd hj (by omega)) (fun M2 q1 q2 q3 q4 => ?_)
  have q3' : M2 28 2 = (e : Int) := q3.trans (congrArg (fun z : Nat => (z : Int)) he)
  have q4' : e - q ≤ 4 → M2 28 5 = sp_nv (M 29) q (e - q) := fun z => by
    have q5 := q4 (by show sp_skp sp_isD (M 29) (t - q) q - q ≤ 4; rw [he]; exact z)
    rw [q5]
    show sp_nv (M 29) q (sp_skp sp_isD (M 29) (t - q) q - q) = _
    rw [he]
  have qj : ∀ j, (j ≠ 2 ∧ j ≠ 5) → M2 28 j = M 28 j := fun j hj => (q2 j hj).trans (mv_up_n _ _ hj.2)
  have qa : mv_ag [28] M M2 := mv_ag.tr (mv_ag.st mv_ag.rf (by decide)) q1
  have e4 : M2 28 4 = (q : Int) := (qj 4 (by decide)).trans h4
  clear q1 q2 q3 q4
  by_cases c : 4 < e - q
  · refine mv_go' 2 (pc' := 72) (ls' := [mv_R 28]) (st' := [mv_I (M2 28 2)]) (M1 := M2) rfl ?_
    rw [show M2 28 2 = (e : Int) from by exact q3']
    refine mv_go' 2 (pc' := 76) (ls' := [mv_R 28]) (st' := [mv_I (M2 28 4), mv_I (e : Int)]) (M1 := M2) rfl ?_
    rw [show M2 28 4 = (q : Int) from by exact e4]
    refine mv_go' 3 (pc' := if 4 < (mv_w ((e : Int) - (q : Int))) then 81 else 88) (ls' := [mv_R 28]) (st' := []) (M1 := M2) rfl ?_
    rw [show mv_w ((e : Int) - (q : Int)) = (e : Int) - (q : Int) from mv_w_id (by omega) (by omega)]
    refine mv_tt' (by omega) ?_
    refine mv_go' 1 (pc' := 82) (ls' := [mv_R 28]) (st' := [mv_R 28]) (M1 := M2) rfl ?_
    refine mv_call (st2 := []) rfl (Or.inl rfl) rfl rfl rfl (sp_crf) (by first | decide | omega) (fun Ma3 hm4 => ?_)
    have hx := hm4
    refine mv_go' 1 (pc' := 95) (ls' := [mv_R 28]) (st' := []) (M1 := Ma3) rfl ?_
    refine mv_ret (fun n => rfl) ⟨qa.tr hx.1, fun j hj => (hx.2.1 j hj.2.1 hj.2.2.2).trans (qj j ⟨hj.1, hj.2.2.1⟩), (hx.2.1 2 (by decide) (by decide)).trans q3', ?_, fun z => absurd c z, ?_⟩
    · rw [if_pos c]; exact hx.2.2.1
    · rw [if_pos c, hx.2.2.2, if_pos ((qj 6 (by decide)).trans h6)]; exact e4
  · refine mv_go' 2 (pc' := 72) (ls' := [mv_R 28]) (st' := [mv_I (M2 28 2)]) (M1 := M2) rfl ?_
    rw [show M2 28 2 = (e : Int) from by exact q3']
    refine mv_go' 2 (pc' := 76) (ls' := [mv_R 28]) (st' := [mv_I (M2 28 4), mv_I (e : Int)]) (M1 := M2) rfl ?_
    rw [show M2 28 4 = (q : Int) from by exact e4]
    refine mv_go' 3 (pc' := if 4 < (mv_w ((e : Int) - (q : Int))) then 81 else 88) (ls' := [mv_R 28]) (st' := []) (M1 := M2) rfl ?_
    rw [show mv_w ((e : Int) - (q : Int)) = (e : Int) - (q : Int) from mv_w_id (by omega) (by omega)]
    refine mv_ff' (by omega) ?_
    refine mv_go' 3 (pc' := 95) (ls' := [mv_R 28]) (st' := []) (M1 := (mv_st M2 28 (mv_up (M2 28) 3 300))) rfl ?_
    refine mv_ret (fun n => rfl) ⟨qa.tr (mv_ag.st mv_ag.rf (by decide)), fun j hj => (mv_up_n _ _ hj.2.1).trans (qj j ⟨hj.1, hj.2.2.1⟩), q3', ?_, fun _ => q4' (by omega), ?_⟩
    · rw [if_neg c]; rfl
    · rw [if_neg c]; exact (qj 6 (by decide)).trans h6
/-! signs -/
def sp_ixf (x : Int) : Nat → Nat → Int
  | 0, _ => -1
  | r + 1, i => if mv_ro 243 i = mv_i2b x then (i : Int) else sp_ixf x r (i + 1)
theorem sp_ix_d : ∀ x : Fin 256, mv_i2c ((x : Nat) : Int) = ((x : Nat) : Int) ∧ (sp_isG ((x : Nat) : Int) = true → 0 ≤ sp_ixf ((x : Nat) : Int) 8 0) ∧ (sp_isG ((x : Nat) : Int) = false → sp_ixf ((x : Nat) : Int) 8 0 < 0) := by decide +kernel
theorem sp_ioc {M : mv_M} {x : Int} : ∀ (r i : Nat), i + r = 8 → mv_Ru 0 204 7 [mv_R 243, mv_I x, mv_I 0, mv_I 8, mv_I (mv_i2b x), mv_I (i : Int)] [] M (mv_I (sp_ixf x r i)) (fun M1 => M1 = M) := by
  intro r
  induction r with
  | zero =>
    intro i hk
    have hi : i = 8 := by omega
    subst hi
    refine mv_go' 3 (pc' := if ((8 : Nat) : Int) < 8 then 13 else 31) (ls' := [mv_R 243, mv_I x, mv_I 0, mv_I 8, mv_I (mv_i2b x), mv_I ((8 : Nat) : Int)]) (st' := []) (M1 := M) rfl ?_
    refine mv_ff' (by omega) ?_
    refine mv_go' 1 (pc' := 32) (ls' := [mv_R 243, mv_I x, mv_I 0, mv_I 8, mv_I (mv_i2b x), mv_I ((8 : Nat) : Int)]) (st' := [mv_I (-1)]) (M1 := M) rfl ?_
    exact mv_ret (fun n => rfl) rfl
  | succ r ih =>
    intro i hk
    rw [sp_ixf]
    refine mv_go' 3 (pc' := if (i : Int) < 8 then 13 else 31) (ls' := [mv_R 243, mv_I x, mv_I 0, mv_I 8, mv_I (mv_i2b x), mv_I (i : Int)]) (st' := []) (M1 := M) rfl ?_
    refine mv_tt' (by omega) ?_
    refine mv_go' 3 (pc' := if 0 ≤ (i : Int) ∧ (i : Int) < 8 then 17 else mv_bad) (ls' := [mv_R 243, mv_I x, mv_I 0, mv_I 8, mv_I (mv_i2b x), mv_I (i : Int)]) (st' := [mv_I (mv_ro 243 i)]) (M1 := M) rfl ?_
    refine mv_tt' (by omega) ?_
    refine mv_go' 1 (pc' := 19) (ls' := [mv_R 243, mv_I x, mv_I 0, mv_I 8, mv_I (mv_i2b x), mv_I (i : Int)]) (st' := [mv_I (mv_i2b x), mv_I (mv_ro 243 i)]) (M1 := M) rfl ?_
    by_cases q : mv_ro 243 i = mv_i2b x
    · rw [if_pos q]
      refine mv_go' 1 (pc' := if (mv_ro 243 i) = (mv_i2b x) then 22 else 25) (ls' := [mv_R 243, mv_I x, mv_I 0, mv_I 8, mv_I (mv_i2b x), mv_I (i : Int)]) (st' := []) (M1 := M) rfl ?_
      refine mv_tt' (by exact q) ?_
      refine mv_go' 1 (pc' := 24) (ls' := [mv_R 243, mv_I x, mv_I 0, mv_I 8, mv_I (mv_i2b x), mv_I (i : Int)]) (st' := [mv_I (i : Int)]) (M1 := M) rfl ?_
      exact mv_ret (fun n => rfl) rfl
    · rw [if_neg q]
      refine mv_go' 1 (pc' := if (mv_ro 243 i) = (mv_i2b x) then 22 else 25) (ls' := [mv_R 243, mv_I x, mv_I 0, mv_I 8, mv_I (mv_i2b x), mv_I (i : Int)]) (st' := []) (M1 := M) rfl ?_
      refine mv_ff' (by exact q) ?_
      refine mv_go' 2 (pc' := 7) (ls' := [mv_R 243, mv_I x, mv_I 0, mv_I 8, mv_I (mv_i2b x), mv_I (mv_w ((i : Int) + 1))]) (st' := []) (M1 := M) rfl ?_
      rw [show mv_w ((i : Int) + 1) = ((i + 1 : Nat) : Int) from by (rw [show mv_w ((i : Int) + 1) = (i : Int) + 1 from mv_w_id (by omega) (by omega)]) <;> omega]
      exact ih (i + 1) (by omega)
theorem sp_cen {M : mv_M} {x : Int} (h : 0 ≤ x ∧ x ≤ 255) : mv_Ru 0 202 0 [mv_I x] [] M (mv_I 1) (fun M1 => M1 = M) := by
  refine mv_go' 2 (pc' := if x < 0 then 15 else 4) (ls' := [mv_I x]) (st' := []) (M1 := M) rfl ?_
  refine mv_ff' (by omega) ?_
  refine mv_go' 3 (pc' := if 255 < x then 15 else 11) (ls' := [mv_I x]) (st' := []) (M1 := M) rfl ?_
  refine mv_ff' (by omega) ?_
  refine mv_go' 2 (pc' := 16) (ls' := [mv_I x]) (st' := [mv_I 1]) (M1 := M) rfl ?_
  exact mv_ret (fun n => rfl) rfl
theorem sp_iocs {M : mv_M} {x : Int} : mv_Ru 0 204 0 [mv_R 243, mv_I x, mv_I 0, mv_I 8, mv_U, mv_U] [] M (mv_I (sp_ixf x 8 0)) (fun M1 => M1 = M) := by
  refine mv_go' 5 (pc' := 7) (ls' := [mv_R 243, mv_I x, mv_I 0, mv_I 8, mv_I (mv_i2b x), mv_I 0]) (st' := []) (M1 := M) rfl ?_
  exact sp_ioc 8 0 rfl
theorem sp_iol {M : mv_M} {x : Int} (h : 0 ≤ x ∧ x ≤ 255) : mv_Ru 1 203 0 [mv_R 243, mv_I x, mv_I 0, mv_I 8] [] M (mv_I (sp_ixf x 8 0)) (fun M1 => M1 = M) := by
  refine mv_go' 1 (pc' := 1) (ls' := [mv_R 243, mv_I x, mv_I 0, mv_I 8]) (st' := [mv_I x]) (M1 := M) rfl ?_
  refine mv_callP (st2 := [mv_I 1]) rfl (Or.inr rfl) rfl rfl rfl (sp_cen h) (by first | decide | omega) ?_
  refine mv_go' 1 (pc' := if 1 = 0 then 7 else 9) (ls' := [mv_R 243, mv_I x, mv_I 0, mv_I 8]) (st' := []) (M1 := M) rfl ?_
  refine mv_ff' (by first | decide | omega) ?_
  refine mv_go' 3 (pc' := 14) (ls' := [mv_R 243, mv_I x, mv_I 0, mv_I 8]) (st' := [mv_I (if 0 < 0 then 0 else 0)]) (M1 := M) rfl ?_
  refine mv_eqs (st2 := [mv_I 0]) rfl rfl rfl ?_
  refine mv_go' 5 (pc' := 21) (ls' := [mv_R 243, mv_I x, mv_I 0, mv_I 8]) (st' := [mv_I (if 8 < 8 then 8 else 8)]) (M1 := M) rfl ?_
  refine mv_eqs (st2 := [mv_I 8]) rfl rfl rfl ?_
  refine mv_go' 4 (pc' := if 0 < 8 then 29 else 27) (ls' := [mv_R 243, mv_I x, mv_I 0, mv_I 8]) (st' := []) (M1 := M) rfl ?_
  refine mv_tt' (by first | decide | omega) ?_
  refine mv_go' 4 (pc' := 33) (ls' := [mv_R 243, mv_I x, mv_I 0, mv_I 8]) (st' := [mv_I 8, mv_I 0, mv_I x, mv_R 243]) (M1 := M) rfl ?_
  refine mv_callP (st2 := [mv_I (sp_ixf x 8 0)]) rfl (Or.inr rfl) rfl rfl rfl (sp_iocs) (by first | decide | omega) ?_
  exact mv_ret (fun n => rfl) rfl
theorem sp_ios {M : mv_M} {x : Int} (h : 0 ≤ x ∧ x ≤ 255) : mv_Ru 2 197 0 [mv_R 223, mv_I x, mv_I 0] [] M (mv_I (sp_ixf x 8 0)) (fun M1 => M1 = M) := by
  refine mv_go' 1 (pc' := 1) (ls' := [mv_R 223, mv_I x, mv_I 0]) (st' := [mv_R 223]) (M1 := M) rfl ?_
  refine mv_callP (st2 := [mv_I 1]) rfl (Or.inl rfl) rfl rfl rfl (sp_lat13) (by first | decide | omega) ?_
  refine mv_go' 1 (pc' := if 1 = 0 then 23 else 7) (ls' := [mv_R 223, mv_I x, mv_I 0]) (st' := []) (M1 := M) rfl ?_
  refine mv_ff' (by first | decide | omega) ?_
  refine mv_go' 5 (pc' := 14) (ls' := [mv_R 223, mv_I x, mv_I 0]) (st' := [mv_R 223, mv_I 0, mv_I x, mv_R 243]) (M1 := M) rfl ?_
  refine mv_callP (st2 := [mv_I 8, mv_I 0, mv_I x, mv_R 243]) rfl (Or.inl rfl) rfl rfl rfl (sp_len13) (by first | decide | omega) ?_
  refine mv_callP (st2 := [mv_I (sp_ixf x 8 0)]) rfl (Or.inr rfl) rfl rfl rfl (sp_iol h) (by first | decide | omega) ?_
  refine mv_go' 1 (pc' := 36) (ls' := [mv_R 223, mv_I x, mv_I 0]) (st' := [mv_I (sp_ixf x 8 0)]) (M1 := M) rfl ?_
  exact mv_ret (fun n => rfl) rfl
theorem sp_io {M : mv_M} {x : Int} (h : 0 ≤ x ∧ x ≤ 255) : mv_Ru 3 196 0 [mv_R 223, mv_I x] [] M (mv_I (sp_ixf x 8 0)) (fun M1 => M1 = M) := by
  refine mv_go' 3 (pc' := 3) (ls' := [mv_R 223, mv_I x]) (st' := [mv_I 0, mv_I x, mv_R 223]) (M1 := M) rfl ?_
  refine mv_callP (st2 := [mv_I (sp_ixf x 8 0)]) rfl (Or.inl rfl) rfl rfl rfl (sp_ios h) (by first | decide | omega) ?_
  exact mv_ret (fun n => rfl) rfl
