/-! the model reads a token -/
def tk_M (K : Int) : Int := if K = 302 then 0 else if 256 ≤ K ∧ K ≤ 258 then 3 else if K = 301 then 2 else if K = 300 then 1 else if K = 259 then 4 else if K = 260 then 5 else if K = 261 then 6 else if K = 303 then -1 else K
def sp_nt (t p : Nat) (M0 M : mv_M) : Prop :=
  mv_ag [100] M0 M ∧ (∀ j, (j ≠ 21 ∧ j ≠ 22 ∧ j ≠ 23 ∧ j ≠ 24) → M 100 j = M0 100 j) ∧ M 100 23 = tk_M (tk_K (M0 108) t p) ∧ M 100 22 = (tk_Q (M0 108) t p : Int) ∧ (tk_K (M0 108) t p ≠ 303 → M 100 21 = (tk_N (M0 108) t p : Int)) ∧
  ((tk_K (M0 108) t p = 300 ∨ tk_K (M0 108) t p = 301) → M 100 24 = tk_W (M0 108) t p) ∧ ((256 ≤ tk_K (M0 108) t p ∧ tk_K (M0 108) t p ≤ 258) → M 100 24 = tk_K (M0 108) t p - 256)
theorem sp_mnl1 {M0 : mv_M} {t d : Nat} {Q : mv_M → Prop} (ht : t ≤ 160) (h1 : M0 100 9 = (t : Int)) :
    ∀ (r p : Nat) (M : mv_M), p + r = t → mv_ag [100] M0 M → (∀ j, j ≠ 21 → M 100 j = M0 100 j) → M 100 21 = (p : Int) →
      (∀ M2, mv_ag [100] M0 M2 → (∀ j, j ≠ 21 → M2 100 j = M0 100 j) → M2 100 21 = ((sp_skp sp_isS (M0 108) r p : Nat) : Int) → mv_Ru (d + 1) 127 52 [mv_R 100, mv_U, mv_U] [] M2 mv_U Q) →
      mv_Ru (d + 1) 127 0 [mv_R 100, mv_U, mv_U] [] M mv_U Q := by
  intro r
  induction r with
  | zero =>
    intro p M hk hag hf h2 e
    have e1 : M 100 9 = (p : Int) := by rw [hf 9 (by decide), h1]; omega
    refine mv_go' 2 (pc' := 4) (ls' := [mv_R 100, mv_U, mv_U]) (st' := [mv_I (M 100 21)]) (M1 := M) rfl ?_
    rw [show M 100 21 = (p : Int) from by exact h2]
    refine mv_go' 2 (pc' := 8) (ls' := [mv_R 100, mv_U, mv_U]) (st' := [mv_I (M 100 9), mv_I (p : Int)]) (M1 := M) rfl ?_
    rw [show M 100 9 = (p : Int) from by exact e1]
    refine mv_go' 1 (pc' := if (p : Int) < (p : Int) then 11 else 52) (ls' := [mv_R 100, mv_U, mv_U]) (st' := []) (M1 := M) rfl ?_
    refine mv_ff' (by omega) ?_
    exact e M hag hf h2
  | succ r ih =>
    intro p M hk hag hf h2 e
    have e1 : M 100 9 = (t : Int) := by rw [hf 9 (by decide), h1]
    rw [sp_skp] at e
    obtain ⟨x, hx⟩ : ∃ x, x = M0 108 p := ⟨_, rfl⟩
    have ex : M 108 p = x := by rw [hag 108 (by decide), hx]
    by_cases q : sp_isS (M0 108 p) = true
    · rw [if_pos q] at e
      have q2 := sp_isS_t.1 q
      rw [← hx] at q2
      refine mv_go' 2 (pc' := 4) (ls' := [mv_R 100, mv_U, mv_U]) (st' := [mv_I (M 100 21)]) (M1 := M) rfl ?_
      rw [show M 100 21 = (p : Int) from by exact h2]
      refine mv_go' 2 (pc' := 8) (ls' := [mv_R 100, mv_U, mv_U]) (st' := [mv_I (M 100 9), mv_I (p : Int)]) (M1 := M) rfl ?_
      rw [show M 100 9 = (t : Int) from by exact e1]
      refine mv_go' 1 (pc' := if (p : Int) < (t : Int) then 11 else 52) (ls' := [mv_R 100, mv_U, mv_U]) (st' := []) (M1 := M) rfl ?_
      refine mv_tt' (by omega) ?_
      refine mv_go' 4 (pc' := 19) (ls' := [mv_R 100, mv_U, mv_U]) (st' := [mv_I (M 100 21), mv_R 108]) (M1 := M) rfl ?_
      rw [show M 100 21 = (p : Int) from by exact h2]
      refine mv_go' 1 (pc' := if 0 ≤ (p : Int) ∧ (p : Int) < 160 then 20 else mv_bad) (ls' := [mv_R 100, mv_U, mv_U]) (st' := [mv_I (M 108 p)]) (M1 := M) rfl ?_
      refine mv_tt' (by omega) ?_
      rw [show M 108 p = x from by exact ex]
      refine mv_go' 2 (pc' := if x = 32 then 39 else 25) (ls' := [mv_R 100, mv_U, mv_U]) (st' := []) (M1 := M) rfl ?_
      refine mv_sp' (fun ha1 => ?_) (fun ha1 => ?_)
      · refine mv_go' 3 (pc' := 44) (ls' := [mv_R 100, mv_U, mv_U]) (st' := [mv_I (M 100 21), mv_R 100]) (M1 := M) rfl ?_
        rw [show M 100 21 = (p : Int) from by exact h2]
        refine mv_go' 4 (pc' := 0) (ls' := [mv_R 100, mv_U, mv_U]) (st' := []) (M1 := (mv_st M 100 (mv_up (M 100) 21 (mv_w ((p : Int) + 1))))) rfl ?_
        rw [show mv_w ((p : Int) + 1) = (p : Int) + 1 from mv_w_id (by omega) (by omega)]
        refine ih (p + 1) _ (by omega) (hag.st (by decide)) (fun j hj => (mv_up_n _ _ hj).trans (hf j hj)) ?_ e
        show (p : Int) + 1 = _
        omega
      · refine mv_go' 4 (pc' := 33) (ls' := [mv_R 100, mv_U, mv_U]) (st' := [mv_I (M 100 21), mv_R 108]) (M1 := M) rfl ?_
        rw [show M 100 21 = (p : Int) from by exact h2]
        refine mv_go' 1 (pc' := if 0 ≤ (p : Int) ∧ (p : Int) < 160 then 34 else mv_bad) (ls' := [mv_R 100, mv_U, mv_U]) (st' := [mv_I (M 108 p)]) (M1 := M) rfl ?_
        refine mv_tt' (by omega) ?_
        rw [show M 108 p = x from by exact ex]
        refine mv_go' 2 (pc' := if x = 10 then 39 else 52) (ls' := [mv_R 100, mv_U, mv_U]) (st' := []) (M1 := M) rfl ?_
        refine mv_tt' (by omega) ?_
        refine mv_go' 3 (pc' := 44) (ls' := [mv_R 100, mv_U, mv_U]) (st' := [mv_I (M 100 21), mv_R 100]) (M1 := M) rfl ?_
        rw [show M 100 21 = (p : Int) from by exact h2]
        refine mv_go' 4 (pc' := 0) (ls' := [mv_R 100, mv_U, mv_U]) (st' := []) (M1 := (mv_st M 100 (mv_up (M 100) 21 (mv_w ((p : Int) + 1))))) rfl ?_
        rw [show mv_w ((p : Int) + 1) = (p : Int) + 1 from mv_w_id (by omega) (by omega)]
        refine ih (p + 1) _ (by omega) (hag.st (by decide)) (fun j hj => (mv_up_n _ _ hj).trans (hf j hj)) ?_ e
        show (p : Int) + 1 = _
        omega
    · rw [if_neg q] at e
      have q2 : ¬ (M0 108 p = 32 ∨ M0 108 p = 10) := fun z => q (sp_isS_t.2 z)
      rw [← hx] at q2
      refine mv_go' 2 (pc' := 4) (ls' := [mv_R 100, mv_U, mv_U]) (st' := [mv_I (M 100 21)]) (M1 := M) rfl ?_
      rw [show M 100 21 = (p : Int) from by exact h2]
      refine mv_go' 2 (pc' := 8) (ls' := [mv_R 100, mv_U, mv_U]) (st' := [mv_I (M 100 9), mv_I (p : Int)]) (M1 := M) rfl ?_
      rw [show M 100 9 = (t : Int) from by exact e1]
      refine mv_go' 1 (pc' := if (p : Int) < (t : Int) then 11 else 52) (ls' := [mv_R 100, mv_U, mv_U]) (st' := []) (M1 := M) rfl ?_
      refine mv_tt' (by omega) ?_
      refine mv_go' 4 (pc' := 19) (ls' := [mv_R 100, mv_U, mv_U]) (st' := [mv_I (M 100 21), mv_R 108]) (M1 := M) rfl ?_
      rw [show M 100 21 = (p : Int) from by exact h2]
      refine mv_go' 1 (pc' := if 0 ≤ (p : Int) ∧ (p : Int) < 160 then 20 else mv_bad) (ls' := [mv_R 100, mv_U, mv_U]) (st' := [mv_I (M 108 p)]) (M1 := M) rfl ?_
      refine mv_tt' (by omega) ?_
      rw [show M 108 p = x from by exact ex]
      refine mv_go' 2 (pc' := if x = 32 then 39 else 25) (ls' := [mv_R 100, mv_U, mv_U]) (st' := []) (M1 := M) rfl ?_
      refine mv_ff' (by omega) ?_
      refine mv_go' 4 (pc' := 33) (ls' := [mv_R 100, mv_U, mv_U]) (st' := [mv_I (M 100 21), mv_R 108]) (M1 := M) rfl ?_
      rw [show M 100 21 = (p : Int) from by exact h2]
      refine mv_go' 1 (pc' := if 0 ≤ (p : Int) ∧ (p : Int) < 160 then 34 else mv_bad) (ls' := [mv_R 100, mv_U, mv_U]) (st' := [mv_I (M 108 p)]) (M1 := M) rfl ?_
      refine mv_tt' (by omega) ?_
      rw [show M 108 p = x from by exact ex]
      refine mv_go' 2 (pc' := if x = 10 then 39 else 52) (ls' := [mv_R 100, mv_U, mv_U]) (st' := []) (M1 := M) rfl ?_
      refine mv_ff' (by omega) ?_
      exact e M hag hf h2
theorem sp_mnl2 {M0 : mv_M} {x0 : Int} {t d : Nat} {Q : mv_M → Prop} (ht : t ≤ 160) (h1 : M0 100 9 = (t : Int)) :
    ∀ (r p : Nat) (M : mv_M), p + r = t → mv_ag [100] M0 M → (∀ j, j ≠ 21 → M 100 j = M0 100 j) → M 100 21 = (p : Int) →
      (∀ M2, mv_ag [100] M0 M2 → (∀ j, j ≠ 21 → M2 100 j = M0 100 j) → M2 100 21 = ((sp_skp sp_isL (M0 108) r p : Nat) : Int) → mv_Ru (d + 1) 127 146 [mv_R 100, mv_I x0, mv_U] [] M2 mv_U Q) →
      mv_Ru (d + 1) 127 103 [mv_R 100, mv_I x0, mv_U] [] M mv_U Q := by
  intro r
  induction r with
  | zero =>
    intro p M hk hag hf h2 e
    have e1 : M 100 9 = (p : Int) := by rw [hf 9 (by decide), h1]; omega
    refine mv_go' 2 (pc' := 107) (ls' := [mv_R 100, mv_I x0, mv_U]) (st' := [mv_I (M 100 21)]) (M1 := M) rfl ?_
    rw [show M 100 21 = (p : Int) from by exact h2]
    refine mv_go' 2 (pc' := 111) (ls' := [mv_R 100, mv_I x0, mv_U]) (st' := [mv_I (M 100 9), mv_I (p : Int)]) (M1 := M) rfl ?_
    rw [show M 100 9 = (p : Int) from by exact e1]
    refine mv_go' 1 (pc' := if (p : Int) < (p : Int) then 114 else 146) (ls' := [mv_R 100, mv_I x0, mv_U]) (st' := []) (M1 := M) rfl ?_
    refine mv_ff' (by omega) ?_
    exact e M hag hf h2
  | succ r ih =>
    intro p M hk hag hf h2 e
    have e1 : M 100 9 = (t : Int) := by rw [hf 9 (by decide), h1]
    rw [sp_skp] at e
    obtain ⟨x, hx⟩ : ∃ x, x = M0 108 p := ⟨_, rfl⟩
    have ex : M 108 p = x := by rw [hag 108 (by decide), hx]
    by_cases q : sp_isL (M0 108 p) = true
    · rw [if_pos q] at e
      have q2 := sp_isL_t.1 q
      rw [← hx] at q2
      refine mv_go' 2 (pc' := 107) (ls' := [mv_R 100, mv_I x0, mv_U]) (st' := [mv_I (M 100 21)]) (M1 := M) rfl ?_
      rw [show M 100 21 = (p : Int) from by exact h2]
      refine mv_go' 2 (pc' := 111) (ls' := [mv_R 100, mv_I x0, mv_U]) (st' := [mv_I (M 100 9), mv_I (p : Int)]) (M1 := M) rfl ?_
      rw [show M 100 9 = (t : Int) from by exact e1]
      refine mv_go' 1 (pc' := if (p : Int) < (t : Int) then 114 else 146) (ls' := [mv_R 100, mv_I x0, mv_U]) (st' := []) (M1 := M) rfl ?_
      refine mv_tt' (by omega) ?_
      refine mv_go' 4 (pc' := 122) (ls' := [mv_R 100, mv_I x0, mv_U]) (st' := [mv_I (M 100 21), mv_R 108]) (M1 := M) rfl ?_
      rw [show M 100 21 = (p : Int) from by exact h2]
      refine mv_go' 1 (pc' := if 0 ≤ (p : Int) ∧ (p : Int) < 160 then 123 else mv_bad) (ls' := [mv_R 100, mv_I x0, mv_U]) (st' := [mv_I (M 108 p)]) (M1 := M) rfl ?_
      refine mv_tt' (by omega) ?_
      rw [show M 108 p = x from by exact ex]
      refine mv_go' 2 (pc' := 127) (ls' := [mv_R 100, mv_I x0, mv_U]) (st' := [mv_I 122, mv_I 97, mv_I x]) (M1 := M) rfl ?_
      have ha2 : (97 : Int) ≤ x ∧ x ≤ (122 : Int) := by omega
      refine mv_callP (st2 := [mv_I 1]) rfl (Or.inr rfl) rfl rfl rfl (sp_min_t ha2) (by first | decide | omega) ?_
      refine mv_go' 1 (pc' := if 1 = 0 then 146 else 133) (ls' := [mv_R 100, mv_I x0, mv_U]) (st' := []) (M1 := M) rfl ?_
      refine mv_ff' (by first | decide | omega) ?_
      refine mv_go' 3 (pc' := 138) (ls' := [mv_R 100, mv_I x0, mv_U]) (st' := [mv_I (M 100 21), mv_R 100]) (M1 := M) rfl ?_
      rw [show M 100 21 = (p : Int) from by exact h2]
      refine mv_go' 4 (pc' := 103) (ls' := [mv_R 100, mv_I x0, mv_U]) (st' := []) (M1 := (mv_st M 100 (mv_up (M 100) 21 (mv_w ((p : Int) + 1))))) rfl ?_
      rw [show mv_w ((p : Int) + 1) = (p : Int) + 1 from mv_w_id (by omega) (by omega)]
      refine ih (p + 1) _ (by omega) (hag.st (by decide)) (fun j hj => (mv_up_n _ _ hj).trans (hf j hj)) ?_ e
      show (p : Int) + 1 = _
      omega
    · rw [if_neg q] at e
      have q2 : ¬ (97 ≤ M0 108 p ∧ M0 108 p ≤ 122) := fun z => q (sp_isL_t.2 z)
      rw [← hx] at q2
      refine mv_go' 2 (pc' := 107) (ls' := [mv_R 100, mv_I x0, mv_U]) (st' := [mv_I (M 100 21)]) (M1 := M) rfl ?_
      rw [show M 100 21 = (p : Int) from by exact h2]
      refine mv_go' 2 (pc' := 111) (ls' := [mv_R 100, mv_I x0, mv_U]) (st' := [mv_I (M 100 9), mv_I (p : Int)]) (M1 := M) rfl ?_
      rw [show M 100 9 = (t : Int) from by exact e1]
      refine mv_go' 1 (pc' := if (p : Int) < (t : Int) then 114 else 146) (ls' := [mv_R 100, mv_I x0, mv_U]) (st' := []) (M1 := M) rfl ?_
      refine mv_tt' (by omega) ?_
      refine mv_go' 4 (pc' := 122) (ls' := [mv_R 100, mv_I x0, mv_U]) (st' := [mv_I (M 100 21), mv_R 108]) (M1 := M) rfl ?_
      rw [show M 100 21 = (p : Int) from by exact h2]
      refine mv_go' 1 (pc' := if 0 ≤ (p : Int) ∧ (p : Int) < 160 then 123 else mv_bad) (ls' := [mv_R 100, mv_I x0, mv_U]) (st' := [mv_I (M 108 p)]) (M1 := M) rfl ?_
      refine mv_tt' (by omega) ?_
      rw [show M 108 p = x from by exact ex]
      refine mv_go' 2 (pc' := 127) (ls' := [mv_R 100, mv_I x0, mv_U]) (st' := [mv_I 122, mv_I 97, mv_I x]) (M1 := M) rfl ?_
      have ha3 : ¬ ((97 : Int) ≤ x ∧ x ≤ (122 : Int)) := by omega
      refine mv_callP (st2 := [mv_I 0]) rfl (Or.inr rfl) rfl rfl rfl (sp_min_f ha3) (by first | decide | omega) ?_
      refine mv_go' 1 (pc' := if 0 = 0 then 146 else 133) (ls' := [mv_R 100, mv_I x0, mv_U]) (st' := []) (M1 := M) rfl ?_
      refine mv_tt' (by first | decide | omega) ?_
      exact e M hag hf h2
theorem sp_mnl3 {M0 : mv_M} {x0 : Int} {t q d : Nat} {Q : mv_M → Prop} (ht : t ≤ 160) (h1 : M0 100 9 = (t : Int)) :
    ∀ (r p : Nat) (M : mv_M), p + r = t → q ≤ p → mv_ag [100] M0 M → (∀ j, (j ≠ 21 ∧ j ≠ 24) → M 100 j = M0 100 j) → M 100 21 = (p : Int) → (p - q ≤ 4 → M 100 24 = sp_nv (M0 108) q (p - q)) → (∀ j, j < p - q → 48 ≤ M0 108 (q + j) ∧ M0 108 (q + j) ≤ 57) →
      (∀ M2, mv_ag [100] M0 M2 → (∀ j, (j ≠ 21 ∧ j ≠ 24) → M2 100 j = M0 100 j) → M2 100 21 = ((sp_skp sp_isD (M0 108) r p : Nat) : Int) → (sp_skp sp_isD (M0 108) r p - q ≤ 4 → M2 100 24 = sp_nv (M0 108) q (sp_skp sp_isD (M0 108) r p - q)) → mv_Ru (d + 1) 127 309 [mv_R 100, mv_I x0, mv_I ((sp_skp sp_isD (M0 108) r p - q : Nat) : Int)] [] M2 mv_U Q) →
      mv_Ru (d + 1) 127 230 [mv_R 100, mv_I x0, mv_I ((p - q : Nat) : Int)] [] M mv_U Q := by
  intro r
  induction r with
  | zero =>
    intro p M hk hqp hag hf h2 h5 hd e
    have e1 : M 100 9 = (p : Int) := by rw [hf 9 (by decide), h1]; omega
    have e := e M hag hf h2 h5
    rw [sp_skp] at e
    obtain ⟨n, hn⟩ : ∃ n, n = p - q := ⟨_, rfl⟩
    rw [← hn] at e ⊢
    refine mv_go' 2 (pc' := 234) (ls' := [mv_R 100, mv_I x0, mv_I (n : Int)]) (st' := [mv_I (M 100 21)]) (M1 := M) rfl ?_
    rw [show M 100 21 = (p : Int) from by exact h2]
    refine mv_go' 2 (pc' := 238) (ls' := [mv_R 100, mv_I x0, mv_I (n : Int)]) (st' := [mv_I (M 100 9), mv_I (p : Int)]) (M1 := M) rfl ?_
    rw [show M 100 9 = (p : Int) from by exact e1]
    refine mv_go' 1 (pc' := if (p : Int) < (p : Int) then 241 else 309) (ls' := [mv_R 100, mv_I x0, mv_I (n : Int)]) (st' := []) (M1 := M) rfl ?_
    refine mv_ff' (by omega) ?_
    exact e
  | succ r ih =>
    intro p M hk hqp hag hf h2 h5 hd e
    have e1 : M 100 9 = (t : Int) := by rw [hf 9 (by decide), h1]
    have ih2 := ih (p + 1)
    rw [sp_skp] at e
    obtain ⟨x, hx⟩ : ∃ x, x = M0 108 p := ⟨_, rfl⟩
    have ex : M 108 p = x := by rw [hag 108 (by decide), hx]
    obtain ⟨v, hv⟩ : ∃ v, M 100 24 = v := ⟨_, rfl⟩
    by_cases qc : sp_isD (M0 108 p) = true
    · rw [if_pos qc] at e
      have q2 := sp_isD_t.1 qc
      rw [← hx] at q2
      have hnv := sp_nv_b (f := M0 108) (q := q) (p - q) hd
      have e5 : p - q ≤ 3 → sp_nv (M0 108) q (p + 1 - q) = v * 10 + x - 48 ∧ 0 ≤ v ∧ v ≤ 999 := fun z => by
        have h5b := h5 (by omega)
        rw [show p + 1 - q = (p - q) + 1 from by omega, sp_nv, show q + (p - q) = p from by omega, ← hx, ← h5b, hv]
        rw [← h5b, hv] at hnv
        exact ⟨rfl, by omega, by omega⟩
      have hd2 : ∀ j, j < p + 1 - q → 48 ≤ M0 108 (q + j) ∧ M0 108 (q + j) ≤ 57 := fun j hj => by
        by_cases q3 : j < p - q
        · exact hd j q3
        · rw [show q + j = p from by omega, ← hx]
          exact q2
      rw [show p + 1 - q = (p - q) + 1 from by omega] at ih2 e5
      obtain ⟨n, hn⟩ : ∃ n, n = p - q := ⟨_, rfl⟩
      rw [← hn] at e5 ih2 ⊢
      by_cases c4 : n ≤ 3
      · obtain ⟨e6, e7, e8⟩ := e5 c4
        refine mv_go' 2 (pc' := 234) (ls' := [mv_R 100, mv_I x0, mv_I (n : Int)]) (st' := [mv_I (M 100 21)]) (M1 := M) rfl ?_
        rw [show M 100 21 = (p : Int) from by exact h2]
        refine mv_go' 2 (pc' := 238) (ls' := [mv_R 100, mv_I x0, mv_I (n : Int)]) (st' := [mv_I (M 100 9), mv_I (p : Int)]) (M1 := M) rfl ?_
        rw [show M 100 9 = (t : Int) from by exact e1]
        refine mv_go' 1 (pc' := if (p : Int) < (t : Int) then 241 else 309) (ls' := [mv_R 100, mv_I x0, mv_I (n : Int)]) (st' := []) (M1 := M) rfl ?_
        refine mv_tt' (by omega) ?_
        refine mv_go' 4 (pc' := 249) (ls' := [mv_R 100, mv_I x0, mv_I (n : Int)]) (st' := [mv_I (M 100 21), mv_R 108]) (M1 := M) rfl ?_
        rw [show M 100 21 = (p : Int) from by exact h2]
        refine mv_go' 1 (pc' := if 0 ≤ (p : Int) ∧ (p : Int) < 160 then 250 else mv_bad) (ls' := [mv_R 100, mv_I x0, mv_I (n : Int)]) (st' := [mv_I (M 108 p)]) (M1 := M) rfl ?_
        refine mv_tt' (by omega) ?_
        rw [show M 108 p = x from by exact ex]
        refine mv_go' 2 (pc' := 254) (ls' := [mv_R 100, mv_I x0, mv_I (n : Int)]) (st' := [mv_I 57, mv_I 48, mv_I x]) (M1 := M) rfl ?_
        have ha4 : (48 : Int) ≤ x ∧ x ≤ (57 : Int) := by omega
        refine mv_callP (st2 := [mv_I 1]) rfl (Or.inr rfl) rfl rfl rfl (sp_min_t ha4) (by first | decide | omega) ?_
        refine mv_go' 1 (pc' := if 1 = 0 then 309 else 260) (ls' := [mv_R 100, mv_I x0, mv_I (n : Int)]) (st' := []) (M1 := M) rfl ?_
        refine mv_ff' (by first | decide | omega) ?_
        refine mv_go' 4 (pc' := if (n : Int) < 4 then 266 else 289) (ls' := [mv_R 100, mv_I x0, mv_I (n : Int)]) (st' := [mv_R 100]) (M1 := M) rfl ?_
        refine mv_tt' (by omega) ?_
        refine mv_go' 3 (pc' := 272) (ls' := [mv_R 100, mv_I x0, mv_I (n : Int)]) (st' := [mv_I (M 100 24), mv_I 10, mv_R 100]) (M1 := M) rfl ?_
        rw [show M 100 24 = v from by exact hv]
        refine mv_go' 5 (pc' := 281) (ls' := [mv_R 100, mv_I x0, mv_I (n : Int)]) (st' := [mv_I (M 100 21), mv_R 108, mv_I (mv_w (10 * v)), mv_R 100]) (M1 := M) rfl ?_
        rw [show M 100 21 = (p : Int) from by exact h2]
        refine mv_go' 1 (pc' := if 0 ≤ (p : Int) ∧ (p : Int) < 160 then 282 else mv_bad) (ls' := [mv_R 100, mv_I x0, mv_I (n : Int)]) (st' := [mv_I (M 108 p), mv_I (mv_w (10 * v)), mv_R 100]) (M1 := M) rfl ?_
        refine mv_tt' (by omega) ?_
        rw [show M 108 p = x from by exact ex]
        refine mv_go' 9 (pc' := 301) (ls' := [mv_R 100, mv_I x0, mv_I (mv_w ((n : Int) + 1))]) (st' := [mv_I (M 100 21), mv_R 100]) (M1 := (mv_st M 100 (mv_up (M 100) 24 (mv_w ((mv_w ((mv_w (10 * v)) + x)) - 48))))) rfl ?_
        rw [show M 100 21 = (p : Int) from by exact h2]
        refine mv_go' 4 (pc' := 230) (ls' := [mv_R 100, mv_I x0, mv_I (mv_w ((n : Int) + 1))]) (st' := []) (M1 := (mv_st (mv_st M 100 (mv_up (M 100) 24 (mv_w ((mv_w ((mv_w (10 * v)) + x)) - 48)))) 100 (mv_up (mv_up (M 100) 24 (mv_w ((mv_w ((mv_w (10 * v)) + x)) - 48))) 21 (mv_w ((p : Int) + 1))))) rfl ?_
        rw [show mv_w ((n : Int) + 1) = (n : Int) + 1 from mv_w_id (by omega) (by omega)]
        rw [show mv_w (10 * v) = 10 * v from mv_w_id (by omega) (by omega)]
        rw [show mv_w ((10 * v) + x) = (10 * v) + x from mv_w_id (by omega) (by omega)]
        rw [show mv_w (((10 * v) + x) - 48) = ((10 * v) + x) - 48 from mv_w_id (by omega) (by omega)]
        rw [show mv_w ((p : Int) + 1) = (p : Int) + 1 from mv_w_id (by omega) (by omega)]
        rw [show (n : Int) + 1 = ((n + 1 : Nat) : Int) from by omega]
        refine ih2 _ (by omega) (by omega) (by repeat (first | exact hag | refine mv_ag.st ?_ (by decide))) (fun j hj => (mv_up_n _ _ hj.1).trans ((mv_up_n _ _ hj.2).trans (hf j hj))) ?_ (fun h4 => ?_) (fun j hj => hd2 j (by omega)) e
        · show (p : Int) + 1 = _
          omega
        · show ((10 * v) + x) - 48 = _
          omega
      · refine mv_go' 2 (pc' := 234) (ls' := [mv_R 100, mv_I x0, mv_I (n : Int)]) (st' := [mv_I (M 100 21)]) (M1 := M) rfl ?_
        rw [show M 100 21 = (p : Int) from by exact h2]
        refine mv_go' 2 (pc' := 238) (ls' := [mv_R 100, mv_I x0, mv_I (n : Int)]) (st' := [mv_I (M 100 9), mv_I (p : Int)]) (M1 := M) rfl ?_
        rw [show M 100 9 = (t : Int) from by exact e1]
        refine mv_go' 1 (pc' := if (p : Int) < (t : Int) then 241 else 309) (ls' := [mv_R 100, mv_I x0, mv_I (n : Int)]) (st' := []) (M1 := M) rfl ?_
        refine mv_tt' (by omega) ?_
        refine mv_go' 4 (pc' := 249) (ls' := [mv_R 100, mv_I x0, mv_I (n : Int)]) (st' := [mv_I (M 100 21), mv_R 108]) (M1 := M) rfl ?_
        rw [show M 100 21 = (p : Int) from by exact h2]
        refine mv_go' 1 (pc' := if 0 ≤ (p : Int) ∧ (p : Int) < 160 then 250 else mv_bad) (ls' := [mv_R 100, mv_I x0, mv_I (n : Int)]) (st' := [mv_I (M 108 p)]) (M1 := M) rfl ?_
        refine mv_tt' (by omega) ?_
        rw [show M 108 p = x from by exact ex]
        refine mv_go' 2 (pc' := 254) (ls' := [mv_R 100, mv_I x0, mv_I (n : Int)]) (st' := [mv_I 57, mv_I 48, mv_I x]) (M1 := M) rfl ?_
        have ha5 : (48 : Int) ≤ x ∧ x ≤ (57 : Int) := by omega
        refine mv_callP (st2 := [mv_I 1]) rfl (Or.inr rfl) rfl rfl rfl (sp_min_t ha5) (by first | decide | omega) ?_
        refine mv_go' 1 (pc' := if 1 = 0 then 309 else 260) (ls' := [mv_R 100, mv_I x0, mv_I (n : Int)]) (st' := []) (M1 := M) rfl ?_
        refine mv_ff' (by first | decide | omega) ?_
        refine mv_go' 4 (pc' := if (n : Int) < 4 then 266 else 289) (ls' := [mv_R 100, mv_I x0, mv_I (n : Int)]) (st' := [mv_R 100]) (M1 := M) rfl ?_
        refine mv_ff' (by omega) ?_
        refine mv_go' 6 (pc' := 301) (ls' := [mv_R 100, mv_I x0, mv_I (mv_w ((n : Int) + 1))]) (st' := [mv_I (M 100 21), mv_R 100]) (M1 := (mv_st M 100 (mv_up (M 100) 24 0))) rfl ?_
        rw [show M 100 21 = (p : Int) from by exact h2]
        refine mv_go' 4 (pc' := 230) (ls' := [mv_R 100, mv_I x0, mv_I (mv_w ((n : Int) + 1))]) (st' := []) (M1 := (mv_st (mv_st M 100 (mv_up (M 100) 24 0)) 100 (mv_up (mv_up (M 100) 24 0) 21 (mv_w ((p : Int) + 1))))) rfl ?_
        rw [show mv_w ((n : Int) + 1) = (n : Int) + 1 from mv_w_id (by omega) (by omega)]
        rw [show mv_w ((p : Int) + 1) = (p : Int) + 1 from mv_w_id (by omega) (by omega)]
        rw [show (n : Int) + 1 = ((n + 1 : Nat) : Int) from by omega]
        refine ih2 _ (by omega) (by omega) (by repeat (first | exact hag | refine mv_ag.st ?_ (by decide))) (fun j hj => (mv_up_n _ _ hj.1).trans ((mv_up_n _ _ hj.2).trans (hf j hj))) ?_ (fun h4 => absurd h4 (by omega)) (fun j hj => hd2 j (by omega)) e
        show (p : Int) + 1 = _
        omega
    · rw [if_neg qc] at e
      have q2 : ¬ (48 ≤ M0 108 p ∧ M0 108 p ≤ 57) := fun z => qc (sp_isD_t.2 z)
      rw [← hx] at q2
      have e := e M hag hf h2 h5
      obtain ⟨n, hn⟩ : ∃ n, n = p - q := ⟨_, rfl⟩
      rw [← hn] at e ⊢
      refine mv_go' 2 (pc' := 234) (ls' := [mv_R 100, mv_I x0, mv_I (n : Int)]) (st' := [mv_I (M 100 21)]) (M1 := M) rfl ?_
      rw [show M 100 21 = (p : Int) from by exact h2]
      refine mv_go' 2 (pc' := 238) (ls' := [mv_R 100, mv_I x0, mv_I (n : Int)]) (st' := [mv_I (M 100 9), mv_I (p : Int)]) (M1 := M) rfl ?_
      rw [show M 100 9 = (t : Int) from by exact e1]
      refine mv_go' 1 (pc' := if (p : Int) < (t : Int) then 241 else 309) (ls' := [mv_R 100, mv_I x0, mv_I (n : Int)]) (st' := []) (M1 := M) rfl ?_
      refine mv_tt' (by omega) ?_
      refine mv_go' 4 (pc' := 249) (ls' := [mv_R 100, mv_I x0, mv_I (n : Int)]) (st' := [mv_I (M 100 21), mv_R 108]) (M1 := M) rfl ?_
      rw [show M 100 21 = (p : Int) from by exact h2]
      refine mv_go' 1 (pc' := if 0 ≤ (p : Int) ∧ (p : Int) < 160 then 250 else mv_bad) (ls' := [mv_R 100, mv_I x0, mv_I (n : Int)]) (st' := [mv_I (M 108 p)]) (M1 := M) rfl ?_
      refine mv_tt' (by omega) ?_
      rw [show M 108 p = x from by exact ex]
      refine mv_go' 2 (pc' := 254) (ls' := [mv_R 100, mv_I x0, mv_I (n : Int)]) (st' := [mv_I 57, mv_I 48, mv_I x]) (M1 := M) rfl ?_
      have ha6 : ¬ ((48 : Int) ≤ x ∧ x ≤ (57 : Int)) := by omega
      refine mv_callP (st2 := [mv_I 0]) rfl (Or.inr rfl) rfl rfl rfl (sp_min_f ha6) (by first | decide | omega) ?_
      refine mv_go' 1 (pc' := if 0 = 0 then 309 else 260) (ls' := [mv_R 100, mv_I x0, mv_I (n : Int)]) (st' := []) (M1 := M) rfl ?_
      refine mv_tt' (by first | decide | omega) ?_
      exact e
