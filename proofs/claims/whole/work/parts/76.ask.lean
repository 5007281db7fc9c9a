/-! settled: one child asks -/
def sp_cn (row : Nat → Int) (u : Int) (n : Nat) : Int := sp_sum (fun c => if row c = u then 1 else 0) n
theorem sp_cn_b (row : Nat → Int) (u : Int) : ∀ n : Nat, 0 ≤ sp_cn row u n ∧ sp_cn row u n ≤ n
  | 0 => ⟨Int.le_refl _, Int.le_refl _⟩
  | n + 1 => by
    have h := sp_cn_b row u n
    have e : sp_cn row u (n + 1) = sp_cn row u n + (if row n = u then 1 else 0) := rfl
    rw [e]
    split <;> omega
theorem sp_cn_up (row : Nat → Int) (u x : Int) {c : Nat} : ∀ n : Nat, sp_cn (mv_up row c x) u n = sp_cn row u n + (if c < n then (if x = u then 1 else 0) - (if row c = u then 1 else 0) else 0)
  | 0 => rfl
  | n + 1 => by
    have h := sp_cn_up row u x (c := c) n
    have e1 : sp_cn (mv_up row c x) u (n + 1) = sp_cn (mv_up row c x) u n + (if mv_up row c x n = u then 1 else 0) := rfl
    have e2 : sp_cn row u (n + 1) = sp_cn row u n + (if row n = u then 1 else 0) := rfl
    rw [e1, e2, h]
    by_cases q : n = c
    · subst q
      rw [mv_up_s, if_neg (show ¬ n < n by omega), if_pos (show n < n + 1 by omega)]
      omega
    · rw [mv_up_n _ _ q]
      have t : (c < n + 1) = (c < n) := propext ⟨fun _ => by omega, fun _ => by omega⟩
      simp only [t]
      omega
/-- whom it asks next: -1, none -/
def sp_nx (s : Nat → Int) (a U : Nat) : Int := if sp_ms s a U = -1 ∨ s (sp_ms s a U).toNat ≤ 0 then -1 else sp_ms s a U
def sp_r1 (V : mv_M) (P : Nat → Nat → List Int) (c u : Nat) (row : Nat → Int) : Nat → Int :=
  if sp_room V u < sp_cn (mv_up row c (u : Int)) (u : Int) (V 0 8).toNat then mv_up (mv_up row c (u : Int)) (sp_ll (fun d => sp_likes V P d u) (mv_up row c (u : Int)) (u : Int) c (V 0 8).toNat) (-1) else mv_up row c (u : Int)
def sp_a1 (c u : Nat) (ask : Nat → Nat) : Nat → Nat := fun j => if j = c then ask c ||| 1 <<< u else ask j
def sp_cst (V : mv_M) (row : Nat → Int) (ask : Nat → Nat) (M : mv_M) : Prop := (∀ c : Nat, (c : Int) < V 0 8 → M 64 c = row c) ∧ (∀ u : Nat, (u : Int) < V 0 9 → M 65 u = sp_cn row (u : Int) (V 0 8).toNat) ∧ ∀ c : Nat, (c : Int) < V 0 8 → M 66 c = (ask c : Int)
def sp_wfs (V : mv_M) (row : Nat → Int) (ask : Nat → Nat) : Prop := ∀ c : Nat, (c : Int) < V 0 8 → (-1 ≤ row c ∧ row c < V 0 9) ∧ ask c < 64
theorem sp_wfs_1 {V : mv_M} {P : Nat → Nat → List Int} {row : Nat → Int} {ask : Nat → Nat} {c u : Nat} (h : sp_wfs V row ask) (h9 : V 0 9 ≤ 6) (hc : (c : Int) < V 0 8) (hu : (u : Int) < V 0 9) : sp_wfs V (sp_r1 V P c u row) (sp_a1 c u ask) := by
  intro j hj
  obtain ⟨a, b⟩ := h j hj
  refine ⟨?_, ?_⟩
  · unfold sp_r1
    split
    · unfold mv_up
      repeat (first | omega | split)
    · unfold mv_up
      repeat (first | omega | split)
  · unfold sp_a1
    by_cases q : j = c
    · rw [if_pos q]
      exact (mv_sor (h c hc).2 (by omega)).2
    · rw [if_neg q]; exact b
theorem sp_cll_lp {V M : mv_M} {P : Nat → Nat → List Int} {row : Nat → Int} {u one : Nat} (ho : sp_ok V) (h60 : M 60 8 = V 0 8) (ht : sp_tl V P M) (hu : (u : Int) < V 0 9) (hrow : ∀ c : Nat, (c : Int) < V 0 8 → M 64 c = row c) :
    ∀ (r k g : Nat) (l5 : mv_V), (k : Int) + r = V 0 8 → g = sp_ll (fun d => sp_likes V P d u) row (u : Int) one k → (g : Int) < V 0 8 → mv_isL l5 = false →
      mv_Ru 0 39 5 [mv_R 60, mv_I (u : Int), mv_I (one : Int), mv_I (g : Int), mv_I (k : Int), l5] [] M (mv_I (sp_ll (fun d => sp_likes V P d u) row (u : Int) one (V 0 8).toNat : Int)) (fun M1 => M1 = M) := by
  have h8 := sp_ok_s8 ho
  have h9 := sp_ok_s9 ho
  intro r
  induction r with
  | zero =>
    intro k g l5 hk hg hg8 h5
    have e8 : M 60 8 = (k : Int) := by rw [h60]; omega
    rw [show (V 0 8).toNat = k from by omega, ← hg]
    refine mv_go' 3 (pc' := 11) (ls' := [mv_R 60, mv_I (u : Int), mv_I (one : Int), mv_I (g : Int), mv_I (k : Int), l5]) (st' := [mv_I (M 60 8), mv_I (k : Int)]) (M1 := M) rfl ?_
    rw [show M 60 8 = (k : Int) from by exact e8]
    refine mv_go' 1 (pc' := if (k : Int) < (k : Int) then 14 else 76) (ls' := [mv_R 60, mv_I (u : Int), mv_I (one : Int), mv_I (g : Int), mv_I (k : Int), l5]) (st' := []) (M1 := M) rfl ?_
    refine mv_ff' (by omega) ?_
    refine mv_go' 1 (pc' := 77) (ls' := [mv_R 60, mv_I (u : Int), mv_I (one : Int), mv_I (g : Int), mv_I (k : Int), l5]) (st' := [mv_I (g : Int)]) (M1 := M) rfl ?_
    exact mv_ret (fun n => rfl) rfl
  | succ r ih =>
    intro k g l5 hk hg hg8 h5
    have er := hrow k (by omega)
    have e1 := ht k u (by omega) hu
    have e2 := ht g u hg8 hu
    have b1 := sp_likes_b P ho (c := k) (by omega) u
    have b2 := sp_likes_b P ho (c := g) (by omega) u
    refine mv_go' 3 (pc' := 11) (ls' := [mv_R 60, mv_I (u : Int), mv_I (one : Int), mv_I (g : Int), mv_I (k : Int), l5]) (st' := [mv_I (M 60 8), mv_I (k : Int)]) (M1 := M) rfl ?_
    rw [show M 60 8 = V 0 8 from by exact h60]
    refine mv_go' 1 (pc' := if (k : Int) < (V 0 8) then 14 else 76) (ls' := [mv_R 60, mv_I (u : Int), mv_I (one : Int), mv_I (g : Int), mv_I (k : Int), l5]) (st' := []) (M1 := M) rfl ?_
    refine mv_tt' (by omega) ?_
    refine mv_go' 4 (pc' := if 0 ≤ (k : Int) ∧ (k : Int) < 6 then 21 else mv_bad) (ls' := [mv_R 60, mv_I (u : Int), mv_I (one : Int), mv_I (g : Int), mv_I (k : Int), l5]) (st' := [mv_I (M 64 k)]) (M1 := M) rfl ?_
    refine mv_tt' (by omega) ?_
    rw [show M 64 k = row k from by exact er]
    refine mv_go' 2 (pc' := if (row k) = (u : Int) then 25 else 70) (ls' := [mv_R 60, mv_I (u : Int), mv_I (one : Int), mv_I (g : Int), mv_I (k : Int), l5]) (st' := []) (M1 := M) rfl ?_
    refine mv_sp' (fun ha1 => ?_) (fun ha1 => ?_)
    · refine mv_go' 7 (pc' := 36) (ls' := [mv_R 60, mv_I (u : Int), mv_I (one : Int), mv_I (g : Int), mv_I (k : Int), l5]) (st' := [mv_I (mv_w ((mv_w ((k : Int) * 6)) + (u : Int))), mv_R 62]) (M1 := M) rfl ?_
      rw [show mv_w ((mv_w ((k : Int) * 6)) + (u : Int)) = ((6 * k + u : Nat) : Int) from by (rw [show mv_w ((k : Int) * 6) = (k : Int) * 6 from mv_w_id (by omega) (by omega), show mv_w (((k : Int) * 6) + (u : Int)) = ((k : Int) * 6) + (u : Int) from mv_w_id (by omega) (by omega)]) <;> omega]
      refine mv_go' 1 (pc' := if 0 ≤ ((6 * k + u : Nat) : Int) ∧ ((6 * k + u : Nat) : Int) < 36 then 37 else mv_bad) (ls' := [mv_R 60, mv_I (u : Int), mv_I (one : Int), mv_I (g : Int), mv_I (k : Int), l5]) (st' := [mv_I (M 62 (6 * k + u))]) (M1 := M) rfl ?_
      refine mv_tt' (by omega) ?_
      rw [show M 62 (6 * k + u) = sp_likes V P k u from by exact e1]
      refine mv_go' 7 (pc' := 47) (ls' := [mv_R 60, mv_I (u : Int), mv_I (one : Int), mv_I (g : Int), mv_I (k : Int), l5]) (st' := [mv_I (mv_w ((mv_w ((g : Int) * 6)) + (u : Int))), mv_R 62, mv_I (sp_likes V P k u)]) (M1 := M) rfl ?_
      rw [show mv_w ((mv_w ((g : Int) * 6)) + (u : Int)) = ((6 * g + u : Nat) : Int) from by (rw [show mv_w ((g : Int) * 6) = (g : Int) * 6 from mv_w_id (by omega) (by omega), show mv_w (((g : Int) * 6) + (u : Int)) = ((g : Int) * 6) + (u : Int) from mv_w_id (by omega) (by omega)]) <;> omega]
      refine mv_go' 1 (pc' := if 0 ≤ ((6 * g + u : Nat) : Int) ∧ ((6 * g + u : Nat) : Int) < 36 then 48 else mv_bad) (ls' := [mv_R 60, mv_I (u : Int), mv_I (one : Int), mv_I (g : Int), mv_I (k : Int), l5]) (st' := [mv_I (M 62 (6 * g + u)), mv_I (sp_likes V P k u)]) (M1 := M) rfl ?_
      refine mv_tt' (by omega) ?_
      rw [show M 62 (6 * g + u) = sp_likes V P g u from by exact e2]
      refine mv_go' 4 (pc' := if (mv_w ((sp_likes V P k u) - (sp_likes V P g u))) < 0 then 67 else 56) (ls' := [mv_R 60, mv_I (u : Int), mv_I (one : Int), mv_I (g : Int), mv_I (k : Int), mv_I (mv_w ((sp_likes V P k u) - (sp_likes V P g u)))]) (st' := []) (M1 := M) rfl ?_
      rw [show mv_w ((sp_likes V P k u) - (sp_likes V P g u)) = (sp_likes V P k u) - (sp_likes V P g u) from mv_w_id (by omega) (by omega)]
      refine mv_sp' (fun ha2 => ?_) (fun ha2 => ?_)
      · refine mv_go' 4 (pc' := 5) (ls' := [mv_R 60, mv_I (u : Int), mv_I (one : Int), mv_I (k : Int), mv_I (mv_w ((k : Int) + 1)), mv_I ((sp_likes V P k u) - (sp_likes V P g u))]) (st' := []) (M1 := M) rfl ?_
        rw [show mv_w ((k : Int) + 1) = (k : Int) + 1 from mv_w_id (by omega) (by omega)]
        rw [show (k : Int) + 1 = ((k + 1 : Nat) : Int) from by omega]
        exact (mv_eqs (ls2 := [mv_R 60, mv_I (u : Int), mv_I (one : Int), mv_I ((if row k = (u : Int) ∧ (sp_likes V P k u < sp_likes V P g u ∨ (sp_likes V P k u = sp_likes V P g u ∧ g < k)) then k else g : Nat) : Int), mv_I ((k + 1 : Nat) : Int), mv_I ((sp_likes V P k u) - (sp_likes V P g u))]) (by first | rw [if_pos (by omega)] | rw [if_neg (by omega)]) rfl rfl (ih (k + 1) _ _ (by omega) (by simp only [sp_ll]; rw [← hg]) (by split <;> omega) (by first | rfl | exact h5)))
      · refine mv_go' 2 (pc' := if ((sp_likes V P k u) - (sp_likes V P g u)) = 0 then 61 else 70) (ls' := [mv_R 60, mv_I (u : Int), mv_I (one : Int), mv_I (g : Int), mv_I (k : Int), mv_I ((sp_likes V P k u) - (sp_likes V P g u))]) (st' := []) (M1 := M) rfl ?_
        refine mv_sp' (fun ha3 => ?_) (fun ha3 => ?_)
        · refine mv_go' 3 (pc' := if (g : Int) < (k : Int) then 67 else 70) (ls' := [mv_R 60, mv_I (u : Int), mv_I (one : Int), mv_I (g : Int), mv_I (k : Int), mv_I ((sp_likes V P k u) - (sp_likes V P g u))]) (st' := []) (M1 := M) rfl ?_
          refine mv_sp' (fun ha4 => ?_) (fun ha4 => ?_)
          · refine mv_go' 4 (pc' := 5) (ls' := [mv_R 60, mv_I (u : Int), mv_I (one : Int), mv_I (k : Int), mv_I (mv_w ((k : Int) + 1)), mv_I ((sp_likes V P k u) - (sp_likes V P g u))]) (st' := []) (M1 := M) rfl ?_
            rw [show mv_w ((k : Int) + 1) = (k : Int) + 1 from mv_w_id (by omega) (by omega)]
            rw [show (k : Int) + 1 = ((k + 1 : Nat) : Int) from by omega]
            exact (mv_eqs (ls2 := [mv_R 60, mv_I (u : Int), mv_I (one : Int), mv_I ((if row k = (u : Int) ∧ (sp_likes V P k u < sp_likes V P g u ∨ (sp_likes V P k u = sp_likes V P g u ∧ g < k)) then k else g : Nat) : Int), mv_I ((k + 1 : Nat) : Int), mv_I ((sp_likes V P k u) - (sp_likes V P g u))]) (by first | rw [if_pos (by omega)] | rw [if_neg (by omega)]) rfl rfl (ih (k + 1) _ _ (by omega) (by simp only [sp_ll]; rw [← hg]) (by split <;> omega) (by first | rfl | exact h5)))
          · refine mv_go' 2 (pc' := 5) (ls' := [mv_R 60, mv_I (u : Int), mv_I (one : Int), mv_I (g : Int), mv_I (mv_w ((k : Int) + 1)), mv_I ((sp_likes V P k u) - (sp_likes V P g u))]) (st' := []) (M1 := M) rfl ?_
            rw [show mv_w ((k : Int) + 1) = (k : Int) + 1 from mv_w_id (by omega) (by omega)]
            rw [show (k : Int) + 1 = ((k + 1 : Nat) : Int) from by omega]
            exact (mv_eqs (ls2 := [mv_R 60, mv_I (u : Int), mv_I (one : Int), mv_I ((if row k = (u : Int) ∧ (sp_likes V P k u < sp_likes V P g u ∨ (sp_likes V P k u = sp_likes V P g u ∧ g < k)) then k else g : Nat) : Int), mv_I ((k + 1 : Nat) : Int), mv_I ((sp_likes V P k u) - (sp_likes V P g u))]) (by first | rw [if_pos (by omega)] | rw [if_neg (by omega)]) rfl rfl (ih (k + 1) _ _ (by omega) (by simp only [sp_ll]; rw [← hg]) (by split <;> omega) (by first | rfl | exact h5)))
        · refine mv_go' 2 (pc' := 5) (ls' := [mv_R 60, mv_I (u : Int), mv_I (one : Int), mv_I (g : Int), mv_I (mv_w ((k : Int) + 1)), mv_I ((sp_likes V P k u) - (sp_likes V P g u))]) (st' := []) (M1 := M) rfl ?_
          rw [show mv_w ((k : Int) + 1) = (k : Int) + 1 from mv_w_id (by omega) (by omega)]
          rw [show (k : Int) + 1 = ((k + 1 : Nat) : Int) from by omega]
          exact (mv_eqs (ls2 := [mv_R 60, mv_I (u : Int), mv_I (one : Int), mv_I ((if row k = (u : Int) ∧ (sp_likes V P k u < sp_likes V P g u ∨ (sp_likes V P k u = sp_likes V P g u ∧ g < k)) then k else g : Nat) : Int), mv_I ((k + 1 : Nat) : Int), mv_I ((sp_likes V P k u) - (sp_likes V P g u))]) (by first | rw [if_pos (by omega)] | rw [if_neg (by omega)]) rfl rfl (ih (k + 1) _ _ (by omega) (by simp only [sp_ll]; rw [← hg]) (by split <;> omega) (by first | rfl | exact h5)))
    · refine mv_go' 2 (pc' := 5) (ls' := [mv_R 60, mv_I (u : Int), mv_I (one : Int), mv_I (g : Int), mv_I (mv_w ((k : Int) + 1)), l5]) (st' := []) (M1 := M) rfl ?_
      rw [show mv_w ((k : Int) + 1) = (k : Int) + 1 from mv_w_id (by omega) (by omega)]
      rw [show (k : Int) + 1 = ((k + 1 : Nat) : Int) from by omega]
      exact (mv_eqs (ls2 := [mv_R 60, mv_I (u : Int), mv_I (one : Int), mv_I ((if row k = (u : Int) ∧ (sp_likes V P k u < sp_likes V P g u ∨ (sp_likes V P k u = sp_likes V P g u ∧ g < k)) then k else g : Nat) : Int), mv_I ((k + 1 : Nat) : Int), l5]) (by first | rw [if_pos (by omega)] | rw [if_neg (by omega)]) rfl rfl (ih (k + 1) _ _ (by omega) (by simp only [sp_ll]; rw [← hg]) (by split <;> omega) (by first | rfl | exact h5)))
theorem sp_cll {V M : mv_M} {P : Nat → Nat → List Int} {row : Nat → Int} {u one : Nat} (ho : sp_ok V) (h60 : M 60 8 = V 0 8) (ht : sp_tl V P M) (hu : (u : Int) < V 0 9) (hrow : ∀ c : Nat, (c : Int) < V 0 8 → M 64 c = row c) (h1 : (one : Int) < V 0 8) :
    mv_Ru 0 39 0 [mv_R 60, mv_I (u : Int), mv_I (one : Int), mv_U, mv_U, mv_U] [] M (mv_I (sp_ll (fun d => sp_likes V P d u) row (u : Int) one (V 0 8).toNat : Int)) (fun M1 => M1 = M) := by
  have h8 := sp_ok_s8 ho
  refine mv_go' 4 (pc' := 5) (ls' := [mv_R 60, mv_I (u : Int), mv_I (one : Int), mv_I (one : Int), mv_I 0, mv_U]) (st' := []) (M1 := M) rfl ?_
  exact sp_cll_lp ho h60 ht hu hrow (V 0 8).toNat 0 one mv_U (by omega) rfl h1 rfl
