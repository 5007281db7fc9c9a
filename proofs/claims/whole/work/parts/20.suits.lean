/-! how much an uncle suits a child, the class -/
def sp_ns (V : mv_M) (c : Nat) : Int := V 1 (4 * c) + V 1 (4 * c + 1) + V 1 (4 * c + 2) + V 1 (4 * c + 3)
theorem sp_ns_b {V : mv_M} (ho : sp_ok V) {c : Nat} (hc : c < 6) : 0 ≤ sp_ns V c ∧ sp_ns V c ≤ 36 := by
  have h0 := sp_ok_1 ho (4 * c) (by omega)
  have h1 := sp_ok_1 ho (4 * c + 1) (by omega)
  have h2 := sp_ok_1 ho (4 * c + 2) (by omega)
  have h3 := sp_ok_1 ho (4 * c + 3) (by omega)
  unfold sp_ns
  omega
def sp_sad (v need : Int) : Int := if 6 < need then v * 2 else v.tdiv 2
theorem sp_half_b {v : Int} (h1 : -99 ≤ v) (h2 : v ≤ 99) : -99 ≤ v.tdiv 2 ∧ v.tdiv 2 ≤ 99 := by
  rcases Int.le_total 0 v with h | h
  · rw [Int.tdiv_eq_ediv_of_nonneg h]; omega
  · obtain ⟨w, rfl⟩ : ∃ w, v = -w := ⟨-v, by omega⟩
    rw [Int.neg_tdiv, Int.tdiv_eq_ediv_of_nonneg (by omega)]; omega
theorem sp_sad_b {v need : Int} (h1 : -99 ≤ v) (h2 : v ≤ 99) : -198 ≤ sp_sad v need ∧ sp_sad v need ≤ 198 := by
  have := sp_half_b h1 h2
  unfold sp_sad
  split <;> omega
def sp_sk (K v need mark more : Int) (k : Nat) : Int :=
  if K = 1 then (if k = 0 then v + 2 * more else v) else if K = 2 then sp_sad v need else if K = 3 then (if k = 3 then 5 else if k = 0 then v + 2 * more else v) else if K = 4 then sp_sad v need + (if mark = need then more else 0) else v
theorem sp_sk_b {K v need mark more : Int} {k : Nat} (h1 : -99 ≤ v) (h2 : v ≤ 99) (h3 : 0 ≤ more) (h4 : more ≤ 9) : -300 ≤ sp_sk K v need mark more k ∧ sp_sk K v need mark more k ≤ 300 := by
  have := @sp_sad_b v need h1 h2
  unfold sp_sk
  repeat (first | omega | split)
def sp_sa (V : mv_M) (P : Nat → Nat → List Int) (c u k : Nat) : Int := sp_sk (V 4 u) (sp_says V P 0 u k (V 1 (4 * c + k))) (V 1 (4 * c + k)) (V 3 (4 * u + k)) (V 5 u) k
theorem sp_sa_b {V : mv_M} (P : Nat → Nat → List Int) (ho : sp_ok V) (c : Nat) {u : Nat} (hu : (u : Int) < V 0 9) (k : Nat) : -300 ≤ sp_sa V P c u k ∧ sp_sa V P c u k ≤ 300 := by
  have h := sp_says_b V P 0 u k (V 1 (4 * c + k))
  have h5 := sp_ok_5 ho u hu
  exact sp_sk_b h.1 h.2 h5.1 h5.2
def sp_suits (V : mv_M) (P : Nat → Nat → List Int) (c u : Nat) : Int := sp_sa V P c u 0 + sp_sa V P c u 1 + sp_sa V P c u 2 + sp_sa V P c u 3
theorem sp_suits_b {V : mv_M} (P : Nat → Nat → List Int) (ho : sp_ok V) (c : Nat) {u : Nat} (hu : (u : Int) < V 0 9) : -1200 ≤ sp_suits V P c u ∧ sp_suits V P c u ≤ 1200 := by
  have h0 := sp_sa_b P ho c hu 0
  have h1 := sp_sa_b P ho c hu 1
  have h2 := sp_sa_b P ho c hu 2
  have h3 := sp_sa_b P ho c hu 3
  unfold sp_suits
  omega
def sp_l4 (V : mv_M) (P : Nat → Nat → List Int) (c u : Nat) : Int := sp_says V P 1 u 0 (V 1 (4 * c)) + sp_says V P 1 u 1 (V 1 (4 * c + 1)) + sp_says V P 1 u 2 (V 1 (4 * c + 2)) + sp_says V P 1 u 3 (V 1 (4 * c + 3))
def sp_likes (V : mv_M) (P : Nat → Nat → List Int) (c u : Nat) : Int :=
  if V 4 u = 2 then sp_l4 V P c u + sp_ns V c else if V 4 u = 4 then -(sp_l4 V P c u + sp_ns V c) else if V 4 u = 5 then (if 20 < sp_ns V c then 0 else sp_l4 V P c u) else sp_l4 V P c u
theorem sp_l4_b (V : mv_M) (P : Nat → Nat → List Int) (c u : Nat) : -396 ≤ sp_l4 V P c u ∧ sp_l4 V P c u ≤ 396 := by
  have h0 := sp_says_b V P 1 u 0 (V 1 (4 * c))
  have h1 := sp_says_b V P 1 u 1 (V 1 (4 * c + 1))
  have h2 := sp_says_b V P 1 u 2 (V 1 (4 * c + 2))
  have h3 := sp_says_b V P 1 u 3 (V 1 (4 * c + 3))
  unfold sp_l4
  omega
theorem sp_likes_b {V : mv_M} (P : Nat → Nat → List Int) (ho : sp_ok V) {c : Nat} (hc : c < 6) (u : Nat) : -1000 ≤ sp_likes V P c u ∧ sp_likes V P c u ≤ 1000 := by
  have h1 := sp_ns_b ho hc
  have h2 := sp_l4_b V P c u
  unfold sp_likes
  repeat (first | omega | split)
theorem sp_csad {M : mv_M} {v need : Int} (h1 : -99 ≤ v) (h2 : v ≤ 99) : mv_Ru 0 53 0 [mv_I v, mv_I need] [] M (mv_I (sp_sad v need)) (fun M1 => M1 = M) := by
  have hh := sp_half_b h1 h2
  refine mv_go' 3 (pc' := if 6 < need then 6 else 12) (ls' := [mv_I v, mv_I need]) (st' := []) (M1 := M) rfl ?_
  refine mv_sp' (fun h => ?_) (fun h => ?_)
  · refine mv_go' 4 (pc' := 15) (ls' := [mv_I v, mv_I need]) (st' := [mv_I (mv_w (v * 2))]) (M1 := M) rfl ?_
    rw [show mv_w (v * 2) = v * 2 from mv_w_id (by omega) (by omega)]
    exact mv_Ru.val (mv_ret (fun n => rfl) (rfl)) (congrArg mv_I (by simp only [sp_sad, if_pos h]))
  · refine mv_go' 3 (pc' := if 2 = 0 then mv_bad else 15) (ls' := [mv_I v, mv_I need]) (st' := [mv_I (mv_w (v.tdiv 2))]) (M1 := M) rfl ?_
    refine mv_ff' (by omega) ?_
    rw [show mv_w (v.tdiv 2) = v.tdiv 2 from mv_w_id (by omega) (by omega)]
    exact mv_Ru.val (mv_ret (fun n => rfl) (rfl)) (congrArg mv_I (by simp only [sp_sad, if_neg h]))
theorem sp_cns_30 {V M : mv_M} {c : Nat} (hV : sp_c 30 M V) (ho : sp_ok V) (hc : c < 6) : mv_Ru 0 55 0 [mv_R 30, mv_I (c : Int), mv_U, mv_U] [] M (mv_I (sp_ns V c)) (fun M1 => M1 = M) := by
  refine mv_go' 4 (pc' := 4) (ls' := [mv_R 30, mv_I (c : Int), mv_I 0, mv_I 0]) (st' := []) (M1 := M) rfl ?_
  refine mv_go' 3 (pc' := if 0 < 4 then 9 else 28) (ls' := [mv_R 30, mv_I (c : Int), mv_I 0, mv_I 0]) (st' := []) (M1 := M) rfl ?_
  refine mv_tt' (by decide) ?_
  refine mv_go' 8 (pc' := 19) (ls' := [mv_R 30, mv_I (c : Int), mv_I 0, mv_I 0]) (st' := [mv_I (mv_w ((mv_w ((c : Int) * 4)) + 0)), mv_R 31, mv_I 0]) (M1 := M) rfl ?_
  rw [show mv_w ((mv_w ((c : Int) * 4)) + 0) = ((4 * c : Nat) : Int) from by (rw [show mv_w ((c : Int) * 4) = (c : Int) * 4 from mv_w_id (by omega) (by omega), show mv_w (((c : Int) * 4) + 0) = ((c : Int) * 4) + 0 from mv_w_id (by omega) (by omega)]) <;> omega]
  refine mv_go' 1 (pc' := if 0 ≤ ((4 * c : Nat) : Int) ∧ ((4 * c : Nat) : Int) < 24 then 20 else mv_bad) (ls' := [mv_R 30, mv_I (c : Int), mv_I 0, mv_I 0]) (st' := [mv_I (M 31 (4 * c)), mv_I 0]) (M1 := M) rfl ?_
  refine mv_tt' (by omega) ?_
  have hr1 := sp_ok_1 ho (4 * c) (by omega)
  rw [show M 31 (4 * c) = V 1 (4 * c) from by exact sp_c_1 hV (4 * c) (by omega)]
  refine mv_go' 4 (pc' := 4) (ls' := [mv_R 30, mv_I (c : Int), mv_I (mv_w (0 + (V 1 (4 * c)))), mv_I (mv_w (0 + 1))]) (st' := []) (M1 := M) rfl ?_
  rw [show mv_w (0 + 1) = 1 from by (rw [show mv_w (0 + 1) = 0 + 1 from mv_w_id (by omega) (by omega)]) <;> omega]
  rw [show mv_w (0 + (V 1 (4 * c))) = 0 + (V 1 (4 * c)) from mv_w_id (by omega) (by omega)]
  refine mv_go' 3 (pc' := if 1 < 4 then 9 else 28) (ls' := [mv_R 30, mv_I (c : Int), mv_I (0 + (V 1 (4 * c))), mv_I 1]) (st' := []) (M1 := M) rfl ?_
  refine mv_tt' (by decide) ?_
  refine mv_go' 8 (pc' := 19) (ls' := [mv_R 30, mv_I (c : Int), mv_I (0 + (V 1 (4 * c))), mv_I 1]) (st' := [mv_I (mv_w ((mv_w ((c : Int) * 4)) + 1)), mv_R 31, mv_I (0 + (V 1 (4 * c)))]) (M1 := M) rfl ?_
  rw [show mv_w ((mv_w ((c : Int) * 4)) + 1) = ((4 * c + 1 : Nat) : Int) from by (rw [show mv_w ((c : Int) * 4) = (c : Int) * 4 from mv_w_id (by omega) (by omega), show mv_w (((c : Int) * 4) + 1) = ((c : Int) * 4) + 1 from mv_w_id (by omega) (by omega)]) <;> omega]
  refine mv_go' 1 (pc' := if 0 ≤ ((4 * c + 1 : Nat) : Int) ∧ ((4 * c + 1 : Nat) : Int) < 24 then 20 else mv_bad) (ls' := [mv_R 30, mv_I (c : Int), mv_I (0 + (V 1 (4 * c))), mv_I 1]) (st' := [mv_I (M 31 (4 * c + 1)), mv_I (0 + (V 1 (4 * c)))]) (M1 := M) rfl ?_
  refine mv_tt' (by omega) ?_
  have hr3 := sp_ok_1 ho (4 * c + 1) (by omega)
  rw [show M 31 (4 * c + 1) = V 1 (4 * c + 1) from by exact sp_c_1 hV (4 * c + 1) (by omega)]
  refine mv_go' 4 (pc' := 4) (ls' := [mv_R 30, mv_I (c : Int), mv_I (mv_w ((0 + (V 1 (4 * c))) + (V 1 (4 * c + 1)))), mv_I (mv_w (1 + 1))]) (st' := []) (M1 := M) rfl ?_
  rw [show mv_w (1 + 1) = 2 from by (rw [show mv_w (1 + 1) = 1 + 1 from mv_w_id (by omega) (by omega)]) <;> omega]
  rw [show mv_w ((0 + (V 1 (4 * c))) + (V 1 (4 * c + 1))) = (0 + (V 1 (4 * c))) + (V 1 (4 * c + 1)) from mv_w_id (by omega) (by omega)]
  refine mv_go' 3 (pc' := if 2 < 4 then 9 else 28) (ls' := [mv_R 30, mv_I (c : Int), mv_I ((0 + (V 1 (4 * c))) + (V 1 (4 * c + 1))), mv_I 2]) (st' := []) (M1 := M) rfl ?_
  refine mv_tt' (by decide) ?_
  refine mv_go' 8 (pc' := 19) (ls' := [mv_R 30, mv_I (c : Int), mv_I ((0 + (V 1 (4 * c))) + (V 1 (4 * c + 1))), mv_I 2]) (st' := [mv_I (mv_w ((mv_w ((c : Int) * 4)) + 2)), mv_R 31, mv_I ((0 + (V 1 (4 * c))) + (V 1 (4 * c + 1)))]) (M1 := M) rfl ?_
  rw [show mv_w ((mv_w ((c : Int) * 4)) + 2) = ((4 * c + 2 : Nat) : Int) from by (rw [show mv_w ((c : Int) * 4) = (c : Int) * 4 from mv_w_id (by omega) (by omega), show mv_w (((c : Int) * 4) + 2) = ((c : Int) * 4) + 2 from mv_w_id (by omega) (by omega)]) <;> omega]
  refine mv_go' 1 (pc' := if 0 ≤ ((4 * c + 2 : Nat) : Int) ∧ ((4 * c + 2 : Nat) : Int) < 24 then 20 else mv_bad) (ls' := [mv_R 30, mv_I (c : Int), mv_I ((0 + (V 1 (4 * c))) + (V 1 (4 * c + 1))), mv_I 2]) (st' := [mv_I (M 31 (4 * c + 2)), mv_I ((0 + (V 1 (4 * c))) + (V 1 (4 * c + 1)))]) (M1 := M) rfl ?_
  refine mv_tt' (by omega) ?_
  have hr5 := sp_ok_1 ho (4 * c + 2) (by omega)
  rw [show M 31 (4 * c + 2) = V 1 (4 * c + 2) from by exact sp_c_1 hV (4 * c + 2) (by omega)]
  refine mv_go' 4 (pc' := 4) (ls' := [mv_R 30, mv_I (c : Int), mv_I (mv_w (((0 + (V 1 (4 * c))) + (V 1 (4 * c + 1))) + (V 1 (4 * c + 2)))), mv_I (mv_w (2 + 1))]) (st' := []) (M1 := M) rfl ?_
  rw [show mv_w (2 + 1) = 3 from by (rw [show mv_w (2 + 1) = 2 + 1 from mv_w_id (by omega) (by omega)]) <;> omega]
  rw [show mv_w (((0 + (V 1 (4 * c))) + (V 1 (4 * c + 1))) + (V 1 (4 * c + 2))) = ((0 + (V 1 (4 * c))) + (V 1 (4 * c + 1))) + (V 1 (4 * c + 2)) from mv_w_id (by omega) (by omega)]
  refine mv_go' 3 (pc' := if 3 < 4 then 9 else 28) (ls' := [mv_R 30, mv_I (c : Int), mv_I (((0 + (V 1 (4 * c))) + (V 1 (4 * c + 1))) + (V 1 (4 * c + 2))), mv_I 3]) (st' := []) (M1 := M) rfl ?_
  refine mv_tt' (by decide) ?_
  refine mv_go' 8 (pc' := 19) (ls' := [mv_R 30, mv_I (c : Int), mv_I (((0 + (V 1 (4 * c))) + (V 1 (4 * c + 1))) + (V 1 (4 * c + 2))), mv_I 3]) (st' := [mv_I (mv_w ((mv_w ((c : Int) * 4)) + 3)), mv_R 31, mv_I (((0 + (V 1 (4 * c))) + (V 1 (4 * c + 1))) + (V 1 (4 * c + 2)))]) (M1 := M) rfl ?_
  rw [show mv_w ((mv_w ((c : Int) * 4)) + 3) = ((4 * c + 3 : Nat) : Int) from by (rw [show mv_w ((c : Int) * 4) = (c : Int) * 4 from mv_w_id (by omega) (by omega), show mv_w (((c : Int) * 4) + 3) = ((c : Int) * 4) + 3 from mv_w_id (by omega) (by omega)]) <;> omega]
  refine mv_go' 1 (pc' := if 0 ≤ ((4 * c + 3 : Nat) : Int) ∧ ((4 * c + 3 : Nat) : Int) < 24 then 20 else mv_bad) (ls' := [mv_R 30, mv_I (c : Int), mv_I (((0 + (V 1 (4 * c))) + (V 1 (4 * c + 1))) + (V 1 (4 * c + 2))), mv_I 3]) (st' := [mv_I (M 31 (4 * c + 3)), mv_I (((0 + (V 1 (4 * c))) + (V 1 (4 * c + 1))) + (V 1 (4 * c + 2)))]) (M1 := M) rfl ?_
  refine mv_tt' (by omega) ?_
  have hr7 := sp_ok_1 ho (4 * c + 3) (by omega)
  rw [show M 31 (4 * c + 3) = V 1 (4 * c + 3) from by exact sp_c_1 hV (4 * c + 3) (by omega)]
  refine mv_go' 4 (pc' := 4) (ls' := [mv_R 30, mv_I (c : Int), mv_I (mv_w ((((0 + (V 1 (4 * c))) + (V 1 (4 * c + 1))) + (V 1 (4 * c + 2))) + (V 1 (4 * c + 3)))), mv_I (mv_w (3 + 1))]) (st' := []) (M1 := M) rfl ?_
  rw [show mv_w (3 + 1) = 4 from by (rw [show mv_w (3 + 1) = 3 + 1 from mv_w_id (by omega) (by omega)]) <;> omega]
  rw [show mv_w ((((0 + (V 1 (4 * c))) + (V 1 (4 * c + 1))) + (V 1 (4 * c + 2))) + (V 1 (4 * c + 3))) = (((0 + (V 1 (4 * c))) + (V 1 (4 * c + 1))) + (V 1 (4 * c + 2))) + (V 1 (4 * c + 3)) from mv_w_id (by omega) (by omega)]
  refine mv_go' 3 (pc' := if 4 < 4 then 9 else 28) (ls' := [mv_R 30, mv_I (c : Int), mv_I ((((0 + (V 1 (4 * c))) + (V 1 (4 * c + 1))) + (V 1 (4 * c + 2))) + (V 1 (4 * c + 3))), mv_I 4]) (st' := []) (M1 := M) rfl ?_
  refine mv_ff' (by decide) ?_
  refine mv_go' 1 (pc' := 29) (ls' := [mv_R 30, mv_I (c : Int), mv_I ((((0 + (V 1 (4 * c))) + (V 1 (4 * c + 1))) + (V 1 (4 * c + 2))) + (V 1 (4 * c + 3))), mv_I 4]) (st' := [mv_I ((((0 + (V 1 (4 * c))) + (V 1 (4 * c + 1))) + (V 1 (4 * c + 2))) + (V 1 (4 * c + 3)))]) (M1 := M) rfl ?_
  exact mv_Ru.val (mv_ret (fun n => rfl) (rfl)) (congrArg mv_I (by unfold sp_ns; omega))
theorem sp_cjol_30 {V M : mv_M} {v : Int} {u k : Nat} (hV : sp_c 30 M V) (ho : sp_ok V) (hu : (u : Int) < V 0 9) (h1 : -99 ≤ v) (h2 : v ≤ 99) : mv_Ru 0 52 0 [mv_R 30, mv_I v, mv_I (u : Int), mv_I (k : Int)] [] M (mv_I (if k = 0 then v + 2 * V 5 u else v)) (fun M1 => M1 = M) := by
  have h9 := sp_ok_s9 ho
  refine mv_go' 2 (pc' := if (k : Int) = 0 then 4 else 17) (ls' := [mv_R 30, mv_I v, mv_I (u : Int), mv_I (k : Int)]) (st' := []) (M1 := M) rfl ?_
  refine mv_sp' (fun h => ?_) (fun h => ?_)
  · refine mv_go' 6 (pc' := if 0 ≤ (u : Int) ∧ (u : Int) < 6 then 12 else mv_bad) (ls' := [mv_R 30, mv_I v, mv_I (u : Int), mv_I (k : Int)]) (st' := [mv_I (M 35 u), mv_I 2, mv_I v]) (M1 := M) rfl ?_
    refine mv_tt' (by omega) ?_
    have hr9 := sp_ok_5 ho u (by omega)
    rw [show M 35 u = V 5 u from by exact sp_c_5 hV u (by omega)]
    refine mv_go' 3 (pc' := 18) (ls' := [mv_R 30, mv_I v, mv_I (u : Int), mv_I (k : Int)]) (st' := [mv_I (mv_w (v + (mv_w (2 * (V 5 u)))))]) (M1 := M) rfl ?_
    rw [show mv_w (2 * (V 5 u)) = 2 * (V 5 u) from mv_w_id (by omega) (by omega)]
    rw [show mv_w (v + (2 * (V 5 u))) = v + (2 * (V 5 u)) from mv_w_id (by omega) (by omega)]
    exact mv_Ru.val (mv_ret (fun n => rfl) (rfl)) (congrArg mv_I (by (have h2 : k = 0 := by omega); rw [if_pos h2]))
  · refine mv_go' 1 (pc' := 18) (ls' := [mv_R 30, mv_I v, mv_I (u : Int), mv_I (k : Int)]) (st' := [mv_I v]) (M1 := M) rfl ?_
    exact mv_Ru.val (mv_ret (fun n => rfl) (rfl)) (congrArg mv_I (by (have h2 : ¬ k = 0 := by omega); rw [if_neg h2]))
theorem sp_csa_30 {V M : mv_M} {P : Nat → Nat → List Int} {n : Int} {c u k : Nat} (hV : sp_c 30 M V) (ho : sp_ok V) (hl : V 0 11 < n) (hP : sp_cts M P n) (hc : c < 6) (hu : (u : Int) < V 0 9) (hk : k < 4) :
    mv_Ru 3 51 0 [mv_R 30, mv_I (c : Int), mv_I (u : Int), mv_I (k : Int), mv_U, mv_U] [] M (mv_I (sp_sa V P c u k)) (fun M1 => mv_ag [36, 37] M M1) := by
  have h9 := sp_ok_s9 ho
  refine mv_go' 7 (pc' := 9) (ls' := [mv_R 30, mv_I (c : Int), mv_I (u : Int), mv_I (k : Int), mv_U, mv_U]) (st' := [mv_I (mv_w ((mv_w ((c : Int) * 4)) + (k : Int))), mv_R 31]) (M1 := M) rfl ?_
  rw [show mv_w ((mv_w ((c : Int) * 4)) + (k : Int)) = ((4 * c + k : Nat) : Int) from by (rw [show mv_w ((c : Int) * 4) = (c : Int) * 4 from mv_w_id (by omega) (by omega), show mv_w (((c : Int) * 4) + (k : Int)) = ((c : Int) * 4) + (k : Int) from mv_w_id (by omega) (by omega)]) <;> omega]
  refine mv_go' 1 (pc' := if 0 ≤ ((4 * c + k : Nat) : Int) ∧ ((4 * c + k : Nat) : Int) < 24 then 10 else mv_bad) (ls' := [mv_R 30, mv_I (c : Int), mv_I (u : Int), mv_I (k : Int), mv_U, mv_U]) (st' := [mv_I (M 31 (4 * c + k))]) (M1 := M) rfl ?_
  refine mv_tt' (by omega) ?_
  have hr11 := sp_ok_1 ho (4 * c + k) (by omega)
  rw [show M 31 (4 * c + k) = V 1 (4 * c + k) from by exact sp_c_1 hV (4 * c + k) (by omega)]
  refine mv_go' 6 (pc' := 18) (ls' := [mv_R 30, mv_I (c : Int), mv_I (u : Int), mv_I (k : Int), mv_I (V 1 (4 * c + k)), mv_U]) (st' := [mv_I (V 1 (4 * c + k)), mv_I (k : Int), mv_I (u : Int), mv_I 0, mv_R 30]) (M1 := M) rfl ?_
  have hb := sp_says_b V P 0 u k (V 1 (4 * c + k))
  refine mv_call (st2 := [mv_I (sp_says V P 0 u k (V 1 (4 * c + k)))]) rfl (Or.inl rfl) rfl rfl rfl (sp_csays_30 (p := 0) hV ho hl hP (by decide) hu hk) (by first | decide | omega) (fun M1 h1 => ?_)
  have hV1 := sp_c_ag hV h1 (by decide)
  refine mv_go' 5 (pc' := if 0 ≤ (u : Int) ∧ (u : Int) < 6 then 29 else mv_bad) (ls' := [mv_R 30, mv_I (c : Int), mv_I (u : Int), mv_I (k : Int), mv_I (V 1 (4 * c + k)), mv_I (sp_says V P 0 u k (V 1 (4 * c + k)))]) (st' := [mv_I (M1 34 u)]) (M1 := M1) rfl ?_
  refine mv_tt' (by omega) ?_
  have hr13 := sp_ok_4 ho u (by omega)
  rw [show M1 34 u = V 4 u from by exact sp_c_4 hV1 u (by omega)]
  refine mv_go' 1 (pc' := mv_swg [(1, 60), (2, 69), (3, 77), (4, 95)] 129 (V 4 u)) (ls' := [mv_R 30, mv_I (c : Int), mv_I (u : Int), mv_I (k : Int), mv_I (V 1 (4 * c + k)), mv_I (sp_says V P 0 u k (V 1 (4 * c + k)))]) (st' := []) (M1 := M1) rfl ?_
  have e4 := sp_ok_4 ho u hu
  have e5 := sp_ok_5 ho u hu
  have eb := @sp_sad_b (sp_says V P 0 u k (V 1 (4 * c + k))) (V 1 (4 * c + k)) hb.1 hb.2
  rcases (by omega : V 4 u = 0 ∨ V 4 u = 1 ∨ V 4 u = 2 ∨ V 4 u = 3 ∨ V 4 u = 4 ∨ V 4 u = 5) with e | e | e | e | e | e
  · refine mv_pcq (pc2 := 129) (by rw [e]; rfl) ?_
    refine mv_go' 1 (pc' := 131) (ls' := [mv_R 30, mv_I (c : Int), mv_I (u : Int), mv_I (k : Int), mv_I (V 1 (4 * c + k)), mv_I (sp_says V P 0 u k (V 1 (4 * c + k)))]) (st' := [mv_I (sp_says V P 0 u k (V 1 (4 * c + k)))]) (M1 := M1) rfl ?_
    exact mv_Ru.val (mv_ret (fun n => rfl) (h1)) (congrArg mv_I (by simp [sp_sa, sp_sk, e]))
  · refine mv_pcq (pc2 := 60) (by rw [e]; rfl) ?_
    refine mv_go' 4 (pc' := 65) (ls' := [mv_R 30, mv_I (c : Int), mv_I (u : Int), mv_I (k : Int), mv_I (V 1 (4 * c + k)), mv_I (sp_says V P 0 u k (V 1 (4 * c + k)))]) (st' := [mv_I (k : Int), mv_I (u : Int), mv_I (sp_says V P 0 u k (V 1 (4 * c + k))), mv_R 30]) (M1 := M1) rfl ?_
    refine mv_callP (st2 := [mv_I (if k = 0 then sp_says V P 0 u k (V 1 (4 * c + k)) + 2 * V 5 u else sp_says V P 0 u k (V 1 (4 * c + k)))]) rfl (Or.inl rfl) rfl rfl rfl (sp_cjol_30 hV1 ho hu hb.1 hb.2) (by first | decide | omega) ?_
    exact mv_Ru.val (mv_ret (fun n => rfl) (h1)) (congrArg mv_I (by simp [sp_sa, sp_sk, e]))
  · refine mv_pcq (pc2 := 69) (by rw [e]; rfl) ?_
    refine mv_go' 2 (pc' := 73) (ls' := [mv_R 30, mv_I (c : Int), mv_I (u : Int), mv_I (k : Int), mv_I (V 1 (4 * c + k)), mv_I (sp_says V P 0 u k (V 1 (4 * c + k)))]) (st' := [mv_I (V 1 (4 * c + k)), mv_I (sp_says V P 0 u k (V 1 (4 * c + k)))]) (M1 := M1) rfl ?_
    refine mv_callP (st2 := [mv_I (sp_sad (sp_says V P 0 u k (V 1 (4 * c + k))) (V 1 (4 * c + k)))]) rfl (Or.inr rfl) rfl rfl rfl (sp_csad hb.1 hb.2) (by first | decide | omega) ?_
    exact mv_Ru.val (mv_ret (fun n => rfl) (h1)) (congrArg mv_I (by simp [sp_sa, sp_sk, e]))
  · refine mv_pcq (pc2 := 77) (by rw [e]; rfl) ?_
    refine mv_go' 3 (pc' := if (k : Int) = 3 then 82 else 86) (ls' := [mv_R 30, mv_I (c : Int), mv_I (u : Int), mv_I (k : Int), mv_I (V 1 (4 * c + k)), mv_I (sp_says V P 0 u k (V 1 (4 * c + k)))]) (st' := []) (M1 := M1) rfl ?_
    refine mv_sp' (fun hk3 => ?_) (fun hk3 => ?_)
    · refine mv_go' 2 (pc' := 94) (ls' := [mv_R 30, mv_I (c : Int), mv_I (u : Int), mv_I (k : Int), mv_I (V 1 (4 * c + k)), mv_I (sp_says V P 0 u k (V 1 (4 * c + k)))]) (st' := [mv_I 5]) (M1 := M1) rfl ?_
      exact mv_Ru.val (mv_ret (fun n => rfl) (h1)) (congrArg mv_I (by (have : k = 3 := by omega); simp [sp_sa, sp_sk, e, this]))
    · refine mv_go' 4 (pc' := 91) (ls' := [mv_R 30, mv_I (c : Int), mv_I (u : Int), mv_I (k : Int), mv_I (V 1 (4 * c + k)), mv_I (sp_says V P 0 u k (V 1 (4 * c + k)))]) (st' := [mv_I (k : Int), mv_I (u : Int), mv_I (sp_says V P 0 u k (V 1 (4 * c + k))), mv_R 30]) (M1 := M1) rfl ?_
      refine mv_callP (st2 := [mv_I (if k = 0 then sp_says V P 0 u k (V 1 (4 * c + k)) + 2 * V 5 u else sp_says V P 0 u k (V 1 (4 * c + k)))]) rfl (Or.inl rfl) rfl rfl rfl (sp_cjol_30 hV1 ho hu hb.1 hb.2) (by first | decide | omega) ?_
      exact mv_Ru.val (mv_ret (fun n => rfl) (h1)) (congrArg mv_I (by (have : ¬ k = 3 := by omega); simp [sp_sa, sp_sk, e, this]))
  · refine mv_pcq (pc2 := 95) (by rw [e]; rfl) ?_
    refine mv_go' 2 (pc' := 99) (ls' := [mv_R 30, mv_I (c : Int), mv_I (u : Int), mv_I (k : Int), mv_I (V 1 (4 * c + k)), mv_I (sp_says V P 0 u k (V 1 (4 * c + k)))]) (st' := [mv_I (V 1 (4 * c + k)), mv_I (sp_says V P 0 u k (V 1 (4 * c + k)))]) (M1 := M1) rfl ?_
    refine mv_callP (st2 := [mv_I (sp_sad (sp_says V P 0 u k (V 1 (4 * c + k))) (V 1 (4 * c + k)))]) rfl (Or.inr rfl) rfl rfl rfl (sp_csad hb.1 hb.2) (by first | decide | omega) ?_
    refine mv_go' 7 (pc' := 111) (ls' := [mv_R 30, mv_I (c : Int), mv_I (u : Int), mv_I (k : Int), mv_I (V 1 (4 * c + k)), mv_I (sp_says V P 0 u k (V 1 (4 * c + k)))]) (st' := [mv_I (mv_w ((mv_w ((u : Int) * 4)) + (k : Int))), mv_R 33, mv_I (sp_sad (sp_says V P 0 u k (V 1 (4 * c + k))) (V 1 (4 * c + k)))]) (M1 := M1) rfl ?_
    rw [show mv_w ((mv_w ((u : Int) * 4)) + (k : Int)) = ((4 * u + k : Nat) : Int) from by (rw [show mv_w ((u : Int) * 4) = (u : Int) * 4 from mv_w_id (by omega) (by omega), show mv_w (((u : Int) * 4) + (k : Int)) = ((u : Int) * 4) + (k : Int) from mv_w_id (by omega) (by omega)]) <;> omega]
    refine mv_go' 1 (pc' := if 0 ≤ ((4 * u + k : Nat) : Int) ∧ ((4 * u + k : Nat) : Int) < 24 then 112 else mv_bad) (ls' := [mv_R 30, mv_I (c : Int), mv_I (u : Int), mv_I (k : Int), mv_I (V 1 (4 * c + k)), mv_I (sp_says V P 0 u k (V 1 (4 * c + k)))]) (st' := [mv_I (M1 33 (4 * u + k)), mv_I (sp_sad (sp_says V P 0 u k (V 1 (4 * c + k))) (V 1 (4 * c + k)))]) (M1 := M1) rfl ?_
    refine mv_tt' (by omega) ?_
    have hr15 := sp_ok_3 ho (4 * u + k) (by omega)
    rw [show M1 33 (4 * u + k) = V 3 (4 * u + k) from by exact sp_c_3 hV1 (4 * u + k) (by omega)]
    refine mv_go' 2 (pc' := if (V 3 (4 * u + k)) = (V 1 (4 * c + k)) then 117 else 126) (ls' := [mv_R 30, mv_I (c : Int), mv_I (u : Int), mv_I (k : Int), mv_I (V 1 (4 * c + k)), mv_I (sp_says V P 0 u k (V 1 (4 * c + k)))]) (st' := [mv_I (sp_sad (sp_says V P 0 u k (V 1 (4 * c + k))) (V 1 (4 * c + k)))]) (M1 := M1) rfl ?_
    refine mv_sp' (fun hm => ?_) (fun hm => ?_)
    · refine mv_go' 4 (pc' := if 0 ≤ (u : Int) ∧ (u : Int) < 6 then 123 else mv_bad) (ls' := [mv_R 30, mv_I (c : Int), mv_I (u : Int), mv_I (k : Int), mv_I (V 1 (4 * c + k)), mv_I (sp_says V P 0 u k (V 1 (4 * c + k)))]) (st' := [mv_I (M1 35 u), mv_I (sp_sad (sp_says V P 0 u k (V 1 (4 * c + k))) (V 1 (4 * c + k)))]) (M1 := M1) rfl ?_
      refine mv_tt' (by omega) ?_
      have hr17 := sp_ok_5 ho u (by omega)
      rw [show M1 35 u = V 5 u from by exact sp_c_5 hV1 u (by omega)]
      refine mv_go' 2 (pc' := 128) (ls' := [mv_R 30, mv_I (c : Int), mv_I (u : Int), mv_I (k : Int), mv_I (V 1 (4 * c + k)), mv_I (sp_says V P 0 u k (V 1 (4 * c + k)))]) (st' := [mv_I (mv_w ((sp_sad (sp_says V P 0 u k (V 1 (4 * c + k))) (V 1 (4 * c + k))) + (V 5 u)))]) (M1 := M1) rfl ?_
      rw [show mv_w ((sp_sad (sp_says V P 0 u k (V 1 (4 * c + k))) (V 1 (4 * c + k))) + (V 5 u)) = (sp_sad (sp_says V P 0 u k (V 1 (4 * c + k))) (V 1 (4 * c + k))) + (V 5 u) from mv_w_id (by omega) (by omega)]
      exact mv_Ru.val (mv_ret (fun n => rfl) (h1)) (congrArg mv_I (by simp [sp_sa, sp_sk, e, hm]))
    · refine mv_go' 2 (pc' := 128) (ls' := [mv_R 30, mv_I (c : Int), mv_I (u : Int), mv_I (k : Int), mv_I (V 1 (4 * c + k)), mv_I (sp_says V P 0 u k (V 1 (4 * c + k)))]) (st' := [mv_I (mv_w ((sp_sad (sp_says V P 0 u k (V 1 (4 * c + k))) (V 1 (4 * c + k))) + 0))]) (M1 := M1) rfl ?_
      rw [show mv_w ((sp_sad (sp_says V P 0 u k (V 1 (4 * c + k))) (V 1 (4 * c + k))) + 0) = (sp_sad (sp_says V P 0 u k (V 1 (4 * c + k))) (V 1 (4 * c + k))) + 0 from mv_w_id (by omega) (by omega)]
      exact mv_Ru.val (mv_ret (fun n => rfl) (h1)) (congrArg mv_I (by simp [sp_sa, sp_sk, e, hm]))
  · refine mv_pcq (pc2 := 129) (by rw [e]; rfl) ?_
    refine mv_go' 1 (pc' := 131) (ls' := [mv_R 30, mv_I (c : Int), mv_I (u : Int), mv_I (k : Int), mv_I (V 1 (4 * c + k)), mv_I (sp_says V P 0 u k (V 1 (4 * c + k)))]) (st' := [mv_I (sp_says V P 0 u k (V 1 (4 * c + k)))]) (M1 := M1) rfl ?_
    exact mv_Ru.val (mv_ret (fun n => rfl) (h1)) (congrArg mv_I (by simp [sp_sa, sp_sk, e]))
theorem sp_cns_50 {V M : mv_M} {c : Nat} (hV : sp_c 50 M V) (ho : sp_ok V) (hc : c < 6) : mv_Ru 0 55 0 [mv_R 50, mv_I (c : Int), mv_U, mv_U] [] M (mv_I (sp_ns V c)) (fun M1 => M1 = M) := by
  refine mv_go' 4 (pc' := 4) (ls' := [mv_R 50, mv_I (c : Int), mv_I 0, mv_I 0]) (st' := []) (M1 := M) rfl ?_
  refine mv_go' 3 (pc' := if 0 < 4 then 9 else 28) (ls' := [mv_R 50, mv_I (c : Int), mv_I 0, mv_I 0]) (st' := []) (M1 := M) rfl ?_
  refine mv_tt' (by decide) ?_
  refine mv_go' 8 (pc' := 19) (ls' := [mv_R 50, mv_I (c : Int), mv_I 0, mv_I 0]) (st' := [mv_I (mv_w ((mv_w ((c : Int) * 4)) + 0)), mv_R 51, mv_I 0]) (M1 := M) rfl ?_
  rw [show mv_w ((mv_w ((c : Int) * 4)) + 0) = ((4 * c : Nat) : Int) from by (rw [show mv_w ((c : Int) * 4) = (c : Int) * 4 from mv_w_id (by omega) (by omega), show mv_w (((c : Int) * 4) + 0) = ((c : Int) * 4) + 0 from mv_w_id (by omega) (by omega)]) <;> omega]
  refine mv_go' 1 (pc' := if 0 ≤ ((4 * c : Nat) : Int) ∧ ((4 * c : Nat) : Int) < 24 then 20 else mv_bad) (ls' := [mv_R 50, mv_I (c : Int), mv_I 0, mv_I 0]) (st' := [mv_I (M 51 (4 * c)), mv_I 0]) (M1 := M) rfl ?_
  refine mv_tt' (by omega) ?_
  have hr19 := sp_ok_1 ho (4 * c) (by omega)
  rw [show M 51 (4 * c) = V 1 (4 * c) from by exact sp_c_1 hV (4 * c) (by omega)]
  refine mv_go' 4 (pc' := 4) (ls' := [mv_R 50, mv_I (c : Int), mv_I (mv_w (0 + (V 1 (4 * c)))), mv_I (mv_w (0 + 1))]) (st' := []) (M1 := M) rfl ?_
  rw [show mv_w (0 + 1) = 1 from by (rw [show mv_w (0 + 1) = 0 + 1 from mv_w_id (by omega) (by omega)]) <;> omega]
  rw [show mv_w (0 + (V 1 (4 * c))) = 0 + (V 1 (4 * c)) from mv_w_id (by omega) (by omega)]
  refine mv_go' 3 (pc' := if 1 < 4 then 9 else 28) (ls' := [mv_R 50, mv_I (c : Int), mv_I (0 + (V 1 (4 * c))), mv_I 1]) (st' := []) (M1 := M) rfl ?_
  refine mv_tt' (by decide) ?_
  refine mv_go' 8 (pc' := 19) (ls' := [mv_R 50, mv_I (c : Int), mv_I (0 + (V 1 (4 * c))), mv_I 1]) (st' := [mv_I (mv_w ((mv_w ((c : Int) * 4)) + 1)), mv_R 51, mv_I (0 + (V 1 (4 * c)))]) (M1 := M) rfl ?_
  rw [show mv_w ((mv_w ((c : Int) * 4)) + 1) = ((4 * c + 1 : Nat) : Int) from by (rw [show mv_w ((c : Int) * 4) = (c : Int) * 4 from mv_w_id (by omega) (by omega), show mv_w (((c : Int) * 4) + 1) = ((c : Int) * 4) + 1 from mv_w_id (by omega) (by omega)]) <;> omega]
  refine mv_go' 1 (pc' := if 0 ≤ ((4 * c + 1 : Nat) : Int) ∧ ((4 * c + 1 : Nat) : Int) < 24 then 20 else mv_bad) (ls' := [mv_R 50, mv_I (c : Int), mv_I (0 + (V 1 (4 * c))), mv_I 1]) (st' := [mv_I (M 51 (4 * c + 1)), mv_I (0 + (V 1 (4 * c)))]) (M1 := M) rfl ?_
  refine mv_tt' (by omega) ?_
  have hr21 := sp_ok_1 ho (4 * c + 1) (by omega)
  rw [show M 51 (4 * c + 1) = V 1 (4 * c + 1) from by exact sp_c_1 hV (4 * c + 1) (by omega)]
  refine mv_go' 4 (pc' := 4) (ls' := [mv_R 50, mv_I (c : Int), mv_I (mv_w ((0 + (V 1 (4 * c))) + (V 1 (4 * c + 1)))), mv_I (mv_w (1 + 1))]) (st' := []) (M1 := M) rfl ?_
  rw [show mv_w (1 + 1) = 2 from by (rw [show mv_w (1 + 1) = 1 + 1 from mv_w_id (by omega) (by omega)]) <;> omega]
  rw [show mv_w ((0 + (V 1 (4 * c))) + (V 1 (4 * c + 1))) = (0 + (V 1 (4 * c))) + (V 1 (4 * c + 1)) from mv_w_id (by omega) (by omega)]
  refine mv_go' 3 (pc' := if 2 < 4 then 9 else 28) (ls' := [mv_R 50, mv_I (c : Int), mv_I ((0 + (V 1 (4 * c))) + (V 1 (4 * c + 1))), mv_I 2]) (st' := []) (M1 := M) rfl ?_
  refine mv_tt' (by decide) ?_
  refine mv_go' 8 (pc' := 19) (ls' := [mv_R 50, mv_I (c : Int), mv_I ((0 + (V 1 (4 * c))) + (V 1 (4 * c + 1))), mv_I 2]) (st' := [mv_I (mv_w ((mv_w ((c : Int) * 4)) + 2)), mv_R 51, mv_I ((0 + (V 1 (4 * c))) + (V 1 (4 * c + 1)))]) (M1 := M) rfl ?_
  rw [show mv_w ((mv_w ((c : Int) * 4)) + 2) = ((4 * c + 2 : Nat) : Int) from by (rw [show mv_w ((c : Int) * 4) = (c : Int) * 4 from mv_w_id (by omega) (by omega), show mv_w (((c : Int) * 4) + 2) = ((c : Int) * 4) + 2 from mv_w_id (by omega) (by omega)]) <;> omega]
  refine mv_go' 1 (pc' := if 0 ≤ ((4 * c + 2 : Nat) : Int) ∧ ((4 * c + 2 : Nat) : Int) < 24 then 20 else mv_bad) (ls' := [mv_R 50, mv_I (c : Int), mv_I ((0 + (V 1 (4 * c))) + (V 1 (4 * c + 1))), mv_I 2]) (st' := [mv_I (M 51 (4 * c + 2)), mv_I ((0 + (V 1 (4 * c))) + (V 1 (4 * c + 1)))]) (M1 := M) rfl ?_
  refine mv_tt' (by omega) ?_
  have hr23 := sp_ok_1 ho (4 * c + 2) (by omega)
  rw [show M 51 (4 * c + 2) = V 1 (4 * c + 2) from by exact sp_c_1 hV (4 * c + 2) (by omega)]
  refine mv_go' 4 (pc' := 4) (ls' := [mv_R 50, mv_I (c : Int), mv_I (mv_w (((0 + (V 1 (4 * c))) + (V 1 (4 * c + 1))) + (V 1 (4 * c + 2)))), mv_I (mv_w (2 + 1))]) (st' := []) (M1 := M) rfl ?_
  rw [show mv_w (2 + 1) = 3 from by (rw [show mv_w (2 + 1) = 2 + 1 from mv_w_id (by omega) (by omega)]) <;> omega]
  rw [show mv_w (((0 + (V 1 (4 * c))) + (V 1 (4 * c + 1))) + (V 1 (4 * c + 2))) = ((0 + (V 1 (4 * c))) + (V 1 (4 * c + 1))) + (V 1 (4 * c + 2)) from mv_w_id (by omega) (by omega)]
  refine mv_go' 3 (pc' := if 3 < 4 then 9 else 28) (ls' := [mv_R 50, mv_I (c : Int), mv_I (((0 + (V 1 (4 * c))) + (V 1 (4 * c + 1))) + (V 1 (4 * c + 2))), mv_I 3]) (st' := []) (M1 := M) rfl ?_
  refine mv_tt' (by decide) ?_
  refine mv_go' 8 (pc' := 19) (ls' := [mv_R 50, mv_I (c : Int), mv_I (((0 + (V 1 (4 * c))) + (V 1 (4 * c + 1))) + (V 1 (4 * c + 2))), mv_I 3]) (st' := [mv_I (mv_w ((mv_w ((c : Int) * 4)) + 3)), mv_R 51, mv_I (((0 + (V 1 (4 * c))) + (V 1 (4 * c + 1))) + (V 1 (4 * c + 2)))]) (M1 := M) rfl ?_
  rw [show mv_w ((mv_w ((c : Int) * 4)) + 3) = ((4 * c + 3 : Nat) : Int) from by (rw [show mv_w ((c : Int) * 4) = (c : Int) * 4 from mv_w_id (by omega) (by omega), show mv_w (((c : Int) * 4) + 3) = ((c : Int) * 4) + 3 from mv_w_id (by omega) (by omega)]) <;> omega]
  refine mv_go' 1 (pc' := if 0 ≤ ((4 * c + 3 : Nat) : Int) ∧ ((4 * c + 3 : Nat) : Int) < 24 then 20 else mv_bad) (ls' := [mv_R 50, mv_I (c : Int), mv_I (((0 + (V 1 (4 * c))) + (V 1 (4 * c + 1))) + (V 1 (4 * c + 2))), mv_I 3]) (st' := [mv_I (M 51 (4 * c + 3)), mv_I (((0 + (V 1 (4 * c))) + (V 1 (4 * c + 1))) + (V 1 (4 * c + 2)))]) (M1 := M) rfl ?_
  refine mv_tt' (by omega) ?_
  have hr25 := sp_ok_1 ho (4 * c + 3) (by omega)
  rw [show M 51 (4 * c + 3) = V 1 (4 * c + 3) from by exact sp_c_1 hV (4 * c + 3) (by omega)]
  refine mv_go' 4 (pc' := 4) (ls' := [mv_R 50, mv_I (c : Int), mv_I (mv_w ((((0 + (V 1 (4 * c))) + (V 1 (4 * c + 1))) + (V 1 (4 * c + 2))) + (V 1 (4 * c + 3)))), mv_I (mv_w (3 + 1))]) (st' := []) (M1 := M) rfl ?_
  rw [show mv_w (3 + 1) = 4 from by (rw [show mv_w (3 + 1) = 3 + 1 from mv_w_id (by omega) (by omega)]) <;> omega]
  rw [show mv_w ((((0 + (V 1 (4 * c))) + (V 1 (4 * c + 1))) + (V 1 (4 * c + 2))) + (V 1 (4 * c + 3))) = (((0 + (V 1 (4 * c))) + (V 1 (4 * c + 1))) + (V 1 (4 * c + 2))) + (V 1 (4 * c + 3)) from mv_w_id (by omega) (by omega)]
  refine mv_go' 3 (pc' := if 4 < 4 then 9 else 28) (ls' := [mv_R 50, mv_I (c : Int), mv_I ((((0 + (V 1 (4 * c))) + (V 1 (4 * c + 1))) + (V 1 (4 * c + 2))) + (V 1 (4 * c + 3))), mv_I 4]) (st' := []) (M1 := M) rfl ?_
  refine mv_ff' (by decide) ?_
  refine mv_go' 1 (pc' := 29) (ls' := [mv_R 50, mv_I (c : Int), mv_I ((((0 + (V 1 (4 * c))) + (V 1 (4 * c + 1))) + (V 1 (4 * c + 2))) + (V 1 (4 * c + 3))), mv_I 4]) (st' := [mv_I ((((0 + (V 1 (4 * c))) + (V 1 (4 * c + 1))) + (V 1 (4 * c + 2))) + (V 1 (4 * c + 3)))]) (M1 := M) rfl ?_
  exact mv_Ru.val (mv_ret (fun n => rfl) (rfl)) (congrArg mv_I (by unfold sp_ns; omega))
theorem sp_cjol_50 {V M : mv_M} {v : Int} {u k : Nat} (hV : sp_c 50 M V) (ho : sp_ok V) (hu : (u : Int) < V 0 9) (h1 : -99 ≤ v) (h2 : v ≤ 99) : mv_Ru 0 52 0 [mv_R 50, mv_I v, mv_I (u : Int), mv_I (k : Int)] [] M (mv_I (if k = 0 then v + 2 * V 5 u else v)) (fun M1 => M1 = M) := by
  have h9 := sp_ok_s9 ho
  refine mv_go' 2 (pc' := if (k : Int) = 0 then 4 else 17) (ls' := [mv_R 50, mv_I v, mv_I (u : Int), mv_I (k : Int)]) (st' := []) (M1 := M) rfl ?_
  refine mv_sp' (fun h => ?_) (fun h => ?_)
  · refine mv_go' 6 (pc' := if 0 ≤ (u : Int) ∧ (u : Int) < 6 then 12 else mv_bad) (ls' := [mv_R 50, mv_I v, mv_I (u : Int), mv_I (k : Int)]) (st' := [mv_I (M 55 u), mv_I 2, mv_I v]) (M1 := M) rfl ?_
    refine mv_tt' (by omega) ?_
    have hr27 := sp_ok_5 ho u (by omega)
    rw [show M 55 u = V 5 u from by exact sp_c_5 hV u (by omega)]
    refine mv_go' 3 (pc' := 18) (ls' := [mv_R 50, mv_I v, mv_I (u : Int), mv_I (k : Int)]) (st' := [mv_I (mv_w (v + (mv_w (2 * (V 5 u)))))]) (M1 := M) rfl ?_
    rw [show mv_w (2 * (V 5 u)) = 2 * (V 5 u) from mv_w_id (by omega) (by omega)]
    rw [show mv_w (v + (2 * (V 5 u))) = v + (2 * (V 5 u)) from mv_w_id (by omega) (by omega)]
    exact mv_Ru.val (mv_ret (fun n => rfl) (rfl)) (congrArg mv_I (by (have h2 : k = 0 := by omega); rw [if_pos h2]))
  · refine mv_go' 1 (pc' := 18) (ls' := [mv_R 50, mv_I v, mv_I (u : Int), mv_I (k : Int)]) (st' := [mv_I v]) (M1 := M) rfl ?_
    exact mv_Ru.val (mv_ret (fun n => rfl) (rfl)) (congrArg mv_I (by (have h2 : ¬ k = 0 := by omega); rw [if_neg h2]))
theorem sp_csa_50 {V M : mv_M} {P : Nat → Nat → List Int} {n : Int} {c u k : Nat} (hV : sp_c 50 M V) (ho : sp_ok V) (hl : V 0 11 < n) (hP : sp_cts M P n) (hc : c < 6) (hu : (u : Int) < V 0 9) (hk : k < 4) :
    mv_Ru 3 51 0 [mv_R 50, mv_I (c : Int), mv_I (u : Int), mv_I (k : Int), mv_U, mv_U] [] M (mv_I (sp_sa V P c u k)) (fun M1 => mv_ag [56, 57] M M1) := by
  have h9 := sp_ok_s9 ho
  refine mv_go' 7 (pc' := 9) (ls' := [mv_R 50, mv_I (c : Int), mv_I (u : Int), mv_I (k : Int), mv_U, mv_U]) (st' := [mv_I (mv_w ((mv_w ((c : Int) * 4)) + (k : Int))), mv_R 51]) (M1 := M) rfl ?_
  rw [show mv_w ((mv_w ((c : Int) * 4)) + (k : Int)) = ((4 * c + k : Nat) : Int) from by (rw [show mv_w ((c : Int) * 4) = (c : Int) * 4 from mv_w_id (by omega) (by omega), show mv_w (((c : Int) * 4) + (k : Int)) = ((c : Int) * 4) + (k : Int) from mv_w_id (by omega) (by omega)]) <;> omega]
  refine mv_go' 1 (pc' := if 0 ≤ ((4 * c + k : Nat) : Int) ∧ ((4 * c + k : Nat) : Int) < 24 then 10 else mv_bad) (ls' := [mv_R 50, mv_I (c : Int), mv_I (u : Int), mv_I (k : Int), mv_U, mv_U]) (st' := [mv_I (M 51 (4 * c + k))]) (M1 := M) rfl ?_
  refine mv_tt' (by omega) ?_
  have hr29 := sp_ok_1 ho (4 * c + k) (by omega)
  rw [show M 51 (4 * c + k) = V 1 (4 * c + k) from by exact sp_c_1 hV (4 * c + k) (by omega)]
  refine mv_go' 6 (pc' := 18) (ls' := [mv_R 50, mv_I (c : Int), mv_I (u : Int), mv_I (k : Int), mv_I (V 1 (4 * c + k)), mv_U]) (st' := [mv_I (V 1 (4 * c + k)), mv_I (k : Int), mv_I (u : Int), mv_I 0, mv_R 50]) (M1 := M) rfl ?_
  have hb := sp_says_b V P 0 u k (V 1 (4 * c + k))
  refine mv_call (st2 := [mv_I (sp_says V P 0 u k (V 1 (4 * c + k)))]) rfl (Or.inl rfl) rfl rfl rfl (sp_csays_50 (p := 0) hV ho hl hP (by decide) hu hk) (by first | decide | omega) (fun M1 h1 => ?_)
  have hV1 := sp_c_ag hV h1 (by decide)
  refine mv_go' 5 (pc' := if 0 ≤ (u : Int) ∧ (u : Int) < 6 then 29 else mv_bad) (ls' := [mv_R 50, mv_I (c : Int), mv_I (u : Int), mv_I (k : Int), mv_I (V 1 (4 * c + k)), mv_I (sp_says V P 0 u k (V 1 (4 * c + k)))]) (st' := [mv_I (M1 54 u)]) (M1 := M1) rfl ?_
  refine mv_tt' (by omega) ?_
  have hr31 := sp_ok_4 ho u (by omega)
  rw [show M1 54 u = V 4 u from by exact sp_c_4 hV1 u (by omega)]
  refine mv_go' 1 (pc' := mv_swg [(1, 60), (2, 69), (3, 77), (4, 95)] 129 (V 4 u)) (ls' := [mv_R 50, mv_I (c : Int), mv_I (u : Int), mv_I (k : Int), mv_I (V 1 (4 * c + k)), mv_I (sp_says V P 0 u k (V 1 (4 * c + k)))]) (st' := []) (M1 := M1) rfl ?_
  have e4 := sp_ok_4 ho u hu
  have e5 := sp_ok_5 ho u hu
  have eb := @sp_sad_b (sp_says V P 0 u k (V 1 (4 * c + k))) (V 1 (4 * c + k)) hb.1 hb.2
  rcases (by omega : V 4 u = 0 ∨ V 4 u = 1 ∨ V 4 u = 2 ∨ V 4 u = 3 ∨ V 4 u = 4 ∨ V 4 u = 5) with e | e | e | e | e | e
  · refine mv_pcq (pc2 := 129) (by rw [e]; rfl) ?_
    refine mv_go' 1 (pc' := 131) (ls' := [mv_R 50, mv_I (c : Int), mv_I (u : Int), mv_I (k : Int), mv_I (V 1 (4 * c + k)), mv_I (sp_says V P 0 u k (V 1 (4 * c + k)))]) (st' := [mv_I (sp_says V P 0 u k (V 1 (4 * c + k)))]) (M1 := M1) rfl ?_
    exact mv_Ru.val (mv_ret (fun n => rfl) (h1)) (congrArg mv_I (by simp [sp_sa, sp_sk, e]))
  · refine mv_pcq (pc2 := 60) (by rw [e]; rfl) ?_
    refine mv_go' 4 (pc' := 65) (ls' := [mv_R 50, mv_I (c : Int), mv_I (u : Int), mv_I (k : Int), mv_I (V 1 (4 * c + k)), mv_I (sp_says V P 0 u k (V 1 (4 * c + k)))]) (st' := [mv_I (k : Int), mv_I (u : Int), mv_I (sp_says V P 0 u k (V 1 (4 * c + k))), mv_R 50]) (M1 := M1) rfl ?_
    refine mv_callP (st2 := [mv_I (if k = 0 then sp_says V P 0 u k (V 1 (4 * c + k)) + 2 * V 5 u else sp_says V P 0 u k (V 1 (4 * c + k)))]) rfl (Or.inl rfl) rfl rfl rfl (sp_cjol_50 hV1 ho hu hb.1 hb.2) (by first | decide | omega) ?_
    exact mv_Ru.val (mv_ret (fun n => rfl) (h1)) (congrArg mv_I (by simp [sp_sa, sp_sk, e]))
  · refine mv_pcq (pc2 := 69) (by rw [e]; rfl) ?_
    refine mv_go' 2 (pc' := 73) (ls' := [mv_R 50, mv_I (c : Int), mv_I (u : Int), mv_I (k : Int), mv_I (V 1 (4 * c + k)), mv_I (sp_says V P 0 u k (V 1 (4 * c + k)))]) (st' := [mv_I (V 1 (4 * c + k)), mv_I (sp_says V P 0 u k (V 1 (4 * c + k)))]) (M1 := M1) rfl ?_
    refine mv_callP (st2 := [mv_I (sp_sad (sp_says V P 0 u k (V 1 (4 * c + k))) (V 1 (4 * c + k)))]) rfl (Or.inr rfl) rfl rfl rfl (sp_csad hb.1 hb.2) (by first | decide | omega) ?_
    exact mv_Ru.val (mv_ret (fun n => rfl) (h1)) (congrArg mv_I (by simp [sp_sa, sp_sk, e]))
  · refine mv_pcq (pc2 := 77) (by rw [e]; rfl) ?_
    refine mv_go' 3 (pc' := if (k : Int) = 3 then 82 else 86) (ls' := [mv_R 50, mv_I (c : Int), mv_I (u : Int), mv_I (k : Int), mv_I (V 1 (4 * c + k)), mv_I (sp_says V P 0 u k (V 1 (4 * c + k)))]) (st' := []) (M1 := M1) rfl ?_
    refine mv_sp' (fun hk3 => ?_) (fun hk3 => ?_)
    · refine mv_go' 2 (pc' := 94) (ls' := [mv_R 50, mv_I (c : Int), mv_I (u : Int), mv_I (k : Int), mv_I (V 1 (4 * c + k)), mv_I (sp_says V P 0 u k (V 1 (4 * c + k)))]) (st' := [mv_I 5]) (M1 := M1) rfl ?_
      exact mv_Ru.val (mv_ret (fun n => rfl) (h1)) (congrArg mv_I (by (have : k = 3 := by omega); simp [sp_sa, sp_sk, e, this]))
    · refine mv_go' 4 (pc' := 91) (ls' := [mv_R 50, mv_I (c : Int), mv_I (u : Int), mv_I (k : Int), mv_I (V 1 (4 * c + k)), mv_I (sp_says V P 0 u k (V 1 (4 * c + k)))]) (st' := [mv_I (k : Int), mv_I (u : Int), mv_I (sp_says V P 0 u k (V 1 (4 * c + k))), mv_R 50]) (M1 := M1) rfl ?_
      refine mv_callP (st2 := [mv_I (if k = 0 then sp_says V P 0 u k (V 1 (4 * c + k)) + 2 * V 5 u else sp_says V P 0 u k (V 1 (4 * c + k)))]) rfl (Or.inl rfl) rfl rfl rfl (sp_cjol_50 hV1 ho hu hb.1 hb.2) (by first | decide | omega) ?_
      exact mv_Ru.val (mv_ret (fun n => rfl) (h1)) (congrArg mv_I (by (have : ¬ k = 3 := by omega); simp [sp_sa, sp_sk, e, this]))
  · refine mv_pcq (pc2 := 95) (by rw [e]; rfl) ?_
    refine mv_go' 2 (pc' := 99) (ls' := [mv_R 50, mv_I (c : Int), mv_I (u : Int), mv_I (k : Int), mv_I (V 1 (4 * c + k)), mv_I (sp_says V P 0 u k (V 1 (4 * c + k)))]) (st' := [mv_I (V 1 (4 * c + k)), mv_I (sp_says V P 0 u k (V 1 (4 * c + k)))]) (M1 := M1) rfl ?_
    refine mv_callP (st2 := [mv_I (sp_sad (sp_says V P 0 u k (V 1 (4 * c + k))) (V 1 (4 * c + k)))]) rfl (Or.inr rfl) rfl rfl rfl (sp_csad hb.1 hb.2) (by first | decide | omega) ?_
    refine mv_go' 7 (pc' := 111) (ls' := [mv_R 50, mv_I (c : Int), mv_I (u : Int), mv_I (k : Int), mv_I (V 1 (4 * c + k)), mv_I (sp_says V P 0 u k (V 1 (4 * c + k)))]) (st' := [mv_I (mv_w ((mv_w ((u : Int) * 4)) + (k : Int))), mv_R 53, mv_I (sp_sad (sp_says V P 0 u k (V 1 (4 * c + k))) (V 1 (4 * c + k)))]) (M1 := M1) rfl ?_
    rw [show mv_w ((mv_w ((u : Int) * 4)) + (k : Int)) = ((4 * u + k : Nat) : Int) from by (rw [show mv_w ((u : Int) * 4) = (u : Int) * 4 from mv_w_id (by omega) (by omega), show mv_w (((u : Int) * 4) + (k : Int)) = ((u : Int) * 4) + (k : Int) from mv_w_id (by omega) (by omega)]) <;> omega]
    refine mv_go' 1 (pc' := if 0 ≤ ((4 * u + k : Nat) : Int) ∧ ((4 * u + k : Nat) : Int) < 24 then 112 else mv_bad) (ls' := [mv_R 50, mv_I (c : Int), mv_I (u : Int), mv_I (k : Int), mv_I (V 1 (4 * c + k)), mv_I (sp_says V P 0 u k (V 1 (4 * c + k)))]) (st' := [mv_I (M1 53 (4 * u + k)), mv_I (sp_sad (sp_says V P 0 u k (V 1 (4 * c + k))) (V 1 (4 * c + k)))]) (M1 := M1) rfl ?_
    refine mv_tt' (by omega) ?_
    have hr33 := sp_ok_3 ho (4 * u + k) (by omega)
    rw [show M1 53 (4 * u + k) = V 3 (4 * u + k) from by exact sp_c_3 hV1 (4 * u + k) (by omega)]
    refine mv_go' 2 (pc' := if (V 3 (4 * u + k)) = (V 1 (4 * c + k)) then 117 else 126) (ls' := [mv_R 50, mv_I (c : Int), mv_I (u : Int), mv_I (k : Int), mv_I (V 1 (4 * c + k)), mv_I (sp_says V P 0 u k (V 1 (4 * c + k)))]) (st' := [mv_I (sp_sad (sp_says V P 0 u k (V 1 (4 * c + k))) (V 1 (4 * c + k)))]) (M1 := M1) rfl ?_
    refine mv_sp' (fun hm => ?_) (fun hm => ?_)
    · refine mv_go' 4 (pc' := if 0 ≤ (u : Int) ∧ (u : Int) < 6 then 123 else mv_bad) (ls' := [mv_R 50, mv_I (c : Int), mv_I (u : Int), mv_I (k : Int), mv_I (V 1 (4 * c + k)), mv_I (sp_says V P 0 u k (V 1 (4 * c + k)))]) (st' := [mv_I (M1 55 u), mv_I (sp_sad (sp_says V P 0 u k (V 1 (4 * c + k))) (V 1 (4 * c + k)))]) (M1 := M1) rfl ?_
      refine mv_tt' (by omega) ?_
      have hr35 := sp_ok_5 ho u (by omega)
      rw [show M1 55 u = V 5 u from by exact sp_c_5 hV1 u (by omega)]
      refine mv_go' 2 (pc' := 128) (ls' := [mv_R 50, mv_I (c : Int), mv_I (u : Int), mv_I (k : Int), mv_I (V 1 (4 * c + k)), mv_I (sp_says V P 0 u k (V 1 (4 * c + k)))]) (st' := [mv_I (mv_w ((sp_sad (sp_says V P 0 u k (V 1 (4 * c + k))) (V 1 (4 * c + k))) + (V 5 u)))]) (M1 := M1) rfl ?_
      rw [show mv_w ((sp_sad (sp_says V P 0 u k (V 1 (4 * c + k))) (V 1 (4 * c + k))) + (V 5 u)) = (sp_sad (sp_says V P 0 u k (V 1 (4 * c + k))) (V 1 (4 * c + k))) + (V 5 u) from mv_w_id (by omega) (by omega)]
      exact mv_Ru.val (mv_ret (fun n => rfl) (h1)) (congrArg mv_I (by simp [sp_sa, sp_sk, e, hm]))
    · refine mv_go' 2 (pc' := 128) (ls' := [mv_R 50, mv_I (c : Int), mv_I (u : Int), mv_I (k : Int), mv_I (V 1 (4 * c + k)), mv_I (sp_says V P 0 u k (V 1 (4 * c + k)))]) (st' := [mv_I (mv_w ((sp_sad (sp_says V P 0 u k (V 1 (4 * c + k))) (V 1 (4 * c + k))) + 0))]) (M1 := M1) rfl ?_
      rw [show mv_w ((sp_sad (sp_says V P 0 u k (V 1 (4 * c + k))) (V 1 (4 * c + k))) + 0) = (sp_sad (sp_says V P 0 u k (V 1 (4 * c + k))) (V 1 (4 * c + k))) + 0 from mv_w_id (by omega) (by omega)]
      exact mv_Ru.val (mv_ret (fun n => rfl) (h1)) (congrArg mv_I (by simp [sp_sa, sp_sk, e, hm]))
  · refine mv_pcq (pc2 := 129) (by rw [e]; rfl) ?_
    refine mv_go' 1 (pc' := 131) (ls' := [mv_R 50, mv_I (c : Int), mv_I (u : Int), mv_I (k : Int), mv_I (V 1 (4 * c + k)), mv_I (sp_says V P 0 u k (V 1 (4 * c + k)))]) (st' := [mv_I (sp_says V P 0 u k (V 1 (4 * c + k)))]) (M1 := M1) rfl ?_
    exact mv_Ru.val (mv_ret (fun n => rfl) (h1)) (congrArg mv_I (by simp [sp_sa, sp_sk, e]))
