/-! sums over the children -/
def sp_ap (V : mv_M) (c : Nat) : Int := if V 2 c = -1 then 0 else 1
theorem sp_ap_b (V : mv_M) (n : Nat) : 0 ≤ sp_sum (sp_ap V) n ∧ sp_sum (sp_ap V) n ≤ n := by
  have h := @sp_sum_b (sp_ap V) 0 1 n (fun i _ => by unfold sp_ap; split <;> omega)
  omega
/-- those who have one are those who have not none -/
theorem sp_ap_h (V : mv_M) : ∀ n : Nat, sp_sum (sp_ap V) n = n - sp_sum (fun c => if V 2 c = -1 then 1 else 0) n
  | 0 => rfl
  | n + 1 => by
    have h := sp_ap_h V n
    simp only [sp_sum, h, sp_ap]
    split <;> omega
theorem sp_ns_sb {V : mv_M} (ho : sp_ok V) (n : Nat) (hn : n ≤ 6) : 0 ≤ sp_sum (sp_ns V) n ∧ sp_sum (sp_ns V) n ≤ 36 * n := by
  have h := @sp_sum_b (sp_ns V) 0 36 n (fun i hi => sp_ns_b ho (by omega))
  omega
def sp_an (V : mv_M) : Int := sp_sum (sp_ns V) (V 0 8).toNat
def sp_s1 (V : mv_M) (P : Nat → Nat → List Int) (c : Nat) : Int := if V 2 c = -1 then 0 else sp_suits V P c (V 2 c).toNat
theorem sp_s1_b {V : mv_M} (P : Nat → Nat → List Int) (ho : sp_ok V) {c : Nat} (hc : (c : Int) < V 0 8) : -1200 ≤ sp_s1 V P c ∧ sp_s1 V P c ≤ 1200 := by
  have h2 := sp_ok_2 ho c hc
  unfold sp_s1
  split
  · omega
  · exact sp_suits_b P ho c (by omega)
theorem sp_s1_sb {V : mv_M} (P : Nat → Nat → List Int) (ho : sp_ok V) (n : Nat) (hn : (n : Int) ≤ V 0 8) : -1200 * n ≤ sp_sum (sp_s1 V P) n ∧ sp_sum (sp_s1 V P) n ≤ 1200 * n :=
  sp_sum_b n (fun i hi => sp_s1_b P ho (by omega))
def sp_as (V : mv_M) (P : Nat → Nat → List Int) : Int := sp_sum (sp_s1 V P) (V 0 8).toNat
theorem sp_capp_lp {V M : mv_M} (hV : sp_c 30 M V) (ho : sp_ok V) : ∀ (k c : Nat), (c : Int) + k = V 0 8 → mv_Ru 0 46 4 [mv_R 30, mv_I (sp_sum (sp_ap V) c), mv_I (c : Int)] [] M (mv_I (sp_sum (sp_ap V) (V 0 8).toNat)) (fun M1 => M1 = M) := by
  intro k
  induction k with
  | zero =>
    intro c hc
    rw [show (V 0 8).toNat = c from by omega]
    refine mv_go' 3 (pc' := 9) (ls' := [mv_R 30, mv_I (sp_sum (sp_ap V) c), mv_I (c : Int)]) (st' := [mv_I (M 30 8), mv_I (c : Int)]) (M1 := M) rfl ?_
    have hr1 := sp_ok_s8 ho
    rw [show M 30 8 = V 0 8 from by exact sp_c_s8 hV]
    refine mv_go' 1 (pc' := if (c : Int) < (V 0 8) then 12 else 36) (ls' := [mv_R 30, mv_I (sp_sum (sp_ap V) c), mv_I (c : Int)]) (st' := []) (M1 := M) rfl ?_
    refine mv_ff' (by omega) ?_
    refine mv_go' 1 (pc' := 37) (ls' := [mv_R 30, mv_I (sp_sum (sp_ap V) c), mv_I (c : Int)]) (st' := [mv_I (sp_sum (sp_ap V) c)]) (M1 := M) rfl ?_
    exact mv_ret (fun n => rfl) (rfl)
  | succ k ih =>
    intro c hc
    have hb := sp_ap_b V c
    refine mv_go' 3 (pc' := 9) (ls' := [mv_R 30, mv_I (sp_sum (sp_ap V) c), mv_I (c : Int)]) (st' := [mv_I (M 30 8), mv_I (c : Int)]) (M1 := M) rfl ?_
    have hr3 := sp_ok_s8 ho
    rw [show M 30 8 = V 0 8 from by exact sp_c_s8 hV]
    refine mv_go' 1 (pc' := if (c : Int) < (V 0 8) then 12 else 36) (ls' := [mv_R 30, mv_I (sp_sum (sp_ap V) c), mv_I (c : Int)]) (st' := []) (M1 := M) rfl ?_
    refine mv_tt' (by omega) ?_
    refine mv_go' 5 (pc' := if 0 ≤ (c : Int) ∧ (c : Int) < 6 then 19 else mv_bad) (ls' := [mv_R 30, mv_I (sp_sum (sp_ap V) c), mv_I (c : Int)]) (st' := [mv_I (M 32 c), mv_I (sp_sum (sp_ap V) c)]) (M1 := M) rfl ?_
    refine mv_tt' (by omega) ?_
    have hr5 := sp_ok_2 ho c (by omega)
    rw [show M 32 c = V 2 c from by exact sp_c_2 hV c (by omega)]
    refine mv_go' 2 (pc' := if (V 2 c) = (-1) then 23 else 27) (ls' := [mv_R 30, mv_I (sp_sum (sp_ap V) c), mv_I (c : Int)]) (st' := [mv_I (sp_sum (sp_ap V) c)]) (M1 := M) rfl ?_
    refine mv_sp' (fun h => ?_) (fun h => ?_)
    · refine mv_go' 6 (pc' := 4) (ls' := [mv_R 30, mv_I (mv_w ((sp_sum (sp_ap V) c) + 0)), mv_I (mv_w ((c : Int) + 1))]) (st' := []) (M1 := M) rfl ?_
      rw [show mv_w ((sp_sum (sp_ap V) c) + 0) = (sp_sum (sp_ap V) c) + 0 from mv_w_id (by omega) (by omega)]
      rw [show mv_w ((c : Int) + 1) = (c : Int) + 1 from mv_w_id (by omega) (by omega)]
      rw [show (c : Int) + 1 = ((c + 1 : Nat) : Int) from by omega]
      have e : sp_sum (sp_ap V) c + 0 = sp_sum (sp_ap V) (c + 1) := by simp only [sp_sum, sp_ap, if_pos h]
      rw [e]
      exact ih (c + 1) (by omega)
    · refine mv_go' 5 (pc' := 4) (ls' := [mv_R 30, mv_I (mv_w ((sp_sum (sp_ap V) c) + 1)), mv_I (mv_w ((c : Int) + 1))]) (st' := []) (M1 := M) rfl ?_
      rw [show mv_w ((sp_sum (sp_ap V) c) + 1) = (sp_sum (sp_ap V) c) + 1 from mv_w_id (by omega) (by omega)]
      rw [show mv_w ((c : Int) + 1) = (c : Int) + 1 from mv_w_id (by omega) (by omega)]
      rw [show (c : Int) + 1 = ((c + 1 : Nat) : Int) from by omega]
      have e : sp_sum (sp_ap V) c + 1 = sp_sum (sp_ap V) (c + 1) := by simp only [sp_sum, sp_ap, if_neg h]
      rw [e]
      exact ih (c + 1) (by omega)
theorem sp_capp {V M : mv_M} (hV : sp_c 30 M V) (ho : sp_ok V) : mv_Ru 0 46 0 [mv_R 30, mv_U, mv_U] [] M (mv_I (sp_sum (sp_ap V) (V 0 8).toNat)) (fun M1 => M1 = M) := by
  have hr := sp_ok_s8 ho
  refine mv_go' 4 (pc' := 4) (ls' := [mv_R 30, mv_I 0, mv_I 0]) (st' := []) (M1 := M) rfl ?_
  exact sp_capp_lp hV ho (V 0 8).toNat 0 (by omega)
theorem sp_can30_lp {V M : mv_M} (hV : sp_c 30 M V) (ho : sp_ok V) : ∀ (k c : Nat), (c : Int) + k = V 0 8 → mv_Ru 1 56 4 [mv_R 30, mv_I (sp_sum (sp_ns V) c), mv_I (c : Int)] [] M (mv_I (sp_an V)) (fun M1 => M1 = M) := by
  have hr := sp_ok_s8 ho
  intro k
  induction k with
  | zero =>
    intro c hc
    unfold sp_an
    rw [show (V 0 8).toNat = c from by omega]
    refine mv_go' 3 (pc' := 9) (ls' := [mv_R 30, mv_I (sp_sum (sp_ns V) c), mv_I (c : Int)]) (st' := [mv_I (M 30 8), mv_I (c : Int)]) (M1 := M) rfl ?_
    have hr7 := sp_ok_s8 ho
    rw [show M 30 8 = V 0 8 from by exact sp_c_s8 hV]
    refine mv_go' 1 (pc' := if (c : Int) < (V 0 8) then 12 else 26) (ls' := [mv_R 30, mv_I (sp_sum (sp_ns V) c), mv_I (c : Int)]) (st' := []) (M1 := M) rfl ?_
    refine mv_ff' (by omega) ?_
    refine mv_go' 1 (pc' := 27) (ls' := [mv_R 30, mv_I (sp_sum (sp_ns V) c), mv_I (c : Int)]) (st' := [mv_I (sp_sum (sp_ns V) c)]) (M1 := M) rfl ?_
    exact mv_ret (fun n => rfl) (rfl)
  | succ k ih =>
    intro c hc
    have hb := sp_ns_sb ho c (by omega)
    have hb1 := sp_ns_b ho (show c < 6 by omega)
    refine mv_go' 3 (pc' := 9) (ls' := [mv_R 30, mv_I (sp_sum (sp_ns V) c), mv_I (c : Int)]) (st' := [mv_I (M 30 8), mv_I (c : Int)]) (M1 := M) rfl ?_
    have hr9 := sp_ok_s8 ho
    rw [show M 30 8 = V 0 8 from by exact sp_c_s8 hV]
    refine mv_go' 1 (pc' := if (c : Int) < (V 0 8) then 12 else 26) (ls' := [mv_R 30, mv_I (sp_sum (sp_ns V) c), mv_I (c : Int)]) (st' := []) (M1 := M) rfl ?_
    refine mv_tt' (by omega) ?_
    refine mv_go' 3 (pc' := 15) (ls' := [mv_R 30, mv_I (sp_sum (sp_ns V) c), mv_I (c : Int)]) (st' := [mv_I (c : Int), mv_R 30, mv_I (sp_sum (sp_ns V) c)]) (M1 := M) rfl ?_
    refine mv_callP (st2 := [mv_I (sp_ns V c), mv_I (sp_sum (sp_ns V) c)]) rfl (Or.inl rfl) rfl rfl rfl (sp_cns_30 hV ho (by omega)) (by first | decide | omega) ?_
    refine mv_go' 4 (pc' := 4) (ls' := [mv_R 30, mv_I (mv_w ((sp_sum (sp_ns V) c) + (sp_ns V c))), mv_I (mv_w ((c : Int) + 1))]) (st' := []) (M1 := M) rfl ?_
    rw [show mv_w ((sp_sum (sp_ns V) c) + (sp_ns V c)) = (sp_sum (sp_ns V) c) + (sp_ns V c) from mv_w_id (by omega) (by omega)]
    rw [show mv_w ((c : Int) + 1) = (c : Int) + 1 from mv_w_id (by omega) (by omega)]
    rw [show (c : Int) + 1 = ((c + 1 : Nat) : Int) from by omega]
    exact ih (c + 1) (by omega)
theorem sp_can30 {V M : mv_M} (hV : sp_c 30 M V) (ho : sp_ok V) : mv_Ru 1 56 0 [mv_R 30, mv_U, mv_U] [] M (mv_I (sp_an V)) (fun M1 => M1 = M) := by
  have hr := sp_ok_s8 ho
  refine mv_go' 4 (pc' := 4) (ls' := [mv_R 30, mv_I 0, mv_I 0]) (st' := []) (M1 := M) rfl ?_
  exact sp_can30_lp hV ho (V 0 8).toNat 0 (by omega)
theorem sp_can50_lp {V M : mv_M} (hV : sp_c 50 M V) (ho : sp_ok V) : ∀ (k c : Nat), (c : Int) + k = V 0 8 → mv_Ru 1 56 4 [mv_R 50, mv_I (sp_sum (sp_ns V) c), mv_I (c : Int)] [] M (mv_I (sp_an V)) (fun M1 => M1 = M) := by
  have hr := sp_ok_s8 ho
  intro k
  induction k with
  | zero =>
    intro c hc
    unfold sp_an
    rw [show (V 0 8).toNat = c from by omega]
    refine mv_go' 3 (pc' := 9) (ls' := [mv_R 50, mv_I (sp_sum (sp_ns V) c), mv_I (c : Int)]) (st' := [mv_I (M 50 8), mv_I (c : Int)]) (M1 := M) rfl ?_
    have hr11 := sp_ok_s8 ho
    rw [show M 50 8 = V 0 8 from by exact sp_c_s8 hV]
    refine mv_go' 1 (pc' := if (c : Int) < (V 0 8) then 12 else 26) (ls' := [mv_R 50, mv_I (sp_sum (sp_ns V) c), mv_I (c : Int)]) (st' := []) (M1 := M) rfl ?_
    refine mv_ff' (by omega) ?_
    refine mv_go' 1 (pc' := 27) (ls' := [mv_R 50, mv_I (sp_sum (sp_ns V) c), mv_I (c : Int)]) (st' := [mv_I (sp_sum (sp_ns V) c)]) (M1 := M) rfl ?_
    exact mv_ret (fun n => rfl) (rfl)
  | succ k ih =>
    intro c hc
    have hb := sp_ns_sb ho c (by omega)
    have hb1 := sp_ns_b ho (show c < 6 by omega)
    refine mv_go' 3 (pc' := 9) (ls' := [mv_R 50, mv_I (sp_sum (sp_ns V) c), mv_I (c : Int)]) (st' := [mv_I (M 50 8), mv_I (c : Int)]) (M1 := M) rfl ?_
    have hr13 := sp_ok_s8 ho
    rw [show M 50 8 = V 0 8 from by exact sp_c_s8 hV]
    refine mv_go' 1 (pc' := if (c : Int) < (V 0 8) then 12 else 26) (ls' := [mv_R 50, mv_I (sp_sum (sp_ns V) c), mv_I (c : Int)]) (st' := []) (M1 := M) rfl ?_
    refine mv_tt' (by omega) ?_
    refine mv_go' 3 (pc' := 15) (ls' := [mv_R 50, mv_I (sp_sum (sp_ns V) c), mv_I (c : Int)]) (st' := [mv_I (c : Int), mv_R 50, mv_I (sp_sum (sp_ns V) c)]) (M1 := M) rfl ?_
    refine mv_callP (st2 := [mv_I (sp_ns V c), mv_I (sp_sum (sp_ns V) c)]) rfl (Or.inl rfl) rfl rfl rfl (sp_cns_50 hV ho (by omega)) (by first | decide | omega) ?_
    refine mv_go' 4 (pc' := 4) (ls' := [mv_R 50, mv_I (mv_w ((sp_sum (sp_ns V) c) + (sp_ns V c))), mv_I (mv_w ((c : Int) + 1))]) (st' := []) (M1 := M) rfl ?_
    rw [show mv_w ((sp_sum (sp_ns V) c) + (sp_ns V c)) = (sp_sum (sp_ns V) c) + (sp_ns V c) from mv_w_id (by omega) (by omega)]
    rw [show mv_w ((c : Int) + 1) = (c : Int) + 1 from mv_w_id (by omega) (by omega)]
    rw [show (c : Int) + 1 = ((c + 1 : Nat) : Int) from by omega]
    exact ih (c + 1) (by omega)
theorem sp_can50 {V M : mv_M} (hV : sp_c 50 M V) (ho : sp_ok V) : mv_Ru 1 56 0 [mv_R 50, mv_U, mv_U] [] M (mv_I (sp_an V)) (fun M1 => M1 = M) := by
  have hr := sp_ok_s8 ho
  refine mv_go' 4 (pc' := 4) (ls' := [mv_R 50, mv_I 0, mv_I 0]) (st' := []) (M1 := M) rfl ?_
  exact sp_can50_lp hV ho (V 0 8).toNat 0 (by omega)
theorem sp_man_lp {V M : mv_M} (hV : sp_m M V) (ho : sp_ok V) : ∀ (k c : Nat), (c : Int) + k = V 0 8 → mv_Ru 1 154 4 [mv_R 100, mv_I (sp_sum (sp_ns V) c), mv_I (c : Int)] [] M (mv_I (sp_an V)) (fun M1 => M1 = M) := by
  have hr := sp_ok_s8 ho
  intro k
  induction k with
  | zero =>
    intro c hc
    unfold sp_an
    rw [show (V 0 8).toNat = c from by omega]
    refine mv_go' 3 (pc' := 9) (ls' := [mv_R 100, mv_I (sp_sum (sp_ns V) c), mv_I (c : Int)]) (st' := [mv_I (M 100 0), mv_I (c : Int)]) (M1 := M) rfl ?_
    have hr15 := sp_ok_s8 ho
    rw [show M 100 0 = V 0 8 from by exact sp_m_s8 hV]
    refine mv_go' 1 (pc' := if (c : Int) < (V 0 8) then 12 else 26) (ls' := [mv_R 100, mv_I (sp_sum (sp_ns V) c), mv_I (c : Int)]) (st' := []) (M1 := M) rfl ?_
    refine mv_ff' (by omega) ?_
    refine mv_go' 1 (pc' := 27) (ls' := [mv_R 100, mv_I (sp_sum (sp_ns V) c), mv_I (c : Int)]) (st' := [mv_I (sp_sum (sp_ns V) c)]) (M1 := M) rfl ?_
    exact mv_ret (fun n => rfl) (rfl)
  | succ k ih =>
    intro c hc
    have hb := sp_ns_sb ho c (by omega)
    have hb1 := sp_ns_b ho (show c < 6 by omega)
    refine mv_go' 3 (pc' := 9) (ls' := [mv_R 100, mv_I (sp_sum (sp_ns V) c), mv_I (c : Int)]) (st' := [mv_I (M 100 0), mv_I (c : Int)]) (M1 := M) rfl ?_
    have hr17 := sp_ok_s8 ho
    rw [show M 100 0 = V 0 8 from by exact sp_m_s8 hV]
    refine mv_go' 1 (pc' := if (c : Int) < (V 0 8) then 12 else 26) (ls' := [mv_R 100, mv_I (sp_sum (sp_ns V) c), mv_I (c : Int)]) (st' := []) (M1 := M) rfl ?_
    refine mv_tt' (by omega) ?_
    refine mv_go' 3 (pc' := 15) (ls' := [mv_R 100, mv_I (sp_sum (sp_ns V) c), mv_I (c : Int)]) (st' := [mv_I (c : Int), mv_R 100, mv_I (sp_sum (sp_ns V) c)]) (M1 := M) rfl ?_
    refine mv_callP (st2 := [mv_I (sp_ns V c), mv_I (sp_sum (sp_ns V) c)]) rfl (Or.inl rfl) rfl rfl rfl (sp_mns hV ho (by omega)) (by first | decide | omega) ?_
    refine mv_go' 4 (pc' := 4) (ls' := [mv_R 100, mv_I (mv_w ((sp_sum (sp_ns V) c) + (sp_ns V c))), mv_I (mv_w ((c : Int) + 1))]) (st' := []) (M1 := M) rfl ?_
    rw [show mv_w ((sp_sum (sp_ns V) c) + (sp_ns V c)) = (sp_sum (sp_ns V) c) + (sp_ns V c) from mv_w_id (by omega) (by omega)]
    rw [show mv_w ((c : Int) + 1) = (c : Int) + 1 from mv_w_id (by omega) (by omega)]
    rw [show (c : Int) + 1 = ((c + 1 : Nat) : Int) from by omega]
    exact ih (c + 1) (by omega)
theorem sp_man {V M : mv_M} (hV : sp_m M V) (ho : sp_ok V) : mv_Ru 1 154 0 [mv_R 100, mv_U, mv_U] [] M (mv_I (sp_an V)) (fun M1 => M1 = M) := by
  have hr := sp_ok_s8 ho
  refine mv_go' 4 (pc' := 4) (ls' := [mv_R 100, mv_I 0, mv_I 0]) (st' := []) (M1 := M) rfl ?_
  exact sp_man_lp hV ho (V 0 8).toNat 0 (by omega)
theorem sp_cas_lp {V : mv_M} {P : Nat → Nat → List Int} {n : Int} (ho : sp_ok V) (hl : V 0 11 < n) (hn : n ≤ 6) : ∀ (k c : Nat) (M : mv_M), sp_c 30 M V → sp_cts M P n → (c : Int) + k = V 0 8 → mv_Ru 5 57 4 [mv_R 30, mv_I (sp_sum (sp_s1 V P) c), mv_I (c : Int)] [] M (mv_I (sp_as V P)) (fun M1 => mv_ag [36, 37] M M1) := by
  have hS : ∀ i, 10 ≤ i → i < 28 → i ∉ [36, 37] := fun i h1 h2 => by simp; omega
  have hr := sp_ok_s8 ho
  intro k
  induction k with
  | zero =>
    intro c M hV hP hc
    unfold sp_as
    rw [show (V 0 8).toNat = c from by omega]
    refine mv_go' 3 (pc' := 9) (ls' := [mv_R 30, mv_I (sp_sum (sp_s1 V P) c), mv_I (c : Int)]) (st' := [mv_I (M 30 8), mv_I (c : Int)]) (M1 := M) rfl ?_
    have hr19 := sp_ok_s8 ho
    rw [show M 30 8 = V 0 8 from by exact sp_c_s8 hV]
    refine mv_go' 1 (pc' := if (c : Int) < (V 0 8) then 12 else 49) (ls' := [mv_R 30, mv_I (sp_sum (sp_s1 V P) c), mv_I (c : Int)]) (st' := []) (M1 := M) rfl ?_
    refine mv_ff' (by omega) ?_
    refine mv_go' 1 (pc' := 50) (ls' := [mv_R 30, mv_I (sp_sum (sp_s1 V P) c), mv_I (c : Int)]) (st' := [mv_I (sp_sum (sp_s1 V P) c)]) (M1 := M) rfl ?_
    exact mv_ret (fun n => rfl) (mv_ag.rf)
  | succ k ih =>
    intro c M hV hP hc
    have hb := sp_s1_sb P ho c (by omega)
    have hb1 := sp_s1_b P ho (show (c : Int) < V 0 8 by omega)
    have h2 := sp_ok_2 ho c (by omega)
    refine mv_go' 3 (pc' := 9) (ls' := [mv_R 30, mv_I (sp_sum (sp_s1 V P) c), mv_I (c : Int)]) (st' := [mv_I (M 30 8), mv_I (c : Int)]) (M1 := M) rfl ?_
    have hr21 := sp_ok_s8 ho
    rw [show M 30 8 = V 0 8 from by exact sp_c_s8 hV]
    refine mv_go' 1 (pc' := if (c : Int) < (V 0 8) then 12 else 49) (ls' := [mv_R 30, mv_I (sp_sum (sp_s1 V P) c), mv_I (c : Int)]) (st' := []) (M1 := M) rfl ?_
    refine mv_tt' (by omega) ?_
    refine mv_go' 6 (pc' := if 0 ≤ (c : Int) ∧ (c : Int) < 6 then 20 else mv_bad) (ls' := [mv_R 30, mv_I (sp_sum (sp_s1 V P) c), mv_I (c : Int)]) (st' := [mv_I (M 32 c), mv_R 30, mv_I (sp_sum (sp_s1 V P) c)]) (M1 := M) rfl ?_
    refine mv_tt' (by omega) ?_
    have hr23 := sp_ok_2 ho c (by omega)
    rw [show M 32 c = V 2 c from by exact sp_c_2 hV c (by omega)]
    by_cases h : V 2 c = -1
    · refine mv_callP (st2 := [mv_I 0, mv_I (sp_sum (sp_s1 V P) c)]) rfl (Or.inl rfl) rfl rfl rfl (sp_cisUncle_f_30 hV ho (by omega)) (by first | decide | omega) ?_
      refine mv_go' 1 (pc' := if 0 = 0 then 40 else 26) (ls' := [mv_R 30, mv_I (sp_sum (sp_s1 V P) c), mv_I (c : Int)]) (st' := [mv_I (sp_sum (sp_s1 V P) c)]) (M1 := M) rfl ?_
      refine mv_tt' (rfl) ?_
      refine mv_go' 5 (pc' := 4) (ls' := [mv_R 30, mv_I (mv_w ((sp_sum (sp_s1 V P) c) + 0)), mv_I (mv_w ((c : Int) + 1))]) (st' := []) (M1 := M) rfl ?_
      rw [show mv_w ((sp_sum (sp_s1 V P) c) + 0) = (sp_sum (sp_s1 V P) c) + 0 from mv_w_id (by omega) (by omega)]
      rw [show mv_w ((c : Int) + 1) = (c : Int) + 1 from mv_w_id (by omega) (by omega)]
      rw [show (c : Int) + 1 = ((c + 1 : Nat) : Int) from by omega]
      have e : sp_sum (sp_s1 V P) c + 0 = sp_sum (sp_s1 V P) (c + 1) := by simp only [sp_sum, sp_s1, if_pos h]
      rw [e]
      exact ih (c + 1) M hV hP (by omega)
    · have e1 : sp_s1 V P c = sp_suits V P c (V 2 c).toNat := if_neg h
      have e2 : V 2 c = ((V 2 c).toNat : Int) := by omega
      rw [e1] at hb1
      refine mv_callP (st2 := [mv_I 1, mv_I (sp_sum (sp_s1 V P) c)]) rfl (Or.inl rfl) rfl rfl rfl (sp_cisUncle_t_30 hV ho (by omega)) (by first | decide | omega) ?_
      refine mv_go' 1 (pc' := if 1 = 0 then 40 else 26) (ls' := [mv_R 30, mv_I (sp_sum (sp_s1 V P) c), mv_I (c : Int)]) (st' := [mv_I (sp_sum (sp_s1 V P) c)]) (M1 := M) rfl ?_
      refine mv_ff' (by decide) ?_
      refine mv_go' 6 (pc' := if 0 ≤ (c : Int) ∧ (c : Int) < 6 then 34 else mv_bad) (ls' := [mv_R 30, mv_I (sp_sum (sp_s1 V P) c), mv_I (c : Int)]) (st' := [mv_I (M 32 c), mv_I (c : Int), mv_R 30, mv_I (sp_sum (sp_s1 V P) c)]) (M1 := M) rfl ?_
      refine mv_tt' (by omega) ?_
      have hr25 := sp_ok_2 ho c (by omega)
      rw [show M 32 c = V 2 c from by exact sp_c_2 hV c (by omega)]
      refine mv_call (st2 := [mv_I (sp_suits V P c (V 2 c).toNat), mv_I (sp_sum (sp_s1 V P) c)]) rfl (Or.inl rfl) rfl rfl rfl ((mv_eqs (by rw [← e2]; rfl) rfl rfl (sp_csuits_30 (u := (V 2 c).toNat) hV ho hl hn hP (by omega) (by omega)))) (by first | decide | omega) (fun M1 h1 => ?_)
      refine mv_go' 5 (pc' := 4) (ls' := [mv_R 30, mv_I (mv_w ((sp_sum (sp_s1 V P) c) + (sp_suits V P c (V 2 c).toNat))), mv_I (mv_w ((c : Int) + 1))]) (st' := []) (M1 := M1) rfl ?_
      rw [show mv_w ((sp_sum (sp_s1 V P) c) + (sp_suits V P c (V 2 c).toNat)) = (sp_sum (sp_s1 V P) c) + (sp_suits V P c (V 2 c).toNat) from mv_w_id (by omega) (by omega)]
      rw [show mv_w ((c : Int) + 1) = (c : Int) + 1 from mv_w_id (by omega) (by omega)]
      rw [show (c : Int) + 1 = ((c + 1 : Nat) : Int) from by omega]
      have e : sp_sum (sp_s1 V P) c + sp_suits V P c (V 2 c).toNat = sp_sum (sp_s1 V P) (c + 1) := by simp only [sp_sum]; rw [e1]
      rw [e]
      exact (ih (c + 1) M1 (sp_c_ag hV h1 (by decide)) (sp_cts_ag hP h1 hn hS) (by omega)).imp (fun M2 h2 => h1.tr h2)
theorem sp_cas {V M : mv_M} {P : Nat → Nat → List Int} {n : Int} (hV : sp_c 30 M V) (ho : sp_ok V) (hl : V 0 11 < n) (hn : n ≤ 6) (hP : sp_cts M P n) : mv_Ru 5 57 0 [mv_R 30, mv_U, mv_U] [] M (mv_I (sp_as V P)) (fun M1 => mv_ag [36, 37] M M1) := by
  have hr := sp_ok_s8 ho
  refine mv_go' 4 (pc' := 4) (ls' := [mv_R 30, mv_I 0, mv_I 0]) (st' := []) (M1 := M) rfl ?_
  exact sp_cas_lp ho hl hn (V 0 8).toNat 0 M hV hP (by omega)
theorem sp_cl_id {z lo hi : Int} (h1 : lo ≤ z) (h2 : z ≤ hi) : sp_cl z lo hi = z := by unfold sp_cl; rw [if_neg (by omega), if_neg (by omega)]
theorem sp_mas_lp {V : mv_M} {P : Nat → Nat → List Int} {n : Int} (ho : sp_ok V) (hl : V 0 11 < n) : ∀ (k c : Nat) (M : mv_M), sp_m M V → sp_mts M P n → (c : Int) + k = V 0 8 → mv_Ru 5 150 4 [mv_R 100, mv_I (sp_sum (sp_s1 V P) c), mv_I (c : Int)] [] M (mv_I (sp_as V P)) (fun M1 => mv_ag [130, 131] M M1) := by
  have hr := sp_ok_s8 ho
  have hr9 := sp_ok_s9 ho
  intro k
  induction k with
  | zero =>
    intro c M hV hP hc
    unfold sp_as
    rw [show (V 0 8).toNat = c from by omega]
    refine mv_go' 3 (pc' := 9) (ls' := [mv_R 100, mv_I (sp_sum (sp_s1 V P) c), mv_I (c : Int)]) (st' := [mv_I (M 100 0), mv_I (c : Int)]) (M1 := M) rfl ?_
    have hr27 := sp_ok_s8 ho
    rw [show M 100 0 = V 0 8 from by exact sp_m_s8 hV]
    refine mv_go' 1 (pc' := if (c : Int) < (V 0 8) then 12 else 51) (ls' := [mv_R 100, mv_I (sp_sum (sp_s1 V P) c), mv_I (c : Int)]) (st' := []) (M1 := M) rfl ?_
    refine mv_ff' (by omega) ?_
    refine mv_go' 1 (pc' := 52) (ls' := [mv_R 100, mv_I (sp_sum (sp_s1 V P) c), mv_I (c : Int)]) (st' := [mv_I (sp_sum (sp_s1 V P) c)]) (M1 := M) rfl ?_
    exact mv_ret (fun n => rfl) (mv_ag.rf)
  | succ k ih =>
    intro c M hV hP hc
    have hb := sp_s1_sb P ho c (by omega)
    have hb1 := sp_s1_b P ho (show (c : Int) < V 0 8 by omega)
    have h2 := sp_ok_2 ho c (by omega)
    refine mv_go' 3 (pc' := 9) (ls' := [mv_R 100, mv_I (sp_sum (sp_s1 V P) c), mv_I (c : Int)]) (st' := [mv_I (M 100 0), mv_I (c : Int)]) (M1 := M) rfl ?_
    have hr29 := sp_ok_s8 ho
    rw [show M 100 0 = V 0 8 from by exact sp_m_s8 hV]
    refine mv_go' 1 (pc' := if (c : Int) < (V 0 8) then 12 else 51) (ls' := [mv_R 100, mv_I (sp_sum (sp_s1 V P) c), mv_I (c : Int)]) (st' := []) (M1 := M) rfl ?_
    refine mv_tt' (by omega) ?_
    refine mv_go' 5 (pc' := if 0 ≤ (c : Int) ∧ (c : Int) < 6 then 19 else mv_bad) (ls' := [mv_R 100, mv_I (sp_sum (sp_s1 V P) c), mv_I (c : Int)]) (st' := [mv_I (M 106 c), mv_I (sp_sum (sp_s1 V P) c)]) (M1 := M) rfl ?_
    refine mv_tt' (by omega) ?_
    have hr31 := sp_ok_2 ho c (by omega)
    rw [show M 106 c = V 2 c from by exact sp_m_2 hV c (by omega)]
    refine mv_go' 2 (pc' := if (V 2 c) = (-1) then 23 else 27) (ls' := [mv_R 100, mv_I (sp_sum (sp_s1 V P) c), mv_I (c : Int)]) (st' := [mv_I (sp_sum (sp_s1 V P) c)]) (M1 := M) rfl ?_
    refine mv_sp' (fun h => ?_) (fun h => ?_)
    · refine mv_go' 6 (pc' := 4) (ls' := [mv_R 100, mv_I (mv_w ((sp_sum (sp_s1 V P) c) + 0)), mv_I (mv_w ((c : Int) + 1))]) (st' := []) (M1 := M) rfl ?_
      rw [show mv_w ((sp_sum (sp_s1 V P) c) + 0) = (sp_sum (sp_s1 V P) c) + 0 from mv_w_id (by omega) (by omega)]
      rw [show mv_w ((c : Int) + 1) = (c : Int) + 1 from mv_w_id (by omega) (by omega)]
      rw [show (c : Int) + 1 = ((c + 1 : Nat) : Int) from by omega]
      have e : sp_sum (sp_s1 V P) c + 0 = sp_sum (sp_s1 V P) (c + 1) := by simp only [sp_sum, sp_s1, if_pos h]
      rw [e]
      exact ih (c + 1) M hV hP (by omega)
    · have e1 : sp_s1 V P c = sp_suits V P c (V 2 c).toNat := if_neg h
      have e2 : V 2 c = ((V 2 c).toNat : Int) := by omega
      rw [e1] at hb1
      refine mv_go' 6 (pc' := if 0 ≤ (c : Int) ∧ (c : Int) < 6 then 35 else mv_bad) (ls' := [mv_R 100, mv_I (sp_sum (sp_s1 V P) c), mv_I (c : Int)]) (st' := [mv_I (M 106 c), mv_I (c : Int), mv_R 100, mv_I (sp_sum (sp_s1 V P) c)]) (M1 := M) rfl ?_
      refine mv_tt' (by omega) ?_
      have hr33 := sp_ok_2 ho c (by omega)
      rw [show M 106 c = V 2 c from by exact sp_m_2 hV c (by omega)]
      refine mv_go' 2 (pc' := 37) (ls' := [mv_R 100, mv_I (sp_sum (sp_s1 V P) c), mv_I (c : Int)]) (st' := [mv_I 5, mv_I 0, mv_I (V 2 c), mv_I (c : Int), mv_R 100, mv_I (sp_sum (sp_s1 V P) c)]) (M1 := M) rfl ?_
      refine mv_callP (st2 := [mv_I (V 2 c), mv_I (c : Int), mv_R 100, mv_I (sp_sum (sp_s1 V P) c)]) rfl (Or.inr rfl) rfl rfl rfl ((sp_mwithin).val (congrArg mv_I (sp_cl_id (by omega) (by omega)))) (by first | decide | omega) ?_
      refine mv_call (st2 := [mv_I (sp_suits V P c (V 2 c).toNat), mv_I (sp_sum (sp_s1 V P) c)]) rfl (Or.inl rfl) rfl rfl rfl ((mv_eqs (by rw [← e2]; rfl) rfl rfl (sp_msuits (u := (V 2 c).toNat) hV ho hl hP (by omega) (by omega)))) (by first | decide | omega) (fun M1 h1 => ?_)
      refine mv_go' 4 (pc' := 4) (ls' := [mv_R 100, mv_I (mv_w ((sp_sum (sp_s1 V P) c) + (sp_suits V P c (V 2 c).toNat))), mv_I (mv_w ((c : Int) + 1))]) (st' := []) (M1 := M1) rfl ?_
      rw [show mv_w ((sp_sum (sp_s1 V P) c) + (sp_suits V P c (V 2 c).toNat)) = (sp_sum (sp_s1 V P) c) + (sp_suits V P c (V 2 c).toNat) from mv_w_id (by omega) (by omega)]
      rw [show mv_w ((c : Int) + 1) = (c : Int) + 1 from mv_w_id (by omega) (by omega)]
      rw [show (c : Int) + 1 = ((c + 1 : Nat) : Int) from by omega]
      have e : sp_sum (sp_s1 V P) c + sp_suits V P c (V 2 c).toNat = sp_sum (sp_s1 V P) (c + 1) := by simp only [sp_sum]; rw [e1]
      rw [e]
      exact (ih (c + 1) M1 (sp_m_ag2 hV h1 (by decide)) (sp_mts_ag hP h1 (by decide)) (by omega)).imp (fun M2 h2 => h1.tr h2)
theorem sp_mas {V M : mv_M} {P : Nat → Nat → List Int} {n : Int} (hV : sp_m M V) (ho : sp_ok V) (hl : V 0 11 < n) (hP : sp_mts M P n) : mv_Ru 5 150 0 [mv_R 100, mv_U, mv_U] [] M (mv_I (sp_as V P)) (fun M1 => mv_ag [130, 131] M M1) := by
  have hr := sp_ok_s8 ho
  refine mv_go' 4 (pc' := 4) (ls' := [mv_R 100, mv_I 0, mv_I 0]) (st' := []) (M1 := M) rfl ?_
  exact sp_mas_lp ho hl (V 0 8).toNat 0 M hV hP (by omega)
