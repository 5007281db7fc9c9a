/-! best: gains, the call -/
theorem sp_G_p {u r : Nat} (hu : u < 6) (hr : r < 6) : 0 ≤ ((u : Int) + 1) * sp_tn r ∧ ((u : Int) + 1) * sp_tn r ≤ 600000 := by
  obtain ⟨_, h1, h2⟩ := sp_tn_r hr
  have a := Int.mul_nonneg (show 0 ≤ (u : Int) + 1 by omega) (show 0 ≤ sp_tn r by omega)
  have b := Int.mul_le_mul (show (u : Int) + 1 ≤ 6 by omega) h2 (by omega) (by omega)
  omega
theorem sp_G_b {V : mv_M} (P : Nat → Nat → List Int) (ho : sp_ok V) {u : Nat} (hu : (u : Int) < V 0 9) (c : Nat) : -2000000000 ≤ sp_G V P u c ∧ sp_G V P u c ≤ 2000000000 := by
  have h8 := sp_ok_s8 ho
  have h9 := sp_ok_s9 ho
  have hs := sp_suits_b P ho c hu
  have hp := sp_G_p (u := u) (r := (V 0 8).toNat - 1 - c) (by omega) (by omega)
  unfold sp_G
  omega
theorem sp_cag2 {V M0 : mv_M} {P : Nat → Nat → List Int} {u d : Nat} (ho : sp_ok V) (ht : sp_tb V P M0) (hu : (u : Int) < V 0 9) :
    ∀ (r c : Nat) (M : mv_M) (l3 l4 l5 l6 : mv_V), ((c + r : Nat) : Int) = V 0 8 → mv_ag [68] M0 M → (∀ t, t < 2 ^ c → M 68 t = sp_gb (sp_G V P u) t c) →
      mv_Ru d 36 9 [mv_R 60, mv_I (u : Int), mv_I (c : Int), l3, l4, l5, l6] [] M mv_U (fun M1 => mv_ag [68] M0 M1 ∧ ∀ t, t < 2 ^ (V 0 8).toNat → M1 68 t = sp_gb (sp_G V P u) t (V 0 8).toNat) := by
  have h8 := sp_ok_s8 ho
  have h9 := sp_ok_s9 ho
  intro r
  induction r with
  | zero =>
    intro c M l3 l4 l5 l6 hk hag hlo
    have e8 : M 60 8 = (c : Int) := by rw [hag 60 (by decide), ht.1.1]; omega
    rw [show (V 0 8).toNat = c from by omega]
    refine mv_go' 3 (pc' := 14) (ls' := [mv_R 60, mv_I (u : Int), mv_I (c : Int), l3, l4, l5, l6]) (st' := [mv_I (M 60 8), mv_I (c : Int)]) (M1 := M) rfl ?_
    rw [show M 60 8 = (c : Int) from by exact e8]
    refine mv_go' 1 (pc' := if (c : Int) < (c : Int) then 17 else 98) (ls' := [mv_R 60, mv_I (u : Int), mv_I (c : Int), l3, l4, l5, l6]) (st' := []) (M1 := M) rfl ?_
    refine mv_ff' (by omega) ?_
    exact mv_ret (fun n => rfl) ⟨hag, hlo⟩
  | succ r ih =>
    intro c M l3 l4 l5 l6 hk hag hlo
    have e8 : M 60 8 = ((c + r + 1 : Nat) : Int) := by rw [hag 60 (by decide), ht.1.1]; omega
    have es : M 61 (6 * c + u) = sp_suits V P c u := by rw [hag 61 (by decide)]; exact ht.2.2 c u (by omega) hu
    have hs := sp_suits_b P ho c hu
    have hp := sp_G_p (u := u) (r := r) (by omega) (by omega)
    obtain ⟨hp1, hp2, hp3⟩ := sp_p2 (c := c) (by omega)
    have hr := (sp_tn_r (k := r) (by omega)).1
    refine mv_go' 3 (pc' := 14) (ls' := [mv_R 60, mv_I (u : Int), mv_I (c : Int), l3, l4, l5, l6]) (st' := [mv_I (M 60 8), mv_I (c : Int)]) (M1 := M) rfl ?_
    rw [show M 60 8 = ((c + r + 1 : Nat) : Int) from by exact e8]
    refine mv_go' 1 (pc' := if (c : Int) < ((c + r + 1 : Nat) : Int) then 17 else 98) (ls' := [mv_R 60, mv_I (u : Int), mv_I (c : Int), l3, l4, l5, l6]) (st' := []) (M1 := M) rfl ?_
    refine mv_tt' (by omega) ?_
    refine mv_go' 7 (pc' := 27) (ls' := [mv_R 60, mv_I (u : Int), mv_I (c : Int), l3, l4, l5, l6]) (st' := [mv_I (mv_w ((mv_w ((c : Int) * 6)) + (u : Int))), mv_R 61]) (M1 := M) rfl ?_
    rw [show mv_w ((mv_w ((c : Int) * 6)) + (u : Int)) = ((6 * c + u : Nat) : Int) from by (rw [show mv_w ((c : Int) * 6) = (c : Int) * 6 from mv_w_id (by omega) (by omega), show mv_w (((c : Int) * 6) + (u : Int)) = ((c : Int) * 6) + (u : Int) from mv_w_id (by omega) (by omega)]) <;> omega]
    refine mv_go' 1 (pc' := if 0 ≤ ((6 * c + u : Nat) : Int) ∧ ((6 * c + u : Nat) : Int) < 36 then 28 else mv_bad) (ls' := [mv_R 60, mv_I (u : Int), mv_I (c : Int), l3, l4, l5, l6]) (st' := [mv_I (M 61 (6 * c + u))]) (M1 := M) rfl ?_
    refine mv_tt' (by omega) ?_
    rw [show M 61 (6 * c + u) = sp_suits V P c u from by exact es]
    refine mv_go' 10 (pc' := 43) (ls' := [mv_R 60, mv_I (u : Int), mv_I (c : Int), l3, l4, l5, l6]) (st' := [mv_I (M 60 8), mv_R 201, mv_L (mv_w ((u : Int) + 1)), mv_L (mv_lshl (sp_suits V P c u) 20)]) (M1 := M) rfl ?_
    rw [show M 60 8 = ((c + r + 1 : Nat) : Int) from by exact e8]
    refine mv_go' 4 (pc' := 47) (ls' := [mv_R 60, mv_I (u : Int), mv_I (c : Int), l3, l4, l5, l6]) (st' := [mv_I (mv_w ((mv_w (((c + r + 1 : Nat) : Int) - 1)) - (c : Int))), mv_R 201, mv_L (mv_w ((u : Int) + 1)), mv_L (mv_lshl (sp_suits V P c u) 20)]) (M1 := M) rfl ?_
    rw [show mv_w ((mv_w (((c + r + 1 : Nat) : Int) - 1)) - (c : Int)) = (r : Int) from by (rw [show mv_w (((c + r + 1 : Nat) : Int) - 1) = ((c + r + 1 : Nat) : Int) - 1 from mv_w_id (by omega) (by omega), show mv_w ((((c + r + 1 : Nat) : Int) - 1) - (c : Int)) = (((c + r + 1 : Nat) : Int) - 1) - (c : Int) from mv_w_id (by omega) (by omega)]) <;> omega]
    refine mv_go' 1 (pc' := if 0 ≤ (r : Int) ∧ (r : Int) < 6 then 48 else mv_bad) (ls' := [mv_R 60, mv_I (u : Int), mv_I (c : Int), l3, l4, l5, l6]) (st' := [mv_I (mv_ro 201 r), mv_L (mv_w ((u : Int) + 1)), mv_L (mv_lshl (sp_suits V P c u) 20)]) (M1 := M) rfl ?_
    refine mv_tt' (by omega) ?_
    rw [show mv_ro 201 r = sp_tn r from by exact hr]
    refine mv_go' 3 (pc' := 51) (ls' := [mv_R 60, mv_I (u : Int), mv_I (c : Int), l3, l4, l5, l6]) (st' := [mv_L (mv_wl ((mv_lshl (sp_suits V P c u) 20) - (mv_wl ((mv_w ((u : Int) + 1)) * (sp_tn r)))))]) (M1 := M) rfl ?_
    rw [show mv_w ((u : Int) + 1) = (u : Int) + 1 from mv_w_id (by omega) (by omega)]
    rw [show mv_wl ((mv_lshl (sp_suits V P c u) 20) - (mv_wl (((u : Int) + 1) * (sp_tn r)))) = sp_G V P u c from by
      unfold sp_G
      rw [mv_lshl20 (by omega) (by omega), mv_wl_id (z := ((u : Int) + 1) * sp_tn r) (by omega) (by omega), mv_wl_id (by omega) (by omega), show (V 0 8).toNat - 1 - c = r from by omega]]
    refine mv_go' 4 (pc' := 55) (ls' := [mv_R 60, mv_I (u : Int), mv_I (c : Int), mv_L (sp_G V P u c), mv_U, l5, l6]) (st' := [mv_I (mv_shl 1 (c : Int))]) (M1 := M) rfl ?_
    rw [show mv_shl 1 (c : Int) = ((2 ^ c : Nat) : Int) from by exact hp3]
    refine mv_go' 3 (pc' := 60) (ls' := [mv_R 60, mv_I (u : Int), mv_I (c : Int), mv_L (sp_G V P u c), mv_U, mv_I ((2 ^ c : Nat) : Int), mv_I 0]) (st' := []) (M1 := M) rfl ?_
    refine sp_cag1 (u := u) (c := c) (g := sp_G V P u) (by omega) (fun x => sp_G_b P ho hu x) (2 ^ c) 0 M (by omega) hag hlo (fun t ht => absurd ht (by omega)) (fun M2 l6 q1 q2 h6 => ?_)
    refine mv_go' 2 (pc' := 9) (ls' := [mv_R 60, mv_I (u : Int), mv_I (mv_w ((c : Int) + 1)), mv_L (sp_G V P u c), mv_U, mv_I ((2 ^ c : Nat) : Int), l6]) (st' := []) (M1 := M2) rfl ?_
    rw [show mv_w ((c : Int) + 1) = (c : Int) + 1 from mv_w_id (by omega) (by omega)]
    rw [show (c : Int) + 1 = ((c + 1 : Nat) : Int) from by omega]
    exact ih (c + 1) M2 _ _ _ _ (by omega) q1 q2
theorem sp_cag {V M0 : mv_M} {P : Nat → Nat → List Int} {u : Nat} (ho : sp_ok V) (ht : sp_tb V P M0) (hu : (u : Int) < V 0 9) :
    mv_Ru 0 36 0 [mv_R 60, mv_I (u : Int), mv_U, mv_U, mv_U, mv_U, mv_U] [] M0 mv_U (fun M1 => mv_ag [68] M0 M1 ∧ ∀ t, t < 2 ^ (V 0 8).toNat → M1 68 t = sp_gb (sp_G V P u) t (V 0 8).toNat) := by
  have h8 := sp_ok_s8 ho
  refine mv_go' 5 (pc' := if 0 ≤ 0 ∧ 0 < 64 then 7 else mv_bad) (ls' := [mv_R 60, mv_I (u : Int), mv_U, mv_U, mv_U, mv_U, mv_U]) (st' := []) (M1 := (mv_st M0 68 (mv_up (M0 68) 0 0))) rfl ?_
  refine mv_tt' (by omega) ?_
  refine mv_go' 2 (pc' := 9) (ls' := [mv_R 60, mv_I (u : Int), mv_I 0, mv_U, mv_U, mv_U, mv_U]) (st' := []) (M1 := (mv_st M0 68 (mv_up (M0 68) 0 0))) rfl ?_
  exact sp_cag2 (d := 0) ho ht hu (V 0 8).toNat 0 _ mv_U mv_U mv_U mv_U (by omega) (mv_ag.st mv_ag.rf (by decide)) (fun t ht => by rw [show t = 0 from by omega]; rfl)
