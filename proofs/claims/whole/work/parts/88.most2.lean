/-! best: most, sumOf, rowOf of the class -/
theorem sp_fillL_lp {z : Int} : ∀ (r k : Nat) (M : mv_M), k + r = 64 → (∀ j, j < k → M 67 j = z) → mv_Ru 0 205 6 [mv_R 67, mv_L z, mv_U, mv_I (k : Int), mv_I 64] [] M mv_U (fun M1 => mv_ag [67] M M1 ∧ ∀ j, j < 64 → M1 67 j = z) := by
  intro r
  induction r with
  | zero =>
    intro k M hk h
    have hk : k = 64 := by omega
    subst hk
    refine mv_go' 3 (pc' := if ((64 : Nat) : Int) < 64 then 12 else 22) (ls' := [mv_R 67, mv_L z, mv_U, mv_I ((64 : Nat) : Int), mv_I 64]) (st' := []) (M1 := M) rfl ?_
    refine mv_ff' (by decide) ?_
    exact mv_ret (fun n => rfl) (⟨mv_ag.rf, h⟩)
  | succ r ih =>
    intro k M hk h
    refine mv_go' 3 (pc' := if (k : Int) < 64 then 12 else 22) (ls' := [mv_R 67, mv_L z, mv_U, mv_I (k : Int), mv_I 64]) (st' := []) (M1 := M) rfl ?_
    refine mv_tt' (by omega) ?_
    refine mv_go' 4 (pc' := if 0 ≤ (k : Int) ∧ (k : Int) < 64 then 16 else mv_bad) (ls' := [mv_R 67, mv_L z, mv_U, mv_I (k : Int), mv_I 64]) (st' := []) (M1 := (mv_st M 67 (mv_up (M 67) k z))) rfl ?_
    refine mv_tt' (by omega) ?_
    refine mv_go' 2 (pc' := 6) (ls' := [mv_R 67, mv_L z, mv_U, mv_I (mv_w ((k : Int) + 1)), mv_I 64]) (st' := []) (M1 := (mv_st M 67 (mv_up (M 67) k z))) rfl ?_
    rw [show mv_w ((k : Int) + 1) = ((k + 1 : Nat) : Int) from by (rw [show mv_w ((k : Int) + 1) = (k : Int) + 1 from mv_w_id (by omega) (by omega)]) <;> omega]
    refine (ih (k + 1) _ (by omega) (fun j hj => ?_)).imp (fun M1 h1 => ⟨mv_ag.tr (mv_ag.st mv_ag.rf (by decide)) h1.1, h1.2⟩)
    show mv_up (M 67) k z j = z
    by_cases q : j = k
    · rw [q, mv_up_s]
    · rw [mv_up_n _ _ q]; exact h j (by omega)
theorem sp_fillL {M : mv_M} {z : Int} : mv_Ru 0 205 0 [mv_R 67, mv_L z, mv_U, mv_U, mv_U] [] M mv_U (fun M1 => mv_ag [67] M M1 ∧ ∀ j, j < 64 → M1 67 j = z) := by
  refine mv_go' 5 (pc' := 6) (ls' := [mv_R 67, mv_L z, mv_U, mv_I 0, mv_I 64]) (st' := []) (M1 := M) rfl ?_
  exact sp_fillL_lp 64 0 M (by omega) (fun j hj => absurd hj (by omega))
def sp_mo (V : mv_M) (P : Nat → Nat → List Int) (w : Int) : Nat → Nat → Int
  | 0 => fun _ => 0
  | k + 1 => if (k : Int) = w then sp_mo V P w k else sp_of (sp_mo V P w k) (fun t => sp_gb (sp_G V P k) t (V 0 8).toNat) (sp_room V k)
theorem sp_mo_b {V : mv_M} (P : Nat → Nat → List Int) (ho : sp_ok V) (w : Int) : ∀ (k : Nat), (k : Int) ≤ V 0 9 → ∀ t, t < 64 → -((k : Int) * 20000000000) ≤ sp_mo V P w k t ∧ sp_mo V P w k t ≤ (k : Int) * 20000000000
  | 0, _, t, _ => by simp [sp_mo]
  | k + 1, hk, t, ht => by
    have h := sp_mo_b P ho w k (by omega)
    simp only [sp_mo]
    by_cases q : (k : Int) = w
    · rw [if_pos q]
      have := h t ht
      omega
    · rw [if_neg q]
      have := sp_of_b (rm := sp_room V k) (B := (k : Int) * 20000000000) (by omega) (fun t _ => sp_gbb P ho (u := k) (by omega) t) h ht
      omega
theorem sp_cmo_lp {V M0 : mv_M} {P : Nat → Nat → List Int} {w : Int} (ho : sp_ok V) (ht : sp_tb V P M0) :
    ∀ (r k : Nat) (M : mv_M), (k : Int) + r = V 0 9 → mv_ag [67, 68] M0 M → (∀ t, t < 2 ^ (V 0 8).toNat → M 67 t = sp_mo V P w k t) →
      mv_Ru 3 34 10 [mv_R 60, mv_I w, mv_I (k : Int)] [] M (mv_L (sp_mo V P w (V 0 9).toNat (2 ^ (V 0 8).toNat - 1))) (fun M1 => mv_ag [67, 68] M0 M1) := by
  have h8 := sp_ok_s8 ho
  have h9 := sp_ok_s9 ho
  obtain ⟨hp1, hp2, hp3⟩ := sp_p2b (c := (V 0 8).toNat) (by omega)
  rw [show ((V 0 8).toNat : Int) = V 0 8 from by omega] at hp3
  intro r
  induction r with
  | zero =>
    intro k M hk hag hold
    have e9 : M 60 9 = (k : Int) := by rw [hag 60 (by decide), ht.1.2]; omega
    have e8 : M 60 8 = V 0 8 := by rw [hag 60 (by decide), ht.1.1]
    have eN : mv_w (((2 ^ (V 0 8).toNat : Nat) : Int) - 1) = ((2 ^ (V 0 8).toNat - 1 : Nat) : Int) := by rw [mv_w_id (by omega) (by omega)]; omega
    have hl := hold (2 ^ (V 0 8).toNat - 1) (by omega)
    rw [show (V 0 9).toNat = k from by omega, ← hl]
    obtain ⟨N, hN⟩ : ∃ N : Nat, N = 2 ^ (V 0 8).toNat - 1 := ⟨_, rfl⟩
    rw [← hN] at eN ⊢
    refine mv_go' 3 (pc' := 15) (ls' := [mv_R 60, mv_I w, mv_I (k : Int)]) (st' := [mv_I (M 60 9), mv_I (k : Int)]) (M1 := M) rfl ?_
    rw [show M 60 9 = (k : Int) from by exact e9]
    refine mv_go' 1 (pc' := if (k : Int) < (k : Int) then 18 else 34) (ls' := [mv_R 60, mv_I w, mv_I (k : Int)]) (st' := []) (M1 := M) rfl ?_
    refine mv_ff' (by omega) ?_
    refine mv_go' 5 (pc' := 43) (ls' := [mv_R 60, mv_I w, mv_I (k : Int)]) (st' := [mv_I (M 60 8), mv_I 1, mv_R 67]) (M1 := M) rfl ?_
    rw [show M 60 8 = V 0 8 from by exact e8]
    refine mv_go' 1 (pc' := 44) (ls' := [mv_R 60, mv_I w, mv_I (k : Int)]) (st' := [mv_I (mv_shl 1 (V 0 8)), mv_R 67]) (M1 := M) rfl ?_
    rw [show mv_shl 1 (V 0 8) = ((2 ^ (V 0 8).toNat : Nat) : Int) from by exact hp3]
    refine mv_go' 2 (pc' := 46) (ls' := [mv_R 60, mv_I w, mv_I (k : Int)]) (st' := [mv_I (mv_w (((2 ^ (V 0 8).toNat : Nat) : Int) - 1)), mv_R 67]) (M1 := M) rfl ?_
    rw [show mv_w (((2 ^ (V 0 8).toNat : Nat) : Int) - 1) = (N : Int) from by exact eN]
    refine mv_go' 1 (pc' := if 0 ≤ (N : Int) ∧ (N : Int) < 64 then 47 else mv_bad) (ls' := [mv_R 60, mv_I w, mv_I (k : Int)]) (st' := [mv_L (M 67 N)]) (M1 := M) rfl ?_
    refine mv_tt' (by omega) ?_
    exact mv_ret (fun n => rfl) hag
  | succ r ih =>
    intro k M hk hag hold
    have e9 : M 60 9 = V 0 9 := by rw [hag 60 (by decide), ht.1.2]
    by_cases q : (k : Int) = w
    · have es : sp_mo V P w (k + 1) = sp_mo V P w k := by simp only [sp_mo]; rw [if_pos q]
      refine mv_go' 3 (pc' := 15) (ls' := [mv_R 60, mv_I w, mv_I (k : Int)]) (st' := [mv_I (M 60 9), mv_I (k : Int)]) (M1 := M) rfl ?_
      rw [show M 60 9 = V 0 9 from by exact e9]
      refine mv_go' 1 (pc' := if (k : Int) < (V 0 9) then 18 else 34) (ls' := [mv_R 60, mv_I w, mv_I (k : Int)]) (st' := []) (M1 := M) rfl ?_
      refine mv_tt' (by omega) ?_
      refine mv_go' 3 (pc' := if (k : Int) = w then 28 else 23) (ls' := [mv_R 60, mv_I w, mv_I (k : Int)]) (st' := []) (M1 := M) rfl ?_
      refine mv_tt' (by omega) ?_
      refine mv_go' 2 (pc' := 10) (ls' := [mv_R 60, mv_I w, mv_I (mv_w ((k : Int) + 1))]) (st' := []) (M1 := M) rfl ?_
      rw [show mv_w ((k : Int) + 1) = (k : Int) + 1 from mv_w_id (by omega) (by omega)]
      rw [show (k : Int) + 1 = ((k + 1 : Nat) : Int) from by omega]
      exact ih (k + 1) M (by omega) hag (fun t ht2 => by rw [es]; exact hold t ht2)
    · have es : sp_mo V P w (k + 1) = sp_of (sp_mo V P w k) (fun t => sp_gb (sp_G V P k) t (V 0 8).toNat) (sp_room V k) := by simp only [sp_mo]; rw [if_neg q]
      refine mv_go' 3 (pc' := 15) (ls' := [mv_R 60, mv_I w, mv_I (k : Int)]) (st' := [mv_I (M 60 9), mv_I (k : Int)]) (M1 := M) rfl ?_
      rw [show M 60 9 = V 0 9 from by exact e9]
      refine mv_go' 1 (pc' := if (k : Int) < (V 0 9) then 18 else 34) (ls' := [mv_R 60, mv_I w, mv_I (k : Int)]) (st' := []) (M1 := M) rfl ?_
      refine mv_tt' (by omega) ?_
      refine mv_go' 3 (pc' := if (k : Int) = w then 28 else 23) (ls' := [mv_R 60, mv_I w, mv_I (k : Int)]) (st' := []) (M1 := M) rfl ?_
      refine mv_ff' (by omega) ?_
      refine mv_go' 2 (pc' := 25) (ls' := [mv_R 60, mv_I w, mv_I (k : Int)]) (st' := [mv_I (k : Int), mv_R 60]) (M1 := M) rfl ?_
      refine mv_call (st2 := []) rfl (Or.inl rfl) rfl rfl rfl (sp_cof (B := (k : Int) * 20000000000) ho (sp_tb_ag ht hag (by decide)) (by omega) (by omega) (sp_mo_b P ho w k (by omega)) hold) (by first | decide | omega) (fun Ma1 hm2 => ?_)
      have hx := hm2
      refine mv_go' 2 (pc' := 10) (ls' := [mv_R 60, mv_I w, mv_I (mv_w ((k : Int) + 1))]) (st' := []) (M1 := Ma1) rfl ?_
      rw [show mv_w ((k : Int) + 1) = (k : Int) + 1 from mv_w_id (by omega) (by omega)]
      rw [show (k : Int) + 1 = ((k + 1 : Nat) : Int) from by omega]
      exact ih (k + 1) _ (by omega) (hag.tr hx.1) (fun t ht2 => by rw [es]; exact hx.2 t ht2)
theorem sp_cmo {V M : mv_M} {P : Nat → Nat → List Int} {w : Int} (ho : sp_ok V) (ht : sp_tb V P M) : mv_Ru 3 34 0 [mv_R 60, mv_I w, mv_U] [] M (mv_L (sp_mo V P w (V 0 9).toNat (2 ^ (V 0 8).toNat - 1))) (fun M1 => mv_ag [67, 68] M M1) := by
  have h8 := sp_ok_s8 ho
  have h9 := sp_ok_s9 ho
  have hp := sp_p2b (c := (V 0 8).toNat) (by omega)
  refine mv_go' 3 (pc' := 5) (ls' := [mv_R 60, mv_I w, mv_U]) (st' := [mv_L 0, mv_R 67]) (M1 := M) rfl ?_
  refine mv_call (st2 := []) rfl (Or.inr rfl) rfl rfl rfl (sp_fillL) (by first | decide | omega) (fun Ma3 hm4 => ?_)
  have hx := hm4
  refine mv_go' 2 (pc' := 10) (ls' := [mv_R 60, mv_I w, mv_I 0]) (st' := []) (M1 := Ma3) rfl ?_
  have hag : mv_ag [67, 68] M Ma3 := hx.1.wd (by decide)
  exact (sp_cmo_lp (M0 := Ma3) (P := P) ho (sp_tb_ag ht hag (by decide)) (V 0 9).toNat 0 Ma3 (by omega) mv_ag.rf (fun t ht2 => hx.2 t (by omega))).imp (fun M1 q => hag.tr q)
/-- the sum, and the row, of what most tells -/
def sp_so (x : Int) : Int := (x + 1048575) / 1048576
theorem sp_csum {M : mv_M} {x : Int} (h1 : -200000000000 ≤ x) (h2 : x ≤ 200000000000) : mv_Ru 0 110 0 [mv_L x, mv_U] [] M (mv_I (sp_so x)) (fun M1 => M1 = M) := by
  have e : mv_w (mv_lshr (mv_wl ((mv_wl (x + 1048576)) - 1)) 20) = sp_so x := by
    rw [mv_wl_id (z := x + 1048576) (by omega) (by omega), mv_wl_id (by omega) (by omega), mv_lshr20 (by omega) (by omega)]
    unfold sp_so
    rw [mv_w_id (by omega) (by omega), show x + 1048576 - 1 = x + 1048575 from by omega]
  refine mv_go' 8 (pc' := 11) (ls' := [mv_L x, mv_U]) (st' := [mv_I (mv_w (mv_lshr (mv_wl ((mv_wl (x + 1048576)) - 1)) 20))]) (M1 := M) rfl ?_
  exact mv_Ru.val (mv_ret (fun n => rfl) rfl) (congrArg mv_I e)
theorem sp_crow {M : mv_M} {x : Int} (h1 : -200000000000 ≤ x) (h2 : x ≤ 200000000000) : mv_Ru 1 111 0 [mv_L x, mv_U] [] M (mv_I (sp_so x * 1048576 - x)) (fun M1 => M1 = M) := by
  have hs : -200000 ≤ sp_so x ∧ sp_so x ≤ 200000 := by unfold sp_so; omega
  have hr : 0 ≤ sp_so x * 1048576 - x ∧ sp_so x * 1048576 - x < 1048576 := by unfold sp_so; omega
  have e : mv_w (mv_wl ((mv_lshl (sp_so x) 20) - x)) = sp_so x * 1048576 - x := by
    rw [mv_lshl20 (by omega) (by omega), mv_wl_id (by omega) (by omega), mv_w_id (by omega) (by omega)]
  refine mv_go' 1 (pc' := 1) (ls' := [mv_L x, mv_U]) (st' := [mv_L x]) (M1 := M) rfl ?_
  refine mv_callP (st2 := [mv_I (sp_so x)]) rfl (Or.inr rfl) rfl rfl rfl (sp_csum h1 h2) (by first | decide | omega) ?_
  refine mv_go' 6 (pc' := 11) (ls' := [mv_L x, mv_U]) (st' := [mv_I (mv_w (mv_wl ((mv_lshl (sp_so x) 20) - x)))]) (M1 := M) rfl ?_
  exact mv_Ru.val (mv_ret (fun n => rfl) rfl) (congrArg mv_I e)
