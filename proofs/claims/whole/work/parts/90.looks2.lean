/-! best: looksAt -/
theorem sp_mla_lp {V M0 : mv_M} {P : Nat → Nat → List Int} {rm : Nat → Int} {b N d : Nat} (ho : sp_ok V) (hb : (b : Int) = V 0 9 + 1) (h100 : M0 100 1 = V 0 9) (hrm : ∀ u : Nat, (u : Int) < V 0 9 → M0 134 u = rm u) (ht : ∀ c u : Nat, (c : Int) < V 0 8 → (u : Int) < V 0 9 → M0 133 (6 * c + u) = sp_suits V P c u) (hN : N < 200000) :
    ∀ (r j : Nat) (M : mv_M) (l6 : mv_V), ((j + r : Nat) : Int) = V 0 8 → mv_ag [100, 135] M0 M → (∀ x, x ≠ 38 → x ≠ 39 → M 100 x = M0 100 x) → M 100 38 = sp_kd b N j → M 100 39 = sp_ks V P b N j → (∀ u : Nat, (u : Int) < V 0 9 → M 135 u = sp_kh b N j u) → sp_kg rm b N j = 1 → mv_isL l6 = false →
      mv_Ru d 158 51 [mv_R 100, mv_I (N : Int), mv_I (sp_lf b N j : Int), mv_I (sp_tn j), mv_I 1, mv_I ((r : Int) - 1), l6] [] M (mv_I (sp_kg rm b N (V 0 8).toNat)) (fun M1 => (mv_ag [100, 135] M0 M1 ∧ ∀ x, x ≠ 38 → x ≠ 39 → M1 100 x = M0 100 x) ∧ (sp_kg rm b N (V 0 8).toNat = 1 → M1 100 38 = sp_kd b N (V 0 8).toNat ∧ M1 100 39 = sp_ks V P b N (V 0 8).toNat)) := by
  have h8 := sp_ok_s8 ho
  have h9 := sp_ok_s9 ho
  intro r
  induction r with
  | zero =>
    intro j M l6 hk hag hf h38 h39 hh hg h6
    rw [show (V 0 8).toNat = j from by omega, hg]
    refine mv_go' 2 (pc' := if (((0 : Nat) : Int) - 1) < 0 then 170 else 56) (ls' := [mv_R 100, mv_I (N : Int), mv_I (sp_lf b N j : Int), mv_I (sp_tn j), mv_I 1, mv_I (((0 : Nat) : Int) - 1), l6]) (st' := []) (M1 := M) rfl ?_
    refine mv_tt' (by omega) ?_
    refine mv_go' 1 (pc' := 172) (ls' := [mv_R 100, mv_I (N : Int), mv_I (sp_lf b N j : Int), mv_I (sp_tn j), mv_I 1, mv_I (((0 : Nat) : Int) - 1), l6]) (st' := [mv_I 1]) (M1 := M) rfl ?_
    exact mv_ret (fun n => rfl) ⟨⟨hag, hf⟩, fun _ => ⟨h38, h39⟩⟩
  | succ r ih =>
    intro j M l6 hk hag hf h38 h39 hh hg h6
    have e1 : M 100 1 = V 0 9 := (hf 1 (by decide) (by decide)).trans h100
    obtain ⟨x, hx⟩ : ∃ x, x = sp_lf b N j := ⟨_, rfl⟩
    obtain ⟨q, hq⟩ : ∃ q, q = x % b := ⟨_, rfl⟩
    have hqb := Nat.mod_lt x (show 0 < b by omega)
    have hx2 : sp_lf b N (j + 1) = x / b := by rw [hx]; exact sp_lf_s b N j
    have hxN : x ≤ N := by rw [hx]; exact Nat.div_le_self _ _
    have hxb := Nat.div_le_self x b
    have ed : sp_d1 b N j = (q : Int) - 1 := by unfold sp_d1; rw [← hx, ← hq]
    rw [← hq] at hqb
    have eb : V 0 9 + 1 = (b : Int) := hb.symm
    have em : True → mv_w ((x : Int).tmod (b : Int)) = (q : Int) := fun _ => by rw [sp_tm_n, ← hq, mv_w_id (by omega) (by omega)]
    obtain ⟨y, hy⟩ : ∃ y, y = x / b := ⟨_, rfl⟩
    have ev : True → mv_w ((x : Int).tdiv (b : Int)) = (y : Int) := fun _ => by rw [sp_td_n, ← hy, mv_w_id (by omega) (by omega)]
    have hkd := sp_kd_b (b := b) (by omega) (by omega) N j (by omega)
    have ht6 := sp_t6_b j (by omega)
    have hks := sp_ks_b P ho hb N j
    have htn := (sp_tn_r (k := j) (by omega)).2
    have et : sp_tn (j + 1) = 10 * sp_tn j := rfl
    have ekd : sp_kd b N (j + 1) = sp_kd b N j + sp_tn j * (q : Int) := by simp only [sp_kd]; rw [ed, show (q : Int) - 1 + 1 = (q : Int) from by omega]
    have m1 := Int.mul_nonneg (show 0 ≤ sp_tn j by omega) (show 0 ≤ (q : Int) by omega)
    have m2 := Int.mul_le_mul_of_nonneg_left (show (q : Int) ≤ 6 by omega) (show 0 ≤ sp_tn j by omega)
    rw [show ((r + 1 : Nat) : Int) - 1 = (r : Int) from by omega, ← hx]
    by_cases q0 : q = 0
    · have edm : sp_d1 b N j = -1 := by rw [ed, q0]; rfl
      have eks : sp_ks V P b N (j + 1) = sp_ks V P b N j := by simp only [sp_ks]; rw [if_pos edm]; omega
      have ekh : sp_kh b N (j + 1) = sp_kh b N j := by simp only [sp_kh]; rw [if_pos edm]
      refine mv_go' 2 (pc' := if (r : Int) < 0 then 170 else 56) (ls' := [mv_R 100, mv_I (N : Int), mv_I (x : Int), mv_I (sp_tn j), mv_I 1, mv_I (r : Int), l6]) (st' := []) (M1 := M) rfl ?_
      refine mv_ff' (by omega) ?_
      refine mv_go' 2 (pc' := if 1 = 0 then 170 else 61) (ls' := [mv_R 100, mv_I (N : Int), mv_I (x : Int), mv_I (sp_tn j), mv_I 1, mv_I (r : Int), l6]) (st' := []) (M1 := M) rfl ?_
      refine mv_ff' (by first | decide | omega) ?_
      refine mv_go' 3 (pc' := 66) (ls' := [mv_R 100, mv_I (N : Int), mv_I (x : Int), mv_I (sp_tn j), mv_I 1, mv_I (r : Int), l6]) (st' := [mv_I (M 100 1), mv_I (x : Int)]) (M1 := M) rfl ?_
      rw [show M 100 1 = V 0 9 from by exact e1]
      refine mv_go' 2 (pc' := 68) (ls' := [mv_R 100, mv_I (N : Int), mv_I (x : Int), mv_I (sp_tn j), mv_I 1, mv_I (r : Int), l6]) (st' := [mv_I (mv_w ((V 0 9) + 1)), mv_I (x : Int)]) (M1 := M) rfl ?_
      rw [show mv_w ((V 0 9) + 1) = (V 0 9) + 1 from mv_w_id (by omega) (by omega)]
      rw [show (V 0 9) + 1 = (b : Int) from by omega]
      refine mv_go' 1 (pc' := if (b : Int) = 0 then mv_bad else 69) (ls' := [mv_R 100, mv_I (N : Int), mv_I (x : Int), mv_I (sp_tn j), mv_I 1, mv_I (r : Int), l6]) (st' := [mv_I (mv_w ((x : Int).tmod (b : Int)))]) (M1 := M) rfl ?_
      refine mv_ff' (by omega) ?_
      rw [show mv_w ((x : Int).tmod (b : Int)) = (q : Int) from by exact em trivial]
      refine mv_go' 2 (pc' := 71) (ls' := [mv_R 100, mv_I (N : Int), mv_I (x : Int), mv_I (sp_tn j), mv_I 1, mv_I (r : Int), l6]) (st' := [mv_I (mv_w ((q : Int) - 1))]) (M1 := M) rfl ?_
      rw [show mv_w ((q : Int) - 1) = -1 from by rw [q0]; rfl]
      refine mv_go' 4 (pc' := 78) (ls' := [mv_R 100, mv_I (N : Int), mv_I (x : Int), mv_I (sp_tn j), mv_I 1, mv_I (r : Int), mv_I (-1)]) (st' := [mv_I (M 100 1), mv_I (x : Int)]) (M1 := M) rfl ?_
      rw [show M 100 1 = V 0 9 from by exact e1]
      refine mv_go' 2 (pc' := 80) (ls' := [mv_R 100, mv_I (N : Int), mv_I (x : Int), mv_I (sp_tn j), mv_I 1, mv_I (r : Int), mv_I (-1)]) (st' := [mv_I (mv_w ((V 0 9) + 1)), mv_I (x : Int)]) (M1 := M) rfl ?_
      rw [show mv_w ((V 0 9) + 1) = (V 0 9) + 1 from mv_w_id (by omega) (by omega)]
      rw [show (V 0 9) + 1 = (b : Int) from by omega]
      refine mv_go' 1 (pc' := if (b : Int) = 0 then mv_bad else 81) (ls' := [mv_R 100, mv_I (N : Int), mv_I (x : Int), mv_I (sp_tn j), mv_I 1, mv_I (r : Int), mv_I (-1)]) (st' := [mv_I (mv_w ((x : Int).tdiv (b : Int)))]) (M1 := M) rfl ?_
      refine mv_ff' (by omega) ?_
      rw [show mv_w ((x : Int).tdiv (b : Int)) = (y : Int) from by exact ev trivial]
      refine mv_go' 4 (pc' := 87) (ls' := [mv_R 100, mv_I (N : Int), mv_I (y : Int), mv_I (sp_tn j), mv_I 1, mv_I (r : Int), mv_I (-1)]) (st' := [mv_I (M 100 38), mv_R 100]) (M1 := M) rfl ?_
      rw [show M 100 38 = sp_kd b N j from by exact h38]
      refine mv_go' 5 (pc' := 93) (ls' := [mv_R 100, mv_I (N : Int), mv_I (y : Int), mv_I (sp_tn j), mv_I 1, mv_I (r : Int), mv_I (-1)]) (st' := [mv_I (mv_w ((sp_tn j) * (mv_w ((-1) + 1)))), mv_I (sp_kd b N j), mv_R 100]) (M1 := M) rfl ?_
      rw [show mv_w ((-1) + 1) = (-1) + 1 from mv_w_id (by omega) (by omega)]
      rw [show mv_w ((sp_tn j) * ((-1) + 1)) = (sp_tn j) * ((-1) + 1) from mv_w_id (by omega) (by omega)]
      rw [show (sp_tn j) * ((-1) + 1) = 0 from (by first | omega | (rw [mv_w_id (by omega) (by omega)]; omega))]
      refine mv_go' 8 (pc' := if (-1) < 0 then 164 else 107) (ls' := [mv_R 100, mv_I (N : Int), mv_I (y : Int), mv_I (mv_w ((sp_tn j) * 10)), mv_I 1, mv_I (r : Int), mv_I (-1)]) (st' := []) (M1 := (mv_st M 100 (mv_up (M 100) 38 (mv_w ((sp_kd b N j) + 0))))) rfl ?_
      rw [show mv_w ((sp_tn j) * 10) = (sp_tn j) * 10 from mv_w_id (by omega) (by omega)]
      rw [show mv_w ((sp_kd b N j) + 0) = (sp_kd b N j) + 0 from mv_w_id (by omega) (by omega)]
      refine mv_tt' (by first | decide | omega) ?_
      refine mv_go' 2 (pc' := 51) (ls' := [mv_R 100, mv_I (N : Int), mv_I (y : Int), mv_I ((sp_tn j) * 10), mv_I 1, mv_I (mv_w ((r : Int) + (-1))), mv_I (-1)]) (st' := []) (M1 := (mv_st M 100 (mv_up (M 100) 38 ((sp_kd b N j) + 0)))) rfl ?_
      rw [show mv_w ((r : Int) + (-1)) = (r : Int) + (-1) from mv_w_id (by omega) (by omega)]
      refine (mv_eqs (ls2 := [mv_R 100, mv_I (N : Int), mv_I (sp_lf b N (j + 1) : Int), mv_I (sp_tn (j + 1)), mv_I 1, mv_I ((r : Int) - 1), mv_I (-1)]) (by rw [hx2, ← hy, et, show (sp_tn j) * 10 = 10 * sp_tn j from by omega, show (r : Int) + (-1) = (r : Int) - 1 from by omega]) rfl rfl (ih (j + 1) _ _ (by omega) ?_ (fun z j1 j2 => ?_) ?_ ?_ (fun u hu => ?_) (by simp only [sp_kg]; rw [if_pos hg, if_pos edm]) rfl))
      · repeat (first | exact hag | refine mv_ag.st ?_ (by decide))
      · exact (mv_up_n _ _ j1).trans (hf z j1 j2)
      · show (sp_kd b N j) + 0 = _
        rw [ekd, q0]
        try omega
      · show M 100 39 = _
        rw [eks]; exact h39
      · rw [ekh]; exact hh u hu
    · obtain ⟨v, hv⟩ : ∃ v, q = v + 1 := ⟨q - 1, by omega⟩
      have eqv : True → mv_w ((q : Int) - 1) = (v : Int) := fun _ => by rw [mv_w_id (by omega) (by omega)]; omega
      have edm : ¬ (sp_d1 b N j = -1) := by omega
      have edv : (sp_d1 b N j).toNat = v := by omega
      have eks : sp_ks V P b N (j + 1) = sp_ks V P b N j + sp_suits V P r v := by simp only [sp_ks]; rw [if_neg edm, edv, show (V 0 8).toNat - 1 - j = r from by omega]
      have ekh : sp_kh b N (j + 1) = mv_up (sp_kh b N j) v (sp_kh b N j v + 1) := by simp only [sp_kh]; rw [if_neg edm, edv]
      have hhv := hh v (by omega)
      have hrv : M 134 v = rm v := by rw [hag 134 (by decide)]; exact hrm v (by omega)
      have hsv : M 133 (6 * r + v) = sp_suits V P r v := by rw [hag 133 (by decide)]; exact ht r v (by omega) (by omega)
      have hkb := sp_kh_b b N v j
      have hsb := sp_suits_b P ho r (u := v) (by omega)
      refine mv_go' 2 (pc' := if (r : Int) < 0 then 170 else 56) (ls' := [mv_R 100, mv_I (N : Int), mv_I (x : Int), mv_I (sp_tn j), mv_I 1, mv_I (r : Int), l6]) (st' := []) (M1 := M) rfl ?_
      refine mv_ff' (by omega) ?_
      refine mv_go' 2 (pc' := if 1 = 0 then 170 else 61) (ls' := [mv_R 100, mv_I (N : Int), mv_I (x : Int), mv_I (sp_tn j), mv_I 1, mv_I (r : Int), l6]) (st' := []) (M1 := M) rfl ?_
      refine mv_ff' (by first | decide | omega) ?_
      refine mv_go' 3 (pc' := 66) (ls' := [mv_R 100, mv_I (N : Int), mv_I (x : Int), mv_I (sp_tn j), mv_I 1, mv_I (r : Int), l6]) (st' := [mv_I (M 100 1), mv_I (x : Int)]) (M1 := M) rfl ?_
      rw [show M 100 1 = V 0 9 from by exact e1]
      refine mv_go' 2 (pc' := 68) (ls' := [mv_R 100, mv_I (N : Int), mv_I (x : Int), mv_I (sp_tn j), mv_I 1, mv_I (r : Int), l6]) (st' := [mv_I (mv_w ((V 0 9) + 1)), mv_I (x : Int)]) (M1 := M) rfl ?_
      rw [show mv_w ((V 0 9) + 1) = (V 0 9) + 1 from mv_w_id (by omega) (by omega)]
      rw [show (V 0 9) + 1 = (b : Int) from by omega]
      refine mv_go' 1 (pc' := if (b : Int) = 0 then mv_bad else 69) (ls' := [mv_R 100, mv_I (N : Int), mv_I (x : Int), mv_I (sp_tn j), mv_I 1, mv_I (r : Int), l6]) (st' := [mv_I (mv_w ((x : Int).tmod (b : Int)))]) (M1 := M) rfl ?_
      refine mv_ff' (by omega) ?_
      rw [show mv_w ((x : Int).tmod (b : Int)) = (q : Int) from by exact em trivial]
      refine mv_go' 2 (pc' := 71) (ls' := [mv_R 100, mv_I (N : Int), mv_I (x : Int), mv_I (sp_tn j), mv_I 1, mv_I (r : Int), l6]) (st' := [mv_I (mv_w ((q : Int) - 1))]) (M1 := M) rfl ?_
      rw [show mv_w ((q : Int) - 1) = (v : Int) from by exact eqv trivial]
      refine mv_go' 4 (pc' := 78) (ls' := [mv_R 100, mv_I (N : Int), mv_I (x : Int), mv_I (sp_tn j), mv_I 1, mv_I (r : Int), mv_I (v : Int)]) (st' := [mv_I (M 100 1), mv_I (x : Int)]) (M1 := M) rfl ?_
      rw [show M 100 1 = V 0 9 from by exact e1]
      refine mv_go' 2 (pc' := 80) (ls' := [mv_R 100, mv_I (N : Int), mv_I (x : Int), mv_I (sp_tn j), mv_I 1, mv_I (r : Int), mv_I (v : Int)]) (st' := [mv_I (mv_w ((V 0 9) + 1)), mv_I (x : Int)]) (M1 := M) rfl ?_
      rw [show mv_w ((V 0 9) + 1) = (V 0 9) + 1 from mv_w_id (by omega) (by omega)]
      rw [show (V 0 9) + 1 = (b : Int) from by omega]
      refine mv_go' 1 (pc' := if (b : Int) = 0 then mv_bad else 81) (ls' := [mv_R 100, mv_I (N : Int), mv_I (x : Int), mv_I (sp_tn j), mv_I 1, mv_I (r : Int), mv_I (v : Int)]) (st' := [mv_I (mv_w ((x : Int).tdiv (b : Int)))]) (M1 := M) rfl ?_
      refine mv_ff' (by omega) ?_
      rw [show mv_w ((x : Int).tdiv (b : Int)) = (y : Int) from by exact ev trivial]
      refine mv_go' 4 (pc' := 87) (ls' := [mv_R 100, mv_I (N : Int), mv_I (y : Int), mv_I (sp_tn j), mv_I 1, mv_I (r : Int), mv_I (v : Int)]) (st' := [mv_I (M 100 38), mv_R 100]) (M1 := M) rfl ?_
      rw [show M 100 38 = sp_kd b N j from by exact h38]
      refine mv_go' 5 (pc' := 93) (ls' := [mv_R 100, mv_I (N : Int), mv_I (y : Int), mv_I (sp_tn j), mv_I 1, mv_I (r : Int), mv_I (v : Int)]) (st' := [mv_I (mv_w ((sp_tn j) * (mv_w ((v : Int) + 1)))), mv_I (sp_kd b N j), mv_R 100]) (M1 := M) rfl ?_
      rw [show mv_w ((v : Int) + 1) = (v : Int) + 1 from mv_w_id (by omega) (by omega)]
      rw [show mv_w ((sp_tn j) * ((v : Int) + 1)) = sp_tn j * (q : Int) from (by rw [show (v : Int) + 1 = (q : Int) from by omega]; exact mv_w_id (by omega) (by omega))]
      refine mv_go' 8 (pc' := if (v : Int) < 0 then 164 else 107) (ls' := [mv_R 100, mv_I (N : Int), mv_I (y : Int), mv_I (mv_w ((sp_tn j) * 10)), mv_I 1, mv_I (r : Int), mv_I (v : Int)]) (st' := []) (M1 := (mv_st M 100 (mv_up (M 100) 38 (mv_w ((sp_kd b N j) + (sp_tn j * (q : Int))))))) rfl ?_
      rw [show mv_w ((sp_tn j) * 10) = (sp_tn j) * 10 from mv_w_id (by omega) (by omega)]
      rw [show mv_w ((sp_kd b N j) + (sp_tn j * (q : Int))) = (sp_kd b N j) + (sp_tn j * (q : Int)) from mv_w_id (by omega) (by omega)]
      refine mv_ff' (by omega) ?_
      refine mv_go' 5 (pc' := if 0 ≤ (v : Int) ∧ (v : Int) < 6 then 115 else mv_bad) (ls' := [mv_R 100, mv_I (N : Int), mv_I (y : Int), mv_I ((sp_tn j) * 10), mv_I 1, mv_I (r : Int), mv_I (v : Int)]) (st' := [mv_I (M 135 v), mv_I (v : Int), mv_R 135]) (M1 := (mv_st M 100 (mv_up (M 100) 38 ((sp_kd b N j) + (sp_tn j * (q : Int)))))) rfl ?_
      refine mv_tt' (by omega) ?_
      rw [show M 135 v = sp_kh b N j v from by exact hhv]
      refine mv_go' 3 (pc' := if 0 ≤ (v : Int) ∧ (v : Int) < 6 then 118 else mv_bad) (ls' := [mv_R 100, mv_I (N : Int), mv_I (y : Int), mv_I ((sp_tn j) * 10), mv_I 1, mv_I (r : Int), mv_I (v : Int)]) (st' := []) (M1 := (mv_st (mv_st M 100 (mv_up (M 100) 38 ((sp_kd b N j) + (sp_tn j * (q : Int))))) 135 (mv_up (M 135) v (mv_w ((sp_kh b N j v) + 1))))) rfl ?_
      refine mv_tt' (by omega) ?_
      rw [show mv_w ((sp_kh b N j v) + 1) = (sp_kh b N j v) + 1 from mv_w_id (by omega) (by omega)]
      refine mv_go' 4 (pc' := if 0 ≤ (v : Int) ∧ (v : Int) < 6 then 125 else mv_bad) (ls' := [mv_R 100, mv_I (N : Int), mv_I (y : Int), mv_I ((sp_tn j) * 10), mv_I 1, mv_I (r : Int), mv_I (v : Int)]) (st' := [mv_I ((mv_up (M 135) v ((sp_kh b N j v) + 1)) v)]) (M1 := (mv_st (mv_st M 100 (mv_up (M 100) 38 ((sp_kd b N j) + (sp_tn j * (q : Int))))) 135 (mv_up (M 135) v ((sp_kh b N j v) + 1)))) rfl ?_
      refine mv_tt' (by omega) ?_
      rw [show (mv_up (M 135) v ((sp_kh b N j v) + 1)) v = (sp_kh b N j v) + 1 from by exact mv_up_s _ _ _]
      refine mv_go' 4 (pc' := if 0 ≤ (v : Int) ∧ (v : Int) < 6 then 132 else mv_bad) (ls' := [mv_R 100, mv_I (N : Int), mv_I (y : Int), mv_I ((sp_tn j) * 10), mv_I 1, mv_I (r : Int), mv_I (v : Int)]) (st' := [mv_I (M 134 v), mv_I ((sp_kh b N j v) + 1)]) (M1 := (mv_st (mv_st M 100 (mv_up (M 100) 38 ((sp_kd b N j) + (sp_tn j * (q : Int))))) 135 (mv_up (M 135) v ((sp_kh b N j v) + 1)))) rfl ?_
      refine mv_tt' (by omega) ?_
      rw [show M 134 v = rm v from by exact hrv]
      refine mv_go' 1 (pc' := if (rm v) < ((sp_kh b N j v) + 1) then 139 else 135) (ls' := [mv_R 100, mv_I (N : Int), mv_I (y : Int), mv_I ((sp_tn j) * 10), mv_I 1, mv_I (r : Int), mv_I (v : Int)]) (st' := []) (M1 := (mv_st (mv_st M 100 (mv_up (M 100) 38 ((sp_kd b N j) + (sp_tn j * (q : Int))))) 135 (mv_up (M 135) v ((sp_kh b N j v) + 1)))) rfl ?_
      refine mv_sp' (fun ha1 => ?_) (fun ha1 => ?_)
      · refine mv_go' 5 (pc' := 147) (ls' := [mv_R 100, mv_I (N : Int), mv_I (y : Int), mv_I ((sp_tn j) * 10), mv_I 0, mv_I (r : Int), mv_I (v : Int)]) (st' := [mv_I (M 100 39), mv_R 100]) (M1 := (mv_st (mv_st M 100 (mv_up (M 100) 38 ((sp_kd b N j) + (sp_tn j * (q : Int))))) 135 (mv_up (M 135) v ((sp_kh b N j v) + 1)))) rfl ?_
        rw [show M 100 39 = sp_ks V P b N j from by exact h39]
        refine mv_go' 7 (pc' := 159) (ls' := [mv_R 100, mv_I (N : Int), mv_I (y : Int), mv_I ((sp_tn j) * 10), mv_I 0, mv_I (r : Int), mv_I (v : Int)]) (st' := [mv_I (mv_w ((mv_w (6 * (r : Int))) + (v : Int))), mv_R 133, mv_I (sp_ks V P b N j), mv_R 100]) (M1 := (mv_st (mv_st M 100 (mv_up (M 100) 38 ((sp_kd b N j) + (sp_tn j * (q : Int))))) 135 (mv_up (M 135) v ((sp_kh b N j v) + 1)))) rfl ?_
        rw [show mv_w ((mv_w (6 * (r : Int))) + (v : Int)) = ((6 * r + v : Nat) : Int) from by (rw [show mv_w (6 * (r : Int)) = 6 * (r : Int) from mv_w_id (by omega) (by omega), show mv_w ((6 * (r : Int)) + (v : Int)) = (6 * (r : Int)) + (v : Int) from mv_w_id (by omega) (by omega)]) <;> omega]
        refine mv_go' 1 (pc' := if 0 ≤ ((6 * r + v : Nat) : Int) ∧ ((6 * r + v : Nat) : Int) < 36 then 160 else mv_bad) (ls' := [mv_R 100, mv_I (N : Int), mv_I (y : Int), mv_I ((sp_tn j) * 10), mv_I 0, mv_I (r : Int), mv_I (v : Int)]) (st' := [mv_I (M 133 (6 * r + v)), mv_I (sp_ks V P b N j), mv_R 100]) (M1 := (mv_st (mv_st M 100 (mv_up (M 100) 38 ((sp_kd b N j) + (sp_tn j * (q : Int))))) 135 (mv_up (M 135) v ((sp_kh b N j v) + 1)))) rfl ?_
        refine mv_tt' (by omega) ?_
        rw [show M 133 (6 * r + v) = sp_suits V P r v from by exact hsv]
        refine mv_go' 1 (pc' := 161) (ls' := [mv_R 100, mv_I (N : Int), mv_I (y : Int), mv_I ((sp_tn j) * 10), mv_I 0, mv_I (r : Int), mv_I (v : Int)]) (st' := [mv_I (mv_w ((sp_ks V P b N j) + (sp_suits V P r v))), mv_R 100]) (M1 := (mv_st (mv_st M 100 (mv_up (M 100) 38 ((sp_kd b N j) + (sp_tn j * (q : Int))))) 135 (mv_up (M 135) v ((sp_kh b N j v) + 1)))) rfl ?_
        rw [show mv_w ((sp_ks V P b N j) + (sp_suits V P r v)) = (sp_ks V P b N j) + (sp_suits V P r v) from mv_w_id (by omega) (by omega)]
        refine mv_go' 1 (pc' := 164) (ls' := [mv_R 100, mv_I (N : Int), mv_I (y : Int), mv_I ((sp_tn j) * 10), mv_I 0, mv_I (r : Int), mv_I (v : Int)]) (st' := []) (M1 := (mv_st (mv_st (mv_st M 100 (mv_up (M 100) 38 ((sp_kd b N j) + (sp_tn j * (q : Int))))) 135 (mv_up (M 135) v ((sp_kh b N j v) + 1))) 100 (mv_up (mv_up (M 100) 38 ((sp_kd b N j) + (sp_tn j * (q : Int)))) 39 ((sp_ks V P b N j) + (sp_suits V P r v))))) rfl ?_
        refine mv_go' 2 (pc' := 51) (ls' := [mv_R 100, mv_I (N : Int), mv_I (y : Int), mv_I ((sp_tn j) * 10), mv_I 0, mv_I (mv_w ((r : Int) + (-1))), mv_I (v : Int)]) (st' := []) (M1 := (mv_st (mv_st (mv_st M 100 (mv_up (M 100) 38 ((sp_kd b N j) + (sp_tn j * (q : Int))))) 135 (mv_up (M 135) v ((sp_kh b N j v) + 1))) 100 (mv_up (mv_up (M 100) 38 ((sp_kd b N j) + (sp_tn j * (q : Int)))) 39 ((sp_ks V P b N j) + (sp_suits V P r v))))) rfl ?_
        rw [show mv_w ((r : Int) + (-1)) = (r : Int) + (-1) from mv_w_id (by omega) (by omega)]
        refine mv_go' 2 (pc' := if ((r : Int) + (-1)) < 0 then 170 else 56) (ls' := [mv_R 100, mv_I (N : Int), mv_I (y : Int), mv_I ((sp_tn j) * 10), mv_I 0, mv_I ((r : Int) + (-1)), mv_I (v : Int)]) (st' := []) (M1 := (mv_st (mv_st (mv_st M 100 (mv_up (M 100) 38 ((sp_kd b N j) + (sp_tn j * (q : Int))))) 135 (mv_up (M 135) v ((sp_kh b N j v) + 1))) 100 (mv_up (mv_up (M 100) 38 ((sp_kd b N j) + (sp_tn j * (q : Int)))) 39 ((sp_ks V P b N j) + (sp_suits V P r v))))) rfl ?_
        refine mv_sp' (fun ha2 => ?_) (fun ha2 => ?_)
        · refine mv_go' 1 (pc' := 172) (ls' := [mv_R 100, mv_I (N : Int), mv_I (y : Int), mv_I ((sp_tn j) * 10), mv_I 0, mv_I ((r : Int) + (-1)), mv_I (v : Int)]) (st' := [mv_I 0]) (M1 := (mv_st (mv_st (mv_st M 100 (mv_up (M 100) 38 ((sp_kd b N j) + (sp_tn j * (q : Int))))) 135 (mv_up (M 135) v ((sp_kh b N j v) + 1))) 100 (mv_up (mv_up (M 100) 38 ((sp_kd b N j) + (sp_tn j * (q : Int)))) 39 ((sp_ks V P b N j) + (sp_suits V P r v))))) rfl ?_
          have hg0 : sp_kg rm b N (j + 1) = 0 := by simp only [sp_kg]; rw [if_pos hg, if_neg edm, edv, if_pos (by rw [ekh, mv_up_s]; omega)]
          have hg1 : sp_kg rm b N (V 0 8).toNat = 0 := by rw [show (V 0 8).toNat = j + 1 + r from by omega]; exact sp_kg_0 rm b N r (j + 1) hg0
          rw [hg1]
          exact mv_ret (fun n => rfl) ⟨⟨by repeat (first | exact hag | refine mv_ag.st ?_ (by decide)), fun z j1 j2 => (mv_up_n _ _ j2).trans ((mv_up_n _ _ j1).trans (hf z j1 j2))⟩, fun z => absurd z (by decide)⟩
        · refine mv_go' 2 (pc' := if 0 = 0 then 170 else 61) (ls' := [mv_R 100, mv_I (N : Int), mv_I (y : Int), mv_I ((sp_tn j) * 10), mv_I 0, mv_I ((r : Int) + (-1)), mv_I (v : Int)]) (st' := []) (M1 := (mv_st (mv_st (mv_st M 100 (mv_up (M 100) 38 ((sp_kd b N j) + (sp_tn j * (q : Int))))) 135 (mv_up (M 135) v ((sp_kh b N j v) + 1))) 100 (mv_up (mv_up (M 100) 38 ((sp_kd b N j) + (sp_tn j * (q : Int)))) 39 ((sp_ks V P b N j) + (sp_suits V P r v))))) rfl ?_
          refine mv_tt' (by first | decide | omega) ?_
          refine mv_go' 1 (pc' := 172) (ls' := [mv_R 100, mv_I (N : Int), mv_I (y : Int), mv_I ((sp_tn j) * 10), mv_I 0, mv_I ((r : Int) + (-1)), mv_I (v : Int)]) (st' := [mv_I 0]) (M1 := (mv_st (mv_st (mv_st M 100 (mv_up (M 100) 38 ((sp_kd b N j) + (sp_tn j * (q : Int))))) 135 (mv_up (M 135) v ((sp_kh b N j v) + 1))) 100 (mv_up (mv_up (M 100) 38 ((sp_kd b N j) + (sp_tn j * (q : Int)))) 39 ((sp_ks V P b N j) + (sp_suits V P r v))))) rfl ?_
          have hg0 : sp_kg rm b N (j + 1) = 0 := by simp only [sp_kg]; rw [if_pos hg, if_neg edm, edv, if_pos (by rw [ekh, mv_up_s]; omega)]
          have hg1 : sp_kg rm b N (V 0 8).toNat = 0 := by rw [show (V 0 8).toNat = j + 1 + r from by omega]; exact sp_kg_0 rm b N r (j + 1) hg0
          rw [hg1]
          exact mv_ret (fun n => rfl) ⟨⟨by repeat (first | exact hag | refine mv_ag.st ?_ (by decide)), fun z j1 j2 => (mv_up_n _ _ j2).trans ((mv_up_n _ _ j1).trans (hf z j1 j2))⟩, fun z => absurd z (by decide)⟩
      · refine mv_go' 6 (pc' := 147) (ls' := [mv_R 100, mv_I (N : Int), mv_I (y : Int), mv_I ((sp_tn j) * 10), mv_I 1, mv_I (r : Int), mv_I (v : Int)]) (st' := [mv_I (M 100 39), mv_R 100]) (M1 := (mv_st (mv_st M 100 (mv_up (M 100) 38 ((sp_kd b N j) + (sp_tn j * (q : Int))))) 135 (mv_up (M 135) v ((sp_kh b N j v) + 1)))) rfl ?_
        rw [show M 100 39 = sp_ks V P b N j from by exact h39]
        refine mv_go' 7 (pc' := 159) (ls' := [mv_R 100, mv_I (N : Int), mv_I (y : Int), mv_I ((sp_tn j) * 10), mv_I 1, mv_I (r : Int), mv_I (v : Int)]) (st' := [mv_I (mv_w ((mv_w (6 * (r : Int))) + (v : Int))), mv_R 133, mv_I (sp_ks V P b N j), mv_R 100]) (M1 := (mv_st (mv_st M 100 (mv_up (M 100) 38 ((sp_kd b N j) + (sp_tn j * (q : Int))))) 135 (mv_up (M 135) v ((sp_kh b N j v) + 1)))) rfl ?_
        rw [show mv_w ((mv_w (6 * (r : Int))) + (v : Int)) = ((6 * r + v : Nat) : Int) from by (rw [show mv_w (6 * (r : Int)) = 6 * (r : Int) from mv_w_id (by omega) (by omega), show mv_w ((6 * (r : Int)) + (v : Int)) = (6 * (r : Int)) + (v : Int) from mv_w_id (by omega) (by omega)]) <;> omega]
        refine mv_go' 1 (pc' := if 0 ≤ ((6 * r + v : Nat) : Int) ∧ ((6 * r + v : Nat) : Int) < 36 then 160 else mv_bad) (ls' := [mv_R 100, mv_I (N : Int), mv_I (y : Int), mv_I ((sp_tn j) * 10), mv_I 1, mv_I (r : Int), mv_I (v : Int)]) (st' := [mv_I (M 133 (6 * r + v)), mv_I (sp_ks V P b N j), mv_R 100]) (M1 := (mv_st (mv_st M 100 (mv_up (M 100) 38 ((sp_kd b N j) + (sp_tn j * (q : Int))))) 135 (mv_up (M 135) v ((sp_kh b N j v) + 1)))) rfl ?_
        refine mv_tt' (by omega) ?_
        rw [show M 133 (6 * r + v) = sp_suits V P r v from by exact hsv]
        refine mv_go' 1 (pc' := 161) (ls' := [mv_R 100, mv_I (N : Int), mv_I (y : Int), mv_I ((sp_tn j) * 10), mv_I 1, mv_I (r : Int), mv_I (v : Int)]) (st' := [mv_I (mv_w ((sp_ks V P b N j) + (sp_suits V P r v))), mv_R 100]) (M1 := (mv_st (mv_st M 100 (mv_up (M 100) 38 ((sp_kd b N j) + (sp_tn j * (q : Int))))) 135 (mv_up (M 135) v ((sp_kh b N j v) + 1)))) rfl ?_
        rw [show mv_w ((sp_ks V P b N j) + (sp_suits V P r v)) = (sp_ks V P b N j) + (sp_suits V P r v) from mv_w_id (by omega) (by omega)]
        refine mv_go' 1 (pc' := 164) (ls' := [mv_R 100, mv_I (N : Int), mv_I (y : Int), mv_I ((sp_tn j) * 10), mv_I 1, mv_I (r : Int), mv_I (v : Int)]) (st' := []) (M1 := (mv_st (mv_st (mv_st M 100 (mv_up (M 100) 38 ((sp_kd b N j) + (sp_tn j * (q : Int))))) 135 (mv_up (M 135) v ((sp_kh b N j v) + 1))) 100 (mv_up (mv_up (M 100) 38 ((sp_kd b N j) + (sp_tn j * (q : Int)))) 39 ((sp_ks V P b N j) + (sp_suits V P r v))))) rfl ?_
        refine mv_go' 2 (pc' := 51) (ls' := [mv_R 100, mv_I (N : Int), mv_I (y : Int), mv_I ((sp_tn j) * 10), mv_I 1, mv_I (mv_w ((r : Int) + (-1))), mv_I (v : Int)]) (st' := []) (M1 := (mv_st (mv_st (mv_st M 100 (mv_up (M 100) 38 ((sp_kd b N j) + (sp_tn j * (q : Int))))) 135 (mv_up (M 135) v ((sp_kh b N j v) + 1))) 100 (mv_up (mv_up (M 100) 38 ((sp_kd b N j) + (sp_tn j * (q : Int)))) 39 ((sp_ks V P b N j) + (sp_suits V P r v))))) rfl ?_
        rw [show mv_w ((r : Int) + (-1)) = (r : Int) + (-1) from mv_w_id (by omega) (by omega)]
        refine (mv_eqs (ls2 := [mv_R 100, mv_I (N : Int), mv_I (sp_lf b N (j + 1) : Int), mv_I (sp_tn (j + 1)), mv_I 1, mv_I ((r : Int) - 1), mv_I (v : Int)]) (by rw [hx2, ← hy, et, show (sp_tn j) * 10 = 10 * sp_tn j from by omega, show (r : Int) + (-1) = (r : Int) - 1 from by omega]) rfl rfl (ih (j + 1) _ _ (by omega) ?_ (fun z j1 j2 => ?_) ?_ ?_ (fun u hu => ?_) (by simp only [sp_kg]; rw [if_pos hg, if_neg edm, edv, if_neg (by rw [ekh, mv_up_s]; omega)]) rfl))
        · repeat (first | exact hag | refine mv_ag.st ?_ (by decide))
        · exact (mv_up_n _ _ j2).trans ((mv_up_n _ _ j1).trans (hf z j1 j2))
        · show (sp_kd b N j) + (sp_tn j * (q : Int)) = _; rw [ekd]; try omega
        · show (sp_ks V P b N j) + (sp_suits V P r v) = _; rw [eks]; try omega
        · rw [ekh]; exact sp_up_c (hh u hu)
