/-! calls that only ask: all, suit -/
theorem sp_R_a1 {S : List Nat} {V : mv_M} {P : Nat → Nat → List Int} {n : Int} {B : mv_M} {K : Int} {t : Nat} {M M1 : mv_M} (h : sp_R V P n B K t M) (ha : mv_ag S M M1) (hS : ∀ i ∈ S, sp_keep i = false) (h0 : 100 ∉ S) : sp_R V P n B K t M1 :=
  sp_R_ag h ha hS (by rw [ha 100 h0]; exact ⟨rfl, rfl, rfl, rfl, rfl, rfl, rfl⟩)
theorem sp_k10 : sp_call 71 150 [] [] := by
  refine sp_mk (lc := [mv_R 0]) (lm := [mv_R 100, mv_U, mv_U]) rfl rfl (fun M hI => ?_)
  obtain ⟨V, P, n, B, K, t, h⟩ := hI
  have h' := h
  obtain ⟨⟨hc, hm, ho⟩, ⟨_, hl, _, hn⟩, ⟨hct, hmt, _⟩, _⟩ := h'
  refine ⟨sp_as V P, ?_⟩
  refine mv_go' 2 (pc' := 4) (ls' := [mv_R 0]) (st' := [mv_R 30]) (M1 := M) rfl ?_
  refine mv_call (st2 := [mv_I (sp_as V P)]) rfl (Or.inl rfl) rfl rfl rfl (sp_cas hc ho hl hn hct) (by first | decide | omega) (fun M1 h1 => ?_)
  have hR := sp_R_a1 h h1 (by decide) (by decide)
  have hR2 := hR
  obtain ⟨⟨_, hm1, _⟩, _, ⟨_, hmt1, _⟩, _⟩ := hR2
  exact mv_ret (fun n => rfl) (((sp_mas hm1 ho hl hmt1).up (by decide)).imp (fun M2 h2 => ⟨V, P, n, B, K, t, sp_R_a1 hR h2 (by decide) (by decide)⟩))
theorem sp_eith_t {M : mv_M} {a : Int} (h : a = 0 ∨ a = 1) : mv_Ru 0 103 0 [mv_I a] [] M (mv_I 1) (fun M1 => M1 = M) := by
  refine mv_go' 2 (pc' := if a = 0 then 9 else 4) (ls' := [mv_I a]) (st' := []) (M1 := M) rfl ?_
  refine mv_sp' (fun h0 => ?_) (fun h0 => ?_)
  · refine mv_go' 2 (pc' := 14) (ls' := [mv_I a]) (st' := [mv_I 1]) (M1 := M) rfl ?_
    exact mv_ret (fun n => rfl) (rfl)
  · refine mv_go' 3 (pc' := if a = 1 then 9 else 13) (ls' := [mv_I a]) (st' := []) (M1 := M) rfl ?_
    refine mv_tt' (by omega) ?_
    refine mv_go' 2 (pc' := 14) (ls' := [mv_I a]) (st' := [mv_I 1]) (M1 := M) rfl ?_
    exact mv_ret (fun n => rfl) (rfl)
theorem sp_eith_f {M : mv_M} {a : Int} (h : ¬ (a = 0 ∨ a = 1)) : mv_Ru 0 103 0 [mv_I a] [] M (mv_I 0) (fun M1 => M1 = M) := by
  refine mv_go' 2 (pc' := if a = 0 then 9 else 4) (ls' := [mv_I a]) (st' := []) (M1 := M) rfl ?_
  refine mv_ff' (by omega) ?_
  refine mv_go' 3 (pc' := if a = 1 then 9 else 13) (ls' := [mv_I a]) (st' := []) (M1 := M) rfl ?_
  refine mv_ff' (by omega) ?_
  refine mv_go' 1 (pc' := 14) (ls' := [mv_I a]) (st' := [mv_I 0]) (M1 := M) rfl ?_
  exact mv_ret (fun n => rfl) (rfl)
def sp_suitv (V : mv_M) (P : Nat → Nat → List Int) (a b w : Int) : Int :=
  if (0 ≤ a ∧ a < V 0 8) ∧ (0 ≤ b ∧ b < V 0 9) then (if w = 0 then sp_suits V P a.toNat b.toNat else if w = 1 then sp_likes V P a.toNat b.toNat else -1000007) else -1000005
theorem sp_xsuit {V M : mv_M} {P : Nat → Nat → List Int} {n a b w : Int} (hV : sp_c 30 M V) (ho : sp_ok V) (hl : V 0 11 < n) (hn : n ≤ 6) (hP : sp_cts M P n) : mv_Ru 20 70 0 [mv_R 0, mv_I a, mv_I b, mv_I w] [] M (mv_I (sp_suitv V P a b w)) (fun M1 => mv_ag [36, 37] M M1) := by
  have h8 := sp_ok_s8 ho
  refine mv_go' 3 (pc' := 5) (ls' := [mv_R 0, mv_I a, mv_I b, mv_I w]) (st' := [mv_I a, mv_R 30]) (M1 := M) rfl ?_
  by_cases q1 : 0 ≤ a ∧ a < V 0 8
  · refine mv_callP (st2 := [mv_I 1]) rfl (Or.inl rfl) rfl rfl rfl (sp_cisChild_t_30 hV ho q1) (by first | decide | omega) ?_
    refine mv_go' 1 (pc' := if 1 = 0 then 22 else 11) (ls' := [mv_R 0, mv_I a, mv_I b, mv_I w]) (st' := []) (M1 := M) rfl ?_
    refine mv_ff' (by decide) ?_
    refine mv_go' 3 (pc' := 16) (ls' := [mv_R 0, mv_I a, mv_I b, mv_I w]) (st' := [mv_I b, mv_R 30]) (M1 := M) rfl ?_
    by_cases q2 : 0 ≤ b ∧ b < V 0 9
    · refine mv_callP (st2 := [mv_I 1]) rfl (Or.inl rfl) rfl rfl rfl (sp_cisUncle_t_30 hV ho q2) (by first | decide | omega) ?_
      refine mv_go' 1 (pc' := if 1 = 0 then 22 else 25) (ls' := [mv_R 0, mv_I a, mv_I b, mv_I w]) (st' := []) (M1 := M) rfl ?_
      refine mv_ff' (by decide) ?_
      refine mv_go' 1 (pc' := 26) (ls' := [mv_R 0, mv_I a, mv_I b, mv_I w]) (st' := [mv_I w]) (M1 := M) rfl ?_
      have e0 : sp_suitv V P a b w = (if w = 0 then sp_suits V P a.toNat b.toNat else if w = 1 then sp_likes V P a.toNat b.toNat else -1000007) := if_pos ⟨q1, q2⟩
      rw [e0]
      have ea : a = (a.toNat : Int) := by omega
      have eb : b = (b.toNat : Int) := by omega
      by_cases w0 : w = 0
      · rw [if_pos w0]
        refine mv_callP (st2 := [mv_I 1]) rfl (Or.inr rfl) rfl rfl rfl (sp_eith_t (Or.inl w0)) (by first | decide | omega) ?_
        refine mv_go' 1 (pc' := if 1 = 0 then 32 else 35) (ls' := [mv_R 0, mv_I a, mv_I b, mv_I w]) (st' := []) (M1 := M) rfl ?_
        refine mv_ff' (by decide) ?_
        refine mv_go' 2 (pc' := if w = 0 then 39 else 51) (ls' := [mv_R 0, mv_I a, mv_I b, mv_I w]) (st' := []) (M1 := M) rfl ?_
        refine mv_tt' (w0) ?_
        refine mv_go' 4 (pc' := 45) (ls' := [mv_R 0, mv_I a, mv_I b, mv_I w]) (st' := [mv_I b, mv_I a, mv_R 30]) (M1 := M) rfl ?_
        refine mv_call (st2 := [mv_I (sp_suits V P a.toNat b.toNat)]) rfl (Or.inl rfl) rfl rfl rfl ((mv_eqs (by rw [← ea, ← eb]; rfl) rfl rfl (sp_csuits_30 (c := a.toNat) (u := b.toNat) hV ho hl hn hP (by omega) (by omega)))) (by first | decide | omega) (fun M1 h1 => ?_)
        refine mv_go' 1 (pc' := 60) (ls' := [mv_R 0, mv_I a, mv_I b, mv_I w]) (st' := [mv_I (sp_suits V P a.toNat b.toNat)]) (M1 := M1) rfl ?_
        exact mv_ret (fun n => rfl) (h1)
      · rw [if_neg w0]
        by_cases w1 : w = 1
        · rw [if_pos w1]
          refine mv_callP (st2 := [mv_I 1]) rfl (Or.inr rfl) rfl rfl rfl (sp_eith_t (Or.inr w1)) (by first | decide | omega) ?_
          refine mv_go' 1 (pc' := if 1 = 0 then 32 else 35) (ls' := [mv_R 0, mv_I a, mv_I b, mv_I w]) (st' := []) (M1 := M) rfl ?_
          refine mv_ff' (by decide) ?_
          refine mv_go' 2 (pc' := if w = 0 then 39 else 51) (ls' := [mv_R 0, mv_I a, mv_I b, mv_I w]) (st' := []) (M1 := M) rfl ?_
          refine mv_ff' (w0) ?_
          refine mv_go' 4 (pc' := 57) (ls' := [mv_R 0, mv_I a, mv_I b, mv_I w]) (st' := [mv_I b, mv_I a, mv_R 30]) (M1 := M) rfl ?_
          refine mv_call (st2 := [mv_I (sp_likes V P a.toNat b.toNat)]) rfl (Or.inl rfl) rfl rfl rfl ((mv_eqs (by rw [← ea, ← eb]; rfl) rfl rfl (sp_clikes_30 (c := a.toNat) (u := b.toNat) hV ho hl hn hP (by omega) (by omega)))) (by first | decide | omega) (fun M1 h1 => ?_)
          exact mv_ret (fun n => rfl) (h1)
        · rw [if_neg w1]
          refine mv_callP (st2 := [mv_I 0]) rfl (Or.inr rfl) rfl rfl rfl (sp_eith_f (by omega)) (by first | decide | omega) ?_
          refine mv_go' 1 (pc' := if 0 = 0 then 32 else 35) (ls' := [mv_R 0, mv_I a, mv_I b, mv_I w]) (st' := []) (M1 := M) rfl ?_
          refine mv_tt' (rfl) ?_
          refine mv_go' 1 (pc' := 34) (ls' := [mv_R 0, mv_I a, mv_I b, mv_I w]) (st' := [mv_I (-1000007)]) (M1 := M) rfl ?_
          exact mv_ret (fun n => rfl) (mv_ag.rf)
    · have e0 : sp_suitv V P a b w = -1000005 := if_neg (fun h => q2 h.2)
      rw [e0]
      refine mv_callP (st2 := [mv_I 0]) rfl (Or.inl rfl) rfl rfl rfl (sp_cisUncle_f_30 hV ho q2) (by first | decide | omega) ?_
      refine mv_go' 1 (pc' := if 0 = 0 then 22 else 25) (ls' := [mv_R 0, mv_I a, mv_I b, mv_I w]) (st' := []) (M1 := M) rfl ?_
      refine mv_tt' (rfl) ?_
      refine mv_go' 1 (pc' := 24) (ls' := [mv_R 0, mv_I a, mv_I b, mv_I w]) (st' := [mv_I (-1000005)]) (M1 := M) rfl ?_
      exact mv_ret (fun n => rfl) (mv_ag.rf)
  · have e0 : sp_suitv V P a b w = -1000005 := if_neg (fun h => q1 h.1)
    rw [e0]
    refine mv_callP (st2 := [mv_I 0]) rfl (Or.inl rfl) rfl rfl rfl (sp_cisChild_f_30 hV ho q1) (by first | decide | omega) ?_
    refine mv_go' 1 (pc' := if 0 = 0 then 22 else 11) (ls' := [mv_R 0, mv_I a, mv_I b, mv_I w]) (st' := []) (M1 := M) rfl ?_
    refine mv_tt' (rfl) ?_
    refine mv_go' 1 (pc' := 24) (ls' := [mv_R 0, mv_I a, mv_I b, mv_I w]) (st' := [mv_I (-1000005)]) (M1 := M) rfl ?_
    exact mv_ret (fun n => rfl) (mv_ag.rf)
theorem sp_msuit {V M : mv_M} {P : Nat → Nat → List Int} {n a b w : Int} (hV : sp_m M V) (ho : sp_ok V) (hl : V 0 11 < n) (hP : sp_mts M P n) : mv_Ru 20 149 0 [mv_R 100, mv_I a, mv_I b, mv_I w] [] M (mv_I (sp_suitv V P a b w)) (fun M1 => mv_ag [130, 131] M M1) := by
  have h8 := sp_ok_s8 ho
  refine mv_go' 2 (pc' := 2) (ls' := [mv_R 100, mv_I a, mv_I b, mv_I w]) (st' := [mv_I a, mv_R 100]) (M1 := M) rfl ?_
  by_cases q1 : 0 ≤ a ∧ a < V 0 8
  · refine mv_callP (st2 := [mv_I 1]) rfl (Or.inl rfl) rfl rfl rfl (sp_misChild_t hV ho q1) (by first | decide | omega) ?_
    refine mv_go' 1 (pc' := if 1 = 0 then 16 else 8) (ls' := [mv_R 100, mv_I a, mv_I b, mv_I w]) (st' := []) (M1 := M) rfl ?_
    refine mv_ff' (by decide) ?_
    refine mv_go' 2 (pc' := 10) (ls' := [mv_R 100, mv_I a, mv_I b, mv_I w]) (st' := [mv_I b, mv_R 100]) (M1 := M) rfl ?_
    by_cases q2 : 0 ≤ b ∧ b < V 0 9
    · refine mv_callP (st2 := [mv_I 1]) rfl (Or.inl rfl) rfl rfl rfl (sp_misUncle_t hV ho q2) (by first | decide | omega) ?_
      refine mv_go' 1 (pc' := if 1 = 0 then 16 else 19) (ls' := [mv_R 100, mv_I a, mv_I b, mv_I w]) (st' := []) (M1 := M) rfl ?_
      refine mv_ff' (by decide) ?_
      refine mv_go' 2 (pc' := if w = 0 then 23 else 32) (ls' := [mv_R 100, mv_I a, mv_I b, mv_I w]) (st' := []) (M1 := M) rfl ?_
      have e0 : sp_suitv V P a b w = (if w = 0 then sp_suits V P a.toNat b.toNat else if w = 1 then sp_likes V P a.toNat b.toNat else -1000007) := if_pos ⟨q1, q2⟩
      have ea : a = (a.toNat : Int) := by omega
      have eb : b = (b.toNat : Int) := by omega
      by_cases w0 : w = 0
      · rw [show sp_suitv V P a b w = sp_suits V P a.toNat b.toNat from by rw [e0, if_pos w0]]
        refine mv_tt' (w0) ?_
        refine mv_go' 3 (pc' := 26) (ls' := [mv_R 100, mv_I a, mv_I b, mv_I w]) (st' := [mv_I b, mv_I a, mv_R 100]) (M1 := M) rfl ?_
        refine mv_call (st2 := [mv_I (sp_suits V P a.toNat b.toNat)]) rfl (Or.inl rfl) rfl rfl rfl ((mv_eqs (by rw [← ea, ← eb]; rfl) rfl rfl (sp_msuits (c := a.toNat) (u := b.toNat) hV ho hl hP (by omega) (by omega)))) (by first | decide | omega) (fun M1 h1 => ?_)
        refine mv_go' 1 (pc' := 48) (ls' := [mv_R 100, mv_I a, mv_I b, mv_I w]) (st' := [mv_I (sp_suits V P a.toNat b.toNat)]) (M1 := M1) rfl ?_
        exact mv_ret (fun n => rfl) (h1)
      · by_cases w1 : w = 1
        · rw [show sp_suitv V P a b w = sp_likes V P a.toNat b.toNat from by rw [e0, if_neg w0, if_pos w1]]
          refine mv_ff' (w0) ?_
          refine mv_go' 3 (pc' := if w = 1 then 37 else 46) (ls' := [mv_R 100, mv_I a, mv_I b, mv_I w]) (st' := []) (M1 := M) rfl ?_
          refine mv_tt' (w1) ?_
          refine mv_go' 3 (pc' := 40) (ls' := [mv_R 100, mv_I a, mv_I b, mv_I w]) (st' := [mv_I b, mv_I a, mv_R 100]) (M1 := M) rfl ?_
          refine mv_call (st2 := [mv_I (sp_likes V P a.toNat b.toNat)]) rfl (Or.inl rfl) rfl rfl rfl ((mv_eqs (by rw [← ea, ← eb]; rfl) rfl rfl (sp_mlikes (c := a.toNat) (u := b.toNat) hV ho hl hP (by omega) (by omega)))) (by first | decide | omega) (fun M1 h1 => ?_)
          refine mv_go' 1 (pc' := 48) (ls' := [mv_R 100, mv_I a, mv_I b, mv_I w]) (st' := [mv_I (sp_likes V P a.toNat b.toNat)]) (M1 := M1) rfl ?_
          exact mv_ret (fun n => rfl) (h1)
        · rw [show sp_suitv V P a b w = -1000007 from by rw [e0, if_neg w0, if_neg w1]]
          refine mv_ff' (w0) ?_
          refine mv_go' 3 (pc' := if w = 1 then 37 else 46) (ls' := [mv_R 100, mv_I a, mv_I b, mv_I w]) (st' := []) (M1 := M) rfl ?_
          refine mv_ff' (w1) ?_
          refine mv_go' 1 (pc' := 48) (ls' := [mv_R 100, mv_I a, mv_I b, mv_I w]) (st' := [mv_I (-1000007)]) (M1 := M) rfl ?_
          exact mv_ret (fun n => rfl) (mv_ag.rf)
    · have e0 : sp_suitv V P a b w = -1000005 := if_neg (fun h => q2 h.2)
      rw [e0]
      refine mv_callP (st2 := [mv_I 0]) rfl (Or.inl rfl) rfl rfl rfl (sp_misUncle_f hV ho q2) (by first | decide | omega) ?_
      refine mv_go' 1 (pc' := if 0 = 0 then 16 else 19) (ls' := [mv_R 100, mv_I a, mv_I b, mv_I w]) (st' := []) (M1 := M) rfl ?_
      refine mv_tt' (rfl) ?_
      refine mv_go' 1 (pc' := 18) (ls' := [mv_R 100, mv_I a, mv_I b, mv_I w]) (st' := [mv_I (-1000005)]) (M1 := M) rfl ?_
      exact mv_ret (fun n => rfl) (mv_ag.rf)
  · have e0 : sp_suitv V P a b w = -1000005 := if_neg (fun h => q1 h.1)
    rw [e0]
    refine mv_callP (st2 := [mv_I 0]) rfl (Or.inl rfl) rfl rfl rfl (sp_misChild_f hV ho q1) (by first | decide | omega) ?_
    refine mv_go' 1 (pc' := if 0 = 0 then 16 else 8) (ls' := [mv_R 100, mv_I a, mv_I b, mv_I w]) (st' := []) (M1 := M) rfl ?_
    refine mv_tt' (rfl) ?_
    refine mv_go' 1 (pc' := 18) (ls' := [mv_R 100, mv_I a, mv_I b, mv_I w]) (st' := [mv_I (-1000005)]) (M1 := M) rfl ?_
    exact mv_ret (fun n => rfl) (mv_ag.rf)
theorem sp_k9 (a b w : Int) : sp_call 70 149 [mv_I a, mv_I b, mv_I w] [mv_I a, mv_I b, mv_I w] := by
  refine sp_mk (lc := [mv_R 0, mv_I a, mv_I b, mv_I w]) (lm := [mv_R 100, mv_I a, mv_I b, mv_I w]) rfl rfl (fun M hI => ?_)
  obtain ⟨V, P, n, B, K, t, h⟩ := hI
  have h' := h
  obtain ⟨⟨hc, hm, ho⟩, ⟨_, hl, _, hn⟩, ⟨hct, hmt, _⟩, _⟩ := h'
  refine ⟨sp_suitv V P a b w, (sp_xsuit hc ho hl hn hct).imp (fun M1 h1 => ?_)⟩
  have hR := sp_R_a1 h h1 (by decide) (by decide)
  have hR2 := hR
  obtain ⟨⟨_, hm1, _⟩, _, ⟨_, hmt1, _⟩, _⟩ := hR2
  exact (sp_msuit hm1 ho hl hmt1).imp (fun M2 h2 => ⟨V, P, n, B, K, t, sp_R_a1 hR h2 (by decide) (by decide)⟩)
