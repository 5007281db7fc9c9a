/-! text: the call -/
def sp_ctq (f : Nat → Int) (t n : Nat) (M M1 : mv_M) : Prop := (mv_ag [0, 28, 10 + 3 * n, 10 + 3 * n + 1, 10 + 3 * n + 2] M M1 ∧ ∀ j, j ≠ 7 → M1 0 j = M 0 j) ∧ (M1 0 7 = if (sp_R4 f t).1 = true then ((n + 1 : Nat) : Int) else (n : Int)) ∧ M1 28 1 = 0 ∧
  ((sp_R4 f t).1 = true → sp_at (M1 (10 + 3 * n + 1)) 0 (sp_Rt f t 3).2.2 ∧ ∀ j, j < 3 → M1 (10 + 3 * n + 2) j = ((sp_Rt f t (j + 1)).2.2.length : Int))
theorem sp_ctx {t n : Nat} {M : mv_M} (ht : t ≤ 160) (hn : n < 6) (hb : ∀ j, j < t → 0 ≤ M 29 j ∧ M 29 j ≤ 255) (h1 : M 28 1 = (t : Int)) (h7 : M 0 7 = (n : Int)) : mv_Ru 54 64 0 [mv_R 0, mv_U] [] M (mv_I (sp_tv (M 29) t n)) (sp_ctq (M 29) t n M) := by
  have hl : sp_ly (10 + 3 * n) := by unfold sp_ly; omega
  have hrd := sp_cread (l := 10 + 3 * n) hl ht hb h1
  obtain ⟨f, hf⟩ : ∃ f, f = M 29 := ⟨_, rfl⟩
  rw [← hf] at hrd ⊢
  have c0 : ∀ M1, mv_ag [28, 10 + 3 * n, 10 + 3 * n + 1, 10 + 3 * n + 2] M M1 → M1 0 = M 0 := fun M1 q => q 0 (by simp; omega)
  by_cases g : (sp_R4 f t).1 = true
  · have ev : sp_tv f t n = (n : Int) := if_pos g
    rw [if_pos g] at hrd
    rw [ev]
    refine mv_go' 2 (pc' := 4) (ls' := [mv_R 0, mv_U]) (st' := [mv_I (M 0 7)]) (M1 := M) rfl ?_
    rw [show M 0 7 = (n : Int) from by exact h7]
    refine mv_go' 2 (pc' := if (n : Int) < 6 then 12 else 9) (ls' := [mv_R 0, mv_U]) (st' := []) (M1 := M) rfl ?_
    refine mv_tt' (by omega) ?_
    refine mv_go' 6 (pc' := 24) (ls' := [mv_R 0, mv_U]) (st' := [mv_I (M 0 7), mv_R 1, mv_R 28]) (M1 := M) rfl ?_
    rw [show M 0 7 = (n : Int) from by exact h7]
    refine mv_go' 1 (pc' := if 0 ≤ (n : Int) ∧ (n : Int) < 6 then 25 else mv_bad) (ls' := [mv_R 0, mv_U]) (st' := [mv_R (10 + 3 * n), mv_R 28]) (M1 := M) rfl ?_
    refine mv_tt' (by omega) ?_
    refine mv_call (st2 := [mv_I (-1)]) rfl (Or.inl rfl) rfl rfl rfl (hrd) (by first | decide | omega) (fun Ma1 hm2 => ?_)
    have hx := hm2
    have e07 : Ma1 0 7 = (n : Int) := by rw [c0 _ hx.1]; exact h7
    refine mv_go' 3 (pc' := if (-1) < 0 then 38 else 33) (ls' := [mv_R 0, mv_I (-1)]) (st' := []) (M1 := Ma1) rfl ?_
    refine mv_tt' (by first | decide | omega) ?_
    refine mv_go' 3 (pc' := 43) (ls' := [mv_R 0, mv_I (-1)]) (st' := [mv_I (Ma1 0 7), mv_R 0]) (M1 := Ma1) rfl ?_
    rw [show Ma1 0 7 = (n : Int) from by exact e07]
    refine mv_go' 3 (pc' := 48) (ls' := [mv_R 0, mv_I (-1)]) (st' := []) (M1 := (mv_st Ma1 0 (mv_up (Ma1 0) 7 (mv_w ((n : Int) + 1))))) rfl ?_
    rw [show mv_w ((n : Int) + 1) = (n : Int) + 1 from mv_w_id (by omega) (by omega)]
    refine mv_go' 4 (pc' := 54) (ls' := [mv_R 0, mv_I (-1)]) (st' := [mv_I (mv_w (((n : Int) + 1) - 1))]) (M1 := (mv_st Ma1 0 (mv_up (Ma1 0) 7 ((n : Int) + 1)))) rfl ?_
    rw [show mv_w (((n : Int) + 1) - 1) = ((n : Int) + 1) - 1 from mv_w_id (by omega) (by omega)]
    rw [show ((n : Int) + 1) - 1 = (n : Int) from by omega]
    refine mv_Ru.val (mv_ret (fun n => rfl) ⟨⟨mv_ag.st (hx.1.wd (by simp)) (by simp), fun j hj => (mv_up_n _ _ hj).trans (by rw [c0 _ hx.1])⟩, ?_, hx.2.1, fun c => ?_⟩) (congrArg mv_I (by omega))
    · rw [if_pos g]
      show (n : Int) + 1 = _
      omega
    · rw [mv_st_n _ _ (by omega), mv_st_n _ _ (by omega)]
      exact hx.2.2 c
  · have ev : sp_tv f t n = -100 - ((sp_R4 f t).2.1 : Int) := if_neg g
    rw [if_neg g] at hrd
    have hq : (sp_R4 f t).2.1 ≤ 160 := by
      by_cases g3 : (sp_Rt f t 3).1 = true
      · have hok := sp_Rt_ok f ht 3 (by decide) g3
        rw [sp_R4_t g3]
        split
        · exact Nat.le_trans (tk_ok f t _ hok.1).1 ht
        · exact Nat.le_trans (tk_Q_b f hok.1).2 ht
      · rw [sp_R4_f g3]
        exact sp_Rt_q f ht 3 (by decide)
    rw [ev]
    obtain ⟨q, hq2⟩ : ∃ q, q = (sp_R4 f t).2.1 := ⟨_, rfl⟩
    rw [← hq2] at hrd hq ⊢
    refine mv_go' 2 (pc' := 4) (ls' := [mv_R 0, mv_U]) (st' := [mv_I (M 0 7)]) (M1 := M) rfl ?_
    rw [show M 0 7 = (n : Int) from by exact h7]
    refine mv_go' 2 (pc' := if (n : Int) < 6 then 12 else 9) (ls' := [mv_R 0, mv_U]) (st' := []) (M1 := M) rfl ?_
    refine mv_tt' (by omega) ?_
    refine mv_go' 6 (pc' := 24) (ls' := [mv_R 0, mv_U]) (st' := [mv_I (M 0 7), mv_R 1, mv_R 28]) (M1 := M) rfl ?_
    rw [show M 0 7 = (n : Int) from by exact h7]
    refine mv_go' 1 (pc' := if 0 ≤ (n : Int) ∧ (n : Int) < 6 then 25 else mv_bad) (ls' := [mv_R 0, mv_U]) (st' := [mv_R (10 + 3 * n), mv_R 28]) (M1 := M) rfl ?_
    refine mv_tt' (by omega) ?_
    refine mv_call (st2 := [mv_I (q : Int)]) rfl (Or.inl rfl) rfl rfl rfl (hrd) (by first | decide | omega) (fun Ma3 hm4 => ?_)
    have hx := hm4
    refine mv_go' 3 (pc' := if (q : Int) < 0 then 38 else 33) (ls' := [mv_R 0, mv_I (q : Int)]) (st' := []) (M1 := Ma3) rfl ?_
    refine mv_ff' (by omega) ?_
    refine mv_go' 3 (pc' := 37) (ls' := [mv_R 0, mv_I (q : Int)]) (st' := [mv_I (mv_w ((-100) - (q : Int)))]) (M1 := Ma3) rfl ?_
    rw [show mv_w ((-100) - (q : Int)) = (-100) - (q : Int) from mv_w_id (by omega) (by omega)]
    refine mv_Ru.val (mv_ret (fun n => rfl) ⟨⟨hx.1.wd (by simp), fun j hj => by rw [c0 _ hx.1]⟩, ?_, hx.2.1, fun c => absurd c g⟩) (congrArg mv_I (by omega))
    rw [if_neg g, c0 _ hx.1]
    exact h7
theorem sp_at_cg {f g : Nat → Int} : ∀ {i : Nat} {l : List Int}, (∀ j, i ≤ j → j < i + l.length → f j = g j) → sp_at f i l → sp_at g i l
  | _, [], _, _ => trivial
  | i, x :: r, h, ha => by
    rw [List.length_cons] at h
    exact ⟨(h i (by omega) (by omega)).symm.trans ha.1, sp_at_cg (fun j h1 h2 => h j (by omega) (by omega)) ha.2⟩
/-- what holds behind a text that was read, or refused -/
theorem sp_tx_Inv {V : mv_M} {P : Nat → Nat → List Int} {n : Nat} {B : mv_M} {K : Int} {t : Nat} {M M1 M2 : mv_M} {f : Nat → Int} (ht : t ≤ 160) (hb : ∀ j, j < t → 0 ≤ f j ∧ f j ≤ 255) (hn6 : n < 6) (h : sp_R V P (n : Int) B K t M) (h1 : sp_ctq f t n M M1) (h2 : sp_mtq f t n M1 M2) : sp_Inv M2 := by
  obtain ⟨⟨hc, hm, hok⟩, ⟨hy, hl, hn1, hn⟩, ⟨hct, hmt, hn0, hn12⟩, hi, htp, hs, hw⟩ := h
  obtain ⟨⟨a1, a2⟩, a3, a4, a5⟩ := h1
  obtain ⟨⟨b1, b2⟩, ⟨b3, b4⟩, ⟨b5, b6⟩, b7⟩ := h2
  have e : ∀ i, i ≠ 0 → i ≠ 28 → i ≠ 10 + 3 * n → i ≠ 10 + 3 * n + 1 → i ≠ 10 + 3 * n + 2 → i ≠ 100 → i ≠ 110 → i ≠ 111 → i ≠ 126 → M2 i = M i := fun i c1 c2 c3 c4 c5 c6 c7 c8 c9 => (b1 i (by simp; omega)).trans (a1 i (by simp; omega))
  have e0 : ∀ j, j ≠ 7 → M2 0 j = M 0 j := fun j hj => by rw [b1 0 (by decide)]; exact a2 j hj
  have e07 : M2 0 7 = if (sp_R4 f t).1 = true then ((n + 1 : Nat) : Int) else (n : Int) := by rw [b1 0 (by decide)]; exact a3
  have m100 : M1 100 = M 100 := a1 100 (by simp; omega)
  have m110 : M1 110 = M 110 := a1 110 (by simp; omega)
  have m111 : M1 111 = M 111 := a1 111 (by simp; omega)
  have e100 : ∀ j, (j ≠ 9 ∧ j ≠ 12 ∧ j ≠ 21 ∧ j ≠ 22 ∧ j ≠ 23 ∧ j ≠ 24 ∧ j ≠ 27 ∧ j ≠ 28 ∧ j ≠ 29) → M2 100 j = M 100 j := fun j hj => by rw [b2 j hj, m100]
  have kc : sp_c 30 M2 V := by
    unfold sp_c
    rw [e 30 (by omega) (by omega) (by omega) (by omega) (by omega) (by omega) (by omega) (by omega) (by omega), e (30 + 1) (by omega) (by omega) (by omega) (by omega) (by omega) (by omega) (by omega) (by omega) (by omega), e (30 + 2) (by omega) (by omega) (by omega) (by omega) (by omega) (by omega) (by omega) (by omega) (by omega), e (30 + 3) (by omega) (by omega) (by omega) (by omega) (by omega) (by omega) (by omega) (by omega) (by omega), e (30 + 4) (by omega) (by omega) (by omega) (by omega) (by omega) (by omega) (by omega) (by omega) (by omega), e (30 + 5) (by omega) (by omega) (by omega) (by omega) (by omega) (by omega) (by omega) (by omega) (by omega)]
    exact hc
  have km : sp_m M2 V := by
    unfold sp_m
    rw [e100 0 (by decide), e100 1 (by decide), e100 7 (by decide), e100 13 (by decide), e 102 (by omega) (by omega) (by omega) (by omega) (by omega) (by omega) (by omega) (by omega) (by omega), e 103 (by omega) (by omega) (by omega) (by omega) (by omega) (by omega) (by omega) (by omega) (by omega), e 104 (by omega) (by omega) (by omega) (by omega) (by omega) (by omega) (by omega) (by omega) (by omega), e 105 (by omega) (by omega) (by omega) (by omega) (by omega) (by omega) (by omega) (by omega) (by omega), e 106 (by omega) (by omega) (by omega) (by omega) (by omega) (by omega) (by omega) (by omega) (by omega)]
    exact hm
  have kct : ∀ u, u < n → sp_ct (10 + 3 * u) M2 (P u) := fun u hu => by
    have := hct u (by omega)
    unfold sp_ct at this ⊢
    rw [e (10 + 3 * u + 1) (by omega) (by omega) (by omega) (by omega) (by omega) (by omega) (by omega) (by omega) (by omega), e (10 + 3 * u + 2) (by omega) (by omega) (by omega) (by omega) (by omega) (by omega) (by omega) (by omega) (by omega)]
    exact this
  have kmt : ∀ u, u < n → sp_mt u M2 (P u) := fun u hu => by
    obtain ⟨⟨c1, c2, c3, c4⟩, ⟨c5, c6, c7⟩, c8, c9⟩ := hmt u (by omega)
    have x110 : ∀ j, j < 200 * n → M 110 j = M2 110 j := fun j hj => by rw [b5 j hj, m110]
    have x111 : ∀ j, j < 4 * n → M2 111 j = M 111 j := fun j hj => by rw [b6 j hj, m111]
    refine ⟨⟨(x111 _ (by omega)).trans c1, (x111 _ (by omega)).trans c2, (x111 _ (by omega)).trans c3, (x111 _ (by omega)).trans c4⟩, ⟨sp_at_cg (fun j j1 j2 => x110 j ?_) c5, sp_at_cg (fun j j1 j2 => x110 j ?_) c6, sp_at_cg (fun j j1 j2 => x110 j ?_) c7⟩, c8, c9⟩
    · rw [List.length_map] at j2
      omega
    · rw [List.length_map] at j2
      omega
    · rw [List.length_map] at j2
      omega
  have kim : ∀ n2 : Int, (n : Int) ≤ n2 → sp_im V B n2 K M2 := fun n2 hn2 => by
    unfold sp_im sp_c sp_mi at hi ⊢
    rw [e0 8 (by decide), e100 14 (by decide), e 40 (by omega) (by omega) (by omega) (by omega) (by omega) (by omega) (by omega) (by omega) (by omega), e (40 + 1) (by omega) (by omega) (by omega) (by omega) (by omega) (by omega) (by omega) (by omega) (by omega), e (40 + 2) (by omega) (by omega) (by omega) (by omega) (by omega) (by omega) (by omega) (by omega) (by omega), e (40 + 3) (by omega) (by omega) (by omega) (by omega) (by omega) (by omega) (by omega) (by omega) (by omega), e (40 + 4) (by omega) (by omega) (by omega) (by omega) (by omega) (by omega) (by omega) (by omega) (by omega), e (40 + 5) (by omega) (by omega) (by omega) (by omega) (by omega) (by omega) (by omega) (by omega) (by omega), e 115 (by omega) (by omega) (by omega) (by omega) (by omega) (by omega) (by omega) (by omega) (by omega), e 116 (by omega) (by omega) (by omega) (by omega) (by omega) (by omega) (by omega) (by omega) (by omega)]
    refine ⟨hi.1, hi.2.1, hi.2.2.1, fun hk => ?_⟩
    have h4 := hi.2.2.2 hk
    exact ⟨h4.1, ⟨h4.2.1.1, h4.2.1.2.1, by have := h4.2.1.2.2; omega⟩, h4.2.2⟩
  have ktp : sp_tp M2 0 := ⟨by rw [b1 28 (by decide)]; exact a4, b3, by omega, fun j hj => absurd hj (by omega)⟩
  have ksh : sp_sh M2 := fun s hs4 => by
    rw [e (71 + 2 * s) (by omega) (by omega) (by omega) (by omega) (by omega) (by omega) (by omega) (by omega) (by omega), e (72 + 2 * s) (by omega) (by omega) (by omega) (by omega) (by omega) (by omega) (by omega) (by omega) (by omega), e 117 (by omega) (by omega) (by omega) (by omega) (by omega) (by omega) (by omega) (by omega) (by omega), e 118 (by omega) (by omega) (by omega) (by omega) (by omega) (by omega) (by omega) (by omega) (by omega), e 119 (by omega) (by omega) (by omega) (by omega) (by omega) (by omega) (by omega) (by omega) (by omega)]
    exact hs s hs4
  have kw : sp_at (M2 125) 0 sp_words := by rw [e 125 (by omega) (by omega) (by omega) (by omega) (by omega) (by omega) (by omega) (by omega) (by omega)]; exact hw
  by_cases g : (sp_R4 f t).1 = true
  · rw [if_pos g] at e07 b4
    have g3 : (sp_Rt f t 3).1 = true := by
      by_cases z : (sp_Rt f t 3).1 = true
      · exact z
      · rw [sp_R4_f z] at g
        exact absurd g z
    obtain ⟨Pn, pw, p1, p2, p3, p4⟩ := sp_Rt_parts ht hb g3
    have a5 := a5 g
    have b7 := b7 g
    have L0 := a5.2 0 (by decide)
    have L1 := a5.2 1 (by decide)
    have L2 := a5.2 2 (by decide)
    have e1 : M2 (10 + 3 * n + 1) = M1 (10 + 3 * n + 1) := b1 _ (by simp; omega)
    have e2 : M2 (10 + 3 * n + 2) = M1 (10 + 3 * n + 2) := b1 _ (by simp; omega)
    have at3 := a5.1
    rw [p3, sp_at_app, sp_at_app] at at3
    have mt3 := b7.1
    rw [p3, List.map_append, List.map_append, sp_at_app, sp_at_app, List.length_append, List.length_map, List.length_map] at mt3
    have N0 := b7.2 0 (by decide)
    have N1 := b7.2 1 (by decide)
    have N2 := b7.2 2 (by decide)
    have N3 := b7.2 3 (by decide)
    rw [p3, List.length_append, List.length_append] at p4
    rw [p1] at L0 N1
    rw [p2, List.length_append] at L1 N2
    rw [p3, List.length_append, List.length_append] at L2 N3
    refine ⟨V, fun u => if u = n then Pn else P u, ((n + 1 : Nat) : Int), B, K, 0, ⟨kc, km, hok⟩, ⟨hy, by omega, by omega, by omega⟩, ⟨fun u hu => ?_, fun u hu => ?_, e07, b4⟩, kim _ (by omega), ktp, ksh, kw⟩
    · by_cases c : u = n
      · subst c
        show sp_ct (10 + 3 * u) M2 (if u = u then Pn else P u)
        rw [if_pos rfl]
        refine ⟨⟨by rw [e2]; exact L0, by rw [e2]; exact L1, by rw [e2]; exact L2⟩, ⟨?_, ?_, ?_⟩, pw, p4⟩
        · rw [e1]; exact at3.1.1
        · rw [e1]
          have := at3.1.2
          rw [Nat.zero_add] at this
          exact this
        · rw [e1]
          have := at3.2
          rw [Nat.zero_add, List.length_append] at this
          exact this
      · show sp_ct (10 + 3 * u) M2 (if u = n then Pn else P u)
        rw [if_neg c]
        exact kct u (by omega)
    · by_cases c : u = n
      · subst c
        show sp_mt u M2 (if u = u then Pn else P u)
        rw [if_pos rfl]
        exact ⟨⟨N0, N1, N2, N3⟩, ⟨mt3.1.1, mt3.1.2, mt3.2⟩, pw, p4⟩
      · show sp_mt u M2 (if u = n then Pn else P u)
        rw [if_neg c]
        exact kmt u (by omega)
  · rw [if_neg g] at e07 b4
    exact ⟨V, P, (n : Int), B, K, 0, ⟨kc, km, hok⟩, ⟨hy, hl, hn1, hn⟩, ⟨fun u hu => kct u (by omega), fun u hu => kmt u (by omega), e07, b4⟩, kim _ (by omega), ktp, ksh, kw⟩
/-- a pair of calls, so deep -/
def sp_callD (D yc ym : Nat) (as am : List mv_V) : Prop := ∀ M, sp_Inv M → ∃ z, mv_Ru D yc 0 (mv_ent (mv_nl yc) (mv_R 0 :: as)) [] M (mv_I z) (fun M1 => mv_Ru D ym 0 (mv_ent (mv_nl ym) (mv_R 100 :: am)) [] M1 (mv_I z) sp_Inv)
theorem sp_callD_of {yc ym : Nat} {as am : List mv_V} (h : sp_call yc ym as am) : sp_callD 60 yc ym as am := fun M hM => by
  obtain ⟨z, hz⟩ := h M hM
  exact ⟨z, (hz.up (by omega)).imp (fun M1 q => q.up (by omega))⟩
theorem sp_k3m {M : mv_M} (hI : sp_Inv M) (h : M 100 12 = ((6 : Nat) : Int)) : mv_Ru 60 136 0 [mv_R 100, mv_U, mv_U] [] M (mv_I (-4)) sp_Inv := by
  refine mv_go' 2 (pc' := 4) (ls' := [mv_R 100, mv_U, mv_U]) (st' := [mv_I (M 100 12)]) (M1 := M) rfl ?_
  rw [show M 100 12 = ((6 : Nat) : Int) from by exact h]
  refine mv_go' 2 (pc' := if ((6 : Nat) : Int) = 6 then 9 else 12) (ls' := [mv_R 100, mv_U, mv_U]) (st' := []) (M1 := M) rfl ?_
  refine mv_tt' (by first | decide | omega) ?_
  refine mv_go' 1 (pc' := 11) (ls' := [mv_R 100, mv_U, mv_U]) (st' := [mv_I (-4)]) (M1 := M) rfl ?_
  exact mv_ret (fun n => rfl) hI
theorem sp_k3 : sp_callD 60 64 136 [] [] := by
  intro M hI
  have hI2 := hI
  obtain ⟨V, P, n, B, K, t, h⟩ := hI2
  have h' := h
  obtain ⟨⟨hc, hm, hok⟩, ⟨hy, hl, hn1, hn⟩, ⟨hct, hmt, hn0, hn12⟩, hi, htp, hs, hw⟩ := h'
  obtain ⟨m, hm2⟩ : ∃ m : Nat, n = (m : Int) := ⟨n.toNat, by omega⟩
  subst hm2
  by_cases c : m < 6
  · have hb : ∀ j, j < t → 0 ≤ M 29 j ∧ M 29 j ≤ 255 := fun j hj => ⟨(htp.2.2.2 j hj).2.1, (htp.2.2.2 j hj).2.2⟩
    refine ⟨sp_tv (M 29) t m, ((sp_ctx (n := m) htp.2.2.1 c hb htp.1 hn0).up (by omega)).imp (fun M1 q1 => ?_)⟩
    have m100 : M1 100 = M 100 := q1.1.1 100 (by simp; omega)
    have m108 : M1 108 = M 108 := q1.1.1 108 (by simp; omega)
    have m125 : M1 125 = M 125 := q1.1.1 125 (by simp; omega)
    exact ((sp_mtx (f := M 29) (n := m) htp.2.2.1 c (fun j hj => by rw [m108]; exact (htp.2.2.2 j hj).1.symm) hb (by rw [m125]; exact hw) (by rw [m100]; exact htp.2.1) (by rw [m100]; exact hn12)).up (by omega)).imp (fun M2 q2 => sp_tx_Inv htp.2.2.1 hb c h q1 q2)
  · have h6 : m = 6 := by omega
    subst h6
    refine ⟨-4, ?_⟩
    show mv_Ru 60 64 0 [mv_R 0, mv_U] [] M (mv_I (-4)) _
    refine mv_go' 2 (pc' := 4) (ls' := [mv_R 0, mv_U]) (st' := [mv_I (M 0 7)]) (M1 := M) rfl ?_
    rw [show M 0 7 = ((6 : Nat) : Int) from by exact hn0]
    refine mv_go' 2 (pc' := if ((6 : Nat) : Int) < 6 then 12 else 9) (ls' := [mv_R 0, mv_U]) (st' := []) (M1 := M) rfl ?_
    refine mv_ff' (by first | decide | omega) ?_
    refine mv_go' 1 (pc' := 11) (ls' := [mv_R 0, mv_U]) (st' := [mv_I (-4)]) (M1 := M) rfl ?_
    refine mv_ret (fun n => rfl) ?_
    show mv_Ru 60 136 0 [mv_R 100, mv_U, mv_U] [] M (mv_I (-4)) sp_Inv
    refine sp_k3m hI hn12
