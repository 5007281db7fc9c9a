/-! image, back -/
theorem mv_st_st (M : mv_M) (i : Nat) (f g : Nat → Int) : mv_st (mv_st M i f) i g = mv_st M i g := by
  funext a
  unfold mv_st
  cases Nat.beq a i <;> rfl
theorem sp_mim1 {d : Nat} {Q : mv_V → mv_M → Prop} : ∀ (r k : Nat) (M : mv_M), k + r = 24 → (∀ j, j < k → M 115 j = M 104 j ∧ M 115 (24 + j) = M 105 j) →
    (∀ M2, mv_ag [115] M M2 → (∀ j, j < 24 → M2 115 j = M2 104 j ∧ M2 115 (24 + j) = M2 105 j) → mv_W d 185 46 [mv_R 100, mv_I 24] [] M2 Q) → mv_W d 185 7 [mv_R 100, mv_I (k : Int)] [] M Q := by
  intro r
  induction r with
  | zero =>
    intro k M hk hj e
    have hk : k = 24 := by omega
    subst hk
    refine mv_goW 3 (pc' := if ((24 : Nat) : Int) < 24 then 13 else 46) (ls' := [mv_R 100, mv_I ((24 : Nat) : Int)]) (st' := []) (M1 := M) rfl ?_
    refine mv_ffW (by decide) ?_
    exact e M mv_ag.rf hj
  | succ r ih =>
    intro k M hk hj e
    refine mv_goW 3 (pc' := if (k : Int) < 24 then 13 else 46) (ls' := [mv_R 100, mv_I (k : Int)]) (st' := []) (M1 := M) rfl ?_
    refine mv_ttW (by omega) ?_
    refine mv_goW 7 (pc' := if 0 ≤ (k : Int) ∧ (k : Int) < 24 then 24 else mv_bad) (ls' := [mv_R 100, mv_I (k : Int)]) (st' := [mv_I (M 104 k), mv_I (k : Int), mv_R 115]) (M1 := M) rfl ?_
    refine mv_ttW (by omega) ?_
    refine mv_goW 1 (pc' := if 0 ≤ (k : Int) ∧ (k : Int) < 54 then 25 else mv_bad) (ls' := [mv_R 100, mv_I (k : Int)]) (st' := []) (M1 := (mv_st M 115 (mv_up (M 115) k (M 104 k)))) rfl ?_
    refine mv_ttW (by omega) ?_
    refine mv_goW 9 (pc' := if 0 ≤ (k : Int) ∧ (k : Int) < 24 then 39 else mv_bad) (ls' := [mv_R 100, mv_I (k : Int)]) (st' := [mv_I (M 105 k), mv_I (mv_w (24 + (k : Int))), mv_R 115]) (M1 := (mv_st M 115 (mv_up (M 115) k (M 104 k)))) rfl ?_
    refine mv_ttW (by omega) ?_
    rw [show mv_w (24 + (k : Int)) = ((k + 24 : Nat) : Int) from by (rw [show mv_w (24 + (k : Int)) = 24 + (k : Int) from mv_w_id (by omega) (by omega)]) <;> omega]
    refine mv_goW 1 (pc' := if 0 ≤ ((k + 24 : Nat) : Int) ∧ ((k + 24 : Nat) : Int) < 54 then 40 else mv_bad) (ls' := [mv_R 100, mv_I (k : Int)]) (st' := []) (M1 := (mv_st (mv_st M 115 (mv_up (M 115) k (M 104 k))) 115 (mv_up (mv_up (M 115) k (M 104 k)) (k + 24) (M 105 k)))) rfl ?_
    refine mv_ttW (by omega) ?_
    refine mv_goW 2 (pc' := 7) (ls' := [mv_R 100, mv_I (mv_w ((k : Int) + 1))]) (st' := []) (M1 := (mv_st (mv_st M 115 (mv_up (M 115) k (M 104 k))) 115 (mv_up (mv_up (M 115) k (M 104 k)) (k + 24) (M 105 k)))) rfl ?_
    rw [show mv_w ((k : Int) + 1) = ((k + 1 : Nat) : Int) from by (rw [show mv_w ((k : Int) + 1) = (k : Int) + 1 from mv_w_id (by omega) (by omega)]) <;> omega]
    refine ih (k + 1) _ (by omega) (fun j hj2 => ?_) (fun M2 a b => e M2 (mv_ag.tr ((mv_ag.st mv_ag.rf (by decide)).st (by decide)) a) b)
    show mv_up (mv_up (M 115) k (M 104 k)) (k + 24) (M 105 k) j = M 104 j ∧ mv_up (mv_up (M 115) k (M 104 k)) (k + 24) (M 105 k) (24 + j) = M 105 j
    by_cases q : j = k
    · rw [q, mv_up_n _ _ (by omega), mv_up_s, show 24 + k = k + 24 from by omega, mv_up_s]; exact ⟨rfl, rfl⟩
    · rw [mv_up_n _ _ (by omega), mv_up_n _ _ q, mv_up_n _ _ (by omega), mv_up_n _ _ (by omega)]
      exact hj j (by omega)
theorem sp_mim2 {d : Nat} {Q : mv_V → mv_M → Prop} : ∀ (r k : Nat) (M : mv_M), k + r = 6 → (∀ j, j < k → M 115 (48 + j) = M 106 j) →
    (∀ M2, mv_ag [115] M M2 → (∀ j, j < 48 → M2 115 j = M 115 j) → (∀ j, j < 6 → M2 115 (48 + j) = M2 106 j) → mv_W d 185 75 [mv_R 100, mv_I 6] [] M2 Q) → mv_W d 185 48 [mv_R 100, mv_I (k : Int)] [] M Q := by
  intro r
  induction r with
  | zero =>
    intro k M hk hj e
    have hk : k = 6 := by omega
    subst hk
    refine mv_goW 3 (pc' := if ((6 : Nat) : Int) < 6 then 54 else 75) (ls' := [mv_R 100, mv_I ((6 : Nat) : Int)]) (st' := []) (M1 := M) rfl ?_
    refine mv_ffW (by decide) ?_
    exact e M mv_ag.rf (fun _ _ => rfl) hj
  | succ r ih =>
    intro k M hk hj e
    refine mv_goW 3 (pc' := if (k : Int) < 6 then 54 else 75) (ls' := [mv_R 100, mv_I (k : Int)]) (st' := []) (M1 := M) rfl ?_
    refine mv_ttW (by omega) ?_
    refine mv_goW 9 (pc' := if 0 ≤ (k : Int) ∧ (k : Int) < 6 then 68 else mv_bad) (ls' := [mv_R 100, mv_I (k : Int)]) (st' := [mv_I (M 106 k), mv_I (mv_w (48 + (k : Int))), mv_R 115]) (M1 := M) rfl ?_
    refine mv_ttW (by omega) ?_
    rw [show mv_w (48 + (k : Int)) = ((k + 48 : Nat) : Int) from by (rw [show mv_w (48 + (k : Int)) = 48 + (k : Int) from mv_w_id (by omega) (by omega)]) <;> omega]
    refine mv_goW 1 (pc' := if 0 ≤ ((k + 48 : Nat) : Int) ∧ ((k + 48 : Nat) : Int) < 54 then 69 else mv_bad) (ls' := [mv_R 100, mv_I (k : Int)]) (st' := []) (M1 := (mv_st M 115 (mv_up (M 115) (k + 48) (M 106 k)))) rfl ?_
    refine mv_ttW (by omega) ?_
    refine mv_goW 2 (pc' := 48) (ls' := [mv_R 100, mv_I (mv_w ((k : Int) + 1))]) (st' := []) (M1 := (mv_st M 115 (mv_up (M 115) (k + 48) (M 106 k)))) rfl ?_
    rw [show mv_w ((k : Int) + 1) = ((k + 1 : Nat) : Int) from by (rw [show mv_w ((k : Int) + 1) = (k : Int) + 1 from mv_w_id (by omega) (by omega)]) <;> omega]
    refine ih (k + 1) _ (by omega) (fun j hj2 => ?_) (fun M2 a b c => e M2 (mv_ag.tr (mv_ag.st mv_ag.rf (by decide)) a) (fun j h48 => (b j h48).trans (mv_up_n _ _ (by omega))) c)
    show mv_up (M 115) (k + 48) (M 106 k) (48 + j) = M 106 j
    by_cases q : j = k
    · rw [q, show 48 + k = k + 48 from by omega, mv_up_s]
    · rw [mv_up_n _ _ (by omega)]
      exact hj j (by omega)
theorem sp_im_end {V : mv_M} {P : Nat → Nat → List Int} {n : Int} {B : mv_M} {K : Int} {t : Nat} {M Mf : mv_M} (h : sp_R V P n B K t M) (e : ∀ i, i ≠ 0 → (i < 40 ∨ 45 < i) → i ≠ 100 → i ≠ 115 → i ≠ 116 → Mf i = M i)
    (e0 : Mf 0 = mv_up (M 0) 8 1) (e100 : Mf 100 = mv_up (M 100) 14 1) (hc : sp_c 40 Mf V) (hi : sp_mi Mf V) : sp_R V P n V 1 t Mf := by
  obtain ⟨⟨hc0, hm, hok⟩, hn, ⟨hct, hmt, hn0, hn1⟩, _, ht, hs, hw⟩ := h
  refine ⟨⟨?_, ?_, hok⟩, hn, ⟨?_, ?_, ?_, ?_⟩, ⟨?_, ?_, Or.inr rfl, fun _ => ⟨⟨hc, hi, hok⟩, ⟨Int.le_refl _, hn.1, hn.2.1⟩, fun u hu => ⟨rfl, rfl⟩⟩⟩, ?_, ?_, ?_⟩
  · unfold sp_c
    rw [e 30 (by decide) (by decide) (by decide) (by decide) (by decide), e (30 + 1) (by decide) (by decide) (by decide) (by decide) (by decide), e (30 + 2) (by decide) (by decide) (by decide) (by decide) (by decide), e (30 + 3) (by decide) (by decide) (by decide) (by decide) (by decide), e (30 + 4) (by decide) (by decide) (by decide) (by decide) (by decide), e (30 + 5) (by decide) (by decide) (by decide) (by decide) (by decide)]
    exact hc0
  · unfold sp_m
    rw [e100, e 102 (by decide) (by decide) (by decide) (by decide) (by decide), e 103 (by decide) (by decide) (by decide) (by decide) (by decide), e 104 (by decide) (by decide) (by decide) (by decide) (by decide), e 105 (by decide) (by decide) (by decide) (by decide) (by decide), e 106 (by decide) (by decide) (by decide) (by decide) (by decide)]
    exact hm
  · intro t ht
    unfold sp_ct
    rw [e (10 + 3 * t + 1) (by omega) (by omega) (by omega) (by omega) (by omega), e (10 + 3 * t + 2) (by omega) (by omega) (by omega) (by omega) (by omega)]
    exact hct t ht
  · intro t ht
    unfold sp_mt
    rw [e 110 (by decide) (by decide) (by decide) (by decide) (by decide), e 111 (by decide) (by decide) (by decide) (by decide) (by decide)]
    exact hmt t ht
  · rw [e0]; exact hn0
  · rw [e100]; exact hn1
  · rw [e0]; rfl
  · rw [e100]; rfl
  · unfold sp_tp
    rw [e 28 (by decide) (by decide) (by decide) (by decide) (by decide), e100, e 29 (by decide) (by decide) (by decide) (by decide) (by decide), e 108 (by decide) (by decide) (by decide) (by decide) (by decide)]
    exact ht
  · intro s hs4
    rw [e (71 + 2 * s) (by omega) (by omega) (by omega) (by omega) (by omega), e (72 + 2 * s) (by omega) (by omega) (by omega) (by omega) (by omega), e 117 (by decide) (by decide) (by decide) (by decide) (by decide), e 118 (by decide) (by decide) (by decide) (by decide) (by decide), e 119 (by decide) (by decide) (by decide) (by decide) (by decide)]
    exact hs s hs4
  · rw [e 125 (by decide) (by decide) (by decide) (by decide) (by decide)]; exact hw
theorem sp_im_end2 {V : mv_M} {P : Nat → Nat → List Int} {n : Int} {B : mv_M} {K : Int} {t : Nat} {M Ma M2 M3 : mv_M} {g : Nat → Int} (h : sp_R V P n B K t M) (hx : mv_ag [40, 40 + 1, 40 + 2, 40 + 3, 40 + 4, 40 + 5] M Ma ∧ sp_c 40 Ma V)
    (hy1 : mv_ag [115] (mv_st (mv_st Ma 0 (mv_up (Ma 0) 8 1)) 100 (mv_up (Ma 100) 14 1)) M2) (hy2 : ∀ j, j < 24 → M2 115 j = M2 104 j ∧ M2 115 (24 + j) = M2 105 j)
    (hz1 : mv_ag [115] M2 M3) (hz2 : ∀ j, j < 48 → M3 115 j = M2 115 j) (hz3 : ∀ j, j < 6 → M3 115 (48 + j) = M3 106 j) (hg : g 0 = V 0 8 ∧ g 1 = V 0 9 ∧ g 2 = V 0 10 ∧ g 3 = V 0 11) : sp_Inv (mv_st M3 116 g) := by
  have h' := h
  obtain ⟨⟨hc, hm, ho⟩, _⟩ := h'
  have h8 := sp_ok_s8 ho
  have a1 : ∀ i, (i < 40 ∨ 45 < i) → Ma i = M i := fun i hi => hx.1 i (by simp only [List.mem_cons, List.not_mem_nil, or_false]; omega)
  have a2 : ∀ i, i ≠ 115 → M3 i = (mv_st (mv_st Ma 0 (mv_up (Ma 0) 8 1)) 100 (mv_up (Ma 100) 14 1)) i := fun i hi => (hz1 i (by simpa using hi)).trans (hy1 i (by simpa using hi))
  have a3 : ∀ i, i ≠ 0 → i ≠ 100 → i ≠ 115 → M3 i = Ma i := fun i i0 i1 i2 => by rw [a2 i i2, mv_st_n _ _ i1, mv_st_n _ _ i0]
  have a4 : ∀ i, i ≠ 0 → (i < 40 ∨ 45 < i) → i ≠ 100 → i ≠ 115 → M3 i = M i := fun i i0 i1 i2 i3 => (a3 i i0 i2 i3).trans (a1 i i1)
  refine ⟨V, P, n, V, 1, t, sp_im_end h (fun i i0 i1 i2 i3 i4 => by rw [mv_st_n _ _ i4]; exact a4 i i0 i1 i2 i3) ?_ ?_ ?_ ⟨fun j hj => ?_, fun j hj => ?_, fun j hj => ?_, hg⟩⟩
  · rw [mv_st_n _ _ (by decide), a2 0 (by decide)]
    show mv_up (Ma 0) 8 1 = _
    rw [a1 0 (by decide)]
  · rw [mv_st_n _ _ (by decide), a2 100 (by decide)]
    show mv_up (Ma 100) 14 1 = _
    rw [a1 100 (by decide)]
  · have hc4 := hx.2
    unfold sp_c at hc4 ⊢
    rw [mv_st_n _ _ (show (40 : Nat) ≠ 116 by decide), mv_st_n _ _ (show (40 + 1 : Nat) ≠ 116 by decide), mv_st_n _ _ (show (40 + 2 : Nat) ≠ 116 by decide), mv_st_n _ _ (show (40 + 3 : Nat) ≠ 116 by decide), mv_st_n _ _ (show (40 + 4 : Nat) ≠ 116 by decide), mv_st_n _ _ (show (40 + 5 : Nat) ≠ 116 by decide)]
    rw [a3 40 (by decide) (by decide) (by decide), a3 (40 + 1) (by decide) (by decide) (by decide), a3 (40 + 2) (by decide) (by decide) (by decide), a3 (40 + 3) (by decide) (by decide) (by decide), a3 (40 + 4) (by decide) (by decide) (by decide), a3 (40 + 5) (by decide) (by decide) (by decide)]
    exact hc4
  · rw [mv_st_n _ _ (by decide), hz2 j (by omega), (hy2 j hj).1, hy1 104 (by decide)]
    show Ma 104 j = _
    rw [a1 104 (by decide)]
    exact sp_m_1 hm j hj
  · rw [mv_st_n _ _ (by decide), hz2 _ (by omega), (hy2 j hj).2, hy1 105 (by decide)]
    show Ma 105 j = _
    rw [a1 105 (by decide)]
    exact sp_m_3 hm j hj
  · rw [mv_st_n _ _ (by decide), hz3 j (by omega), a4 106 (by decide) (by decide) (by decide) (by decide)]
    exact sp_m_2 hm j hj
theorem sp_k29 : sp_call 90 185 [] [] := by
  refine sp_mkW (lc := [mv_R 0]) (lm := [mv_R 100, mv_U]) rfl rfl (fun M hI => ?_)
  have hI2 := hI
  obtain ⟨V, P, n, B, K, t, h⟩ := hI2
  have h' := h
  obtain ⟨⟨hc, hm, ho⟩, _⟩ := h'
  have h8 := sp_ok_s8 ho
  have h9 := sp_ok_s9 ho
  refine mv_goW 4 (pc' := 8) (ls' := [mv_R 0]) (st' := [mv_R 30, mv_R 40]) (M1 := M) rfl ?_
  refine mv_callW (st2 := []) rfl (Or.inl rfl) rfl rfl rfl (sp_become_40_30 hc (by omega) (by omega)) (by first | decide | omega) (fun Ma1 hm2 => ?_)
  have hx := hm2
  have hm := sp_m_ag2 hm hx.1 (by decide)
  have hc := sp_c_ag hc hx.1 (by decide)
  refine mv_goW 3 (pc' := if 1 = 0 ∨ 1 = 1 then 16 else mv_bad) (ls' := [mv_R 0]) (st' := []) (M1 := (mv_st Ma1 0 (mv_up (Ma1 0) 8 1))) rfl ?_
  refine mv_ttW (by omega) ?_
  refine mv_goW 3 (pc' := 23) (ls' := [mv_R 0]) (st' := [mv_I (Ma1 30 9)]) (M1 := (mv_st Ma1 0 (mv_up (Ma1 0) 8 1))) rfl ?_
  have hr1 := sp_ok_s9 ho
  rw [show Ma1 30 9 = V 0 9 from by exact sp_c_s9 hc]
  refine mv_retW (fun n => rfl) ⟨_, rfl, ?_⟩
  refine mv_goW 3 (pc' := if 1 = 0 ∨ 1 = 1 then 5 else mv_bad) (ls' := [mv_R 100, mv_U]) (st' := []) (M1 := (mv_st (mv_st Ma1 0 (mv_up (Ma1 0) 8 1)) 100 (mv_up (Ma1 100) 14 1))) rfl ?_
  refine mv_ttW (by omega) ?_
  refine mv_goW 2 (pc' := 7) (ls' := [mv_R 100, mv_I 0]) (st' := []) (M1 := (mv_st (mv_st Ma1 0 (mv_up (Ma1 0) 8 1)) 100 (mv_up (Ma1 100) 14 1))) rfl ?_
  refine sp_mim1 24 0 _ (by omega) (fun j hj => absurd hj (by omega)) (fun M2 hy1 hy2 => ?_)
  refine mv_goW 2 (pc' := 48) (ls' := [mv_R 100, mv_I 0]) (st' := []) (M1 := M2) rfl ?_
  refine sp_mim2 6 0 _ (by omega) (fun j hj => absurd hj (by omega)) (fun M3 hz1 hz2 hz3 => ?_)
  have hm3 : sp_m M3 V := by
    refine sp_m_ag (sp_m_ag (sp_m_ag hm (S := [0, 100]) ((mv_ag.st mv_ag.rf (by decide)).st (by decide)) ⟨rfl, rfl, rfl, rfl⟩ (by decide)) hy1 ?_ (by decide)) hz1 ?_ (by decide)
    · rw [hy1 100 (by decide)]; exact ⟨rfl, rfl, rfl, rfl⟩
    · rw [hz1 100 (by decide)]; exact ⟨rfl, rfl, rfl, rfl⟩
  refine mv_goW 5 (pc' := 84) (ls' := [mv_R 100, mv_I 6]) (st' := [mv_I (M3 100 0), mv_I 0, mv_R 116]) (M1 := M3) rfl ?_
  have hr3 := sp_ok_s8 ho
  rw [show M3 100 0 = V 0 8 from by exact sp_m_s8 hm3]
  refine mv_goW 1 (pc' := if 0 ≤ 0 ∧ 0 < 4 then 85 else mv_bad) (ls' := [mv_R 100, mv_I 6]) (st' := []) (M1 := (mv_st M3 116 (mv_up (M3 116) 0 (V 0 8)))) rfl ?_
  refine mv_ttW (by omega) ?_
  refine mv_goW 5 (pc' := 94) (ls' := [mv_R 100, mv_I 6]) (st' := [mv_I (M3 100 1), mv_I 1, mv_R 116]) (M1 := (mv_st M3 116 (mv_up (M3 116) 0 (V 0 8)))) rfl ?_
  have hr5 := sp_ok_s9 ho
  rw [show M3 100 1 = V 0 9 from by exact sp_m_s9 hm3]
  refine mv_goW 1 (pc' := if 0 ≤ 1 ∧ 1 < 4 then 95 else mv_bad) (ls' := [mv_R 100, mv_I 6]) (st' := []) (M1 := (mv_st (mv_st M3 116 (mv_up (M3 116) 0 (V 0 8))) 116 (mv_up (mv_up (M3 116) 0 (V 0 8)) 1 (V 0 9)))) rfl ?_
  refine mv_ttW (by omega) ?_
  refine mv_goW 5 (pc' := 104) (ls' := [mv_R 100, mv_I 6]) (st' := [mv_I (M3 100 7), mv_I 2, mv_R 116]) (M1 := (mv_st (mv_st M3 116 (mv_up (M3 116) 0 (V 0 8))) 116 (mv_up (mv_up (M3 116) 0 (V 0 8)) 1 (V 0 9)))) rfl ?_
  have hr7 := sp_ok_s10 ho
  rw [show M3 100 7 = V 0 10 from by exact sp_m_s10 hm3]
  refine mv_goW 1 (pc' := if 0 ≤ 2 ∧ 2 < 4 then 105 else mv_bad) (ls' := [mv_R 100, mv_I 6]) (st' := []) (M1 := (mv_st (mv_st (mv_st M3 116 (mv_up (M3 116) 0 (V 0 8))) 116 (mv_up (mv_up (M3 116) 0 (V 0 8)) 1 (V 0 9))) 116 (mv_up (mv_up (mv_up (M3 116) 0 (V 0 8)) 1 (V 0 9)) 2 (V 0 10)))) rfl ?_
  refine mv_ttW (by omega) ?_
  refine mv_goW 5 (pc' := 114) (ls' := [mv_R 100, mv_I 6]) (st' := [mv_I (M3 100 13), mv_I 3, mv_R 116]) (M1 := (mv_st (mv_st (mv_st M3 116 (mv_up (M3 116) 0 (V 0 8))) 116 (mv_up (mv_up (M3 116) 0 (V 0 8)) 1 (V 0 9))) 116 (mv_up (mv_up (mv_up (M3 116) 0 (V 0 8)) 1 (V 0 9)) 2 (V 0 10)))) rfl ?_
  have hr9 := sp_ok_s11 ho
  rw [show M3 100 13 = V 0 11 from by exact sp_m_s11 hm3]
  refine mv_goW 1 (pc' := if 0 ≤ 3 ∧ 3 < 4 then 115 else mv_bad) (ls' := [mv_R 100, mv_I 6]) (st' := []) (M1 := (mv_st (mv_st (mv_st (mv_st M3 116 (mv_up (M3 116) 0 (V 0 8))) 116 (mv_up (mv_up (M3 116) 0 (V 0 8)) 1 (V 0 9))) 116 (mv_up (mv_up (mv_up (M3 116) 0 (V 0 8)) 1 (V 0 9)) 2 (V 0 10))) 116 (mv_up (mv_up (mv_up (mv_up (M3 116) 0 (V 0 8)) 1 (V 0 9)) 2 (V 0 10)) 3 (V 0 11)))) rfl ?_
  refine mv_ttW (by omega) ?_
  refine mv_goW 2 (pc' := 119) (ls' := [mv_R 100, mv_I 6]) (st' := [mv_I (M3 100 1)]) (M1 := (mv_st (mv_st (mv_st (mv_st M3 116 (mv_up (M3 116) 0 (V 0 8))) 116 (mv_up (mv_up (M3 116) 0 (V 0 8)) 1 (V 0 9))) 116 (mv_up (mv_up (mv_up (M3 116) 0 (V 0 8)) 1 (V 0 9)) 2 (V 0 10))) 116 (mv_up (mv_up (mv_up (mv_up (M3 116) 0 (V 0 8)) 1 (V 0 9)) 2 (V 0 10)) 3 (V 0 11)))) rfl ?_
  have hr11 := sp_ok_s9 ho
  rw [show M3 100 1 = V 0 9 from by exact sp_m_s9 hm3]
  exact mv_retW (fun n => rfl) ⟨congrArg mv_I (by first | with_reducible rfl | omega), (by rw [mv_st_st, mv_st_st, mv_st_st]; exact sp_im_end2 h hx hy1 hy2 hz1 hz2 hz3 ⟨rfl, rfl, rfl, rfl⟩)⟩
/-! back -/
theorem sp_mbk1 {d : Nat} {Q : mv_V → mv_M → Prop} : ∀ (r k : Nat) (M : mv_M), k + r = 24 → (∀ j, j < k → M 104 j = M 115 j ∧ M 105 j = M 115 (24 + j)) →
    (∀ M2, mv_ag [104, 105] M M2 → (∀ j, j < 24 → M2 104 j = M 115 j ∧ M2 105 j = M 115 (24 + j)) → mv_W d 186 51 [mv_R 100, mv_I 24] [] M2 Q) → mv_W d 186 12 [mv_R 100, mv_I (k : Int)] [] M Q := by
  intro r
  induction r with
  | zero =>
    intro k M hk hj e
    have hk : k = 24 := by omega
    subst hk
    refine mv_goW 3 (pc' := if ((24 : Nat) : Int) < 24 then 18 else 51) (ls' := [mv_R 100, mv_I ((24 : Nat) : Int)]) (st' := []) (M1 := M) rfl ?_
    refine mv_ffW (by decide) ?_
    exact e M mv_ag.rf hj
  | succ r ih =>
    intro k M hk hj e
    refine mv_goW 3 (pc' := if (k : Int) < 24 then 18 else 51) (ls' := [mv_R 100, mv_I (k : Int)]) (st' := []) (M1 := M) rfl ?_
    refine mv_ttW (by omega) ?_
    refine mv_goW 7 (pc' := if 0 ≤ (k : Int) ∧ (k : Int) < 54 then 29 else mv_bad) (ls' := [mv_R 100, mv_I (k : Int)]) (st' := [mv_I (M 115 k), mv_I (k : Int), mv_R 104]) (M1 := M) rfl ?_
    refine mv_ttW (by omega) ?_
    refine mv_goW 1 (pc' := if 0 ≤ (k : Int) ∧ (k : Int) < 24 then 30 else mv_bad) (ls' := [mv_R 100, mv_I (k : Int)]) (st' := []) (M1 := (mv_st M 104 (mv_up (M 104) k (M 115 k)))) rfl ?_
    refine mv_ttW (by omega) ?_
    refine mv_goW 8 (pc' := 43) (ls' := [mv_R 100, mv_I (k : Int)]) (st' := [mv_I (mv_w (24 + (k : Int))), mv_R 115, mv_I (k : Int), mv_R 105]) (M1 := (mv_st M 104 (mv_up (M 104) k (M 115 k)))) rfl ?_
    rw [show mv_w (24 + (k : Int)) = ((k + 24 : Nat) : Int) from by (rw [show mv_w (24 + (k : Int)) = 24 + (k : Int) from mv_w_id (by omega) (by omega)]) <;> omega]
    refine mv_goW 1 (pc' := if 0 ≤ ((k + 24 : Nat) : Int) ∧ ((k + 24 : Nat) : Int) < 54 then 44 else mv_bad) (ls' := [mv_R 100, mv_I (k : Int)]) (st' := [mv_I (M 115 (k + 24)), mv_I (k : Int), mv_R 105]) (M1 := (mv_st M 104 (mv_up (M 104) k (M 115 k)))) rfl ?_
    refine mv_ttW (by omega) ?_
    refine mv_goW 1 (pc' := if 0 ≤ (k : Int) ∧ (k : Int) < 24 then 45 else mv_bad) (ls' := [mv_R 100, mv_I (k : Int)]) (st' := []) (M1 := (mv_st (mv_st M 104 (mv_up (M 104) k (M 115 k))) 105 (mv_up (M 105) k (M 115 (k + 24))))) rfl ?_
    refine mv_ttW (by omega) ?_
    refine mv_goW 2 (pc' := 12) (ls' := [mv_R 100, mv_I (mv_w ((k : Int) + 1))]) (st' := []) (M1 := (mv_st (mv_st M 104 (mv_up (M 104) k (M 115 k))) 105 (mv_up (M 105) k (M 115 (k + 24))))) rfl ?_
    rw [show mv_w ((k : Int) + 1) = ((k + 1 : Nat) : Int) from by (rw [show mv_w ((k : Int) + 1) = (k : Int) + 1 from mv_w_id (by omega) (by omega)]) <;> omega]
    refine ih (k + 1) _ (by omega) (fun j hj2 => ?_) (fun M2 a b => e M2 (mv_ag.tr ((mv_ag.st mv_ag.rf (by decide)).st (by decide)) a) b)
    show mv_up (M 104) k (M 115 k) j = M 115 j ∧ mv_up (M 105) k (M 115 (k + 24)) j = M 115 (24 + j)
    by_cases q : j = k
    · rw [q, mv_up_s, mv_up_s, show 24 + k = k + 24 from by omega]; exact ⟨rfl, rfl⟩
    · rw [mv_up_n _ _ q, mv_up_n _ _ q]
      exact hj j (by omega)
theorem sp_mbk2 {d : Nat} {Q : mv_V → mv_M → Prop} : ∀ (r k : Nat) (M : mv_M), k + r = 6 → (∀ j, j < k → M 106 j = M 115 (48 + j)) →
    (∀ M2, mv_ag [106] M M2 → (∀ j, j < 6 → M2 106 j = M 115 (48 + j)) → mv_W d 186 80 [mv_R 100, mv_I 6] [] M2 Q) → mv_W d 186 53 [mv_R 100, mv_I (k : Int)] [] M Q := by
  intro r
  induction r with
  | zero =>
    intro k M hk hj e
    have hk : k = 6 := by omega
    subst hk
    refine mv_goW 3 (pc' := if ((6 : Nat) : Int) < 6 then 59 else 80) (ls' := [mv_R 100, mv_I ((6 : Nat) : Int)]) (st' := []) (M1 := M) rfl ?_
    refine mv_ffW (by decide) ?_
    exact e M mv_ag.rf hj
  | succ r ih =>
    intro k M hk hj e
    refine mv_goW 3 (pc' := if (k : Int) < 6 then 59 else 80) (ls' := [mv_R 100, mv_I (k : Int)]) (st' := []) (M1 := M) rfl ?_
    refine mv_ttW (by omega) ?_
    refine mv_goW 8 (pc' := 72) (ls' := [mv_R 100, mv_I (k : Int)]) (st' := [mv_I (mv_w (48 + (k : Int))), mv_R 115, mv_I (k : Int), mv_R 106]) (M1 := M) rfl ?_
    rw [show mv_w (48 + (k : Int)) = ((k + 48 : Nat) : Int) from by (rw [show mv_w (48 + (k : Int)) = 48 + (k : Int) from mv_w_id (by omega) (by omega)]) <;> omega]
    refine mv_goW 1 (pc' := if 0 ≤ ((k + 48 : Nat) : Int) ∧ ((k + 48 : Nat) : Int) < 54 then 73 else mv_bad) (ls' := [mv_R 100, mv_I (k : Int)]) (st' := [mv_I (M 115 (k + 48)), mv_I (k : Int), mv_R 106]) (M1 := M) rfl ?_
    refine mv_ttW (by omega) ?_
    refine mv_goW 1 (pc' := if 0 ≤ (k : Int) ∧ (k : Int) < 6 then 74 else mv_bad) (ls' := [mv_R 100, mv_I (k : Int)]) (st' := []) (M1 := (mv_st M 106 (mv_up (M 106) k (M 115 (k + 48))))) rfl ?_
    refine mv_ttW (by omega) ?_
    refine mv_goW 2 (pc' := 53) (ls' := [mv_R 100, mv_I (mv_w ((k : Int) + 1))]) (st' := []) (M1 := (mv_st M 106 (mv_up (M 106) k (M 115 (k + 48))))) rfl ?_
    rw [show mv_w ((k : Int) + 1) = ((k + 1 : Nat) : Int) from by (rw [show mv_w ((k : Int) + 1) = (k : Int) + 1 from mv_w_id (by omega) (by omega)]) <;> omega]
    refine ih (k + 1) _ (by omega) (fun j hj2 => ?_) (fun M2 a c => e M2 (mv_ag.tr (mv_ag.st mv_ag.rf (by decide)) a) c)
    show mv_up (M 106) k (M 115 (k + 48)) j = M 115 (48 + j)
    by_cases q : j = k
    · rw [q, show 48 + k = k + 48 from by omega, mv_up_s]
    · rw [mv_up_n _ _ (by omega)]
      exact hj j (by omega)
theorem sp_bk_end {V : mv_M} {P : Nat → Nat → List Int} {n : Int} {B : mv_M} {t : Nat} {M Ma M2 M3 : mv_M} {g : Nat → Int} (h : sp_R V P n B 1 t M) (hx : mv_ag [30, 30 + 1, 30 + 2, 30 + 3, 30 + 4, 30 + 5] M Ma ∧ sp_c 30 Ma B)
    (hy1 : mv_ag [104, 105] Ma M2) (hy2 : ∀ j, j < 24 → M2 104 j = Ma 115 j ∧ M2 105 j = Ma 115 (24 + j)) (hz1 : mv_ag [106] M2 M3) (hz2 : ∀ j, j < 6 → M3 106 j = M2 115 (48 + j))
    (hg : g 0 = M 116 0 ∧ g 1 = M 116 1 ∧ g 7 = M 116 2 ∧ g 13 = M 116 3) (hg2 : g 9 = M 100 9 ∧ g 12 = M 100 12 ∧ g 14 = M 100 14) : sp_Inv (mv_st M3 100 g) := by
  have h' := h
  obtain ⟨⟨hc, hm, ho⟩, ⟨hy, hl, hn1, hn⟩, ⟨hct, hmt, hn7, hn12⟩, hi, ht, hs, hw⟩ := h'
  obtain ⟨hK, hK2, _, hB⟩ := hi
  obtain ⟨⟨hcB, hmB, hoB⟩, ⟨b1, b2, b3⟩, b4⟩ := hB rfl
  obtain ⟨i1, i2, i3, i4⟩ := hmB
  have h8 := sp_ok_s8 hoB
  have a1 : ∀ i, (i < 30 ∨ 35 < i) → Ma i = M i := fun i hi => hx.1 i (by simp only [List.mem_cons, List.not_mem_nil, or_false]; omega)
  have a2 : ∀ i, i ≠ 104 → i ≠ 105 → M2 i = Ma i := fun i j1 j2 => hy1 i (by simp only [List.mem_cons, List.not_mem_nil, or_false]; omega)
  have a3 : ∀ i, i ≠ 106 → M3 i = M2 i := fun i j1 => hz1 i (by simpa using j1)
  have a4 : ∀ i, i ≠ 100 → i ≠ 104 → i ≠ 105 → i ≠ 106 → mv_st M3 100 g i = Ma i := fun i j0 j1 j2 j3 => by rw [mv_st_n _ _ j0, a3 i j3, a2 i j1 j2]
  have a5 : ∀ i, i ≠ 100 → i ≠ 104 → i ≠ 105 → i ≠ 106 → (i < 30 ∨ 35 < i) → mv_st M3 100 g i = M i := fun i j0 j1 j2 j3 j4 => (a4 i j0 j1 j2 j3).trans (a1 i j4)
  refine ⟨B, P, n, B, 1, t, ⟨⟨?_, ?_, hoB⟩, ⟨b2, b3, hn1, hn⟩, ⟨?_, ?_, ?_, ?_⟩, ⟨?_, ?_, Or.inr rfl, fun _ => ⟨⟨?_, ?_, hoB⟩, ⟨Int.le_refl _, b2, b3⟩, fun u hu => ⟨rfl, rfl⟩⟩⟩, ?_, ?_, ?_⟩⟩
  · exact sp_c_ag hx.2 (S := [100, 104, 105, 106]) (fun i hi => by simp only [List.mem_cons, List.not_mem_nil, or_false] at hi; exact a4 i (by omega) (by omega) (by omega) (by omega)) (by decide)
  · unfold sp_m
    rw [mv_st_s, mv_st_n _ _ (show (102 : Nat) ≠ 100 by decide), mv_st_n _ _ (show (103 : Nat) ≠ 100 by decide), mv_st_n _ _ (show (104 : Nat) ≠ 100 by decide), mv_st_n _ _ (show (105 : Nat) ≠ 100 by decide), mv_st_n _ _ (show (106 : Nat) ≠ 100 by decide)]
    have e102 : M3 102 = M 102 := by rw [a3 102 (by decide), a2 102 (by decide) (by decide), a1 102 (by decide)]
    have e103 : M3 103 = M 103 := by rw [a3 103 (by decide), a2 103 (by decide) (by decide), a1 103 (by decide)]
    have e115 : Ma 115 = M 115 := a1 115 (by decide)
    rw [e102, e103, a3 104 (by decide), a3 105 (by decide)]
    refine ⟨⟨hg.1.trans i4.1, hg.2.1.trans i4.2.1, hg.2.2.1.trans i4.2.2.1, hg.2.2.2.trans i4.2.2.2⟩, fun j hj => ?_, fun j hj => ?_, fun j hj => ?_, fun j hj => ?_, fun j hj => ?_⟩
    · rw [(hy2 j hj).1, e115, i1 j hj]
    · rw [hz2 j (by omega), a2 115 (by decide) (by decide), e115, i3 j hj]
    · rw [(hy2 j hj).2, e115, i2 j hj]
    · rw [(b4 j hj).1]; exact sp_m_4 hm j (by omega)
    · rw [(b4 j hj).2]; exact sp_m_5 hm j (by omega)
  · intro t ht
    unfold sp_ct
    rw [a5 (10 + 3 * t + 1) (by omega) (by omega) (by omega) (by omega) (by omega), a5 (10 + 3 * t + 2) (by omega) (by omega) (by omega) (by omega) (by omega)]
    exact hct t ht
  · intro t ht
    unfold sp_mt
    rw [a5 110 (by decide) (by decide) (by decide) (by decide) (by decide), a5 111 (by decide) (by decide) (by decide) (by decide) (by decide)]
    exact hmt t ht
  · rw [a5 0 (by decide) (by decide) (by decide) (by decide) (by decide)]; exact hn7
  · rw [mv_st_s]; exact hg2.2.1.trans hn12
  · rw [a5 0 (by decide) (by decide) (by decide) (by decide) (by decide)]; exact hK
  · rw [mv_st_s]; exact hg2.2.2.trans hK2
  · exact sp_c_ag hcB (S := [30, 31, 32, 33, 34, 35, 100, 104, 105, 106]) (fun i hi => by simp only [List.mem_cons, List.not_mem_nil, or_false] at hi; exact a5 i (by omega) (by omega) (by omega) (by omega) (by omega)) (by decide)
  · unfold sp_mi
    rw [a5 115 (by decide) (by decide) (by decide) (by decide) (by decide), a5 116 (by decide) (by decide) (by decide) (by decide) (by decide)]
    exact ⟨i1, i2, i3, i4⟩
  · unfold sp_tp
    rw [a5 28 (by decide) (by decide) (by decide) (by decide) (by decide), a5 29 (by decide) (by decide) (by decide) (by decide) (by decide), a5 108 (by decide) (by decide) (by decide) (by decide) (by decide), mv_st_s, hg2.1]
    exact ht
  · intro s hs4
    rw [a5 (71 + 2 * s) (by omega) (by omega) (by omega) (by omega) (by omega), a5 (72 + 2 * s) (by omega) (by omega) (by omega) (by omega) (by omega), a5 117 (by decide) (by decide) (by decide) (by decide) (by decide), a5 118 (by decide) (by decide) (by decide) (by decide) (by decide), a5 119 (by decide) (by decide) (by decide) (by decide) (by decide)]
    exact hs s hs4
  · rw [a5 125 (by decide) (by decide) (by decide) (by decide) (by decide)]; exact hw
theorem sp_k30 : sp_call 91 186 [] [] := by
  refine sp_mkW (lc := [mv_R 0]) (lm := [mv_R 100, mv_U]) rfl rfl (fun M hI => ?_)
  have hI2 := hI
  obtain ⟨V, P, n, B, K, t, h⟩ := hI2
  have h' := h
  obtain ⟨⟨hc, hm, ho⟩, _, _, ⟨hK1, hK2, hK, hB⟩, _⟩ := h'
  rcases hK with q | q
  · subst q
    refine mv_goW 2 (pc' := 4) (ls' := [mv_R 0]) (st' := [mv_I (M 0 8)]) (M1 := M) rfl ?_
    rw [show M 0 8 = 0 from by exact hK1]
    refine mv_goW 1 (pc' := if 0 = 0 then 7 else 10) (ls' := [mv_R 0]) (st' := []) (M1 := M) rfl ?_
    refine mv_ttW (by decide) ?_
    refine mv_goW 1 (pc' := 9) (ls' := [mv_R 0]) (st' := [mv_I (-3)]) (M1 := M) rfl ?_
    refine mv_retW (fun n => rfl) ⟨_, rfl, ?_⟩
    refine mv_goW 2 (pc' := 4) (ls' := [mv_R 100, mv_U]) (st' := [mv_I (M 100 14)]) (M1 := M) rfl ?_
    rw [show M 100 14 = 0 from by exact hK2]
    refine mv_goW 1 (pc' := if 0 = 0 then 7 else 10) (ls' := [mv_R 100, mv_U]) (st' := []) (M1 := M) rfl ?_
    refine mv_ttW (by decide) ?_
    refine mv_goW 1 (pc' := 9) (ls' := [mv_R 100, mv_U]) (st' := [mv_I (-3)]) (M1 := M) rfl ?_
    exact mv_retW (fun n => rfl) ⟨congrArg mv_I (by first | with_reducible rfl | omega), hI⟩
  · subst q
    obtain ⟨⟨hcB, hmB, hoB⟩, _⟩ := hB rfl
    have hK3 : ∀ Ma : mv_M, Ma 100 = M 100 → Ma 100 14 = 1 := fun Ma e => by rw [e]; exact hK2
    have h8 := sp_ok_s8 hoB
    have h9 := sp_ok_s9 hoB
    refine mv_goW 2 (pc' := 4) (ls' := [mv_R 0]) (st' := [mv_I (M 0 8)]) (M1 := M) rfl ?_
    rw [show M 0 8 = 1 from by exact hK1]
    refine mv_goW 1 (pc' := if 1 = 0 then 7 else 10) (ls' := [mv_R 0]) (st' := []) (M1 := M) rfl ?_
    refine mv_ffW (by decide) ?_
    refine mv_goW 4 (pc' := 18) (ls' := [mv_R 0]) (st' := [mv_R 40, mv_R 30]) (M1 := M) rfl ?_
    refine mv_callW (st2 := []) rfl (Or.inl rfl) rfl rfl rfl (sp_become_30_40 hcB (by omega) (by omega)) (by first | decide | omega) (fun Ma3 hm4 => ?_)
    have hx := hm4
    have hm := sp_m_ag2 hm hx.1 (by decide)
    have hcb := hx.2
    have e116 : Ma3 116 = M 116 := hx.1 116 (by decide)
    have e100 : Ma3 100 = M 100 := hx.1 100 (by decide)
    refine mv_goW 3 (pc' := 28) (ls' := [mv_R 0]) (st' := [mv_I (Ma3 30 9)]) (M1 := Ma3) rfl ?_
    have hr13 := sp_ok_s9 hoB
    rw [show Ma3 30 9 = B 0 9 from by exact sp_c_s9 hcb]
    refine mv_retW (fun n => rfl) ⟨_, rfl, ?_⟩
    refine mv_goW 2 (pc' := 4) (ls' := [mv_R 100, mv_U]) (st' := [mv_I (Ma3 100 14)]) (M1 := Ma3) rfl ?_
    rw [show Ma3 100 14 = 1 from by exact hK3 _ e100]
    refine mv_goW 1 (pc' := if 1 = 0 then 7 else 10) (ls' := [mv_R 100, mv_U]) (st' := []) (M1 := Ma3) rfl ?_
    refine mv_ffW (by decide) ?_
    refine mv_goW 2 (pc' := 12) (ls' := [mv_R 100, mv_I 0]) (st' := []) (M1 := Ma3) rfl ?_
    refine sp_mbk1 24 0 _ (by omega) (fun j hj => absurd hj (by omega)) (fun M2 hy1 hy2 => ?_)
    refine mv_goW 2 (pc' := 53) (ls' := [mv_R 100, mv_I 0]) (st' := []) (M1 := M2) rfl ?_
    refine sp_mbk2 6 0 _ (by omega) (fun j hj => absurd hj (by omega)) (fun M3 hz1 hz2 => ?_)
    have e116b : M3 116 = M 116 := by rw [hz1 116 (by decide), hy1 116 (by decide), e116]
    have e100b : M3 100 = M 100 := by rw [hz1 100 (by decide), hy1 100 (by decide), e100]
    have r0 : M3 116 0 = B 0 8 := by rw [e116b, hmB.2.2.2.1]
    have r1 : M3 116 1 = B 0 9 := by rw [e116b, hmB.2.2.2.2.1]
    have r2 : M3 116 2 = B 0 10 := by rw [e116b, hmB.2.2.2.2.2.1]
    have r3 : M3 116 3 = B 0 11 := by rw [e116b, hmB.2.2.2.2.2.2]
    refine mv_goW 5 (pc' := if 0 ≤ 0 ∧ 0 < 4 then 87 else mv_bad) (ls' := [mv_R 100, mv_I 6]) (st' := [mv_I (M3 116 0), mv_R 100]) (M1 := M3) rfl ?_
    refine mv_ttW (by omega) ?_
    rw [show M3 116 0 = B 0 8 from by exact r0]
    refine mv_goW 6 (pc' := if 0 ≤ 1 ∧ 1 < 4 then 97 else mv_bad) (ls' := [mv_R 100, mv_I 6]) (st' := [mv_I (M3 116 1), mv_R 100]) (M1 := (mv_st M3 100 (mv_up (M3 100) 0 (B 0 8)))) rfl ?_
    refine mv_ttW (by omega) ?_
    rw [show M3 116 1 = B 0 9 from by exact r1]
    refine mv_goW 6 (pc' := if 0 ≤ 2 ∧ 2 < 4 then 107 else mv_bad) (ls' := [mv_R 100, mv_I 6]) (st' := [mv_I (M3 116 2), mv_R 100]) (M1 := (mv_st (mv_st M3 100 (mv_up (M3 100) 0 (B 0 8))) 100 (mv_up (mv_up (M3 100) 0 (B 0 8)) 1 (B 0 9)))) rfl ?_
    refine mv_ttW (by omega) ?_
    rw [show M3 116 2 = B 0 10 from by exact r2]
    refine mv_goW 6 (pc' := if 0 ≤ 3 ∧ 3 < 4 then 117 else mv_bad) (ls' := [mv_R 100, mv_I 6]) (st' := [mv_I (M3 116 3), mv_R 100]) (M1 := (mv_st (mv_st (mv_st M3 100 (mv_up (M3 100) 0 (B 0 8))) 100 (mv_up (mv_up (M3 100) 0 (B 0 8)) 1 (B 0 9))) 100 (mv_up (mv_up (mv_up (M3 100) 0 (B 0 8)) 1 (B 0 9)) 7 (B 0 10)))) rfl ?_
    refine mv_ttW (by omega) ?_
    rw [show M3 116 3 = B 0 11 from by exact r3]
    refine mv_goW 3 (pc' := 124) (ls' := [mv_R 100, mv_I 6]) (st' := [mv_I (B 0 9)]) (M1 := (mv_st (mv_st (mv_st (mv_st M3 100 (mv_up (M3 100) 0 (B 0 8))) 100 (mv_up (mv_up (M3 100) 0 (B 0 8)) 1 (B 0 9))) 100 (mv_up (mv_up (mv_up (M3 100) 0 (B 0 8)) 1 (B 0 9)) 7 (B 0 10))) 100 (mv_up (mv_up (mv_up (mv_up (M3 100) 0 (B 0 8)) 1 (B 0 9)) 7 (B 0 10)) 13 (B 0 11)))) rfl ?_
    exact mv_retW (fun n => rfl) ⟨congrArg mv_I (by first | with_reducible rfl | omega), (by rw [mv_st_st, mv_st_st, mv_st_st]; exact sp_bk_end h hx hy1 hy2 hz1 hz2 ⟨hmB.2.2.2.1.symm, hmB.2.2.2.2.1.symm, hmB.2.2.2.2.2.1.symm, hmB.2.2.2.2.2.2.symm⟩ (by rw [e100b]; exact ⟨rfl, rfl, rfl⟩))⟩
