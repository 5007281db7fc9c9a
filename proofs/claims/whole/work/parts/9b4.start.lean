/-! what holds when both stand -/
def sp_A5 : mv_M := fun i j => if i = 28 then (if j = 7 then -1 else 0) else if (i = 71 ∨ i = 73 ∨ i = 75 ∨ i = 77) then (if j = 1 then -1 else 0) else 0
def sp_B6 : mv_M := fun i j => if i = 120 then sp_fir j else if i = 125 then mv_nn 0 sp_words j else if i = 106 then -1 else if i = 117 then -1 else 0
theorem sp_A5_z {i : Nat} (h : i ≠ 28 ∧ i ≠ 71 ∧ i ≠ 73 ∧ i ≠ 75 ∧ i ≠ 77) (j : Nat) : sp_A5 i j = 0 := by
  unfold sp_A5
  rw [if_neg h.1, if_neg (by omega)]
theorem sp_B6_z {i : Nat} (h : i ≠ 120 ∧ i ≠ 125 ∧ i ≠ 106 ∧ i ≠ 117) (j : Nat) : sp_B6 i j = 0 := by
  unfold sp_B6
  rw [if_neg h.1, if_neg h.2.1, if_neg h.2.2.1, if_neg h.2.2.2]
theorem sp_at_nn : ∀ (l k : List Int), sp_at (fun j => mv_nn 0 (k ++ l) j) k.length l
  | [], _ => trivial
  | x :: l, k => by
    refine ⟨?_, ?_⟩
    · show mv_nn 0 (k ++ x :: l) k.length = x
      induction k with
      | nil => rfl
      | cons y k ih => exact ih
    · have h := sp_at_nn l (k ++ [x])
      rw [List.append_assoc, List.length_append] at h
      exact h
theorem sp_B6_w : sp_at (sp_B6 125) 0 sp_words := sp_at_nn sp_words []
theorem sp_fir_3 : (sp_Rt sp_fir 53 3).1 = true := by
  by_cases z : (sp_Rt sp_fir 53 3).1 = true
  · exact z
  · have g := sp_fir_ok
    rw [sp_R4_f z] at g
    exact absurd g z
theorem sp_Inv0 {A B C D M : mv_M} (hA : ∀ i, i < 100 → A i = sp_A5 i) (hB : ∀ i, 100 ≤ i → i < 200 → B i = sp_B6 i) (h5 : sp_X5q A C) (h6 : sp_X6q B D) (eC : ∀ i, i < 100 → M i = C i) (eD : ∀ i, 100 ≤ i → i < 200 → M i = D i) : sp_Inv M := by
  obtain ⟨⟨a1, a2⟩, ⟨a3, a4⟩, a5, a6⟩ := h5
  obtain ⟨MA, ⟨m1, m2⟩, m3, ⟨b1, b2⟩, ⟨b3, b4⟩, ⟨b5, b6⟩, b7⟩ := h6
  obtain ⟨P, pw, p1, p2, p3, p4⟩ := sp_Rt_parts (f := sp_fir) (t := 53) (by decide) (fun j _ => sp_fir_b j) sp_fir_3
  have b7 := b7 sp_fir_ok
  rw [if_pos sp_fir_ok] at b4
  have z5 : ∀ i, i < 100 → i ≠ 0 → i ≠ 28 → i ≠ 29 → i ≠ 10 → i ≠ 11 → i ≠ 12 → M i = sp_A5 i := fun i c0 c1 c2 c3 c4 c5 c6 => by rw [eC i c0, ← hA i c0]; exact a1 i (by simp; omega)
  have z0 : ∀ j, j ≠ 7 → M 0 j = 0 := fun j hj => by rw [eC 0 (by decide), a2 j hj, hA 0 (by decide)]; exact sp_A5_z (by decide) j
  have z6 : ∀ i, 100 ≤ i → i < 200 → i ≠ 100 → i ≠ 108 → i ≠ 110 → i ≠ 111 → i ≠ 126 → M i = sp_B6 i := fun i c0 c1 c2 c3 c4 c5 c6 => by rw [eD i c0 c1, b1 i (by simp; omega), ← hB i c0 c1]; exact m1 i (by simp; omega)
  have y0 : ∀ j, (j ≠ 9 ∧ j ≠ 12 ∧ j ≠ 21 ∧ j ≠ 22 ∧ j ≠ 23 ∧ j ≠ 24 ∧ j ≠ 27 ∧ j ≠ 28 ∧ j ≠ 29) → M 100 j = 0 := fun j hj => by rw [eD 100 (by decide) (by decide), b2 j hj, m2 j hj.1, hB 100 (by decide) (by decide)]; exact sp_B6_z (by decide) j
  have zz : ∀ i, i < 100 → i ≠ 0 → i ≠ 28 → i ≠ 29 → i ≠ 10 → i ≠ 11 → i ≠ 12 → i ≠ 71 → i ≠ 73 → i ≠ 75 → i ≠ 77 → ∀ j, M i j = 0 := fun i c0 c1 c2 c3 c4 c5 c6 c7 c8 c9 c10 j => by rw [z5 i c0 c1 c2 c3 c4 c5 c6]; exact sp_A5_z ⟨c2, c7, c8, c9, c10⟩ j
  have zm : ∀ i, 100 ≤ i → i < 200 → i ≠ 100 → i ≠ 108 → i ≠ 110 → i ≠ 111 → i ≠ 126 → i ≠ 120 → i ≠ 125 → i ≠ 106 → i ≠ 117 → ∀ j, M i j = 0 := fun i c0 c1 c2 c3 c4 c5 c6 c7 c8 c9 c10 j => by rw [z6 i c0 c1 c2 c3 c4 c5 c6]; exact sp_B6_z ⟨c7, c8, c9, c10⟩ j
  refine ⟨fun _ _ => 0, fun _ => P, 1, fun _ _ => 0, 0, 0, ⟨⟨⟨?_, ?_, ?_, ?_⟩, ?_, ?_, ?_, ?_, ?_⟩, ⟨⟨?_, ?_, ?_, ?_⟩, ?_, ?_, ?_, ?_, ?_⟩, ?_⟩, ⟨by decide, by decide, by decide, by decide⟩, ⟨?_, ?_, ?_, ?_⟩, ⟨?_, ?_, Or.inl rfl, fun c => absurd c (by decide)⟩, ⟨?_, ?_, by decide, fun j hj => absurd hj (by omega)⟩, ?_, ?_⟩
  · exact zz 30 (by decide) (by decide) (by decide) (by decide) (by decide) (by decide) (by decide) (by decide) (by decide) (by decide) (by decide) 8
  · exact zz 30 (by decide) (by decide) (by decide) (by decide) (by decide) (by decide) (by decide) (by decide) (by decide) (by decide) (by decide) 9
  · exact zz 30 (by decide) (by decide) (by decide) (by decide) (by decide) (by decide) (by decide) (by decide) (by decide) (by decide) (by decide) 10
  · exact zz 30 (by decide) (by decide) (by decide) (by decide) (by decide) (by decide) (by decide) (by decide) (by decide) (by decide) (by decide) 11
  · exact fun j _ => zz 31 (by decide) (by decide) (by decide) (by decide) (by decide) (by decide) (by decide) (by decide) (by decide) (by decide) (by decide) j
  · exact fun j hj => absurd hj (by show ¬ ((j : Int) < 0); omega)
  · exact fun j _ => zz 33 (by decide) (by decide) (by decide) (by decide) (by decide) (by decide) (by decide) (by decide) (by decide) (by decide) (by decide) j
  · exact fun j hj => absurd hj (by show ¬ ((j : Int) < 0); omega)
  · exact fun j hj => absurd hj (by show ¬ ((j : Int) < 0); omega)
  · exact y0 0 (by decide)
  · exact y0 1 (by decide)
  · exact y0 7 (by decide)
  · exact y0 13 (by decide)
  · exact fun j _ => zm 104 (by decide) (by decide) (by decide) (by decide) (by decide) (by decide) (by decide) (by decide) (by decide) (by decide) (by decide) j
  · exact fun j hj => absurd hj (by show ¬ ((j : Int) < 0); omega)
  · exact fun j _ => zm 105 (by decide) (by decide) (by decide) (by decide) (by decide) (by decide) (by decide) (by decide) (by decide) (by decide) (by decide) j
  · exact fun j hj => absurd hj (by show ¬ ((j : Int) < 0); omega)
  · exact fun j hj => absurd hj (by show ¬ ((j : Int) < 0); omega)
  · exact ⟨⟨by decide, by decide⟩, ⟨by decide, by decide⟩, ⟨by decide, by decide⟩, ⟨by decide, by decide⟩, fun _ _ => ⟨Int.le_refl 0, (by decide : (0 : Int) ≤ 9)⟩, fun j hj => absurd hj (by show ¬ ((j : Int) < 0); omega), fun _ _ => ⟨Int.le_refl 0, (by decide : (0 : Int) ≤ 9)⟩, fun j hj => absurd hj (by show ¬ ((j : Int) < 0); omega), fun j hj => absurd hj (by show ¬ ((j : Int) < 0); omega)⟩
  · intro u hu
    have hu0 : u = 0 := by omega
    subst hu0
    have L0 := a6 0 (by decide)
    have L1 := a6 1 (by decide)
    have L2 := a6 2 (by decide)
    have at3 := a5
    rw [p3, sp_at_app, sp_at_app] at at3
    rw [p1] at L0
    rw [p2, List.length_append] at L1
    rw [p3, List.length_append, List.length_append] at L2
    rw [p3, List.length_append, List.length_append] at p4
    show sp_ct 10 M P
    unfold sp_ct
    rw [eC (10 + 1) (by decide), eC (10 + 2) (by decide)]
    refine ⟨⟨L0, L1, L2⟩, ⟨at3.1.1, ?_, ?_⟩, pw, p4⟩
    · have := at3.1.2
      rw [Nat.zero_add] at this
      exact this
    · have := at3.2
      rw [Nat.zero_add, List.length_append] at this
      exact this
  · intro u hu
    have hu0 : u = 0 := by omega
    subst hu0
    have mt3 := b7.1
    rw [p3, List.map_append, List.map_append, sp_at_app, sp_at_app, List.length_append, List.length_map, List.length_map] at mt3
    have N0 := b7.2 0 (by decide)
    have N1 := b7.2 1 (by decide)
    have N2 := b7.2 2 (by decide)
    have N3 := b7.2 3 (by decide)
    rw [p1] at N1
    rw [p2, List.length_append] at N2
    rw [p3, List.length_append, List.length_append] at N3
    rw [p3, List.length_append, List.length_append] at p4
    show sp_mt 0 M P
    unfold sp_mt
    rw [eD 111 (by decide) (by decide), eD 110 (by decide) (by decide)]
    exact ⟨⟨N0, N1, N2, N3⟩, ⟨mt3.1.1, mt3.1.2, mt3.2⟩, pw, p4⟩
  · rw [eC 0 (by decide)]
    exact a3
  · rw [eD 100 (by decide) (by decide)]
    exact b4
  · exact z0 8 (by decide)
  · exact y0 14 (by decide)
  · rw [eC 28 (by decide)]
    exact a4
  · rw [eD 100 (by decide) (by decide)]
    exact b3
  · intro s hs
    have e117 : M 117 = sp_B6 117 := z6 117 (by decide) (by decide) (by decide) (by decide) (by decide) (by decide) (by decide)
    have e71 : M (71 + 2 * s) = sp_A5 (71 + 2 * s) := z5 _ (by omega) (by omega) (by omega) (by omega) (by omega) (by omega) (by omega)
    have z : ∀ j, sp_A5 (71 + 2 * s) j = if j = 1 then -1 else 0 := fun j => by
      unfold sp_A5
      rw [if_neg (by omega), if_pos (by omega)]
    have k1 : sp_A5 (71 + 2 * s) 1 = -1 ∧ sp_A5 (71 + 2 * s) 2 = 0 := ⟨(z 1).trans (if_pos rfl), (z 2).trans (if_neg (by decide))⟩
    have k2 : ∀ j, M 118 j = 0 := zm 118 (by decide) (by decide) (by decide) (by decide) (by decide) (by decide) (by decide) (by decide) (by decide) (by decide) (by decide)
    have k3 : ∀ j, M 119 j = 0 := zm 119 (by decide) (by decide) (by decide) (by decide) (by decide) (by decide) (by decide) (by decide) (by decide) (by decide) (by decide)
    have k4 : ∀ j, M (72 + 2 * s) j = 0 := zz _ (by omega) (by omega) (by omega) (by omega) (by omega) (by omega) (by omega) (by omega) (by omega) (by omega) (by omega)
    have k5 : sp_B6 117 s = -1 := rfl
    rw [e71, e117, k1.1, k1.2, k2, k5]
    exact ⟨⟨rfl, by decide, by decide⟩, ⟨rfl, by decide, by decide⟩, fun j _ => by rw [k4, k3]⟩
  · rw [z6 125 (by decide) (by decide) (by decide) (by decide) (by decide) (by decide) (by decide)]
    exact sp_B6_w
