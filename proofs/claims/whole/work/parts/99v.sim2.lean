/-! both read a text alike: not, one -/
theorem sp_opx2 {k : Int} (h : sp_opx 2 k ≠ 0) : (k = 60 ∨ k = 61) ∧ sp_sgk k ≠ -1 ∧ sp_en (sp_opx 2 k) = sp_sgk k ∧ sp_lst (sp_sgk k) = 5 ∧ sp_rnk (sp_sgk k) = 4 ∧ (sp_sgk k ≠ 0 ∧ sp_sgk k ≠ 13 ∧ sp_sgk k ≠ 19) ∧ ¬ sp_sgk k ≤ 12 := by
  have e : k = 60 ∨ k = 61 := by
    by_cases c : k = 60
    · exact Or.inl c
    · by_cases c2 : k = 61
      · exact Or.inr c2
      · exact absurd (show (if k = 60 then (20002 : Int) else if k = 61 then 20003 else 0) = 0 from by rw [if_neg c, if_neg c2]) h
  rcases e with e | e <;> subst e <;> decide
theorem sp_opx2n {k : Int} (h : sp_opx 2 k = 0) : ¬ (k = 60 ∨ k = 61) := fun z => by
  rcases z with z | z <;> subst z <;> exact absurd h (by decide)
theorem sp_sX_2 {K W : Nat → Int} {N Q : Nat → Nat} {t n : Nat} (ht : sp_tks t K N) (h2 : sp_SX K W N Q t n 2) (h3 : sp_SX K W N Q t n 3) : sp_SX K W N Q t (n + 1) 2 := by
  intro d p j h0 k y hd hp hf hj hkz htr hy h261
  have hj0 : j = 0 := hj (by omega)
  subst hj0
  have hy := hy (by omega)
  subst hy
  have hkz : sp_kz h0 = (d : Int) := by simpa using hkz
  have hN := ht p hp
  rw [sp_pz2]
  simp only [List.replicate_zero]
  by_cases c : K p = 261 ∧ d < 5
  · rw [if_pos c]
    have s1 := h2 (d + 1) (N p) 0 (13 :: h0) k true (by omega) hN.1 (by have := hN.2 (by omega); omega) (fun _ => rfl) (by rw [sp_kz, if_pos (by omega)]; omega) (show sp_rnk 13 < 4 by decide) (fun _ => rfl) (fun z => absurd z (by omega))
    simp only [List.replicate_zero] at s1
    have e : sp_E K W N Q t p true true ([] ++ ([] ++ h0)) k = sp_E K W N Q t (N p) true true ([] ++ ([] ++ (13 :: h0))) k := by
      show sp_E K W N Q t p true true h0 k = sp_E K W N Q t (N p) true true (13 :: h0) k
      rw [sp_E_u ht _ _ _ _ hp (by omega), if_pos rfl, if_neg (by omega), if_neg (by omega), if_pos ⟨c.1, rfl⟩, if_neg (by omega)]
    obtain ⟨r1, hr1⟩ : ∃ r, r = sp_pz K W N Q n 2 (d + 1) (N p) := ⟨_, rfl⟩
    rw [← hr1] at s1 ⊢
    refine ⟨fun g => ?_, fun g => e.trans (s1.2 g)⟩
    obtain ⟨s, k1, y1, a1, a2, a3, a4⟩ := s1.1 g
    refine ⟨s ++ [13], k1, y1, fun a ha => ?_, ?_, ?_, ?_⟩
    · rcases List.mem_append.1 ha with ha | ha
      · exact a1 a ha
      · rw [List.mem_singleton.1 ha]
        decide
    · rw [← List.append_assoc, a2]
      simp [sp_suf, List.append_assoc, show sp_en 20007 = 13 from rfl]
    · rw [e, a3]
      simp [sp_suf, List.append_assoc]
    · rw [List.append_assoc]
      exact a4
  · rw [if_neg c]
    have s1 := h3 d p 0 h0 k true hd hp (by omega) (fun _ => rfl) (by simpa using hkz) (sp_tr_le htr (by decide)) (fun z => absurd z (by omega)) (fun _ z _ => by omega)
    simp only [List.replicate_zero] at s1
    have ok1 := sp_pz_ok (W := W) (Q := Q) ht n 3 d p hp (by omega) (by unfold sp_lev; rw [if_pos (by omega)]; omega)
    obtain ⟨r1, hr1⟩ : ∃ r, r = sp_pz K W N Q n 3 d p := ⟨_, rfl⟩
    rw [← hr1] at s1 ok1 ⊢
    by_cases g : r1.1 = true
    · rw [sp_thn_t g]
      have ok2 := ok1 g
      have hlt := ok2.1.2 (by omega)
      obtain ⟨s, k1, y1, a1, a2, a3, a4⟩ := s1.1 g
      by_cases c2 : sp_opx 2 (K r1.2.1) = 0
      · have cn := sp_opx2n c2
        simp only [if_pos c2]
        refine ⟨fun _ => ⟨s, k1, y1, fun a ha => Int.le_trans (by decide) (a1 a ha), ?_, a3, ?_⟩, fun z => absurd rfl z⟩
        · rw [a2]
          simp
        · exact ⟨fun _ => a4.1 (by decide), fun _ => a4.2.1 (by decide), fun _ z => absurd z cn, fun z => absurd z (by decide), fun z => absurd z (by decide)⟩
      · simp only [if_neg c2]
        obtain ⟨o1, o2, o3, o4, o5, o6, o7⟩ := sp_opx2 c2
        have hN1 := ht r1.2.1 ok2.2.1
        have hN2 := hN1.2 (by omega)
        have huw := sp_uw_app (sp_tr_le htr (show (4 : Int) ≤ 5 by decide)) s (fun a ha => a1 a ha)
        have ntp : ¬ sp_tp4 h0 = true := by
          cases h0 with
          | nil => exact Bool.false_ne_true
          | cons a r =>
            have hh : sp_rnk a < 4 := htr
            intro z
            have := of_decide_eq_true z
            omega
        have e : sp_E K W N Q t r1.2.1 false y1 (s ++ h0) k1 = sp_E K W N Q t (N r1.2.1) true (decide (sp_sgk (K r1.2.1) ≤ 12)) (sp_sgk (K r1.2.1) :: h0) (k1 ++ s) := by
          rw [sp_E_u ht _ _ _ _ ok2.2.1 (by omega), if_neg Bool.false_ne_true, if_neg (by omega), if_neg (by omega), if_neg o2, o4, huw.1, huw.2, if_neg (fun z => ntp z.2)]
        have s2 := h3 d (N r1.2.1) 0 (sp_sgk (K r1.2.1) :: h0) (k1 ++ s) (decide (sp_sgk (K r1.2.1) ≤ 12)) hd hN1.1 (by omega) (fun _ => rfl) (by rw [sp_kz, if_neg (by omega)]; simpa using hkz) (show sp_rnk (sp_sgk (K r1.2.1)) < 5 by omega) (fun z => absurd z (by omega)) (fun _ _ z => absurd (of_decide_eq_true z) o7)
        simp only [List.replicate_zero, List.nil_append] at s2
        obtain ⟨r2, hr2⟩ : ∃ r, r = sp_pz K W N Q n 3 d (N r1.2.1) := ⟨_, rfl⟩
        rw [← hr2] at s2 ⊢
        refine ⟨fun g2 => ?_, fun g2 => ?_⟩
        · obtain ⟨s', k2, y2, b1, b2, b3, b4⟩ := s2.1 g2
          have huw2 := sp_uw_app (h0 := sp_sgk (K r1.2.1) :: h0) (z := 5) (show sp_rnk (sp_sgk (K r1.2.1)) < 5 by omega) s' (fun a ha => b1 a ha)
          refine ⟨s' ++ [sp_sgk (K r1.2.1)], k2, y2, fun a ha => ?_, ?_, ?_, ?_⟩
          · rcases List.mem_append.1 ha with ha | ha
            · exact Int.le_trans (by decide) (b1 a ha)
            · rw [List.mem_singleton.1 ha, o5]
              decide
          · rw [← List.append_assoc, b2, a2]
            simp [sp_suf, List.append_assoc, o3]
          · rw [a3, e]
            simp only [List.nil_append] at b3
            rw [b3]
            simp [sp_suf, List.append_assoc]
          · rw [List.append_assoc]
            refine ⟨fun _ => b4.1 (by decide), fun _ => b4.2.1 (by decide), fun _ _ => ?_, fun z => absurd z (by decide), fun z => absurd z (by decide)⟩
            show sp_tp4 (sp_uwh 5 (s' ++ (sp_sgk (K r1.2.1) :: h0))) = true
            rw [huw2.1]
            exact decide_eq_true o5
        · have b3 := s2.2 g2
          exact a3.trans (e.trans b3)
    · rw [sp_thn_f g]
      exact ⟨fun g2 => absurd g2 g, fun _ => s1.2 g⟩
theorem sp_no_sign {K : Int} {h : List Int} {q : Nat} {R : Bool × Nat × List Int} (hi : sp_inf 0 K h) : (if sp_sgk K = -1 then (false, q, []) else if sp_rnk (sp_sgk K) = 4 ∧ sp_tp4 (sp_uwh (sp_lst (sp_sgk K)) h) = true then (false, q, []) else R) = (false, q, ([] : List Int)) := by
  obtain ⟨i1, i2, i3, i4, i5⟩ := hi
  by_cases c : sp_sgk K = -1
  · exact if_pos c
  · rw [if_neg c]
    have i1 := i1 (by decide)
    have i2 := i2 (by decide)
    have i4 := i4 (by decide)
    have i5 := i5 rfl
    have hk : K = 60 ∨ K = 61 := by
      by_cases z : K = 60 ∨ K = 61
      · exact z
      · exfalso
        apply c
        unfold sp_sgk
        rw [if_neg i5, if_neg i4, if_neg (fun y => z (Or.inl y)), if_neg (fun y => z (Or.inr y)), if_neg i2.1, if_neg i2.2, if_neg i1]
    have i3 := i3 (by decide) hk
    have e : sp_rnk (sp_sgk K) = 4 ∧ sp_lst (sp_sgk K) = 5 := by
      rcases hk with z | z <;> subst z <;> decide
    rw [e.2]
    exact if_pos ⟨e.1, i3⟩
theorem sp_rep_in {j : Nat} : ∀ a ∈ List.replicate j (19 : Int), 7 ≤ sp_rnk a := fun a ha => by
  rw [(List.mem_replicate.1 ha).2]
  decide
theorem sp_sX_5 {K W : Nat → Int} {N Q : Nat → Nat} {t n : Nat} (ht : sp_tks t K N) (hW : ∀ p, p ≤ t → (K p = 300 ∨ K p = 301) → 0 ≤ W p ∧ W p ≤ 9999) (h5 : sp_SX K W N Q t n 5) (h0x : sp_SX K W N Q t n 0) : sp_SX K W N Q t (n + 1) 5 := by
  intro d p j h0 k y hd hp hf hj hkz htr hy h261
  have hN := ht p hp
  have hkzj : sp_kz (List.replicate j 19 ++ h0) = (d : Int) := by rw [sp_kz_app, sp_kz_rep]; exact hkz
  have huw := sp_uw_app (h0 := h0) (z := 7) htr (List.replicate j 19) sp_rep_in
  rw [sp_pz5]
  by_cases c300 : K p = 300
  · rw [if_pos c300]
    have hWp := hW p hp (Or.inl c300)
    refine ⟨fun _ => ⟨[], (k ++ [100000 + W p]) ++ List.replicate j 19, y, fun a ha => absurd ha (by simp), ?_, ?_, ⟨fun z => absurd z (by decide), fun z => absurd z (by decide), fun z => absurd z (by decide), fun z => absurd z (by decide), fun z => absurd z (by decide)⟩⟩, fun z => absurd rfl z⟩
    · have e : sp_en (W p) = 100000 + W p := by
        unfold sp_en
        rw [if_pos (by omega)]
        omega
      simp [e]
    · show sp_E K W N Q t p true y (List.replicate j 19 ++ h0) k = _
      rw [sp_E_u ht _ _ _ _ hp (by omega), if_pos rfl, if_pos c300, huw.1, huw.2]
      rfl
  · rw [if_neg c300]
    by_cases c301 : K p = 301
    · rw [if_pos c301]
      have hWp := hW p hp (Or.inr c301)
      refine ⟨fun _ => ⟨[], (k ++ [W p]) ++ List.replicate j 19, y, fun a ha => absurd ha (by simp), ?_, ?_, ⟨fun z => absurd z (by decide), fun z => absurd z (by decide), fun z => absurd z (by decide), fun z => absurd z (by decide), fun z => absurd z (by decide)⟩⟩, fun z => absurd rfl z⟩
      · have e : sp_en (10000 + W p) = W p := by
          unfold sp_en
          rw [if_neg (by omega), if_pos (by omega)]
          omega
        simp [e]
      · show sp_E K W N Q t p true y (List.replicate j 19 ++ h0) k = _
        rw [sp_E_u ht _ _ _ _ hp (by omega), if_pos rfl, if_neg c300, if_pos c301, huw.1, huw.2]
        rfl
    · rw [if_neg c301]
      by_cases c45 : K p = 45 ∧ d < 5
      · rw [if_pos c45]
        have s1 := h5 (d + 1) (N p) (j + 1) h0 k false (by omega) hN.1 (by have := hN.2 (by omega); omega) (fun z => absurd z (by decide)) (by omega) htr (fun z => absurd z (by decide)) (fun _ _ z => absurd z Bool.false_ne_true)
        have e : sp_E K W N Q t p true y ([] ++ (List.replicate j 19 ++ h0)) k = sp_E K W N Q t (N p) true false ([] ++ (List.replicate (j + 1) 19 ++ h0)) k := by
          show sp_E K W N Q t p true y (List.replicate j 19 ++ h0) k = sp_E K W N Q t (N p) true false (19 :: (List.replicate j 19 ++ h0)) k
          rw [sp_E_u ht _ _ _ _ hp (by omega), if_pos rfl, if_neg c300, if_neg c301, if_neg (fun z => by omega), if_pos c45.1, if_neg (by omega)]
        obtain ⟨r1, hr1⟩ : ∃ r, r = sp_pz K W N Q n 5 (d + 1) (N p) := ⟨_, rfl⟩
        rw [← hr1] at s1 ⊢
        refine ⟨fun g => ?_, fun g => e.trans (s1.2 g)⟩
        obtain ⟨s, k1, y1, a1, a2, a3, a4⟩ := s1.1 g
        refine ⟨s, k1, y1, a1, ?_, e.trans a3, a4⟩
        rw [a2]
        simp [sp_suf, List.append_assoc, List.replicate_succ, show sp_en 20008 = 19 from rfl]
      · rw [if_neg c45]
        by_cases c40 : K p = 40 ∧ d < 5
        · rw [if_pos c40]
          have hN2 := hN.2 (by omega)
          have s1 := h0x (d + 1) (N p) 0 (0 :: (List.replicate j 19 ++ h0)) k true (by omega) hN.1 (by omega) (fun _ => rfl) (by rw [sp_kz, if_pos (by omega)]; omega) (show sp_rnk 0 < 1 by decide) (fun _ => rfl) (fun z => absurd z (by decide))
          simp only [List.replicate_zero, List.nil_append] at s1
          have e : sp_E K W N Q t p true y ([] ++ (List.replicate j 19 ++ h0)) k = sp_E K W N Q t (N p) true true (0 :: (List.replicate j 19 ++ h0)) k := by
            show sp_E K W N Q t p true y (List.replicate j 19 ++ h0) k = _
            rw [sp_E_u ht _ _ _ _ hp (by omega), if_pos rfl, if_neg c300, if_neg c301, if_neg (fun z => by omega), if_neg (by omega), if_pos c40.1, if_neg (by omega)]
          have ok1 := sp_pz_ok (W := W) (Q := Q) ht n 0 (d + 1) (N p) hN.1 (by omega) (by unfold sp_lev; rw [if_pos (by omega)]; omega)
          obtain ⟨r1, hr1⟩ : ∃ r, r = sp_pz K W N Q n 0 (d + 1) (N p) := ⟨_, rfl⟩
          rw [← hr1] at s1 ok1 ⊢
          by_cases g : r1.1 = true
          · rw [sp_thn_t g]
            have ok2 := ok1 g
            obtain ⟨s, k1, y1, a1, a2, a3, a4⟩ := s1.1 g
            simp only [List.nil_append] at a3
            have huw1 := sp_uw_app (h0 := 0 :: (List.replicate j 19 ++ h0)) (z := 1) (show sp_rnk 0 < 1 by decide) s (fun a ha => a1 a ha)
            by_cases c41 : K r1.2.1 = 41
            · simp only [if_pos c41]
              refine ⟨fun _ => ⟨[], (k1 ++ s) ++ List.replicate j 19, y1, fun a ha => absurd ha (by simp), ?_, ?_, ⟨fun z => absurd z (by decide), fun z => absurd z (by decide), fun z => absurd z (by decide), fun z => absurd z (by decide), fun z => absurd z (by decide)⟩⟩, fun z => absurd rfl z⟩
              · rw [a2]
                simp
              · refine e.trans (a3.trans ?_)
                rw [sp_E_u ht _ _ _ _ ok2.2.1 (by omega), if_neg Bool.false_ne_true, if_neg (by omega), if_pos c41, huw1.1, huw1.2, if_neg (by simp), List.tail_cons, huw.1, huw.2]
                rfl
            · simp only [if_neg c41]
              refine ⟨fun z => absurd z Bool.false_ne_true, fun _ => e.trans (a3.trans ?_)⟩
              by_cases c302 : K r1.2.1 = 302
              · exact sp_E_302 ok2.2.1 c302
              · rw [sp_E_u ht _ _ _ _ ok2.2.1 c302, if_neg Bool.false_ne_true]
                by_cases c59 : K r1.2.1 = 59
                · rw [if_pos c59, huw1.1, if_neg (by simp)]
                · rw [if_neg c59, if_neg c41]
                  exact sp_no_sign a4
          · rw [sp_thn_f g]
            exact ⟨fun g2 => absurd g2 g, fun _ => e.trans (s1.2 g)⟩
        · rw [if_neg c40]
          refine ⟨fun z => absurd z Bool.false_ne_true, fun _ => ?_⟩
          show sp_E K W N Q t p true y (List.replicate j 19 ++ h0) k = _
          by_cases c302 : K p = 302
          · exact sp_E_302 hp c302
          · rw [sp_E_u ht _ _ _ _ hp c302, if_pos rfl, if_neg c300, if_neg c301, hkzj]
            by_cases c261 : K p = 261 ∧ y = true
            · have hd5 := h261 (by decide) c261.1 c261.2
              rw [if_pos c261, if_pos (by omega)]
            · rw [if_neg c261]
              by_cases d45 : K p = 45
              · rw [if_pos d45, if_pos (by omega)]
              · rw [if_neg d45]
                by_cases d40 : K p = 40
                · rw [if_pos d40, if_pos (by omega)]
                · rw [if_neg d40]
theorem sp_S_all {K W : Nat → Int} {N Q : Nat → Nat} {t : Nat} (ht : sp_tks t K N) (hW : ∀ p, p ≤ t → (K p = 300 ∨ K p = 301) → 0 ≤ W p ∧ W p ≤ 9999) : ∀ n : Nat, ((sp_SX K W N Q t n 0 ∧ sp_SX K W N Q t n 1 ∧ sp_SX K W N Q t n 2) ∧ sp_SX K W N Q t n 3 ∧ sp_SX K W N Q t n 4 ∧ sp_SX K W N Q t n 5) ∧ (sp_SL K W N Q t n 0 ∧ sp_SL K W N Q t n 1) ∧ sp_SL K W N Q t n 3 ∧ sp_SL K W N Q t n 4
  | 0 => ⟨⟨⟨fun _ _ _ _ _ _ _ _ h => absurd h (by omega), fun _ _ _ _ _ _ _ _ h => absurd h (by omega), fun _ _ _ _ _ _ _ _ h => absurd h (by omega)⟩, fun _ _ _ _ _ _ _ _ h => absurd h (by omega), fun _ _ _ _ _ _ _ _ h => absurd h (by omega), fun _ _ _ _ _ _ _ _ h => absurd h (by omega)⟩,
      ⟨fun _ _ _ _ _ _ _ _ h => absurd h (by omega), fun _ _ _ _ _ _ _ _ h => absurd h (by omega)⟩, fun _ _ _ _ _ _ _ _ h => absurd h (by omega), fun _ _ _ _ _ _ _ _ h => absurd h (by omega)⟩
  | n + 1 => by
    obtain ⟨⟨⟨a0, a1, a2⟩, a3, a4, a5⟩, ⟨b0, b1⟩, b3, b4⟩ := sp_S_all (Q := Q) ht hW n
    exact ⟨⟨⟨sp_sX_row ht (by omega) a1 b0, sp_sX_row ht (by omega) a2 b1, sp_sX_2 ht a2 a3⟩, sp_sX_row ht (by omega) a4 b3, sp_sX_row ht (by omega) a5 b4, sp_sX_5 ht hW a5 a0⟩, ⟨sp_sL_row ht (by omega) a1 b0, sp_sL_row ht (by omega) a2 b1⟩, sp_sL_row ht (by omega) a4 b3, sp_sL_row ht (by omega) a5 b4⟩
/-- an E up to its ; : the model's eRead -/
theorem sp_sim_E {K W : Nat → Int} {N Q : Nat → Nat} {t p n : Nat} {k : List Int} (ht : sp_tks t K N) (hW : ∀ p, p ≤ t → (K p = 300 ∨ K p = 301) → 0 ≤ W p ∧ W p ≤ 9999) (hp : p ≤ t) (hf : 16 * (t - p) + 6 < n) {r : Bool × Nat × List Int} (hr : r = sp_thn (sp_pz K W N Q n 0 0 p) (fun p1 => if K p1 = 59 then (true, N p1, []) else (false, Q p1, []))) :
    (r.1 = true → sp_E K W N Q t p true true [] k = (true, r.2.1, k ++ r.2.2.map sp_en)) ∧ (¬ r.1 = true → sp_E K W N Q t p true true [] k = (false, r.2.1, [])) := by
  have s1 := (sp_S_all (Q := Q) ht hW n).1.1.1 0 p 0 [] k true (by omega) hp (by omega) (fun _ => rfl) rfl trivial (fun _ => rfl) (fun z => absurd z (by decide))
  have ok1 := sp_pz_ok (W := W) (Q := Q) ht n 0 0 p hp (by omega) (by unfold sp_lev; rw [if_pos (by omega)]; omega)
  obtain ⟨r1, hr1⟩ : ∃ r, r = sp_pz K W N Q n 0 0 p := ⟨_, rfl⟩
  rw [← hr1] at s1 ok1 hr
  subst hr
  simp only [List.replicate_zero] at s1
  by_cases g : r1.1 = true
  · rw [sp_thn_t g]
    have ok2 := ok1 g
    obtain ⟨s, k1, y1, a1, a2, a3, a4⟩ := s1.1 g
    have a3 : sp_E K W N Q t p true true [] k = sp_E K W N Q t r1.2.1 false y1 (s ++ []) k1 := a3
    have huw1 := sp_uw_app (h0 := []) (z := 1) trivial s (fun a ha => a1 a ha)
    rw [a3]
    by_cases c59 : K r1.2.1 = 59
    · simp only [if_pos c59]
      refine ⟨fun _ => ?_, fun z => absurd trivial z⟩
      rw [sp_E_u ht _ _ _ _ ok2.2.1 (by omega), if_neg Bool.false_ne_true, if_pos c59, huw1.1, huw1.2, if_pos (show ([] : List Int).length = 0 from rfl), a2]
      simp
    · simp only [if_neg c59]
      refine ⟨fun z => absurd z Bool.false_ne_true, fun _ => ?_⟩
      by_cases c302 : K r1.2.1 = 302
      · exact sp_E_302 ok2.2.1 c302
      · rw [sp_E_u ht _ _ _ _ ok2.2.1 c302, if_neg Bool.false_ne_true, if_neg c59]
        by_cases c41 : K r1.2.1 = 41
        · rw [if_pos c41, huw1.1]
          exact if_pos rfl
        · rw [if_neg c41]
          exact sp_no_sign a4
  · rw [sp_thn_f g]
    exact ⟨fun g2 => absurd g2 g, fun _ => s1.2 g⟩
