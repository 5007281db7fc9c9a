/-! best: a row that reaches the greatest -/
theorem sp_bc_6 (m : Nat) {n : Nat} (hn : n ≤ 6) (hm : m < 2 ^ n) : sp_bc m 6 = sp_bc m n := by
  have h : ∀ r : Nat, sp_bc m (n + r) = sp_bc m n := by
    intro r
    induction r with
    | zero => rfl
    | succ r ih =>
      have hp : 2 ^ n ≤ 2 ^ (n + r) := Nat.pow_le_pow_right (by omega) (by omega)
      show sp_bc m (n + r) + (if Nat.testBit m (n + r) = true then 1 else 0) = _
      rw [Nat.testBit_lt_two_pow (by omega), ih]
      simp
  have := h (6 - n)
  rw [show n + (6 - n) = 6 from by omega] at this
  exact this
theorem sp_row_at {V : mv_M} {P : Nat → Nat → List Int} {w : Int} (ho : sp_ok V) : ∀ (k t : Nat), (k : Int) ≤ V 0 9 → t < 2 ^ (V 0 8).toNat → ∃ D : Nat → Int, sp_row (sp_room V) w D (V 0 8).toNat k t ∧ sp_vl (sp_G V P) D (V 0 8).toNat = sp_mo V P w k t
  | 0, t, _, _ => ⟨fun _ => -1, ⟨fun c _ => Or.inl rfl, fun u hu => absurd hu (by omega)⟩, sp_sm_0 _ (fun c _ => rfl)⟩
  | k + 1, t, hk9, ht => by
    have h8 := sp_ok_s8 ho
    have IH := fun t => sp_row_at (P := P) (w := w) ho k t (by omega)
    obtain ⟨n, hn⟩ : ∃ n, n = (V 0 8).toNat := ⟨_, rfl⟩
    have hn6 : n ≤ 6 := by omega
    rw [← hn] at ht IH ⊢
    by_cases qw : (k : Int) = w
    · have e : sp_mo V P w (k + 1) t = sp_mo V P w k t := by simp only [sp_mo]; rw [if_pos qw]
      rw [e]
      obtain ⟨D, h1, h2⟩ := IH t ht
      refine ⟨D, ⟨fun c hc => ?_, fun u hu hw => ?_⟩, h2⟩
      · rcases h1.1 c hc with q | ⟨q1, q2, q3, q4⟩
        · exact Or.inl q
        · exact Or.inr ⟨q1, by omega, q3, q4⟩
      · exact h1.2 u (by omega) hw
    · have e : sp_mo V P w (k + 1) t = sp_of (sp_mo V P w k) (fun t => sp_gb (sp_G V P k) t n) (sp_room V k) t := by simp only [sp_mo]; rw [if_neg qw, hn]
      rw [e]
      have h64 : t < 64 := Nat.lt_of_lt_of_le ht (Nat.le_trans (Nat.pow_le_pow_right (by omega) hn6) (by decide))
      rcases sp_in_e (sp_mo V P w k) (fun t => sp_gb (sp_G V P k) t n) (sp_room V k) h64 t t (sp_mo V P w k t) (Nat.le_refl _) (Nat.and_self t) with q | ⟨m, hmle, hsub, hm0, hbc, q⟩
      · unfold sp_of
        rw [q]
        obtain ⟨D, h1, h2⟩ := IH t ht
        refine ⟨D, ⟨fun c hc => ?_, fun u hu hw => ?_⟩, h2⟩
        · rcases h1.1 c hc with q | ⟨q1, q2, q3, q4⟩
          · exact Or.inl q
          · exact Or.inr ⟨q1, by omega, q3, q4⟩
        · by_cases q5 : u = k
          · subst q5
            have hr : 0 ≤ sp_ct1 D u n ∧ sp_ct1 D u n ≤ 0 := by
              have : sp_ct1 D u n = 0 := sp_sm_0 n (fun c hc => by
                rw [if_neg]
                rcases h1.1 c hc with q | ⟨q1, q2, q3, q4⟩
                · omega
                · omega)
              omega
            have := sp_room_b ho (u := u) (by omega)
            omega
          · exact h1.2 u (by omega) hw
      · unfold sp_of
        rw [q]
        obtain ⟨x, hx⟩ : ∃ x, m = x + 1 := ⟨m - 1, by omega⟩
        have htx : t ^^^ m < 2 ^ n := by
          have := (sp_sub (k := x) h64 (by omega) (by rw [← hx]; exact hsub)).1
          rw [← hx] at this
          omega
        obtain ⟨D, h1, h2⟩ := IH (t ^^^ m) htx
        have hmt : ∀ c, Nat.testBit m c = true → Nat.testBit t c = true := fun c hc => by
          rw [← hsub, Nat.testBit_and] at hc
          rcases hq : Nat.testBit t c with _ | _
          · rw [hq] at hc; simp at hc
          · rfl
        have hD : ∀ c, c < n → D c ≠ -1 → Nat.testBit m c = false ∧ Nat.testBit t c = true := fun c hc hd => by
          rcases h1.1 c hc with q | ⟨q1, q2, q3, q4⟩
          · exact absurd q hd
          · rw [Nat.testBit_xor] at q4
            rcases hq : Nat.testBit m c with _ | _
            · rw [hq] at q4; exact ⟨rfl, by simpa using q4⟩
            · rw [hq, hmt c hq] at q4; simp at q4
        refine ⟨fun c => if Nat.testBit m c = true then (k : Int) else D c, ⟨fun c hc => ?_, fun u hu hw => ?_⟩, ?_⟩
        · show (if Nat.testBit m c = true then (k : Int) else D c) = -1 ∨ (0 ≤ (if Nat.testBit m c = true then (k : Int) else D c) ∧ (if Nat.testBit m c = true then (k : Int) else D c) < ((k + 1 : Nat) : Int) ∧ (if Nat.testBit m c = true then (k : Int) else D c) ≠ w ∧ _)
          by_cases q2 : Nat.testBit m c = true
          · rw [if_pos q2]
            exact Or.inr ⟨by omega, by omega, qw, hmt c q2⟩
          · rw [if_neg q2]
            rcases h1.1 c hc with q5 | ⟨q1, q3, q4, _⟩
            · exact Or.inl q5
            · exact Or.inr ⟨q1, by omega, q4, (hD c hc (by omega)).2⟩
        · by_cases q5 : u = k
          · subst q5
            refine Int.le_trans (Int.le_of_eq ?_) hbc
            rw [sp_bc_6 m hn6 (by
              have := Nat.and_le_right (n := m) (m := t)
              omega), sp_bc_sm]
            refine sp_sm_c n (fun c hc => ?_)
            show (if (if Nat.testBit m c = true then (u : Int) else D c) = (u : Int) then (1 : Int) else 0) = _
            by_cases q2 : Nat.testBit m c = true
            · rw [if_pos q2, if_pos rfl, if_pos q2]
            · rw [if_neg q2, if_neg q2, if_neg]
              rcases h1.1 c hc with q5 | ⟨q1, q3, q4, _⟩ <;> omega
          · refine Int.le_trans (Int.le_of_eq ?_) (h1.2 u (by omega) hw)
            refine sp_sm_c n (fun c hc => ?_)
            show (if (if Nat.testBit m c = true then (k : Int) else D c) = (u : Int) then (1 : Int) else 0) = (if D c = (u : Int) then 1 else 0)
            by_cases q2 : Nat.testBit m c = true
            · rw [if_pos q2, if_neg (show ¬ ((k : Int) = (u : Int)) by omega), if_neg]
              intro q6
              have := (hD c hc (by omega)).1
              rw [this] at q2
              exact absurd q2 (by decide)
            · rw [if_neg q2]
        · rw [← h2, sp_gb_sm]
          unfold sp_vl
          rw [← sp_sm_a]
          refine sp_sm_c n (fun c hc => ?_)
          show (if (if Nat.testBit m c = true then (k : Int) else D c) = -1 then 0 else sp_G V P (if Nat.testBit m c = true then (k : Int) else D c).toNat c) = (if D c = -1 then 0 else sp_G V P (D c).toNat c) + (if Nat.testBit m c = true then sp_G V P k c else 0)
          by_cases q2 : Nat.testBit m c = true
          · have hd : D c = -1 := by
              rcases h1.1 c hc with q5 | ⟨q1, _⟩
              · exact q5
              · have := (hD c hc (by omega)).1
                rw [this] at q2
                exact absurd q2 (by decide)
            rw [if_pos q2, if_pos q2, if_neg (show ¬ ((k : Int) = -1) by omega), if_pos hd, Int.toNat_natCast]
            omega
          · rw [if_neg q2, if_neg q2]
            omega
