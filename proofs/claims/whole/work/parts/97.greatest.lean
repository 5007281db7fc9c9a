/-! best: the class' greatest is the model's -/
theorem sp_ct1_p {D : Nat → Int} {u : Nat} : ∀ n : Nat, 0 ≤ sp_ct1 D u n ∧ ∀ c, c < n → D c = (u : Int) → 1 ≤ sp_ct1 D u n
  | 0 => ⟨Int.le_refl _, fun c hc => absurd hc (by omega)⟩
  | n + 1 => by
    have h := sp_ct1_p (D := D) (u := u) n
    have e : sp_ct1 D u (n + 1) = sp_ct1 D u n + (if D n = (u : Int) then 1 else 0) := rfl
    rw [e]
    refine ⟨by split <;> omega, fun c hc hd => ?_⟩
    by_cases q : c = n
    · subst q
      rw [if_pos hd]
      omega
    · have := h.2 c (by omega) hd
      split <;> omega
theorem sp_vl_n {V : mv_M} {P : Nat → Nat → List Int} {b : Nat} (hb : 0 < b) (N : Nat) : sp_vl (sp_G V P) (fun c => sp_d1 b N ((V 0 8).toNat - 1 - c)) (V 0 8).toNat = sp_ks V P b N (V 0 8).toNat * 1048576 - sp_kd b N (V 0 8).toNat := by
  obtain ⟨n, hn⟩ : ∃ n, n = (V 0 8).toNat := ⟨_, rfl⟩
  rw [sp_ks_sm, sp_kd_sm, ← hn]
  have e2 : ∀ A B : Nat → Int, sp_sm A n * 1048576 - sp_sm B n = sp_sm (fun j => 1048576 * A j + -1 * B j) n := fun A B => by
    rw [sp_sm_a (fun j => 1048576 * A j) (fun j => -1 * B j), sp_sm_m, sp_sm_m]
    omega
  rw [e2]
  unfold sp_vl
  rw [← sp_sm_r n]
  refine sp_sm_c n (fun j hj => ?_)
  show (if sp_d1 b N (n - 1 - (n - 1 - j)) = -1 then 0 else sp_G V P (sp_d1 b N (n - 1 - (n - 1 - j))).toNat (n - 1 - j)) = 1048576 * (if sp_d1 b N j = -1 then 0 else sp_suits V P (n - 1 - j) (sp_d1 b N j).toNat) + -1 * (sp_tn j * (sp_d1 b N j + 1))
  rw [show n - 1 - (n - 1 - j) = j from by omega]
  have hd := sp_d1_b hb N j
  by_cases q : sp_d1 b N j = -1
  · rw [if_pos q, if_pos q, q]
    simp
  · obtain ⟨v, hv⟩ : ∃ v : Nat, sp_d1 b N j = (v : Int) := ⟨(sp_d1 b N j).toNat, by omega⟩
    rw [if_neg q, if_neg q, hv, Int.toNat_natCast]
    unfold sp_G
    rw [← hn, show n - 1 - (n - 1 - j) = j from by omega, Int.mul_comm (sp_tn j), Int.mul_comm 1048576]
    omega
theorem sp_ct1_n {b : Nat} (hb : 0 < b) (N u n : Nat) : sp_ct1 (fun c => sp_d1 b N (n - 1 - c)) u n = sp_kh b N n u := by
  rw [sp_kh_sm hb]
  unfold sp_ct1
  rw [← sp_sm_r n]
  refine sp_sm_c n (fun j hj => ?_)
  show (if sp_d1 b N (n - 1 - (n - 1 - j)) = (u : Int) then (1 : Int) else 0) = _
  rw [show n - 1 - (n - 1 - j) = j from by omega]
theorem sp_kd_le {b : Nat} (hb : 0 < b) (hb7 : b ≤ 7) {n N1 N2 : Nat} (h : N1 ≤ N2) (h2 : N2 < b ^ n) : sp_kd b N1 n ≤ sp_kd b N2 n := by
  rcases Nat.lt_or_eq_of_le h with q | q
  · exact Int.le_of_lt (sp_kd_lt hb hb7 n _ _ q h2)
  · rw [q]; exact Int.le_refl _
theorem sp_great {V : mv_M} {P : Nat → Nat → List Int} {w : Int} {rm : Nat → Int} {b : Nat} (ho : sp_ok V) (hb : (b : Int) = V 0 9 + 1) (hrm : ∀ u : Nat, u + 1 < b → rm u = if (u : Int) = w then 0 else sp_room V u) :
    sp_mo V P w (V 0 9).toNat (2 ^ (V 0 8).toNat - 1) = (sp_gt V P rm b (b ^ (V 0 8).toNat)).2.2 * 1048576 - (sp_gt V P rm b (b ^ (V 0 8).toNat)).2.1 ∧ (0 ≤ (sp_gt V P rm b (b ^ (V 0 8).toNat)).2.1 ∧ (sp_gt V P rm b (b ^ (V 0 8).toNat)).2.1 ≤ 666666) ∧ -7200 ≤ (sp_gt V P rm b (b ^ (V 0 8).toNat)).2.2 ∧ (sp_gt V P rm b (b ^ (V 0 8).toNat)).2.2 ≤ 7200 := by
  have h8 := sp_ok_s8 ho
  have h9 := sp_ok_s9 ho
  have hb0 : 0 < b := by omega
  have hb7 : b ≤ 7 := by omega
  have hr0 : ∀ u, u + 1 < b → 0 ≤ rm u := fun u hu => by
    have := sp_room_b ho (u := u) (by omega)
    rw [hrm u hu]
    split <;> omega
  have hpw : 0 < b ^ (V 0 8).toNat := Nat.pow_pos hb0
  have hg0 : sp_kg rm b 0 (V 0 8).toNat = 1 := (sp_kg_c hb0 rm hr0 0 _).2 (fun u hu => by
    rw [sp_kh_sm hb0, sp_sm_0]
    · exact hr0 u hu
    · intro c _
      rw [if_neg]
      unfold sp_d1 sp_lf
      rw [Nat.zero_div, Nat.zero_mod]
      omega)
  obtain ⟨N0, hN0, hgood, hgt, hmax, hfirst⟩ := sp_gt_m V P rm b (b ^ (V 0 8).toNat) hpw hg0
  rw [hgt]
  have hkd0 := sp_kd_b hb0 hb7 N0 (V 0 8).toNat (by omega)
  have ht6 := sp_t6_b (V 0 8).toNat (by omega)
  have hks0 := sp_ks_b P ho hb N0 (V 0 8).toNat
  refine ⟨?_, ⟨hkd0.1, Int.le_trans hkd0.2 ht6.2⟩, by show -7200 ≤ sp_ks V P b N0 _; omega, by show sp_ks V P b N0 _ ≤ 7200; omega⟩
  show sp_mo V P w (V 0 9).toNat (2 ^ (V 0 8).toNat - 1) = sp_ks V P b N0 (V 0 8).toNat * 1048576 - sp_kd b N0 (V 0 8).toNat
  have hlt : 2 ^ (V 0 8).toNat - 1 < 2 ^ (V 0 8).toNat := by
    have := Nat.pow_pos (n := (V 0 8).toNat) (show 0 < 2 by omega)
    omega
  refine Int.le_antisymm ?_ ?_
  · obtain ⟨D, hD, hv⟩ := sp_row_at (P := P) (w := w) ho (V 0 9).toNat (2 ^ (V 0 8).toNat - 1) (by omega) hlt
    rw [← hv]
    obtain ⟨n, hn⟩ : ∃ n, n = (V 0 8).toNat := ⟨_, rfl⟩
    have he : ∀ j, j < n → (D (n - 1 - j) + 1).toNat < b := fun j hj => by
      rcases hD.1 (n - 1 - j) (by omega) with q | ⟨q1, q2, _⟩ <;> omega
    have hb2 : ∀ j, j < n → -1 ≤ D (n - 1 - j) := fun j hj => by
      rcases hD.1 (n - 1 - j) (by omega) with q | ⟨q1, q2, _⟩ <;> omega
    have hNb := sp_num_b hb0 n (fun j => (D (n - 1 - j) + 1).toNat) he
    have hNd := sp_num_d hb0 n (fun j => (D (n - 1 - j) + 1).toNat) he
    obtain ⟨N, hN⟩ : ∃ N, N = sp_num b (fun j => (D (n - 1 - j) + 1).toNat) n := ⟨_, rfl⟩
    rw [← hN] at hNb hNd
    have hDN : ∀ c, c < n → sp_d1 b N (n - 1 - c) = D c := fun c hc => by
      rw [hNd (n - 1 - c) (by omega)]
      have := hb2 (n - 1 - c) (by omega)
      rw [show n - 1 - (n - 1 - c) = c from by omega] at this ⊢
      omega
    have hvN := sp_vl_n (V := V) (P := P) hb0 N
    have hgN : sp_kg rm b N n = 1 := (sp_kg_c hb0 rm hr0 N n).2 (fun u hu => by
      rw [← sp_ct1_n hb0 N u n, show sp_ct1 (fun c => sp_d1 b N (n - 1 - c)) u n = sp_ct1 D u n from sp_sm_c n (fun c hc => by show (if sp_d1 b N (n - 1 - c) = _ then (1 : Int) else 0) = _; rw [hDN c hc])]
      rw [hrm u hu]
      by_cases q : (u : Int) = w
      · rw [if_pos q]
        refine Int.le_of_eq (sp_sm_0 n (fun c hc => ?_))
        rw [if_neg]
        intro q2
        rcases hD.1 c (by omega) with q3 | ⟨q3, q4, q5, _⟩
        · omega
        · exact q5 (by rw [q2, q])
      · rw [if_neg q, hn]
        exact hD.2 u (by omega) q)
    rw [← hn] at hvN hmax hfirst hN0 hkd0 ht6 ⊢
    rw [show sp_vl (sp_G V P) (fun c => sp_d1 b N (n - 1 - c)) n = sp_vl (sp_G V P) D n from sp_sm_c n (fun c hc => by show (if sp_d1 b N (n - 1 - c) = -1 then 0 else sp_G V P (sp_d1 b N (n - 1 - c)).toNat c) = _; rw [hDN c hc])] at hvN
    rw [hvN]
    have h1 := hmax N hNb hgN
    have hkd := sp_kd_b hb0 hb7 N n (by omega)
    rcases (by omega : sp_ks V P b N n < sp_ks V P b N0 n ∨ sp_ks V P b N n = sp_ks V P b N0 n) with q | q
    · omega
    · have h2 : N0 ≤ N := Nat.not_lt.1 (fun z => by
        have := hfirst N z hgN
        omega)
      have h3 := sp_kd_le hb0 hb7 h2 hNb
      omega
  · rw [← sp_vl_n hb0 N0]
    refine sp_row_up ho (V 0 9).toNat (2 ^ (V 0 8).toNat - 1) _ hlt ⟨fun c hc => ?_, fun u hu hw => ?_⟩
    · have hd := sp_d1_b hb0 N0 ((V 0 8).toNat - 1 - c)
      rcases (by omega : sp_d1 b N0 ((V 0 8).toNat - 1 - c) = -1 ∨ 0 ≤ sp_d1 b N0 ((V 0 8).toNat - 1 - c)) with q | q
      · exact Or.inl q
      · refine Or.inr ⟨q, by show sp_d1 b N0 ((V 0 8).toNat - 1 - c) < _; omega, fun z => ?_, ?_⟩
        · have z : sp_d1 b N0 ((V 0 8).toNat - 1 - c) = w := z
          have hk := (sp_kg_c hb0 rm hr0 N0 _).1 hgood w.toNat (by omega)
          rw [← sp_ct1_n hb0 N0, hrm w.toNat (by omega), if_pos (by omega)] at hk
          have := (sp_ct1_p (D := fun c => sp_d1 b N0 ((V 0 8).toNat - 1 - c)) (u := w.toNat) (V 0 8).toNat).2 c hc (by show sp_d1 b N0 ((V 0 8).toNat - 1 - c) = _; omega)
          omega
        · rw [Nat.testBit_two_pow_sub_one]
          exact decide_eq_true hc
    · have hk := (sp_kg_c hb0 rm hr0 N0 _).1 hgood u (by omega)
      rw [← sp_ct1_n hb0 N0, hrm u (by omega), if_neg hw] at hk
      exact hk
theorem sp_so_e {s d : Int} (h1 : 0 ≤ d) (h2 : d ≤ 666666) : sp_so (s * 1048576 - d) = s := by
  unfold sp_so
  omega
