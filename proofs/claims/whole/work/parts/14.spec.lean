/-! what a ward is, as a function: row 0: 8 children, 9 uncles, 10 year, 11 law; rows 1 needs, 2 has, 3 marks, 4 kind, 5 more -/
def sp_c (w : Nat) (M : mv_M) (V : mv_M) : Prop :=
  (M w 8 = V 0 8 ∧ M w 9 = V 0 9 ∧ M w 10 = V 0 10 ∧ M w 11 = V 0 11) ∧ (∀ j, j < 24 → M (w + 1) j = V 1 j) ∧ (∀ j : Nat, (j : Int) < V 0 8 → M (w + 2) j = V 2 j) ∧
  (∀ j, j < 24 → M (w + 3) j = V 3 j) ∧ (∀ j : Nat, (j : Int) < V 0 9 → M (w + 4) j = V 4 j) ∧ (∀ j : Nat, (j : Int) < V 0 9 → M (w + 5) j = V 5 j)
def sp_m (M : mv_M) (V : mv_M) : Prop :=
  (M 100 0 = V 0 8 ∧ M 100 1 = V 0 9 ∧ M 100 7 = V 0 10 ∧ M 100 13 = V 0 11) ∧ (∀ j, j < 24 → M 104 j = V 1 j) ∧ (∀ j : Nat, (j : Int) < V 0 8 → M 106 j = V 2 j) ∧
  (∀ j, j < 24 → M 105 j = V 3 j) ∧ (∀ j : Nat, (j : Int) < V 0 9 → M 102 j = V 4 j) ∧ (∀ j : Nat, (j : Int) < V 0 9 → M 103 j = V 5 j)
def sp_ok (V : mv_M) : Prop :=
  (0 ≤ V 0 8 ∧ V 0 8 ≤ 6) ∧ (0 ≤ V 0 9 ∧ V 0 9 ≤ 6) ∧ (0 ≤ V 0 10 ∧ V 0 10 ≤ 200) ∧ (0 ≤ V 0 11 ∧ V 0 11 < 6) ∧ (∀ j, j < 24 → 0 ≤ V 1 j ∧ V 1 j ≤ 9) ∧ (∀ j : Nat, (j : Int) < V 0 8 → -1 ≤ V 2 j ∧ V 2 j < V 0 9) ∧
  (∀ j, j < 24 → 0 ≤ V 3 j ∧ V 3 j ≤ 9) ∧ (∀ j : Nat, (j : Int) < V 0 9 → 0 ≤ V 4 j ∧ V 4 j ≤ 5) ∧ (∀ j : Nat, (j : Int) < V 0 9 → 0 ≤ V 5 j ∧ V 5 j ≤ 9)
theorem sp_c_s8 {w : Nat} {M V : mv_M} (h : sp_c w M V) : M w 8 = V 0 8 := h.1.1
theorem sp_c_s9 {w : Nat} {M V : mv_M} (h : sp_c w M V) : M w 9 = V 0 9 := h.1.2.1
theorem sp_c_s10 {w : Nat} {M V : mv_M} (h : sp_c w M V) : M w 10 = V 0 10 := h.1.2.2.1
theorem sp_c_s11 {w : Nat} {M V : mv_M} (h : sp_c w M V) : M w 11 = V 0 11 := h.1.2.2.2
theorem sp_c_1 {w : Nat} {M V : mv_M} (h : sp_c w M V) (j : Nat) (hj : j < 24) : M (w + 1) j = V 1 j := h.2.1 j hj
theorem sp_c_2 {w : Nat} {M V : mv_M} (h : sp_c w M V) (j : Nat) (hj : (j : Int) < V 0 8) : M (w + 2) j = V 2 j := h.2.2.1 j hj
theorem sp_c_3 {w : Nat} {M V : mv_M} (h : sp_c w M V) (j : Nat) (hj : j < 24) : M (w + 3) j = V 3 j := h.2.2.2.1 j hj
theorem sp_c_4 {w : Nat} {M V : mv_M} (h : sp_c w M V) (j : Nat) (hj : (j : Int) < V 0 9) : M (w + 4) j = V 4 j := h.2.2.2.2.1 j hj
theorem sp_c_5 {w : Nat} {M V : mv_M} (h : sp_c w M V) (j : Nat) (hj : (j : Int) < V 0 9) : M (w + 5) j = V 5 j := h.2.2.2.2.2 j hj
theorem sp_m_s8 {M V : mv_M} (h : sp_m M V) : M 100 0 = V 0 8 := h.1.1
theorem sp_m_s9 {M V : mv_M} (h : sp_m M V) : M 100 1 = V 0 9 := h.1.2.1
theorem sp_m_s10 {M V : mv_M} (h : sp_m M V) : M 100 7 = V 0 10 := h.1.2.2.1
theorem sp_m_s11 {M V : mv_M} (h : sp_m M V) : M 100 13 = V 0 11 := h.1.2.2.2
theorem sp_m_1 {M V : mv_M} (h : sp_m M V) (j : Nat) (hj : j < 24) : M 104 j = V 1 j := h.2.1 j hj
theorem sp_m_2 {M V : mv_M} (h : sp_m M V) (j : Nat) (hj : (j : Int) < V 0 8) : M 106 j = V 2 j := h.2.2.1 j hj
theorem sp_m_3 {M V : mv_M} (h : sp_m M V) (j : Nat) (hj : j < 24) : M 105 j = V 3 j := h.2.2.2.1 j hj
theorem sp_m_4 {M V : mv_M} (h : sp_m M V) (j : Nat) (hj : (j : Int) < V 0 9) : M 102 j = V 4 j := h.2.2.2.2.1 j hj
theorem sp_m_5 {M V : mv_M} (h : sp_m M V) (j : Nat) (hj : (j : Int) < V 0 9) : M 103 j = V 5 j := h.2.2.2.2.2 j hj
theorem sp_ok_s8 {V : mv_M} (h : sp_ok V) : 0 ≤ V 0 8 ∧ V 0 8 ≤ 6 := h.1
theorem sp_ok_s9 {V : mv_M} (h : sp_ok V) : 0 ≤ V 0 9 ∧ V 0 9 ≤ 6 := h.2.1
theorem sp_ok_s10 {V : mv_M} (h : sp_ok V) : 0 ≤ V 0 10 ∧ V 0 10 ≤ 200 := h.2.2.1
theorem sp_ok_s11 {V : mv_M} (h : sp_ok V) : 0 ≤ V 0 11 ∧ V 0 11 < 6 := h.2.2.2.1
theorem sp_ok_1 {V : mv_M} (h : sp_ok V) (j : Nat) (hj : j < 24) : 0 ≤ V 1 j ∧ V 1 j ≤ 9 := h.2.2.2.2.1 j hj
theorem sp_ok_2 {V : mv_M} (h : sp_ok V) (j : Nat) (hj : (j : Int) < V 0 8) : -1 ≤ V 2 j ∧ V 2 j < V 0 9 := h.2.2.2.2.2.1 j hj
theorem sp_ok_3 {V : mv_M} (h : sp_ok V) (j : Nat) (hj : j < 24) : 0 ≤ V 3 j ∧ V 3 j ≤ 9 := h.2.2.2.2.2.2.1 j hj
theorem sp_ok_4 {V : mv_M} (h : sp_ok V) (j : Nat) (hj : (j : Int) < V 0 9) : 0 ≤ V 4 j ∧ V 4 j ≤ 5 := h.2.2.2.2.2.2.2.1 j hj
theorem sp_ok_5 {V : mv_M} (h : sp_ok V) (j : Nat) (hj : (j : Int) < V 0 9) : 0 ≤ V 5 j ∧ V 5 j ≤ 9 := h.2.2.2.2.2.2.2.2 j hj
theorem sp_c_ag {S : List Nat} {w : Nat} {M M1 V : mv_M} (h : sp_c w M V) (ha : mv_ag S M M1) (hs : w ∉ S ∧ w + 1 ∉ S ∧ w + 2 ∉ S ∧ w + 3 ∉ S ∧ w + 4 ∉ S ∧ w + 5 ∉ S) : sp_c w M1 V := by
  obtain ⟨a0, a1, a2, a3, a4, a5⟩ := hs
  unfold sp_c
  rw [ha _ a0, ha _ a1, ha _ a2, ha _ a3, ha _ a4, ha _ a5]
  exact h
theorem sp_m_ag {S : List Nat} {M M1 V : mv_M} (h : sp_m M V) (ha : mv_ag S M M1) (h0 : M1 100 0 = M 100 0 ∧ M1 100 1 = M 100 1 ∧ M1 100 7 = M 100 7 ∧ M1 100 13 = M 100 13) (hs : 102 ∉ S ∧ 103 ∉ S ∧ 104 ∉ S ∧ 105 ∉ S ∧ 106 ∉ S) : sp_m M1 V := by
  obtain ⟨a2, a3, a4, a5, a6⟩ := hs
  unfold sp_m
  rw [ha _ a2, ha _ a3, ha _ a4, ha _ a5, ha _ a6, h0.1, h0.2.1, h0.2.2.1, h0.2.2.2]
  exact h
/-! sums -/
def sp_sum (f : Nat → Int) : Nat → Int
  | 0 => 0
  | n + 1 => sp_sum f n + f n
theorem sp_sum_b {f : Nat → Int} {a b : Int} : ∀ (n : Nat), (∀ i, i < n → a ≤ f i ∧ f i ≤ b) → a * n ≤ sp_sum f n ∧ sp_sum f n ≤ b * n
  | 0, _ => by simp [sp_sum]
  | n + 1, h => by
    have h1 := sp_sum_b n (fun i hi => h i (by omega))
    have h2 := h n (by omega)
    simp only [sp_sum, Int.natCast_succ, Int.mul_add, Int.mul_one]
    omega
def sp_hired (V : mv_M) (u : Int) : Int := sp_sum (fun c => if V 2 c = u then 1 else 0) (V 0 8).toNat
theorem sp_hired_b {V : mv_M} (u : Int) (n : Nat) : 0 ≤ sp_sum (fun c => if V 2 c = u then 1 else 0) n ∧ sp_sum (fun c => if V 2 c = u then 1 else 0) n ≤ n := by
  have h := @sp_sum_b (fun c => if V 2 c = u then 1 else 0) 0 1 n (fun i _ => by
    show 0 ≤ (if V 2 i = u then (1 : Int) else 0) ∧ (if V 2 i = u then (1 : Int) else 0) ≤ 1
    split <;> omega)
  omega
