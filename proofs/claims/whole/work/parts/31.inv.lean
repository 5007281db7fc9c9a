/-! what holds between the calls, of both programs' cells -/
def sp_mi (M B : mv_M) : Prop :=
  (∀ j, j < 24 → M 115 j = B 1 j) ∧ (∀ j, j < 24 → M 115 (24 + j) = B 3 j) ∧ (∀ j : Nat, (j : Int) < B 0 8 → M 115 (48 + j) = B 2 j) ∧
  (M 116 0 = B 0 8 ∧ M 116 1 = B 0 9 ∧ M 116 2 = B 0 10 ∧ M 116 3 = B 0 11)
/-- the image: K says whether there is one -/
def sp_im (V B : mv_M) (n K : Int) (M : mv_M) : Prop :=
  M 0 8 = K ∧ M 100 14 = K ∧ (K = 0 ∨ K = 1) ∧ (K = 1 → (sp_c 40 M B ∧ sp_mi M B ∧ sp_ok B) ∧ (B 0 9 ≤ V 0 9 ∧ B 0 10 ≤ 99 ∧ B 0 11 < n) ∧ ∀ u : Nat, (u : Int) < B 0 9 → B 4 u = V 4 u ∧ B 5 u = V 5 u)
def sp_tp (M : mv_M) (t : Nat) : Prop := M 28 1 = (t : Int) ∧ M 100 9 = (t : Int) ∧ t ≤ 160 ∧ ∀ j, j < t → M 29 j = M 108 j ∧ 0 ≤ M 29 j ∧ M 29 j ≤ 255
def sp_sh (M : mv_M) : Prop := ∀ s, s < 4 → (M (71 + 2 * s) 1 = M 117 s ∧ -1 ≤ M 117 s ∧ M 117 s ≤ 2) ∧ (M (71 + 2 * s) 2 = M 118 s ∧ 0 ≤ M 118 s ∧ M 118 s ≤ 40) ∧ ∀ j, j < 40 → M (72 + 2 * s) j = M 119 (40 * s + j)
/-- the model's words -/
def sp_words : List Int := [115, 117, 105, 116, 115, 32, 32, 32, 108, 105, 107, 101, 115, 32, 32, 32, 116, 105, 114, 101, 115, 32, 32, 32, 109, 97, 114, 107, 32, 32, 32, 32, 110, 101, 101, 100, 32, 32, 32, 32, 119, 104, 105, 99, 104, 32, 32, 32,
  121, 101, 97, 114, 32, 32, 32, 32, 104, 105, 114, 101, 100, 32, 32, 32, 109, 111, 114, 101, 32, 32, 32, 32, 111, 114, 32, 32, 32, 32, 32, 32, 97, 110, 100, 32, 32, 32, 32, 32, 110, 111, 116, 32, 32, 32, 32, 32]
def sp_R (V : mv_M) (P : Nat → Nat → List Int) (n : Int) (B : mv_M) (K : Int) (t : Nat) (M : mv_M) : Prop :=
  (sp_c 30 M V ∧ sp_m M V ∧ sp_ok V) ∧ (V 0 10 ≤ 99 ∧ V 0 11 < n ∧ 1 ≤ n ∧ n ≤ 6) ∧ (sp_cts M P n ∧ sp_mts M P n ∧ M 0 7 = n ∧ M 100 12 = n) ∧ sp_im V B n K M ∧ sp_tp M t ∧ sp_sh M ∧ sp_at (M 125) 0 sp_words
def sp_Inv (M : mv_M) : Prop := ∃ V P n B K t, sp_R V P n B K t M
/-- the cells that stay where only what is thought of is written -/
def sp_keep (i : Nat) : Bool := Nat.blt i 30 || Nat.beq i 30 || Nat.beq i 31 || Nat.beq i 32 || Nat.beq i 33 || Nat.beq i 34 || Nat.beq i 35 || (Nat.ble 40 i && Nat.ble i 45) || (Nat.ble 70 i && Nat.ble i 79) || (Nat.ble 102 i && Nat.ble i 106) || Nat.beq i 108 || Nat.beq i 110 || Nat.beq i 111 || (Nat.ble 115 i && Nat.ble i 119) || Nat.beq i 125
theorem sp_R_ag {S : List Nat} {V : mv_M} {P : Nat → Nat → List Int} {n : Int} {B : mv_M} {K : Int} {t : Nat} {M M1 : mv_M} (h : sp_R V P n B K t M) (ha : mv_ag S M M1) (hS : ∀ i ∈ S, sp_keep i = false)
    (h0 : M1 100 0 = M 100 0 ∧ M1 100 1 = M 100 1 ∧ M1 100 7 = M 100 7 ∧ M1 100 9 = M 100 9 ∧ M1 100 12 = M 100 12 ∧ M1 100 13 = M 100 13 ∧ M1 100 14 = M 100 14) : sp_R V P n B K t M1 := by
  have e : ∀ i, sp_keep i = true → M1 i = M i := fun i hi => ha i (fun hm => by rw [hS i hm] at hi; cases hi)
  obtain ⟨q0, q1, q7, q9, q12, q13, q14⟩ := h0
  obtain ⟨⟨hc, hm, hok⟩, hn, ⟨hct, hmt, hn0, hn1⟩, hi, ht, hs, hw⟩ := h
  refine ⟨⟨?_, ?_, hok⟩, hn, ⟨?_, ?_, ?_, ?_⟩, ?_, ?_, ?_, ?_⟩
  · unfold sp_c
    rw [e 30 rfl, e (30 + 1) rfl, e (30 + 2) rfl, e (30 + 3) rfl, e (30 + 4) rfl, e (30 + 5) rfl]
    exact hc
  · unfold sp_m
    rw [q0, q1, q7, q13, e 102 rfl, e 103 rfl, e 104 rfl, e 105 rfl, e 106 rfl]
    exact hm
  · intro t ht
    have hk : ∀ i, i < 30 → sp_keep i = true := fun i hi => by unfold sp_keep; rw [show Nat.blt i 30 = true from Nat.ble_eq_true_of_le hi]; rfl
    unfold sp_ct
    rw [e _ (hk (10 + 3 * t + 1) (by omega)), e _ (hk (10 + 3 * t + 2) (by omega))]
    exact hct t ht
  · intro t ht
    unfold sp_mt
    rw [e 110 rfl, e 111 rfl]
    exact hmt t ht
  · rw [e 0 rfl]; exact hn0
  · rw [q12]; exact hn1
  · unfold sp_im sp_c sp_mi
    rw [e 0 rfl, q14, e 40 rfl, e (40 + 1) rfl, e (40 + 2) rfl, e (40 + 3) rfl, e (40 + 4) rfl, e (40 + 5) rfl, e 115 rfl, e 116 rfl]
    exact hi
  · unfold sp_tp
    rw [e 28 rfl, q9, e 29 rfl, e 108 rfl]
    exact ht
  · intro s hs4
    have h1 := hs s hs4
    have hk : sp_keep (71 + 2 * s) = true ∧ sp_keep (72 + 2 * s) = true := by
      rcases (by omega : s = 0 ∨ s = 1 ∨ s = 2 ∨ s = 3) with q | q | q | q <;> rw [q] <;> exact ⟨rfl, rfl⟩
    rw [e _ hk.1, e _ hk.2, e 117 rfl, e 118 rfl, e 119 rfl]
    exact h1
  · rw [e 125 rfl]; exact hw
/-- a pair of calls: the class', then the model's, give one answer, and all holds again -/
def sp_call (yc ym : Nat) (as am : List mv_V) : Prop := ∀ M, sp_Inv M → ∃ z, mv_Ru 20 yc 0 (mv_ent (mv_nl yc) (mv_R 0 :: as)) [] M (mv_I z) (fun M1 => mv_Ru 20 ym 0 (mv_ent (mv_nl ym) (mv_R 100 :: am)) [] M1 (mv_I z) sp_Inv)
