/-! best: an uncle is offered -/
theorem sp_sub_d : ∀ (s h : Fin 64), (h : Nat) ≠ 0 → (h : Nat) &&& (s : Nat) = (h : Nat) → ((s : Nat) ^^^ (h : Nat)) < (s : Nat) ∧ (((h : Nat) - 1) &&& (s : Nat)) < (h : Nat) ∧ (((h : Nat) - 1) &&& (s : Nat)) &&& (s : Nat) = (((h : Nat) - 1) &&& (s : Nat)) := by decide +kernel
theorem sp_sub {s k : Nat} (hs : s < 64) (hk : k + 1 < 64) (h : (k + 1) &&& s = k + 1) : (s ^^^ (k + 1)) < s ∧ (k &&& s) < k + 1 ∧ (k &&& s) &&& s = (k &&& s) := sp_sub_d ⟨s, hs⟩ ⟨k + 1, hk⟩ (by show k + 1 ≠ 0; omega) h
theorem mv_xor_n {a b : Nat} (ha : a < 64) (hb : b < 64) : mv_xor (a : Int) (b : Int) = ((a ^^^ b : Nat) : Int) := mv_xor_d ⟨a, ha⟩ ⟨b, hb⟩
theorem mv_and_n {a b : Nat} (ha : a < 64) (hb : b < 64) : mv_and (a : Int) (b : Int) = ((a &&& b : Nat) : Int) := mv_and_d ⟨a, ha⟩ ⟨b, hb⟩
theorem sp_bcn {M : mv_M} {n : Nat} (hn : n < 64) : mv_Ru 0 193 0 [mv_I (n : Int)] [] M (mv_I (sp_bc n 6 : Int)) (fun M1 => M1 = M) := by
  refine mv_go' 41 (pc' := 52) (ls' := [mv_I (mv_w ((mv_w ((mv_and (mv_w ((mv_w ((mv_and (mv_w ((n : Int) - (mv_and (mv_ushr (n : Int) 1) 1431655765))) 858993459) + (mv_and (mv_ushr (mv_w ((n : Int) - (mv_and (mv_ushr (n : Int) 1) 1431655765))) 2) 858993459))) + (mv_ushr (mv_w ((mv_and (mv_w ((n : Int) - (mv_and (mv_ushr (n : Int) 1) 1431655765))) 858993459) + (mv_and (mv_ushr (mv_w ((n : Int) - (mv_and (mv_ushr (n : Int) 1) 1431655765))) 2) 858993459))) 4))) 252645135) + (mv_ushr (mv_and (mv_w ((mv_w ((mv_and (mv_w ((n : Int) - (mv_and (mv_ushr (n : Int) 1) 1431655765))) 858993459) + (mv_and (mv_ushr (mv_w ((n : Int) - (mv_and (mv_ushr (n : Int) 1) 1431655765))) 2) 858993459))) + (mv_ushr (mv_w ((mv_and (mv_w ((n : Int) - (mv_and (mv_ushr (n : Int) 1) 1431655765))) 858993459) + (mv_and (mv_ushr (mv_w ((n : Int) - (mv_and (mv_ushr (n : Int) 1) 1431655765))) 2) 858993459))) 4))) 252645135) 8))) + (mv_ushr (mv_w ((mv_and (mv_w ((mv_w ((mv_and (mv_w ((n : Int) - (mv_and (mv_ushr (n : Int) 1) 1431655765))) 858993459) + (mv_and (mv_ushr (mv_w ((n : Int) - (mv_and (mv_ushr (n : Int) 1) 1431655765))) 2) 858993459))) + (mv_ushr (mv_w ((mv_and (mv_w ((n : Int) - (mv_and (mv_ushr (n : Int) 1) 1431655765))) 858993459) + (mv_and (mv_ushr (mv_w ((n : Int) - (mv_and (mv_ushr (n : Int) 1) 1431655765))) 2) 858993459))) 4))) 252645135) + (mv_ushr (mv_and (mv_w ((mv_w ((mv_and (mv_w ((n : Int) - (mv_and (mv_ushr (n : Int) 1) 1431655765))) 858993459) + (mv_and (mv_ushr (mv_w ((n : Int) - (mv_and (mv_ushr (n : Int) 1) 1431655765))) 2) 858993459))) + (mv_ushr (mv_w ((mv_and (mv_w ((n : Int) - (mv_and (mv_ushr (n : Int) 1) 1431655765))) 858993459) + (mv_and (mv_ushr (mv_w ((n : Int) - (mv_and (mv_ushr (n : Int) 1) 1431655765))) 2) 858993459))) 4))) 252645135) 8))) 16)))]) (st' := [mv_I (mv_and (mv_w ((mv_w ((mv_and (mv_w ((mv_w ((mv_and (mv_w ((n : Int) - (mv_and (mv_ushr (n : Int) 1) 1431655765))) 858993459) + (mv_and (mv_ushr (mv_w ((n : Int) - (mv_and (mv_ushr (n : Int) 1) 1431655765))) 2) 858993459))) + (mv_ushr (mv_w ((mv_and (mv_w ((n : Int) - (mv_and (mv_ushr (n : Int) 1) 1431655765))) 858993459) + (mv_and (mv_ushr (mv_w ((n : Int) - (mv_and (mv_ushr (n : Int) 1) 1431655765))) 2) 858993459))) 4))) 252645135) + (mv_ushr (mv_and (mv_w ((mv_w ((mv_and (mv_w ((n : Int) - (mv_and (mv_ushr (n : Int) 1) 1431655765))) 858993459) + (mv_and (mv_ushr (mv_w ((n : Int) - (mv_and (mv_ushr (n : Int) 1) 1431655765))) 2) 858993459))) + (mv_ushr (mv_w ((mv_and (mv_w ((n : Int) - (mv_and (mv_ushr (n : Int) 1) 1431655765))) 858993459) + (mv_and (mv_ushr (mv_w ((n : Int) - (mv_and (mv_ushr (n : Int) 1) 1431655765))) 2) 858993459))) 4))) 252645135) 8))) + (mv_ushr (mv_w ((mv_and (mv_w ((mv_w ((mv_and (mv_w ((n : Int) - (mv_and (mv_ushr (n : Int) 1) 1431655765))) 858993459) + (mv_and (mv_ushr (mv_w ((n : Int) - (mv_and (mv_ushr (n : Int) 1) 1431655765))) 2) 858993459))) + (mv_ushr (mv_w ((mv_and (mv_w ((n : Int) - (mv_and (mv_ushr (n : Int) 1) 1431655765))) 858993459) + (mv_and (mv_ushr (mv_w ((n : Int) - (mv_and (mv_ushr (n : Int) 1) 1431655765))) 2) 858993459))) 4))) 252645135) + (mv_ushr (mv_and (mv_w ((mv_w ((mv_and (mv_w ((n : Int) - (mv_and (mv_ushr (n : Int) 1) 1431655765))) 858993459) + (mv_and (mv_ushr (mv_w ((n : Int) - (mv_and (mv_ushr (n : Int) 1) 1431655765))) 2) 858993459))) + (mv_ushr (mv_w ((mv_and (mv_w ((n : Int) - (mv_and (mv_ushr (n : Int) 1) 1431655765))) 858993459) + (mv_and (mv_ushr (mv_w ((n : Int) - (mv_and (mv_ushr (n : Int) 1) 1431655765))) 2) 858993459))) 4))) 252645135) 8))) 16))) 63)]) (M1 := M) rfl ?_
  exact mv_Ru.val (mv_ret (fun n => rfl) rfl) (congrArg mv_I (by
    have h : ∀ x : Fin 64, (fun n : Nat => (mv_and (mv_w ((mv_w ((mv_and (mv_w ((mv_w ((mv_and (mv_w ((n : Int) - (mv_and (mv_ushr (n : Int) 1) 1431655765))) 858993459) + (mv_and (mv_ushr (mv_w ((n : Int) - (mv_and (mv_ushr (n : Int) 1) 1431655765))) 2) 858993459))) + (mv_ushr (mv_w ((mv_and (mv_w ((n : Int) - (mv_and (mv_ushr (n : Int) 1) 1431655765))) 858993459) + (mv_and (mv_ushr (mv_w ((n : Int) - (mv_and (mv_ushr (n : Int) 1) 1431655765))) 2) 858993459))) 4))) 252645135) + (mv_ushr (mv_and (mv_w ((mv_w ((mv_and (mv_w ((n : Int) - (mv_and (mv_ushr (n : Int) 1) 1431655765))) 858993459) + (mv_and (mv_ushr (mv_w ((n : Int) - (mv_and (mv_ushr (n : Int) 1) 1431655765))) 2) 858993459))) + (mv_ushr (mv_w ((mv_and (mv_w ((n : Int) - (mv_and (mv_ushr (n : Int) 1) 1431655765))) 858993459) + (mv_and (mv_ushr (mv_w ((n : Int) - (mv_and (mv_ushr (n : Int) 1) 1431655765))) 2) 858993459))) 4))) 252645135) 8))) + (mv_ushr (mv_w ((mv_and (mv_w ((mv_w ((mv_and (mv_w ((n : Int) - (mv_and (mv_ushr (n : Int) 1) 1431655765))) 858993459) + (mv_and (mv_ushr (mv_w ((n : Int) - (mv_and (mv_ushr (n : Int) 1) 1431655765))) 2) 858993459))) + (mv_ushr (mv_w ((mv_and (mv_w ((n : Int) - (mv_and (mv_ushr (n : Int) 1) 1431655765))) 858993459) + (mv_and (mv_ushr (mv_w ((n : Int) - (mv_and (mv_ushr (n : Int) 1) 1431655765))) 2) 858993459))) 4))) 252645135) + (mv_ushr (mv_and (mv_w ((mv_w ((mv_and (mv_w ((n : Int) - (mv_and (mv_ushr (n : Int) 1) 1431655765))) 858993459) + (mv_and (mv_ushr (mv_w ((n : Int) - (mv_and (mv_ushr (n : Int) 1) 1431655765))) 2) 858993459))) + (mv_ushr (mv_w ((mv_and (mv_w ((n : Int) - (mv_and (mv_ushr (n : Int) 1) 1431655765))) 858993459) + (mv_and (mv_ushr (mv_w ((n : Int) - (mv_and (mv_ushr (n : Int) 1) 1431655765))) 2) 858993459))) 4))) 252645135) 8))) 16))) 63)) x = (sp_bc x 6 : Int) := by decide +kernel
    exact h ⟨n, hn⟩))
def sp_mxi (x y : Int) : Int := if y < x then x else y
def sp_in (old g : Nat → Int) (rm : Int) (set : Nat) : Nat → Nat → Int → Int
  | 0, _, acc => acc
  | _ + 1, 0, acc => acc
  | r + 1, k + 1, acc => sp_in old g rm set r (k &&& set) (if (sp_bc (k + 1) 6 : Int) ≤ rm then sp_mxi acc (old (set ^^^ (k + 1)) + g (k + 1)) else acc)
theorem sp_cof1 {V M0 : mv_M} {P : Nat → Nat → List Int} {g old : Nat → Int} {u s d : Nat} {B : Int} {Q : mv_M → Prop} (ho : sp_ok V) (ht : sp_tb V P M0) (hu : (u : Int) < V 0 9) (hs : s < 64) (hB : 0 ≤ B ∧ B ≤ 1000000000000000)
    (hg : ∀ t, t < 64 → -20000000000 ≤ g t ∧ g t ≤ 20000000000) (ho2 : ∀ t, t < 64 → -B ≤ old t ∧ old t ≤ B) (h68 : ∀ t, t < 2 ^ (V 0 8).toNat → M0 68 t = g t) (hsn : s < 2 ^ (V 0 8).toNat) :
    ∀ (r h : Nat) (M : mv_M) (acc : Int), h ≤ r → h &&& s = h → mv_ag [67] M0 M → (∀ t, t < s → M 67 t = old t) → (∀ t, t ≠ s → M 67 t = M0 67 t) → M 67 s = acc → (-(B + 20000000000) ≤ acc ∧ acc ≤ B + 20000000000) →
      (∀ (M2 : mv_M), mv_ag [67] M0 M2 → (∀ t, t ≠ s → M2 67 t = M0 67 t) → M2 67 s = sp_in old g (sp_room V u) s r h acc → mv_Ru (d + 1) 35 76 [mv_R 60, mv_I (u : Int), mv_I (s : Int), mv_I 0] [] M2 mv_U Q) →
      mv_Ru (d + 1) 35 20 [mv_R 60, mv_I (u : Int), mv_I (s : Int), mv_I (h : Int)] [] M mv_U Q := by
  have h9 := sp_ok_s9 ho
  intro r
  induction r with
  | zero =>
    intro h M acc hk hsub hag hlo hoth hacc hab e
    have h0 : h = 0 := by omega
    subst h0
    refine mv_go' 2 (pc' := if 0 < ((0 : Nat) : Int) then 24 else 76) (ls' := [mv_R 60, mv_I (u : Int), mv_I (s : Int), mv_I ((0 : Nat) : Int)]) (st' := []) (M1 := M) rfl ?_
    refine mv_ff' (by decide) ?_
    exact e M hag hoth hacc
  | succ r ih =>
    intro h M acc hk hsub hag hlo hoth hacc hab e
    cases h with
    | zero =>
      refine mv_go' 2 (pc' := if 0 < ((0 : Nat) : Int) then 24 else 76) (ls' := [mv_R 60, mv_I (u : Int), mv_I (s : Int), mv_I ((0 : Nat) : Int)]) (st' := []) (M1 := M) rfl ?_
      refine mv_ff' (by decide) ?_
      exact e M hag hoth hacc
    | succ k =>
      have hks : k + 1 ≤ s := by
        have := Nat.and_le_right (n := k + 1) (m := s)
        omega
      have hsu := sp_sub hs (by omega) hsub
      have hxor := mv_xor_n hs (show k + 1 < 64 by omega)
      have hand := mv_and_n (show k < 64 by omega) hs
      have er : M 63 u = sp_room V u := by rw [hag 63 (by decide)]; exact ht.2.1 u (by omega)
      have e1 := hlo (s ^^^ (k + 1)) hsu.1
      have e2 : M 68 (k + 1) = g (k + 1) := by rw [hag 68 (by decide)]; exact h68 (k + 1) (by omega)
      have b1 := ho2 (s ^^^ (k + 1)) (by omega)
      have b2 := hg (k + 1) (by omega)
      have hkk := Nat.and_le_left (n := k) (m := s)
      by_cases q : (sp_bc (k + 1) 6 : Int) ≤ sp_room V u
      · rw [sp_in, if_pos q] at e
        obtain ⟨x, hx⟩ : ∃ x, x = s ^^^ (k + 1) := ⟨_, rfl⟩
        rw [← hx] at hxor e1 b1 e hsu
        obtain ⟨y, hy⟩ : ∃ y, y = k &&& s := ⟨_, rfl⟩
        rw [← hy] at hand hsu e hkk
        have emx : (if old x + g (k + 1) < acc then acc else old x + g (k + 1)) = sp_mxi acc (old x + g (k + 1)) := rfl
        have bmx : -(B + 20000000000) ≤ sp_mxi acc (old x + g (k + 1)) ∧ sp_mxi acc (old x + g (k + 1)) ≤ B + 20000000000 := by
          unfold sp_mxi
          split <;> omega
        refine mv_go' 2 (pc' := if 0 < ((k + 1 : Nat) : Int) then 24 else 76) (ls' := [mv_R 60, mv_I (u : Int), mv_I (s : Int), mv_I ((k + 1 : Nat) : Int)]) (st' := []) (M1 := M) rfl ?_
        refine mv_tt' (by omega) ?_
        refine mv_go' 1 (pc' := 25) (ls' := [mv_R 60, mv_I (u : Int), mv_I (s : Int), mv_I ((k + 1 : Nat) : Int)]) (st' := [mv_I ((k + 1 : Nat) : Int)]) (M1 := M) rfl ?_
        refine mv_callP (st2 := [mv_I (sp_bc (k + 1) 6 : Int)]) rfl (Or.inr rfl) rfl rfl rfl (sp_bcn (by omega)) (by first | decide | omega) ?_
        refine mv_go' 4 (pc' := if 0 ≤ (u : Int) ∧ (u : Int) < 6 then 34 else mv_bad) (ls' := [mv_R 60, mv_I (u : Int), mv_I (s : Int), mv_I ((k + 1 : Nat) : Int)]) (st' := [mv_I (M 63 u), mv_I (sp_bc (k + 1) 6 : Int)]) (M1 := M) rfl ?_
        refine mv_tt' (by omega) ?_
        rw [show M 63 u = sp_room V u from by exact er]
        refine mv_go' 1 (pc' := if (sp_room V u) < (sp_bc (k + 1) 6 : Int) then 67 else 37) (ls' := [mv_R 60, mv_I (u : Int), mv_I (s : Int), mv_I ((k + 1 : Nat) : Int)]) (st' := []) (M1 := M) rfl ?_
        refine mv_ff' (by omega) ?_
        refine mv_go' 7 (pc' := if 0 ≤ (s : Int) ∧ (s : Int) < 64 then 48 else mv_bad) (ls' := [mv_R 60, mv_I (u : Int), mv_I (s : Int), mv_I ((k + 1 : Nat) : Int)]) (st' := [mv_L (M 67 s), mv_I (s : Int), mv_R 67]) (M1 := M) rfl ?_
        refine mv_tt' (by omega) ?_
        rw [show M 67 s = acc from by exact hacc]
        refine mv_go' 5 (pc' := 55) (ls' := [mv_R 60, mv_I (u : Int), mv_I (s : Int), mv_I ((k + 1 : Nat) : Int)]) (st' := [mv_I (mv_xor (s : Int) ((k + 1 : Nat) : Int)), mv_R 67, mv_L acc, mv_I (s : Int), mv_R 67]) (M1 := M) rfl ?_
        rw [show mv_xor (s : Int) ((k + 1 : Nat) : Int) = (x : Int) from by exact hxor]
        refine mv_go' 1 (pc' := if 0 ≤ (x : Int) ∧ (x : Int) < 64 then 56 else mv_bad) (ls' := [mv_R 60, mv_I (u : Int), mv_I (s : Int), mv_I ((k + 1 : Nat) : Int)]) (st' := [mv_L (M 67 x), mv_L acc, mv_I (s : Int), mv_R 67]) (M1 := M) rfl ?_
        refine mv_tt' (by omega) ?_
        rw [show M 67 x = old x from by exact e1]
        refine mv_go' 4 (pc' := if 0 ≤ ((k + 1 : Nat) : Int) ∧ ((k + 1 : Nat) : Int) < 64 then 62 else mv_bad) (ls' := [mv_R 60, mv_I (u : Int), mv_I (s : Int), mv_I ((k + 1 : Nat) : Int)]) (st' := [mv_L (M 68 (k + 1)), mv_L (old x), mv_L acc, mv_I (s : Int), mv_R 67]) (M1 := M) rfl ?_
        refine mv_tt' (by omega) ?_
        rw [show M 68 (k + 1) = g (k + 1) from by exact e2]
        refine mv_go' 2 (pc' := 66) (ls' := [mv_R 60, mv_I (u : Int), mv_I (s : Int), mv_I ((k + 1 : Nat) : Int)]) (st' := [mv_L (if (mv_wl ((old x) + (g (k + 1)))) < acc then acc else (mv_wl ((old x) + (g (k + 1))))), mv_I (s : Int), mv_R 67]) (M1 := M) rfl ?_
        rw [show mv_wl ((old x) + (g (k + 1))) = (old x) + (g (k + 1)) from mv_wl_id (by omega) (by omega)]
        refine mv_go' 1 (pc' := if 0 ≤ (s : Int) ∧ (s : Int) < 64 then 67 else mv_bad) (ls' := [mv_R 60, mv_I (u : Int), mv_I (s : Int), mv_I ((k + 1 : Nat) : Int)]) (st' := []) (M1 := (mv_st M 67 (mv_up (M 67) s (if ((old x) + (g (k + 1))) < acc then acc else ((old x) + (g (k + 1))))))) rfl ?_
        refine mv_tt' (by omega) ?_
        refine mv_go' 3 (pc' := 70) (ls' := [mv_R 60, mv_I (u : Int), mv_I (s : Int), mv_I ((k + 1 : Nat) : Int)]) (st' := [mv_I (mv_w (((k + 1 : Nat) : Int) - 1))]) (M1 := (mv_st M 67 (mv_up (M 67) s (if ((old x) + (g (k + 1))) < acc then acc else ((old x) + (g (k + 1))))))) rfl ?_
        rw [show mv_w (((k + 1 : Nat) : Int) - 1) = ((k + 1 : Nat) : Int) - 1 from mv_w_id (by omega) (by omega)]
        rw [show ((k + 1 : Nat) : Int) - 1 = (k : Int) from by omega]
        refine mv_go' 2 (pc' := 72) (ls' := [mv_R 60, mv_I (u : Int), mv_I (s : Int), mv_I ((k + 1 : Nat) : Int)]) (st' := [mv_I (mv_and (k : Int) (s : Int))]) (M1 := (mv_st M 67 (mv_up (M 67) s (if ((old x) + (g (k + 1))) < acc then acc else ((old x) + (g (k + 1))))))) rfl ?_
        rw [show mv_and (k : Int) (s : Int) = (y : Int) from by exact hand]
        refine mv_go' 2 (pc' := 20) (ls' := [mv_R 60, mv_I (u : Int), mv_I (s : Int), mv_I (y : Int)]) (st' := []) (M1 := (mv_st M 67 (mv_up (M 67) s (if ((old x) + (g (k + 1))) < acc then acc else ((old x) + (g (k + 1))))))) rfl ?_
        refine ih y _ (sp_mxi acc (old x + g (k + 1))) (by omega) hsu.2.2 (hag.st (by decide)) (fun t ht => ?_) (fun t ht => ?_) ?_ bmx e
        · show mv_up (M 67) s _ t = _
          rw [mv_up_n _ _ (by omega)]; exact hlo t ht
        · show mv_up (M 67) s _ t = _
          rw [mv_up_n _ _ ht]; exact hoth t ht
        · show mv_up (M 67) s _ s = _
          rw [mv_up_s]; rfl
      · rw [sp_in, if_neg q] at e
        obtain ⟨y, hy⟩ : ∃ y, y = k &&& s := ⟨_, rfl⟩
        rw [← hy] at hand hsu e hkk
        refine mv_go' 2 (pc' := if 0 < ((k + 1 : Nat) : Int) then 24 else 76) (ls' := [mv_R 60, mv_I (u : Int), mv_I (s : Int), mv_I ((k + 1 : Nat) : Int)]) (st' := []) (M1 := M) rfl ?_
        refine mv_tt' (by omega) ?_
        refine mv_go' 1 (pc' := 25) (ls' := [mv_R 60, mv_I (u : Int), mv_I (s : Int), mv_I ((k + 1 : Nat) : Int)]) (st' := [mv_I ((k + 1 : Nat) : Int)]) (M1 := M) rfl ?_
        refine mv_callP (st2 := [mv_I (sp_bc (k + 1) 6 : Int)]) rfl (Or.inr rfl) rfl rfl rfl (sp_bcn (by omega)) (by first | decide | omega) ?_
        refine mv_go' 4 (pc' := if 0 ≤ (u : Int) ∧ (u : Int) < 6 then 34 else mv_bad) (ls' := [mv_R 60, mv_I (u : Int), mv_I (s : Int), mv_I ((k + 1 : Nat) : Int)]) (st' := [mv_I (M 63 u), mv_I (sp_bc (k + 1) 6 : Int)]) (M1 := M) rfl ?_
        refine mv_tt' (by omega) ?_
        rw [show M 63 u = sp_room V u from by exact er]
        refine mv_go' 1 (pc' := if (sp_room V u) < (sp_bc (k + 1) 6 : Int) then 67 else 37) (ls' := [mv_R 60, mv_I (u : Int), mv_I (s : Int), mv_I ((k + 1 : Nat) : Int)]) (st' := []) (M1 := M) rfl ?_
        refine mv_tt' (by omega) ?_
        refine mv_go' 3 (pc' := 70) (ls' := [mv_R 60, mv_I (u : Int), mv_I (s : Int), mv_I ((k + 1 : Nat) : Int)]) (st' := [mv_I (mv_w (((k + 1 : Nat) : Int) - 1))]) (M1 := M) rfl ?_
        rw [show mv_w (((k + 1 : Nat) : Int) - 1) = ((k + 1 : Nat) : Int) - 1 from mv_w_id (by omega) (by omega)]
        rw [show ((k + 1 : Nat) : Int) - 1 = (k : Int) from by omega]
        refine mv_go' 2 (pc' := 72) (ls' := [mv_R 60, mv_I (u : Int), mv_I (s : Int), mv_I ((k + 1 : Nat) : Int)]) (st' := [mv_I (mv_and (k : Int) (s : Int))]) (M1 := M) rfl ?_
        rw [show mv_and (k : Int) (s : Int) = (y : Int) from by exact hand]
        refine mv_go' 2 (pc' := 20) (ls' := [mv_R 60, mv_I (u : Int), mv_I (s : Int), mv_I (y : Int)]) (st' := []) (M1 := M) rfl ?_
        exact ih y _ acc (by omega) hsu.2.2 hag hlo hoth hacc hab e
