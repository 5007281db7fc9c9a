/-! the class' reader: its state at a token, or behind a fault -/
def sp_cs (f : Nat → Int) (t l p : Nat) (c : List Int) (M0 M : mv_M) : Prop :=
  (mv_ag [28, l, l + 1] M0 M ∧ M 29 = f) ∧ (M 28 1 = (t : Int) ∧ M 28 7 = (l : Int)) ∧ M 28 3 = tk_K f t p ∧ M 28 4 = (tk_Q f t p : Int) ∧ (tk_K f t p ≠ 303 → M 28 2 = (tk_N f t p : Int)) ∧
  ((tk_K f t p = 300 ∨ tk_K f t p = 301) → M 28 5 = tk_W f t p) ∧ (M 28 6 = if tk_K f t p = 303 then (tk_Q f t p : Int) else -1) ∧ M l 2 = (c.length : Int) ∧ sp_at (M (l + 1)) 0 c
def sp_cf (t l q : Nat) (M0 M : mv_M) : Prop :=
  mv_ag [28, l, l + 1] M0 M ∧ (M 28 1 = (t : Int) ∧ M 28 7 = (l : Int)) ∧ M 28 3 = 303 ∧ M 28 6 = (q : Int) ∧ 0 ≤ M l 2 ∧ M l 2 ≤ 160
/-- a law's id -/
def sp_ly (l : Nat) : Prop := l = 10 ∨ l = 13 ∨ l = 16 ∨ l = 19 ∨ l = 22 ∨ l = 25
theorem sp_at_up {f : Nat → Int} {k : Nat} {z : Int} : ∀ {i : Nat} {l : List Int}, sp_at f i l → i + l.length ≤ k → sp_at (mv_up f k z) i l
  | _, [], _, _ => trivial
  | i, x :: r, h, hk => ⟨(mv_up_n f z (by simp only [List.length_cons] at hk; omega)).trans h.1, sp_at_up h.2 (by simp only [List.length_cons] at hk; omega)⟩
theorem sp_at_app {f : Nat → Int} : ∀ {i : Nat} {a b : List Int}, sp_at f i (a ++ b) ↔ sp_at f i a ∧ sp_at f (i + a.length) b
  | i, [], b => by simp [sp_at]
  | i, x :: a, b => by
    have h := sp_at_app (f := f) (i := i + 1) (a := a) (b := b)
    simp only [List.cons_append, sp_at, List.length_cons]
    rw [h, show i + 1 + a.length = i + (a.length + 1) from by omega, and_assoc]
theorem sp_cladd10 {M : mv_M} {s z : Int} (h2 : M 10 2 = z) (hz : 0 ≤ z ∧ z ≤ 160) : mv_Ru 0 1 0 [mv_R 10, mv_I s] [] M mv_U (fun M1 => mv_ag [10, 10 + 1] M M1 ∧ (z < 160 → (M1 10 2 = z + 1 ∧ M1 (10 + 1) = mv_up (M (10 + 1)) z.toNat s) ∨ False) ∧ (¬ z < 160 → M1 10 2 = z)) := by
  by_cases c : z < 160
  · obtain ⟨k, hk⟩ : ∃ k : Nat, z = (k : Int) := ⟨z.toNat, by omega⟩
    subst hk
    refine mv_go' 2 (pc' := 4) (ls' := [mv_R 10, mv_I s]) (st' := [mv_I (M 10 2)]) (M1 := M) rfl ?_
    rw [show M 10 2 = (k : Int) from by exact h2]
    refine mv_go' 2 (pc' := if (k : Int) < 160 then 10 else 30) (ls' := [mv_R 10, mv_I s]) (st' := []) (M1 := M) rfl ?_
    refine mv_tt' (by omega) ?_
    refine mv_go' 4 (pc' := 18) (ls' := [mv_R 10, mv_I s]) (st' := [mv_I (M 10 2), mv_R 11]) (M1 := M) rfl ?_
    rw [show M 10 2 = (k : Int) from by exact h2]
    refine mv_go' 2 (pc' := if 0 ≤ (k : Int) ∧ (k : Int) < 160 then 20 else mv_bad) (ls' := [mv_R 10, mv_I s]) (st' := []) (M1 := (mv_st M 11 (mv_up (M 11) k s))) rfl ?_
    refine mv_tt' (by omega) ?_
    refine mv_go' 3 (pc' := 25) (ls' := [mv_R 10, mv_I s]) (st' := [mv_I (M 10 2), mv_R 10]) (M1 := (mv_st M 11 (mv_up (M 11) k s))) rfl ?_
    rw [show M 10 2 = (k : Int) from by exact h2]
    refine mv_go' 3 (pc' := 30) (ls' := [mv_R 10, mv_I s]) (st' := []) (M1 := (mv_st (mv_st M 11 (mv_up (M 11) k s)) 10 (mv_up (M 10) 2 (mv_w ((k : Int) + 1))))) rfl ?_
    rw [show mv_w ((k : Int) + 1) = (k : Int) + 1 from mv_w_id (by omega) (by omega)]
    refine mv_ret (fun n => rfl) ⟨?_, fun hn => Or.inl ⟨?_, ?_⟩, fun hn => absurd c hn⟩
    · repeat (first | exact mv_ag.rf | refine mv_ag.st ?_ (by decide))
    · show (k : Int) + 1 = _
      omega
    · rfl
  · refine mv_go' 2 (pc' := 4) (ls' := [mv_R 10, mv_I s]) (st' := [mv_I (M 10 2)]) (M1 := M) rfl ?_
    rw [show M 10 2 = z from by exact h2]
    refine mv_go' 2 (pc' := if z < 160 then 10 else 30) (ls' := [mv_R 10, mv_I s]) (st' := []) (M1 := M) rfl ?_
    refine mv_ff' (by omega) ?_
    exact mv_ret (fun n => rfl) ⟨mv_ag.rf, fun hn => absurd hn c, fun _ => h2⟩
theorem sp_cladd13 {M : mv_M} {s z : Int} (h2 : M 13 2 = z) (hz : 0 ≤ z ∧ z ≤ 160) : mv_Ru 0 1 0 [mv_R 13, mv_I s] [] M mv_U (fun M1 => mv_ag [13, 13 + 1] M M1 ∧ (z < 160 → (M1 13 2 = z + 1 ∧ M1 (13 + 1) = mv_up (M (13 + 1)) z.toNat s) ∨ False) ∧ (¬ z < 160 → M1 13 2 = z)) := by
  by_cases c : z < 160
  · obtain ⟨k, hk⟩ : ∃ k : Nat, z = (k : Int) := ⟨z.toNat, by omega⟩
    subst hk
    refine mv_go' 2 (pc' := 4) (ls' := [mv_R 13, mv_I s]) (st' := [mv_I (M 13 2)]) (M1 := M) rfl ?_
    rw [show M 13 2 = (k : Int) from by exact h2]
    refine mv_go' 2 (pc' := if (k : Int) < 160 then 10 else 30) (ls' := [mv_R 13, mv_I s]) (st' := []) (M1 := M) rfl ?_
    refine mv_tt' (by omega) ?_
    refine mv_go' 4 (pc' := 18) (ls' := [mv_R 13, mv_I s]) (st' := [mv_I (M 13 2), mv_R 14]) (M1 := M) rfl ?_
    rw [show M 13 2 = (k : Int) from by exact h2]
    refine mv_go' 2 (pc' := if 0 ≤ (k : Int) ∧ (k : Int) < 160 then 20 else mv_bad) (ls' := [mv_R 13, mv_I s]) (st' := []) (M1 := (mv_st M 14 (mv_up (M 14) k s))) rfl ?_
    refine mv_tt' (by omega) ?_
    refine mv_go' 3 (pc' := 25) (ls' := [mv_R 13, mv_I s]) (st' := [mv_I (M 13 2), mv_R 13]) (M1 := (mv_st M 14 (mv_up (M 14) k s))) rfl ?_
    rw [show M 13 2 = (k : Int) from by exact h2]
    refine mv_go' 3 (pc' := 30) (ls' := [mv_R 13, mv_I s]) (st' := []) (M1 := (mv_st (mv_st M 14 (mv_up (M 14) k s)) 13 (mv_up (M 13) 2 (mv_w ((k : Int) + 1))))) rfl ?_
    rw [show mv_w ((k : Int) + 1) = (k : Int) + 1 from mv_w_id (by omega) (by omega)]
    refine mv_ret (fun n => rfl) ⟨?_, fun hn => Or.inl ⟨?_, ?_⟩, fun hn => absurd c hn⟩
    · repeat (first | exact mv_ag.rf | refine mv_ag.st ?_ (by decide))
    · show (k : Int) + 1 = _
      omega
    · rfl
  · refine mv_go' 2 (pc' := 4) (ls' := [mv_R 13, mv_I s]) (st' := [mv_I (M 13 2)]) (M1 := M) rfl ?_
    rw [show M 13 2 = z from by exact h2]
    refine mv_go' 2 (pc' := if z < 160 then 10 else 30) (ls' := [mv_R 13, mv_I s]) (st' := []) (M1 := M) rfl ?_
    refine mv_ff' (by omega) ?_
    exact mv_ret (fun n => rfl) ⟨mv_ag.rf, fun hn => absurd hn c, fun _ => h2⟩
theorem sp_cladd16 {M : mv_M} {s z : Int} (h2 : M 16 2 = z) (hz : 0 ≤ z ∧ z ≤ 160) : mv_Ru 0 1 0 [mv_R 16, mv_I s] [] M mv_U (fun M1 => mv_ag [16, 16 + 1] M M1 ∧ (z < 160 → (M1 16 2 = z + 1 ∧ M1 (16 + 1) = mv_up (M (16 + 1)) z.toNat s) ∨ False) ∧ (¬ z < 160 → M1 16 2 = z)) := by
  by_cases c : z < 160
  · obtain ⟨k, hk⟩ : ∃ k : Nat, z = (k : Int) := ⟨z.toNat, by omega⟩
    subst hk
    refine mv_go' 2 (pc' := 4) (ls' := [mv_R 16, mv_I s]) (st' := [mv_I (M 16 2)]) (M1 := M) rfl ?_
    rw [show M 16 2 = (k : Int) from by exact h2]
    refine mv_go' 2 (pc' := if (k : Int) < 160 then 10 else 30) (ls' := [mv_R 16, mv_I s]) (st' := []) (M1 := M) rfl ?_
    refine mv_tt' (by omega) ?_
    refine mv_go' 4 (pc' := 18) (ls' := [mv_R 16, mv_I s]) (st' := [mv_I (M 16 2), mv_R 17]) (M1 := M) rfl ?_
    rw [show M 16 2 = (k : Int) from by exact h2]
    refine mv_go' 2 (pc' := if 0 ≤ (k : Int) ∧ (k : Int) < 160 then 20 else mv_bad) (ls' := [mv_R 16, mv_I s]) (st' := []) (M1 := (mv_st M 17 (mv_up (M 17) k s))) rfl ?_
    refine mv_tt' (by omega) ?_
    refine mv_go' 3 (pc' := 25) (ls' := [mv_R 16, mv_I s]) (st' := [mv_I (M 16 2), mv_R 16]) (M1 := (mv_st M 17 (mv_up (M 17) k s))) rfl ?_
    rw [show M 16 2 = (k : Int) from by exact h2]
    refine mv_go' 3 (pc' := 30) (ls' := [mv_R 16, mv_I s]) (st' := []) (M1 := (mv_st (mv_st M 17 (mv_up (M 17) k s)) 16 (mv_up (M 16) 2 (mv_w ((k : Int) + 1))))) rfl ?_
    rw [show mv_w ((k : Int) + 1) = (k : Int) + 1 from mv_w_id (by omega) (by omega)]
    refine mv_ret (fun n => rfl) ⟨?_, fun hn => Or.inl ⟨?_, ?_⟩, fun hn => absurd c hn⟩
    · repeat (first | exact mv_ag.rf | refine mv_ag.st ?_ (by decide))
    · show (k : Int) + 1 = _
      omega
    · rfl
  · refine mv_go' 2 (pc' := 4) (ls' := [mv_R 16, mv_I s]) (st' := [mv_I (M 16 2)]) (M1 := M) rfl ?_
    rw [show M 16 2 = z from by exact h2]
    refine mv_go' 2 (pc' := if z < 160 then 10 else 30) (ls' := [mv_R 16, mv_I s]) (st' := []) (M1 := M) rfl ?_
    refine mv_ff' (by omega) ?_
    exact mv_ret (fun n => rfl) ⟨mv_ag.rf, fun hn => absurd hn c, fun _ => h2⟩
theorem sp_cladd19 {M : mv_M} {s z : Int} (h2 : M 19 2 = z) (hz : 0 ≤ z ∧ z ≤ 160) : mv_Ru 0 1 0 [mv_R 19, mv_I s] [] M mv_U (fun M1 => mv_ag [19, 19 + 1] M M1 ∧ (z < 160 → (M1 19 2 = z + 1 ∧ M1 (19 + 1) = mv_up (M (19 + 1)) z.toNat s) ∨ False) ∧ (¬ z < 160 → M1 19 2 = z)) := by
  by_cases c : z < 160
  · obtain ⟨k, hk⟩ : ∃ k : Nat, z = (k : Int) := ⟨z.toNat, by omega⟩
    subst hk
    refine mv_go' 2 (pc' := 4) (ls' := [mv_R 19, mv_I s]) (st' := [mv_I (M 19 2)]) (M1 := M) rfl ?_
    rw [show M 19 2 = (k : Int) from by exact h2]
    refine mv_go' 2 (pc' := if (k : Int) < 160 then 10 else 30) (ls' := [mv_R 19, mv_I s]) (st' := []) (M1 := M) rfl ?_
    refine mv_tt' (by omega) ?_
    refine mv_go' 4 (pc' := 18) (ls' := [mv_R 19, mv_I s]) (st' := [mv_I (M 19 2), mv_R 20]) (M1 := M) rfl ?_
    rw [show M 19 2 = (k : Int) from by exact h2]
    refine mv_go' 2 (pc' := if 0 ≤ (k : Int) ∧ (k : Int) < 160 then 20 else mv_bad) (ls' := [mv_R 19, mv_I s]) (st' := []) (M1 := (mv_st M 20 (mv_up (M 20) k s))) rfl ?_
    refine mv_tt' (by omega) ?_
    refine mv_go' 3 (pc' := 25) (ls' := [mv_R 19, mv_I s]) (st' := [mv_I (M 19 2), mv_R 19]) (M1 := (mv_st M 20 (mv_up (M 20) k s))) rfl ?_
    rw [show M 19 2 = (k : Int) from by exact h2]
    refine mv_go' 3 (pc' := 30) (ls' := [mv_R 19, mv_I s]) (st' := []) (M1 := (mv_st (mv_st M 20 (mv_up (M 20) k s)) 19 (mv_up (M 19) 2 (mv_w ((k : Int) + 1))))) rfl ?_
    rw [show mv_w ((k : Int) + 1) = (k : Int) + 1 from mv_w_id (by omega) (by omega)]
    refine mv_ret (fun n => rfl) ⟨?_, fun hn => Or.inl ⟨?_, ?_⟩, fun hn => absurd c hn⟩
    · repeat (first | exact mv_ag.rf | refine mv_ag.st ?_ (by decide))
    · show (k : Int) + 1 = _
      omega
    · rfl
  · refine mv_go' 2 (pc' := 4) (ls' := [mv_R 19, mv_I s]) (st' := [mv_I (M 19 2)]) (M1 := M) rfl ?_
    rw [show M 19 2 = z from by exact h2]
    refine mv_go' 2 (pc' := if z < 160 then 10 else 30) (ls' := [mv_R 19, mv_I s]) (st' := []) (M1 := M) rfl ?_
    refine mv_ff' (by omega) ?_
    exact mv_ret (fun n => rfl) ⟨mv_ag.rf, fun hn => absurd hn c, fun _ => h2⟩
theorem sp_cladd22 {M : mv_M} {s z : Int} (h2 : M 22 2 = z) (hz : 0 ≤ z ∧ z ≤ 160) : mv_Ru 0 1 0 [mv_R 22, mv_I s] [] M mv_U (fun M1 => mv_ag [22, 22 + 1] M M1 ∧ (z < 160 → (M1 22 2 = z + 1 ∧ M1 (22 + 1) = mv_up (M (22 + 1)) z.toNat s) ∨ False) ∧ (¬ z < 160 → M1 22 2 = z)) := by
  by_cases c : z < 160
  · obtain ⟨k, hk⟩ : ∃ k : Nat, z = (k : Int) := ⟨z.toNat, by omega⟩
    subst hk
    refine mv_go' 2 (pc' := 4) (ls' := [mv_R 22, mv_I s]) (st' := [mv_I (M 22 2)]) (M1 := M) rfl ?_
    rw [show M 22 2 = (k : Int) from by exact h2]
    refine mv_go' 2 (pc' := if (k : Int) < 160 then 10 else 30) (ls' := [mv_R 22, mv_I s]) (st' := []) (M1 := M) rfl ?_
    refine mv_tt' (by omega) ?_
    refine mv_go' 4 (pc' := 18) (ls' := [mv_R 22, mv_I s]) (st' := [mv_I (M 22 2), mv_R 23]) (M1 := M) rfl ?_
    rw [show M 22 2 = (k : Int) from by exact h2]
    refine mv_go' 2 (pc' := if 0 ≤ (k : Int) ∧ (k : Int) < 160 then 20 else mv_bad) (ls' := [mv_R 22, mv_I s]) (st' := []) (M1 := (mv_st M 23 (mv_up (M 23) k s))) rfl ?_
    refine mv_tt' (by omega) ?_
    refine mv_go' 3 (pc' := 25) (ls' := [mv_R 22, mv_I s]) (st' := [mv_I (M 22 2), mv_R 22]) (M1 := (mv_st M 23 (mv_up (M 23) k s))) rfl ?_
    rw [show M 22 2 = (k : Int) from by exact h2]
    refine mv_go' 3 (pc' := 30) (ls' := [mv_R 22, mv_I s]) (st' := []) (M1 := (mv_st (mv_st M 23 (mv_up (M 23) k s)) 22 (mv_up (M 22) 2 (mv_w ((k : Int) + 1))))) rfl ?_
    rw [show mv_w ((k : Int) + 1) = (k : Int) + 1 from mv_w_id (by omega) (by omega)]
    refine mv_ret (fun n => rfl) ⟨?_, fun hn => Or.inl ⟨?_, ?_⟩, fun hn => absurd c hn⟩
    · repeat (first | exact mv_ag.rf | refine mv_ag.st ?_ (by decide))
    · show (k : Int) + 1 = _
      omega
    · rfl
  · refine mv_go' 2 (pc' := 4) (ls' := [mv_R 22, mv_I s]) (st' := [mv_I (M 22 2)]) (M1 := M) rfl ?_
    rw [show M 22 2 = z from by exact h2]
    refine mv_go' 2 (pc' := if z < 160 then 10 else 30) (ls' := [mv_R 22, mv_I s]) (st' := []) (M1 := M) rfl ?_
    refine mv_ff' (by omega) ?_
    exact mv_ret (fun n => rfl) ⟨mv_ag.rf, fun hn => absurd hn c, fun _ => h2⟩
theorem sp_cladd25 {M : mv_M} {s z : Int} (h2 : M 25 2 = z) (hz : 0 ≤ z ∧ z ≤ 160) : mv_Ru 0 1 0 [mv_R 25, mv_I s] [] M mv_U (fun M1 => mv_ag [25, 25 + 1] M M1 ∧ (z < 160 → (M1 25 2 = z + 1 ∧ M1 (25 + 1) = mv_up (M (25 + 1)) z.toNat s) ∨ False) ∧ (¬ z < 160 → M1 25 2 = z)) := by
  by_cases c : z < 160
  · obtain ⟨k, hk⟩ : ∃ k : Nat, z = (k : Int) := ⟨z.toNat, by omega⟩
    subst hk
    refine mv_go' 2 (pc' := 4) (ls' := [mv_R 25, mv_I s]) (st' := [mv_I (M 25 2)]) (M1 := M) rfl ?_
    rw [show M 25 2 = (k : Int) from by exact h2]
    refine mv_go' 2 (pc' := if (k : Int) < 160 then 10 else 30) (ls' := [mv_R 25, mv_I s]) (st' := []) (M1 := M) rfl ?_
    refine mv_tt' (by omega) ?_
    refine mv_go' 4 (pc' := 18) (ls' := [mv_R 25, mv_I s]) (st' := [mv_I (M 25 2), mv_R 26]) (M1 := M) rfl ?_
    rw [show M 25 2 = (k : Int) from by exact h2]
    refine mv_go' 2 (pc' := if 0 ≤ (k : Int) ∧ (k : Int) < 160 then 20 else mv_bad) (ls' := [mv_R 25, mv_I s]) (st' := []) (M1 := (mv_st M 26 (mv_up (M 26) k s))) rfl ?_
    refine mv_tt' (by omega) ?_
    refine mv_go' 3 (pc' := 25) (ls' := [mv_R 25, mv_I s]) (st' := [mv_I (M 25 2), mv_R 25]) (M1 := (mv_st M 26 (mv_up (M 26) k s))) rfl ?_
    rw [show M 25 2 = (k : Int) from by exact h2]
    refine mv_go' 3 (pc' := 30) (ls' := [mv_R 25, mv_I s]) (st' := []) (M1 := (mv_st (mv_st M 26 (mv_up (M 26) k s)) 25 (mv_up (M 25) 2 (mv_w ((k : Int) + 1))))) rfl ?_
    rw [show mv_w ((k : Int) + 1) = (k : Int) + 1 from mv_w_id (by omega) (by omega)]
    refine mv_ret (fun n => rfl) ⟨?_, fun hn => Or.inl ⟨?_, ?_⟩, fun hn => absurd c hn⟩
    · repeat (first | exact mv_ag.rf | refine mv_ag.st ?_ (by decide))
    · show (k : Int) + 1 = _
      omega
    · rfl
  · refine mv_go' 2 (pc' := 4) (ls' := [mv_R 25, mv_I s]) (st' := [mv_I (M 25 2)]) (M1 := M) rfl ?_
    rw [show M 25 2 = z from by exact h2]
    refine mv_go' 2 (pc' := if z < 160 then 10 else 30) (ls' := [mv_R 25, mv_I s]) (st' := []) (M1 := M) rfl ?_
    refine mv_ff' (by omega) ?_
    exact mv_ret (fun n => rfl) ⟨mv_ag.rf, fun hn => absurd hn c, fun _ => h2⟩
theorem sp_cladd {M : mv_M} {l : Nat} {s z : Int} (hl : sp_ly l) (h2 : M l 2 = z) (hz : 0 ≤ z ∧ z ≤ 160) : mv_Ru 0 1 0 [mv_R l, mv_I s] [] M mv_U (fun M1 => mv_ag [l, l + 1] M M1 ∧ (z < 160 → (M1 l 2 = z + 1 ∧ M1 (l + 1) = mv_up (M (l + 1)) z.toNat s) ∨ False) ∧ (¬ z < 160 → M1 l 2 = z)) := by
  rcases hl with q | q | q | q | q | q <;> subst q
  · exact sp_cladd10 h2 hz
  · exact sp_cladd13 h2 hz
  · exact sp_cladd16 h2 hz
  · exact sp_cladd19 h2 hz
  · exact sp_cladd22 h2 hz
  · exact sp_cladd25 h2 hz
theorem sp_lyg {l : Nat} {s z : Int} (hl : sp_ly l) (e : z = (l : Int)) : (mv_rcv 1 1 (List.take 2 [mv_I s, mv_R z.toNat]).reverse && Nat.ble 2 [mv_I s, mv_R z.toNat].length && Nat.ble (mv_cats (List.drop 2 [mv_I s, mv_R z.toNat])) 8 && Nat.ble (mv_lay (List.take 2 [mv_I s, mv_R z.toNat]).reverse).length (mv_nl 1)) = true := by
  subst e
  rcases hl with q | q | q | q | q | q <;> subst q <;> rfl
theorem sp_ly_n {l : Nat} (hl : sp_ly l) : l ≠ 28 ∧ l + 1 ≠ 28 ∧ l ≠ 29 ∧ l + 1 ≠ 29 ∧ l ≠ 28 ∧ 10 ≤ l ∧ l ≤ 25 := by unfold sp_ly at hl; omega
/-- one step more -/
theorem sp_cladd_s {f : Nat → Int} {t l p : Nat} {c : List Int} {M0 M : mv_M} {s : Int} (hl : sp_ly l) (h : sp_cs f t l p c M0 M) (hc : c.length < 160) : mv_Ru 0 1 0 [mv_R (M 28 7).toNat, mv_I s] [] M mv_U (sp_cs f t l p (c ++ [s]) M0) := by
  obtain ⟨⟨a1, a2⟩, ⟨b1, b2⟩, a3, a4, a5, a6, a7, a8, a9⟩ := h
  have hn := sp_ly_n hl
  rw [b2, Int.toNat_natCast]
  refine (sp_cladd (s := s) hl a8 ⟨by omega, by omega⟩).imp (fun M1 q => ?_)
  have e28 : M1 28 = M 28 := q.1 28 (by simp; omega)
  have e29 : M1 29 = M 29 := q.1 29 (by simp; omega)
  rcases q.2.1 (by omega) with ⟨z1, z2⟩ | z
  · refine ⟨⟨a1.tr (q.1.wd (by simp)), by rw [e29]; exact a2⟩, ⟨by rw [e28]; exact b1, by rw [e28]; exact b2⟩, by rw [e28]; exact a3, by rw [e28]; exact a4, by rw [e28]; exact a5, by rw [e28]; exact a6, by rw [e28]; exact a7, ?_, ?_⟩
    · rw [z1]
      simp
    · rw [z2, Int.toNat_natCast, sp_at_app]
      refine ⟨sp_at_up a9 (by omega), ?_, trivial⟩
      rw [Nat.zero_add, mv_up_s]
  · exact z.elim
theorem sp_cladd_f {t l q : Nat} {M0 M : mv_M} {s : Int} (hl : sp_ly l) (h : sp_cf t l q M0 M) : mv_Ru 0 1 0 [mv_R (M 28 7).toNat, mv_I s] [] M mv_U (sp_cf t l q M0) := by
  obtain ⟨a1, ⟨b1, b2⟩, a3, a4, a5, a6⟩ := h
  have hn := sp_ly_n hl
  rw [b2, Int.toNat_natCast]
  refine (sp_cladd (s := s) (z := M l 2) hl rfl ⟨a5, a6⟩).imp (fun M1 q => ?_)
  have e28 : M1 28 = M 28 := q.1 28 (by simp; omega)
  refine ⟨a1.tr (q.1.wd (by simp)), ⟨by rw [e28]; exact b1, by rw [e28]; exact b2⟩, by rw [e28]; exact a3, by rw [e28]; exact a4, ?_⟩
  by_cases c : M l 2 < 160
  · rcases q.2.1 c with ⟨z1, _⟩ | z
    · rw [z1]; omega
    · exact z.elim
  · rw [q.2.2 c]; omega
/-- the next token -/
theorem sp_ctok {f : Nat → Int} {t l p d : Nat} {c : List Int} {M0 M : mv_M} (hl : sp_ly l) (ht : t ≤ 160) (hp : p ≤ t) (hb : ∀ j, j < t → 0 ≤ f j ∧ f j ≤ 255) (h : sp_cs f t l p c M0 M) (hk : tk_K f t p ≠ 303) : mv_Ru (d + 7) 10 0 [mv_R 28] [] M mv_U (sp_cs f t l (tk_N f t p) c M0) := by
  obtain ⟨⟨a1, a2⟩, ⟨b1, b2⟩, a3, a4, a5, a6, a7, a8, a9⟩ := h
  have hn := sp_ly_n hl
  have hNb := tk_N_b f hp
  rw [if_neg hk] at a7
  refine (sp_crt (M0 := M) (d := d) ht hNb.2.1 (by rw [a2]; exact hb) b1 (a5 hk) a7).imp (fun M1 q => ?_)
  obtain ⟨q1, q2, q3, q4, q5, q6, q7⟩ := q
  rw [a2] at q3 q4 q5 q6 q7
  have eL : M1 l = M l := q1 l (by simp; omega)
  have eL1 : M1 (l + 1) = M (l + 1) := q1 (l + 1) (by simp; omega)
  exact ⟨⟨a1.tr (q1.wd (by simp)), (q1 29 (by decide)).trans a2⟩, ⟨(q2 1 (by decide)).trans b1, (q2 7 (by decide)).trans b2⟩, q3, q4, q5, q6, q7, by rw [eL]; exact a8, by rw [eL1]; exact a9⟩
/-- a refusal -/
theorem sp_crf_s {f : Nat → Int} {t l p : Nat} {c : List Int} {M0 M : mv_M} (hl : sp_ly l) (h : sp_cs f t l p c M0 M) (hc : c.length ≤ 160) : mv_Ru 0 8 0 [mv_R 28] [] M mv_U (sp_cf t l (tk_Q f t p) M0) := by
  obtain ⟨⟨a1, a2⟩, ⟨b1, b2⟩, a3, a4, a5, a6, a7, a8, a9⟩ := h
  have hn := sp_ly_n hl
  refine sp_crf.imp (fun M1 q => ?_)
  obtain ⟨q1, q2, q3, q4⟩ := q
  have eL : M1 l = M l := q1 l (by simp; omega)
  refine ⟨a1.tr (q1.wd (by simp)), ⟨(q2 1 (by decide) (by decide)).trans b1, (q2 7 (by decide) (by decide)).trans b2⟩, q3, ?_, by rw [eL, a8]; omega, by rw [eL, a8]; omega⟩
  rw [q4, a7, a4]
  by_cases z : tk_K f t p = 303
  · rw [if_pos z, if_neg (by omega)]
  · rw [if_neg z, if_pos rfl]
theorem sp_crf_f {t l q : Nat} {M0 M : mv_M} (hl : sp_ly l) (h : sp_cf t l q M0 M) : mv_Ru 0 8 0 [mv_R 28] [] M mv_U (sp_cf t l q M0) := by
  obtain ⟨a1, ⟨b1, b2⟩, a3, a4, a5, a6⟩ := h
  have hn := sp_ly_n hl
  refine sp_crf.imp (fun M1 q => ?_)
  obtain ⟨q1, q2, q3, q4⟩ := q
  have eL : M1 l = M l := q1 l (by simp; omega)
  refine ⟨a1.tr (q1.wd (by simp)), ⟨(q2 1 (by decide) (by decide)).trans b1, (q2 7 (by decide) (by decide)).trans b2⟩, q3, ?_, by rw [eL]; exact a5, by rw [eL]; exact a6⟩
  rw [q4, a4, if_neg (by omega)]
