/-! running a method: n is fuel, d how deep calls may go -/
def mv_psh (v : mv_V) (st : List mv_V) : List mv_V := match v with
  | .inr (.inr (.inr 1)) => st
  | _ => v :: st
def mv_out (a : Nat) (st : List mv_V) (M : mv_M) : Option (mv_V × mv_M) :=
  match a, st with
  | 0, [] => some (mv_U, M)
  | 1, [.inl x] => some (mv_I x, M)
  | 2, [.inl x] => if x = 0 ∨ x = 1 then some (mv_I x, M) else none
  | 3, [.inl x] => if x = 0 ∨ x = 1 then some (mv_I x, M) else none
  | 4, [.inl x] => if 0 ≤ x ∧ x < 65536 then some (mv_I x, M) else none
  | 5, [.inr (.inl x)] => some (mv_L x, M)
  | 6, [.inr (.inr (.inl x))] => some (mv_R x, M)
  | 6, [.inr (.inr (.inr 0))] => some (mv_N, M)
  | _, _ => none
def mv_rcv (kd a : Nat) (as : List mv_V) : Bool :=
  bif Nat.beq kd 2 then true else match as with
  | .inr (.inr (.inl i)) :: _ => Nat.beq (mv_cls i) (mv_yc a)
  | _ => false
def mv_x : Nat → Nat → Nat → Nat → List mv_V → List mv_V → mv_M → Option (mv_V × mv_M)
  | 0, _, _, _, _, _, _ => none
  | n + 1, d, y, pc, ls, st, M =>
    match mv_code y pc with
    | none => none
    | some (i, kd, len, a, b, _, z) =>
      bif Nat.beq kd 0 then
        (match mv_step i len a b z pc ls st M with
        | none => none
        | some (pc', ls', st', M') => mv_x n d y pc' ls' st' M')
      else bif Nat.beq kd 3 then mv_out a st M
      else
        (match d with
        | 0 => none
        | d' + 1 =>
          bif mv_rcv kd a (st.take b).reverse && Nat.ble b st.length && Nat.ble (mv_cats (st.drop b)) 8 && Nat.ble (mv_lay (st.take b).reverse).length (mv_nl a) then
            (match mv_x n d' a 0 (mv_ent (mv_nl a) (st.take b).reverse) [] M with
            | none => none
            | some (v, M') => mv_x n (d' + 1) y (pc + len) ls (mv_psh v (st.drop b)) M')
          else none)
theorem mv_x_succ (n d y pc : Nat) (ls st : List mv_V) (M : mv_M) : mv_x (n + 1) d y pc ls st M = (match mv_code y pc with
    | none => none
    | some (i, kd, len, a, b, _, z) =>
      bif Nat.beq kd 0 then
        (match mv_step i len a b z pc ls st M with
        | none => none
        | some (pc', ls', st', M') => mv_x n d y pc' ls' st' M')
      else bif Nat.beq kd 3 then mv_out a st M
      else
        (match d with
        | 0 => none
        | d' + 1 =>
          bif mv_rcv kd a (st.take b).reverse && Nat.ble b st.length && Nat.ble (mv_cats (st.drop b)) 8 && Nat.ble (mv_lay (st.take b).reverse).length (mv_nl a) then
            (match mv_x n d' a 0 (mv_ent (mv_nl a) (st.take b).reverse) [] M with
            | none => none
            | some (v, M') => mv_x n (d' + 1) y (pc + len) ls (mv_psh v (st.drop b)) M')
          else none)) := rfl
/-- more fuel and more depth change nothing -/
theorem mv_x_mono : ∀ (n n2 d d2 y pc : Nat) (ls st : List mv_V) (M : mv_M) (r : mv_V × mv_M), n ≤ n2 → d ≤ d2 → mv_x n d y pc ls st M = some r → mv_x n2 d2 y pc ls st M = some r := by
  intro n
  induction n with
  | zero => intro n2 d d2 y pc ls st M r _ _ h; cases h
  | succ n ih =>
    intro n2 d d2 y pc ls st M r hn hd h
    obtain ⟨n3, rfl⟩ : ∃ k, n2 = k + 1 := ⟨n2 - 1, by omega⟩
    have hn3 : n ≤ n3 := by omega
    rw [mv_x_succ] at h ⊢
    cases hc : mv_code y pc with
    | none => rw [hc] at h; cases h
    | some q =>
      obtain ⟨i, kd, len, a, b, w, z⟩ := q
      rw [hc] at h
      dsimp only at h ⊢
      cases h0 : Nat.beq kd 0 with
      | true =>
        rw [h0] at h
        dsimp only [cond] at h ⊢
        cases hs : mv_step i len a b z pc ls st M with
        | none => rw [hs] at h; cases h
        | some q =>
          obtain ⟨pc', ls', st', M'⟩ := q
          rw [hs] at h
          exact ih _ _ _ _ _ _ _ _ _ hn3 hd h
      | false =>
        rw [h0] at h
        dsimp only [cond] at h ⊢
        cases h3 : Nat.beq kd 3 with
        | true => rw [h3] at h; exact h
        | false =>
          rw [h3] at h
          dsimp only [cond] at h ⊢
          cases d with
          | zero => cases h
          | succ d =>
            obtain ⟨d3, rfl⟩ : ∃ k, d2 = k + 1 := ⟨d2 - 1, by omega⟩
            dsimp only at h ⊢
            generalize hg : (mv_rcv kd a (st.take b).reverse && Nat.ble b st.length && Nat.ble (mv_cats (st.drop b)) 8 && Nat.ble (mv_lay (st.take b).reverse).length (mv_nl a)) = g at h ⊢
            cases g with
            | false => cases h
            | true =>
              dsimp only [cond] at h ⊢
              cases hx : mv_x n d a 0 (mv_ent (mv_nl a) (st.take b).reverse) [] M with
              | none => rw [hx] at h; cases h
              | some q =>
                obtain ⟨v, M'⟩ := q
                rw [hx] at h
                rw [ih n3 d d3 _ _ _ _ _ _ hn3 (by omega) hx]
                exact ih _ _ _ _ _ _ _ _ _ hn3 (by omega) h
/-- the method y, at pc, comes to its end with v and the heap M' -/
def mv_E (d y pc : Nat) (ls st : List mv_V) (M : mv_M) (v : mv_V) (M' : mv_M) : Prop := ∃ n, mv_x n d y pc ls st M = some (v, M')
theorem mv_E.up {d d2 y pc : Nat} {ls st : List mv_V} {M M' : mv_M} {v : mv_V} (h : mv_E d y pc ls st M v M') (hd : d ≤ d2) : mv_E d2 y pc ls st M v M' := by
  obtain ⟨n, h⟩ := h
  exact ⟨n, mv_x_mono _ _ _ _ _ _ _ _ _ _ (Nat.le_refl n) hd h⟩
/-- k steps on -/
theorem mv_go (k : Nat) {d y pc pc' : Nat} {ls st ls' st' : List mv_V} {M M1 M' : mv_M} {v : mv_V} (h : ∀ n, mv_x (n + k) d y pc ls st M = mv_x n d y pc' ls' st' M1) (e : mv_E d y pc' ls' st' M1 v M') : mv_E d y pc ls st M v M' := by
  obtain ⟨n, e⟩ := e
  exact ⟨n + k, by rw [h]; exact e⟩
theorem mv_tt {c : Prop} {_ : Decidable c} {d y p q : Nat} {ls st : List mv_V} {M M' : mv_M} {v : mv_V} (hc : c) (e : mv_E d y p ls st M v M') : mv_E d y (if c then p else q) ls st M v M' := by rw [if_pos hc]; exact e
theorem mv_ff {c : Prop} {_ : Decidable c} {d y p q : Nat} {ls st : List mv_V} {M M' : mv_M} {v : mv_V} (hc : ¬ c) (e : mv_E d y q ls st M v M') : mv_E d y (if c then p else q) ls st M v M' := by rw [if_neg hc]; exact e
theorem mv_sp {c : Prop} {_ : Decidable c} {d y p q : Nat} {ls st : List mv_V} {M M' : mv_M} {v : mv_V} (ht : c → mv_E d y p ls st M v M') (hf : ¬ c → mv_E d y q ls st M v M') : mv_E d y (if c then p else q) ls st M v M' := by
  by_cases hc : c
  · exact mv_tt hc (ht hc)
  · exact mv_ff hc (hf hc)
/-- the end -/
theorem mv_end {d y pc : Nat} {ls st : List mv_V} {M M' : mv_M} {v : mv_V} (h : ∀ n, mv_x (n + 1) d y pc ls st M = some (v, M')) : mv_E d y pc ls st M v M' := ⟨1, h 0⟩
/-- a call -/
theorem mv_cal {d y pc : Nat} {ls st : List mv_V} {M M1 M' : mv_M} {u v : mv_V} {i : Instr} {kd len a b w d1 : Nat} {z : Int} {as rest st2 : List mv_V} (hc : mv_code y pc = some (i, kd, len, a, b, w, z)) (hk : kd = 1 ∨ kd = 2)
    (hg : (mv_rcv kd a (st.take b).reverse && Nat.ble b st.length && Nat.ble (mv_cats (st.drop b)) 8 && Nat.ble (mv_lay (st.take b).reverse).length (mv_nl a)) = true)
    (ha : mv_ent (mv_nl a) (st.take b).reverse = as) (hr : mv_psh u (st.drop b) = st2) (h1 : mv_E d1 a 0 as [] M u M1) (hd : d1 < d) (e : mv_E d y (pc + len) ls st2 M1 v M') : mv_E d y pc ls st M v M' := by
  obtain ⟨n1, h1⟩ := h1
  obtain ⟨n2, h2⟩ := e
  subst ha; subst hr
  obtain ⟨d', rfl⟩ : ∃ k, d = k + 1 := ⟨d - 1, by omega⟩
  refine ⟨max n1 n2 + 1, ?_⟩
  rw [mv_x_succ, hc]
  dsimp only
  rw [hg, mv_x_mono _ (max n1 n2) _ d' _ _ _ _ _ _ (Nat.le_max_left _ _) (by omega) h1]
  have h0 : Nat.beq kd 0 = false := by rcases hk with rfl | rfl <;> rfl
  have h3 : Nat.beq kd 3 = false := by rcases hk with rfl | rfl <;> rfl
  rw [h0, h3]
  exact mv_x_mono _ _ _ _ _ _ _ _ _ _ (Nat.le_max_right _ _) (Nat.le_refl _) h2
theorem mv_eq {d y pc : Nat} {ls st ls2 st2 : List mv_V} {M M2 M' : mv_M} {v : mv_V} (h1 : ls = ls2) (h2 : st = st2) (h3 : M = M2) (e : mv_E d y pc ls2 st2 M2 v M') : mv_E d y pc ls st M v M' := by
  subst h1; subst h2; subst h3; exact e
