/-! runs, by what holds of the heap at the end -/
def mv_Ru (d y pc : Nat) (ls st : List mv_V) (M : mv_M) (v : mv_V) (P : mv_M → Prop) : Prop := ∃ M', mv_E d y pc ls st M v M' ∧ P M'
theorem mv_Ru.imp {d y pc : Nat} {ls st : List mv_V} {M : mv_M} {v : mv_V} {P Q : mv_M → Prop} (h : mv_Ru d y pc ls st M v P) (hq : ∀ M', P M' → Q M') : mv_Ru d y pc ls st M v Q := by
  obtain ⟨M', e, h⟩ := h
  exact ⟨M', e, hq M' h⟩
theorem mv_Ru.up {d d2 y pc : Nat} {ls st : List mv_V} {M : mv_M} {v : mv_V} {P : mv_M → Prop} (h : mv_Ru d y pc ls st M v P) (hd : d ≤ d2) : mv_Ru d2 y pc ls st M v P := by
  obtain ⟨M', e, h⟩ := h
  exact ⟨M', e.up hd, h⟩
theorem mv_Ru.val {d y pc : Nat} {ls st : List mv_V} {M : mv_M} {v v2 : mv_V} {P : mv_M → Prop} (h : mv_Ru d y pc ls st M v P) (hv : v = v2) : mv_Ru d y pc ls st M v2 P := hv ▸ h
/-- some instructions in a row, no call among them -/
def mv_sts : Nat → Nat → Nat → List mv_V → List mv_V → mv_M → mv_S
  | 0, _, pc, ls, st, M => some (pc, ls, st, M)
  | k + 1, y, pc, ls, st, M =>
    match mv_code y pc with
    | none => none
    | some (i, kd, len, a, b, _, z) =>
      bif Nat.beq kd 0 then
        (match mv_step i len a b z pc ls st M with
        | none => none
        | some (pc', ls', st', M') => mv_sts k y pc' ls' st' M')
      else none
theorem mv_sts_x : ∀ (k : Nat) {d y pc pc' : Nat} {ls st ls' st' : List mv_V} {M M1 : mv_M}, mv_sts k y pc ls st M = some (pc', ls', st', M1) → ∀ n, mv_x (n + k) d y pc ls st M = mv_x n d y pc' ls' st' M1
  | 0, d, y, pc, pc', ls, st, ls', st', M, M1, h, n => by
    simp only [mv_sts, Option.some.injEq, Prod.mk.injEq] at h
    obtain ⟨rfl, rfl, rfl, rfl⟩ := h
    rfl
  | k + 1, d, y, pc, pc', ls, st, ls', st', M, M1, h, n => by
    rw [show n + (k + 1) = (n + k) + 1 from by omega, mv_x_succ]
    simp only [mv_sts] at h
    cases hc : mv_code y pc with
    | none => rw [hc] at h; cases h
    | some q =>
      obtain ⟨i, kd, len, a, b, w, z⟩ := q
      rw [hc] at h
      dsimp only at h ⊢
      cases h0 : Nat.beq kd 0 with
      | false => rw [h0] at h; cases h
      | true =>
        rw [h0] at h
        dsimp only [cond] at h ⊢
        cases hs : mv_step i len a b z pc ls st M with
        | none => rw [hs] at h; cases h
        | some q =>
          obtain ⟨pc2, ls2, st2, M2⟩ := q
          rw [hs] at h
          exact mv_sts_x k h n
theorem mv_go' (k : Nat) {d y pc pc' : Nat} {ls st ls' st' : List mv_V} {M M1 : mv_M} {v : mv_V} {P : mv_M → Prop} (h : mv_sts k y pc ls st M = some (pc', ls', st', M1)) (e : mv_Ru d y pc' ls' st' M1 v P) : mv_Ru d y pc ls st M v P := by
  obtain ⟨M', e, hp⟩ := e
  exact ⟨M', mv_go k (mv_sts_x k h) e, hp⟩
theorem mv_tt' {c : Prop} {_ : Decidable c} {d y p q : Nat} {ls st : List mv_V} {M : mv_M} {v : mv_V} {P : mv_M → Prop} (hc : c) (e : mv_Ru d y p ls st M v P) : mv_Ru d y (if c then p else q) ls st M v P := by rw [if_pos hc]; exact e
theorem mv_ff' {c : Prop} {_ : Decidable c} {d y p q : Nat} {ls st : List mv_V} {M : mv_M} {v : mv_V} {P : mv_M → Prop} (hc : ¬ c) (e : mv_Ru d y q ls st M v P) : mv_Ru d y (if c then p else q) ls st M v P := by rw [if_neg hc]; exact e
theorem mv_sp' {c : Prop} {_ : Decidable c} {d y p q : Nat} {ls st : List mv_V} {M : mv_M} {v : mv_V} {P : mv_M → Prop} (ht : c → mv_Ru d y p ls st M v P) (hf : ¬ c → mv_Ru d y q ls st M v P) : mv_Ru d y (if c then p else q) ls st M v P := by
  by_cases hc : c
  · exact mv_tt' hc (ht hc)
  · exact mv_ff' hc (hf hc)
theorem mv_ret {d y pc : Nat} {ls st : List mv_V} {M : mv_M} {v : mv_V} {P : mv_M → Prop} (h : ∀ n, mv_x (n + 1) d y pc ls st M = some (v, M)) (hp : P M) : mv_Ru d y pc ls st M v P := ⟨M, mv_end h, hp⟩
theorem mv_call {d y pc : Nat} {ls st : List mv_V} {M : mv_M} {u v : mv_V} {i : Instr} {kd len a b w d1 : Nat} {z : Int} {as st2 : List mv_V} {P P1 : mv_M → Prop} (hc : mv_code y pc = some (i, kd, len, a, b, w, z)) (hk : kd = 1 ∨ kd = 2)
    (hg : (mv_rcv kd a (st.take b).reverse && Nat.ble b st.length && Nat.ble (mv_cats (st.drop b)) 8 && Nat.ble (mv_lay (st.take b).reverse).length (mv_nl a)) = true)
    (ha : mv_ent (mv_nl a) (st.take b).reverse = as) (hr : mv_psh u (st.drop b) = st2) (h1 : mv_Ru d1 a 0 as [] M u P1) (hd : d1 < d) (e : ∀ M1, P1 M1 → mv_Ru d y (pc + len) ls st2 M1 v P) : mv_Ru d y pc ls st M v P := by
  obtain ⟨M1, h1, hp1⟩ := h1
  obtain ⟨M', e, hp⟩ := e M1 hp1
  exact ⟨M', mv_cal (rest := []) hc hk hg ha hr h1 hd e, hp⟩
theorem mv_callP {d y pc : Nat} {ls st : List mv_V} {M : mv_M} {u v : mv_V} {i : Instr} {kd len a b w d1 : Nat} {z : Int} {as st2 : List mv_V} {P : mv_M → Prop} (hc : mv_code y pc = some (i, kd, len, a, b, w, z)) (hk : kd = 1 ∨ kd = 2)
    (hg : (mv_rcv kd a (st.take b).reverse && Nat.ble b st.length && Nat.ble (mv_cats (st.drop b)) 8 && Nat.ble (mv_lay (st.take b).reverse).length (mv_nl a)) = true)
    (ha : mv_ent (mv_nl a) (st.take b).reverse = as) (hr : mv_psh u (st.drop b) = st2) (h1 : mv_Ru d1 a 0 as [] M u (fun M1 => M1 = M)) (hd : d1 < d) (e : mv_Ru d y (pc + len) ls st2 M v P) : mv_Ru d y pc ls st M v P :=
  mv_call hc hk hg ha hr h1 hd (fun M1 h => by rw [h]; exact e)
theorem mv_pcq {d y pc pc2 : Nat} {ls st : List mv_V} {M : mv_M} {v : mv_V} {P : mv_M → Prop} (h : pc = pc2) (e : mv_Ru d y pc2 ls st M v P) : mv_Ru d y pc ls st M v P := h ▸ e
theorem mv_eqs {d y pc : Nat} {ls st ls2 st2 : List mv_V} {M M2 : mv_M} {v : mv_V} {P : mv_M → Prop} (h1 : ls = ls2) (h2 : st = st2) (h3 : M = M2) (e : mv_Ru d y pc ls2 st2 M2 v P) : mv_Ru d y pc ls st M v P := by
  subst h1; subst h2; subst h3; exact e
/-- a row after a write -/
theorem mv_up_s (f : Nat → Int) (k : Nat) (z : Int) : mv_up f k z k = z := if_pos rfl
theorem mv_up_n (f : Nat → Int) {k j : Nat} (z : Int) (h : j ≠ k) : mv_up f k z j = f j := if_neg h
/-- cells not named are as they were -/
def mv_ag (S : List Nat) (M M' : mv_M) : Prop := ∀ i, i ∉ S → M' i = M i
theorem mv_ag.rf {S : List Nat} {M : mv_M} : mv_ag S M M := fun _ _ => rfl
theorem mv_ag.tr {S : List Nat} {M M1 M2 : mv_M} (h1 : mv_ag S M M1) (h2 : mv_ag S M1 M2) : mv_ag S M M2 := fun i hi => (h2 i hi).trans (h1 i hi)
theorem mv_ag.wd {S S2 : List Nat} {M M1 : mv_M} (h : mv_ag S M M1) (hs : ∀ x ∈ S, x ∈ S2) : mv_ag S2 M M1 := fun i hi => h i (fun z => hi (hs i z))
theorem mv_ag.st {S : List Nat} {M M1 : mv_M} {i : Nat} {f : Nat → Int} (h : mv_ag S M M1) (hi : i ∈ S) : mv_ag S M (mv_st M1 i f) := fun j hj => (mv_st_n M1 f (fun z => hj (by rw [z]; exact hi))).trans (h j hj)
theorem mv_w_id {z : Int} (h1 : -2147483648 ≤ z) (h2 : z < 2147483648) : mv_w z = z := by unfold mv_w; omega
theorem mv_wl_id {z : Int} (h1 : -9223372036854775808 ≤ z) (h2 : z < 9223372036854775808) : mv_wl z = z := by unfold mv_wl; omega
theorem mv_w_w (z : Int) : mv_w (mv_w z) = mv_w z := by unfold mv_w; omega
