/-! where the small machine's run of a method that has begun comes to its end -/
section
variable {p : Program} {l : Launch} {e : Env} {R : Room} {s : State} {m : MethodId} {args : Array Value} {below : List Frame} {meth : Method} {c : Code} {cells slots : Nat} {Q : State → Prop}
variable {ad : Nat → Nat} {cA : Nat → ClassId} {D : va_G} {x0 : Value} {L : Nat} {xs : Nat → Int32} {A : Nat → Prop} {d y : Nat}
variable {K : Nat} {n pc a b w len : Nat} {z : Int} {ls st : List mv_V} {M M' : mv_M}
theorem mv_rok_n {a : Nat} (h : mv_rok a none = true) : a = 0 := by
  by_cases c : a = 0
  · exact c
  · exfalso
    match a, c, h with
    | 0, c, _ => exact c rfl
    | 1, _, h => exact absurd h (by decide)
    | 2, _, h => exact absurd h (by decide)
    | 3, _, h => exact absurd h (by decide)
    | 4, _, h => exact absurd h (by decide)
    | 5, _, h => exact absurd h (by decide)
    | 6, _, h => exact absurd h (by decide)
    | a + 7, _, h => exact absurd h Bool.false_ne_true
/-- a method that gives nothing -/
theorem mv_retv (hy : mv_yr y = none) (hb : c.code = mv_yb y) {i : Instr} (hck : mv_ck y pc i 3 len a b w z = true) {v : mv_V} (ho : mv_out a st M = some (v, M))
    (kk : ∀ (H : Heap) (locs : List Loc) (lsA : Array Slot), mv_Wd K ad cA D L xs A s H locs M → decode (mv_yb y) pc = .ok (.return_, 1) → v = mv_U → W p l e R s m args below meth c H locs cells slots Q (F0 m pc lsA [])) :
    mv_Se K p l e R s m args below meth c cells slots Q ad cA D x0 L xs A n pc ls st M := by
  unfold mv_ck at hck
  obtain ⟨hd, hck⟩ := mv_a1 hck
  have hd := of_decide_eq_true hd
  intro H locs lsA hn hW hl nl ns
  have bad : ∀ {x : Bool} {q : Prop}, (x && mv_rok a (mv_yr y)) = true → (a = 0 → q) → q := fun {x q} h1 h2 => by
    obtain ⟨_, h1⟩ := mv_a1 h1
    rw [hy] at h1
    exact h2 (mv_rok_n h1)
  cases i
  case ireturn =>
    exact bad hck (fun h0 => by
      obtain ⟨hck, _⟩ := mv_a1 hck
      obtain ⟨_, ha⟩ := mv_a1 hck
      subst h0
      exact absurd ha (by decide))
  case lreturn =>
    exact bad hck (fun h0 => by
      obtain ⟨hck, _⟩ := mv_a1 hck
      obtain ⟨_, ha⟩ := mv_a1 hck
      subst h0
      exact absurd ha (by decide))
  case areturn =>
    exact bad hck (fun h0 => by
      obtain ⟨hck, _⟩ := mv_a1 hck
      obtain ⟨_, ha⟩ := mv_a1 hck
      subst h0
      exact absurd ha (by decide))
  case return_ =>
    obtain ⟨hck, hrk⟩ := mv_a1 hck
    obtain ⟨hck, ha⟩ := mv_a1 hck
    have hlen := mv_beq (mv_a1 hck).2; subst hlen
    have ha := mv_beq ha; subst ha
    rcases st with _ | ⟨u, r⟩
    · cases ho
      exact kk H locs lsA hW hd rfl
    · cases ho
  all_goals first
    | (cases hck; done)
    | (simp only [Bool.and_eq_true] at hck
       first
         | (have h9 := hck.1.1.1.1.1; cases h9; done)
         | (have h9 := hck.1.1.1.1; cases h9; done)
         | (have h9 := hck.1.1.1; cases h9; done)
         | (have h9 := hck.1.1; cases h9; done)
         | (have h9 := hck.1; cases h9; done)
         | (have h9 := hck.1.1.1.1.1.1.2; cases h9; done)
         | (simp [Nat.beq] at hck; done))
/-- a method that gives a truth value -/
theorem mv_retz (hy : mv_yr y = some .boolean) (hb : c.code = mv_yb y) {i : Instr} (hck : mv_ck y pc i 3 len a b w z = true) {x : Int} (ho : mv_out a st M = some (mv_I x, M))
    (kk : ∀ (H : Heap) (locs : List Loc) (lsA : Array Slot), mv_Wd K ad cA D L xs A s H locs M → decode (mv_yb y) pc = .ok (.ireturn, 1) → W p l e R s m args below meth c H locs cells slots Q (F0 m pc lsA [.int (Int32.ofInt x)])) :
    mv_Se K p l e R s m args below meth c cells slots Q ad cA D x0 L xs A n pc ls st M := by
  unfold mv_ck at hck
  obtain ⟨hd, hck⟩ := mv_a1 hck
  have hd := of_decide_eq_true hd
  intro H locs lsA hn hW hl nl ns
  cases i
  case ireturn =>
    obtain ⟨hck, hrk⟩ := mv_a1 hck
    obtain ⟨hck, ha⟩ := mv_a1 hck
    have hlen := mv_beq (mv_a1 hck).2; subst hlen
    rw [hy] at hrk
    simp only [Bool.or_eq_true] at ha
    rcases ha with ((ha | ha) | ha) | ha
    · have ha := mv_beq ha; subst ha
      exact absurd hrk (by decide)
    · have ha := mv_beq ha; subst ha
      rcases st with _ | ⟨u, _ | ⟨u2, r⟩⟩
      · cases ho
      · rcases u with q | q | q | q
        · have ho : (if q = 0 ∨ q = 1 then some (mv_I q, M) else none) = some (mv_I x, M) := ho
          by_cases h9 : q = 0 ∨ q = 1
          · rw [if_pos h9] at ho
            cases ho
            exact kk H locs lsA hW hd
          · rw [if_neg h9] at ho; cases ho
        · cases ho
        · cases ho
        · match q, ho with
          | 0, ho => cases ho
          | q + 1, ho => cases ho
      · rcases u with q | q | q | q
        · cases ho
        · cases ho
        · cases ho
        · match q, ho with
          | 0, ho => cases ho
          | q + 1, ho => cases ho
    · have ha := mv_beq ha; subst ha
      exact absurd hrk (by decide)
    · have ha := mv_beq ha; subst ha
      exact absurd hrk (by decide)
  case lreturn =>
    obtain ⟨hck, hrk⟩ := mv_a1 hck
    obtain ⟨hck, ha⟩ := mv_a1 hck
    have ha := mv_beq ha; subst ha
    rw [hy] at hrk
    exact absurd hrk (by decide)
  case areturn =>
    obtain ⟨hck, hrk⟩ := mv_a1 hck
    obtain ⟨hck, ha⟩ := mv_a1 hck
    have ha := mv_beq ha; subst ha
    rw [hy] at hrk
    exact absurd hrk (by decide)
  case return_ =>
    obtain ⟨hck, hrk⟩ := mv_a1 hck
    obtain ⟨hck, ha⟩ := mv_a1 hck
    have ha := mv_beq ha; subst ha
    rw [hy] at hrk
    exact absurd hrk (by decide)
  all_goals first
    | (cases hck; done)
    | (simp only [Bool.and_eq_true] at hck
       first
         | (have h9 := hck.1.1.1.1.1; cases h9; done)
         | (have h9 := hck.1.1.1.1; cases h9; done)
         | (have h9 := hck.1.1.1; cases h9; done)
         | (have h9 := hck.1.1; cases h9; done)
         | (have h9 := hck.1; cases h9; done)
         | (have h9 := hck.1.1.1.1.1.1.2; cases h9; done)
         | (simp [Nat.beq] at hck; done))
end
