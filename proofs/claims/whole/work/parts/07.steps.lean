/-! what stands between the small machine and the claim's machine -/
def mv_Sc (L : Nat) (xs : Nat → Int32) (M : mv_M) : Prop := M 203 0 = (L : Int) ∧ L < 2147483648 ∧ ∀ j, j < L → Int32.ofInt (M 202 j) = xs j
def mv_nM (K : Nat) (M : mv_M) : Prop := (∀ i j, (mv_ak i = 2 → mv_n64 (M i j)) ∧ (mv_ak i ≠ 2 → mv_n32 (M i j))) ∧ (mv_B K 28 = true → 0 ≤ M 28 7 → mv_B K (M 28 7).toNat = true)
def mv_nV (K : Nat) (v : mv_V) : Prop := match v with
  | .inl z => mv_n32 z
  | .inr (.inl z) => mv_n64 z
  | .inr (.inr (.inl i)) => mv_B K i = true
  | _ => True
def mv_nL (K : Nat) (l : List mv_V) : Prop := ∀ v ∈ l, mv_nV K v
def mv_lr (ad : Nat → Nat) (x0 : Value) (ls : List mv_V) (lsA : Array Slot) : Prop := lsA.size = ls.length ∧ lv_wf lsA ∧ ∀ (i : Nat) (v : mv_V), ls[i]? = some v → v ≠ mv_U → lsA[i]? = some (.val (mv_v ad x0 v))
def mv_Wd (K : Nat) (ad : Nat → Nat) (cA : Nat → ClassId) (D : va_G) (L : Nat) (xs : Nat → Int32) (A : Nat → Prop) (s : State) (H : Heap) (locs : List Loc) (M : mv_M) : Prop :=
  va_P D mv_cl7 (mv_ws K ad cA M) H ∧ va_D A (mv_ws K ad cA M) ∧ va_S A s.heap H locs ∧ mv_nM K M ∧ mv_Sc L xs M
def mv_Cx (K : Nat) (p : Program) (R : Room) (s : State) (m : MethodId) (args : Array Value) (c : Code) (cells slots : Nat) (ad : Nat → Nat) (cA : Nat → ClassId) (D : va_G) (x0 : Value) (L : Nat) (xs : Nat → Int32) (A : Nat → Prop) (d y : Nat) : Prop :=
  p.tables.exec = Jvm.exec ∧ c.code = mv_yb y ∧ c.maxLocals = mv_nl y ∧ s.vm.findClass (mv_yn y).cls = some m.cls ∧ (∀ w ∈ mv_T, w.before args s = true) ∧ va_K D mv_cl7 (mv_tys K cA) s ∧ mv_F ad x0 L xs A s s.heap ∧ mv_Fr ad s ∧ (∀ q : Nat, s.heap.size ≤ q → A q) ∧ d + 1 ≤ R.frames ∧ 45 * (d + 1) ≤ R.locals ∧ cells ≤ R.cells ∧ slots ≤ R.slots ∧ (x0 = .null ∨ ∃ t, x0 = .ref t)
def mv_Se (K : Nat) (p : Program) (l : Launch) (e : Env) (R : Room) (s : State) (m : MethodId) (args : Array Value) (below : List Frame) (meth : Method) (c : Code) (cells slots : Nat) (Q : State → Prop) (ad : Nat → Nat) (cA : Nat → ClassId) (D : va_G) (x0 : Value) (L : Nat) (xs : Nat → Int32) (A : Nat → Prop) (n pc : Nat) (ls st : List mv_V) (M : mv_M) : Prop :=
  ∀ (H : Heap) (locs : List Loc) (lsA : Array Slot), ls.length = n → mv_Wd K ad cA D L xs A s H locs M → mv_lr ad x0 ls lsA → mv_nL K ls → mv_nL K st → W p l e R s m args below meth c H locs cells slots Q (F0 m pc lsA (st.map (mv_v ad x0)))
theorem mv_nc {K : Nat} {v : mv_V} {l : List mv_V} : mv_nL K (v :: l) ↔ mv_nV K v ∧ mv_nL K l := List.forall_mem_cons
theorem mv_nth_at {v : mv_V} (hv : v ≠ mv_U) : ∀ (ls : List mv_V) (a : Nat), mv_nth ls a = v → ls[a]? = some v
  | [], _, h => absurd h.symm hv
  | _ :: _, 0, h => congrArg some h
  | _ :: l, a + 1, h => mv_nth_at hv l a h
theorem mv_at_nth {v : mv_V} : ∀ (ls : List mv_V) (a : Nat), ls[a]? = some v → mv_nth ls a = v
  | [], _, h => by cases h
  | u :: _, 0, h => by cases h; rfl
  | _ :: l, a + 1, h => mv_at_nth l a h
theorem mv_set_len (v : mv_V) : ∀ (ls : List mv_V) (a : Nat), (mv_set ls a v).length = ls.length
  | [], _ => rfl
  | _ :: _, 0 => rfl
  | _ :: l, a + 1 => congrArg (· + 1) (mv_set_len v l a)
theorem mv_set_at {v w : mv_V} : ∀ (ls : List mv_V) (a j : Nat), (mv_set ls a v)[j]? = some w → (j = a ∧ w = v) ∨ (j ≠ a ∧ ls[j]? = some w)
  | [], _, _, h => by cases h
  | u :: l, 0, 0, h => by cases h; exact Or.inl ⟨rfl, rfl⟩
  | u :: l, 0, j + 1, h => Or.inr ⟨by omega, h⟩
  | u :: l, a + 1, 0, h => Or.inr ⟨by omega, h⟩
  | u :: l, a + 1, j + 1, h => by
    rcases mv_set_at l a j h with ⟨h1, h2⟩ | ⟨h1, h2⟩
    · exact Or.inl ⟨by omega, h2⟩
    · exact Or.inr ⟨by omega, h2⟩
theorem mv_nL_set {K : Nat} {v : mv_V} {ls : List mv_V} {a : Nat} (hv : mv_nV K v) (h : mv_nL K ls) : mv_nL K (mv_set ls a v) := by
  intro w hw
  obtain ⟨j, hj⟩ := List.getElem?_of_mem hw
  rcases mv_set_at ls a j hj with ⟨-, h2⟩ | ⟨-, h2⟩
  · rw [h2]; exact hv
  · exact h w (List.mem_of_getElem? h2)
theorem mv_nL_nth {K : Nat} {ls : List mv_V} {a : Nat} {v : mv_V} (h : mv_nL K ls) (hv : v ≠ mv_U) (e : mv_nth ls a = v) : mv_nV K v := h v (List.mem_of_getElem? (mv_nth_at hv ls a e))
theorem mv_isU (v : mv_V) : v = mv_U ∨ v ≠ mv_U := by
  by_cases h : v = mv_U
  · exact Or.inl h
  · exact Or.inr h
def mv_lvl (ad : Nat → Nat) (x0 : Value) (ls : List mv_V) : List (Nat × Value) := (ls.zipIdx.filter (fun q => decide (q.1 ≠ mv_U))).map (fun q => (q.2, mv_v ad x0 q.1))
theorem mv_lvl_in {ad : Nat → Nat} {x0 : Value} {ls : List mv_V} {i : Nat} {v : mv_V} (h : ls[i]? = some v) (hv : v ≠ mv_U) : (i, mv_v ad x0 v) ∈ mv_lvl ad x0 ls := by
  unfold mv_lvl
  refine List.mem_map.mpr ⟨(v, i), List.mem_filter.mpr ⟨List.mem_zipIdx_iff_getElem?.mpr h, by simpa using hv⟩, rfl⟩
theorem mv_lr.has {ad : Nat → Nat} {x0 : Value} {ls : List mv_V} {lsA : Array Slot} {n : Nat} (hn : ls.length = n) (h : mv_lr ad x0 ls lsA) : lv_has lsA n (mv_lvl ad x0 ls) := by
  refine ⟨h.1.trans hn, h.2.1, fun q hq => ?_⟩
  obtain ⟨⟨v, i⟩, hvi, rfl⟩ := List.mem_map.mp hq
  obtain ⟨h1, h2⟩ := List.mem_filter.mp hvi
  exact h.2.2 i v (List.mem_zipIdx_iff_getElem?.mp h1) (by simpa using h2)
theorem mv_cat1 {ad : Nat → Nat} {x0 : Value} (hx : x0 = .null ∨ ∃ t, x0 = .ref t) {v : mv_V} (h : mv_isL v = false) : (mv_v ad x0 v).category = 1 := by
  rcases v with z | z | i | k
  · rfl
  · cases h
  · rfl
  · match k with
    | 0 => rfl
    | 1 => rfl
    | 2 => rcases hx with rfl | ⟨t, rfl⟩ <;> rfl
    | k + 3 => rfl
theorem mv_catv {ad : Nat → Nat} {x0 : Value} (hx : x0 = .null ∨ ∃ t, x0 = .ref t) (v : mv_V) : (mv_v ad x0 v).category = mv_cat v := by
  cases h : mv_isL v with
  | false => rw [mv_cat1 hx h]; unfold mv_cat; rw [h]; rfl
  | true =>
    rcases v with z | z | i | k
    · cases h
    · rfl
    · cases h
    · cases h
theorem mv_catl {ad : Nat → Nat} {x0 : Value} (hx : x0 = .null ∨ ∃ t, x0 = .ref t) : ∀ l : List mv_V, ((l.map (mv_v ad x0)).map fun v => v.category).sum = mv_cats l
  | [] => rfl
  | v :: l => by
    rw [List.map_cons, List.map_cons, List.sum_cons, mv_catv hx v, mv_catl hx l]
    rfl
/-- after a store of one slot -/
theorem mv_lr_st1 {ad : Nat → Nat} {x0 : Value} (hx : x0 = .null ∨ ∃ t, x0 = .ref t) {ls : List mv_V} {ls' : Array Slot} {n a : Nat} {v : mv_V} (hn : ls.length = n) (hL : mv_isL (mv_nth ls (a - 1)) = false)
    (h : lv_has ls' n ((a, mv_v ad x0 v) :: (mv_lvl ad x0 ls).filter (fun q => !(q.1 == a) && !(q.1 + 1 == a && q.2.category == 2)))) : mv_lr ad x0 (mv_set ls a v) ls' := by
  refine ⟨by rw [mv_set_len]; exact h.1.trans hn.symm, h.2.1, fun j w hj hw => ?_⟩
  rcases mv_set_at ls a j hj with ⟨h1, h2⟩ | ⟨h1, h2⟩
  · subst h1; subst h2
    exact h.2.2 (j, _) List.mem_cons_self
  · refine h.2.2 (j, mv_v ad x0 w) (List.mem_cons_of_mem _ (List.mem_filter.mpr ⟨mv_lvl_in h2 hw, ?_⟩))
    have h3 : (j == a) = false := by simpa using h1
    have h4 : (j + 1 == a && (mv_v ad x0 w).category == 2) = false := by
      by_cases hja : j + 1 = a
      · subst hja
        rw [Nat.add_sub_cancel, mv_at_nth ls j h2] at hL
        rw [mv_cat1 hx hL]
        simp
      · have : (j + 1 == a) = false := by simpa using hja
        rw [this]; rfl
    simp [h3, h4]
theorem mv_lr_st2 {ad : Nat → Nat} {x0 : Value} (hx : x0 = .null ∨ ∃ t, x0 = .ref t) {ls : List mv_V} {ls' : Array Slot} {n a : Nat} {z : Int} (hn : ls.length = n) (hL : mv_isL (mv_nth ls (a - 1)) = false)
    (h : lv_has ls' n ((a, Value.long (Int64.ofInt z)) :: (mv_lvl ad x0 ls).filter (fun q => !(q.1 == a) && (!(q.1 == a + 1) && !(q.1 + 1 == a && q.2.category == 2))))) : mv_lr ad x0 (mv_set (mv_set ls a (mv_L z)) (a + 1) mv_U) ls' := by
  refine ⟨by rw [mv_set_len, mv_set_len]; exact h.1.trans hn.symm, h.2.1, fun j w hj hw => ?_⟩
  rcases mv_set_at _ (a + 1) j hj with ⟨h1, h2⟩ | ⟨h1, h2⟩
  · exact absurd h2 hw
  · rcases mv_set_at ls a j h2 with ⟨h3, h4⟩ | ⟨h3, h4⟩
    · subst h3; subst h4
      exact h.2.2 (j, _) List.mem_cons_self
    · refine h.2.2 (j, mv_v ad x0 w) (List.mem_cons_of_mem _ (List.mem_filter.mpr ⟨mv_lvl_in h4 hw, ?_⟩))
      have h5 : (j == a) = false := by simpa using h3
      have h6 : (j == a + 1) = false := by simpa using h1
      have h7 : (j + 1 == a && (mv_v ad x0 w).category == 2) = false := by
        by_cases hja : j + 1 = a
        · subst hja
          rw [Nat.add_sub_cancel, mv_at_nth ls j h4] at hL
          rw [mv_cat1 hx hL]
          simp
        · have : (j + 1 == a) = false := by simpa using hja
          rw [this]; rfl
      simp [h5, h6, h7]
theorem mv_beq {a b : Nat} (h : Nat.beq a b = true) : a = b := Nat.eq_of_beq_eq_true h
theorem mv_blt {a b : Nat} (h : Nat.blt a b = true) : a < b := Nat.le_of_ble_eq_true h
/-! the classes' tables, by number -/
theorem mv_7 {P : Nat → Prop} (h0 : P 0) (h1 : P 1) (h2 : P 2) (h3 : P 3) (h4 : P 4) (h5 : P 5) (h6 : P 6) {a : Nat} (ha : a < 7) : P a := by
  rcases (show a = 0 ∨ a = 1 ∨ a = 2 ∨ a = 3 ∨ a = 4 ∨ a = 5 ∨ a = 6 by omega) with rfl | rfl | rfl | rfl | rfl | rfl | rfl
  all_goals assumption
theorem mv_uin {a : Nat} (ha : a < 7) : ∀ w ∈ u_ws (mv_RX a) (mv_TX a) (mv_nf a), w ∈ mv_T := mv_7 (P := fun a => ∀ w ∈ u_ws (mv_RX a) (mv_TX a) (mv_nf a), w ∈ mv_T) mv_wu0 mv_wu1 mv_wu2 mv_wu3 mv_wu4 mv_wu5 mv_wu6 ha
theorem mv_ucl {a : Nat} (ha : a < 7) : mv_cl7[a]? = some (mv_RX a, mv_TX a, mv_nf a) := mv_7 (P := fun a => mv_cl7[a]? = some (mv_RX a, mv_TX a, mv_nf a)) rfl rfl rfl rfl rfl rfl rfl ha
theorem mv_uty {a : Nat} (ha : a < 7) : ∀ k, k < mv_nf a → parseFieldDescriptor (mv_TX a k).2.2.1 = some (mv_TY a k) := mv_7 (P := fun a => ∀ k, k < mv_nf a → parseFieldDescriptor (mv_TX a k).2.2.1 = some (mv_TY a k)) tyX0_ok tyX1_ok tyX2_ok tyX3_ok tyX4_ok tyX5_ok tyX6_ok ha
theorem mv_unm {a : Nat} (ha : a < 7) : ∀ x, x < mv_nf a → ∀ y, y < mv_nf a → x ≠ y → (mv_TX a x).2.1 ≠ (mv_TX a y).2.1 := mv_7 (P := fun a => ∀ x, x < mv_nf a → ∀ y, y < mv_nf a → x ≠ y → (mv_TX a x).2.1 ≠ (mv_TX a y).2.1) nmX0 nmX1 nmX2 nmX3 nmX4 nmX5 nmX6 ha
theorem mv_fty : ∀ a, a < 7 → ∀ b, b < mv_nf a → (mv_fk a b = 0 → mv_TY a b = .int) ∧ (mv_fk a b = 3 → mv_TY a b = .boolean) ∧ (mv_fk a b = 2 → mv_TY a b = .object "UnclesByWard$Law") := by decide +kernel
section
variable {p : Program} {l : Launch} {e : Env} {R : Room} {s : State} {m : MethodId} {args : Array Value} {below : List Frame} {meth : Method} {c : Code} {cells slots : Nat} {Q : State → Prop}
variable {ad : Nat → Nat} {cA : Nat → ClassId} {D : va_G} {x0 : Value} {L : Nat} {xs : Nat → Int32} {A : Nat → Prop} {d y : Nat}
variable {K : Nat} {n pc pc2 pc' a b w len idx : Nat} {z : Int} {ls st ls' st' : List mv_V} {M M' : mv_M}
theorem mv_s_push {z : Int} (hz : mv_n32 z) (row : ∀ (H : Heap) (locs : List Loc) (lsA : Array Slot) (rest : List Value), W p l e R s m args below meth c H locs cells slots Q (F0 m pc2 lsA (.int (Int32.ofInt z) :: rest)) → W p l e R s m args below meth c H locs cells slots Q (F0 m pc lsA rest))
    (k : mv_Se K p l e R s m args below meth c cells slots Q ad cA D x0 L xs A n pc2 ls (mv_I z :: st) M) : mv_Se K p l e R s m args below meth c cells slots Q ad cA D x0 L xs A n pc ls st M :=
  fun H locs lsA hn hW hl nl ns => row H locs lsA _ (k H locs lsA hn hW hl nl (mv_nc.mpr ⟨hz, ns⟩))
theorem mv_s_pushl {z : Int} (hz : mv_n64 z) (row : ∀ (H : Heap) (locs : List Loc) (lsA : Array Slot) (rest : List Value), W p l e R s m args below meth c H locs cells slots Q (F0 m pc2 lsA (.long (Int64.ofInt z) :: rest)) → W p l e R s m args below meth c H locs cells slots Q (F0 m pc lsA rest))
    (k : mv_Se K p l e R s m args below meth c cells slots Q ad cA D x0 L xs A n pc2 ls (mv_L z :: st) M) : mv_Se K p l e R s m args below meth c cells slots Q ad cA D x0 L xs A n pc ls st M :=
  fun H locs lsA hn hW hl nl ns => row H locs lsA _ (k H locs lsA hn hW hl nl (mv_nc.mpr ⟨hz, ns⟩))
theorem mv_s_bin (hx0 : x0 = .null ∨ ∃ t, x0 = .ref t) {f : Int → Int → Int} {g : Int32 → Int32 → Int32} (hfg : ∀ x y, mv_n32 x → mv_n32 y → Int32.ofInt (f x y) = g (Int32.ofInt x) (Int32.ofInt y) ∧ mv_n32 (f x y))
    (row : ∀ (H : Heap) (locs : List Loc) (lsA : Array Slot) (rest : List Value) (x y : Int32), lsA.size = n → (rest.map fun v => v.category).sum ≤ mv_cats st → W p l e R s m args below meth c H locs cells slots Q (F0 m pc2 lsA (.int (g x y) :: rest)) → W p l e R s m args below meth c H locs cells slots Q (F0 m pc lsA (.int y :: .int x :: rest)))
    (h : mv_bin f pc2 ls st M = some (pc', ls', st', M')) (k : mv_Se K p l e R s m args below meth c cells slots Q ad cA D x0 L xs A n pc' ls' st' M') : mv_Se K p l e R s m args below meth c cells slots Q ad cA D x0 L xs A n pc ls st M := by
  rcases st with _ | ⟨v1, st⟩
  · cases h
  rcases v1 with y | y | y | y <;> try cases h
  rcases st with _ | ⟨v2, r⟩
  · cases h
  rcases v2 with x | x | x | x <;> cases h
  intro H locs lsA hn hW hl nl ns
  obtain ⟨ny, ns⟩ := mv_nc.mp ns
  obtain ⟨nx, nr⟩ := mv_nc.mp ns
  obtain ⟨h1, h2⟩ := hfg x y nx ny
  have q := k H locs lsA hn hW hl nl (mv_nc.mpr ⟨h2, nr⟩)
  refine row H locs lsA _ _ _ (hl.1.trans hn) (by rw [mv_catl hx0]; show _ ≤ mv_cat _ + (mv_cat _ + _); omega) ?_
  rw [← h1]
  exact q
theorem mv_s_una {f : Int → Int} {g : Int32 → Int32} (hfg : ∀ x, mv_n32 x → Int32.ofInt (f x) = g (Int32.ofInt x) ∧ mv_n32 (f x))
    (row : ∀ (H : Heap) (locs : List Loc) (lsA : Array Slot) (rest : List Value) (x : Int32), W p l e R s m args below meth c H locs cells slots Q (F0 m pc2 lsA (.int (g x) :: rest)) → W p l e R s m args below meth c H locs cells slots Q (F0 m pc lsA (.int x :: rest)))
    (h : mv_una f pc2 ls st M = some (pc', ls', st', M')) (k : mv_Se K p l e R s m args below meth c cells slots Q ad cA D x0 L xs A n pc' ls' st' M') : mv_Se K p l e R s m args below meth c cells slots Q ad cA D x0 L xs A n pc ls st M := by
  rcases st with _ | ⟨v1, r⟩
  · cases h
  rcases v1 with x | x | x | x <;> cases h
  intro H locs lsA hn hW hl nl ns
  obtain ⟨nx, nr⟩ := mv_nc.mp ns
  obtain ⟨h1, h2⟩ := hfg x nx
  have q := k H locs lsA hn hW hl nl (mv_nc.mpr ⟨h2, nr⟩)
  refine row H locs lsA _ _ ?_
  rw [← h1]
  exact q
theorem mv_s_bnl (hx0 : x0 = .null ∨ ∃ t, x0 = .ref t) {f : Int → Int → Int} {g : Int64 → Int64 → Int64} (hfg : ∀ x y, mv_n64 x → mv_n64 y → Int64.ofInt (f x y) = g (Int64.ofInt x) (Int64.ofInt y) ∧ mv_n64 (f x y))
    (row : ∀ (H : Heap) (locs : List Loc) (lsA : Array Slot) (rest : List Value) (x y : Int64), lsA.size = n → (rest.map fun v => v.category).sum ≤ mv_cats st → W p l e R s m args below meth c H locs cells slots Q (F0 m pc2 lsA (.long (g x y) :: rest)) → W p l e R s m args below meth c H locs cells slots Q (F0 m pc lsA (.long y :: .long x :: rest)))
    (h : mv_bnl f pc2 ls st M = some (pc', ls', st', M')) (k : mv_Se K p l e R s m args below meth c cells slots Q ad cA D x0 L xs A n pc' ls' st' M') : mv_Se K p l e R s m args below meth c cells slots Q ad cA D x0 L xs A n pc ls st M := by
  rcases st with _ | ⟨v1, st⟩
  · cases h
  rcases v1 with y | y | y | y <;> try cases h
  rcases st with _ | ⟨v2, r⟩
  · cases h
  rcases v2 with x | x | x | x <;> cases h
  intro H locs lsA hn hW hl nl ns
  obtain ⟨ny, ns⟩ := mv_nc.mp ns
  obtain ⟨nx, nr⟩ := mv_nc.mp ns
  obtain ⟨h1, h2⟩ := hfg x y nx ny
  have q := k H locs lsA hn hW hl nl (mv_nc.mpr ⟨h2, nr⟩)
  refine row H locs lsA _ _ _ (hl.1.trans hn) (by rw [mv_catl hx0]; show _ ≤ mv_cat _ + (mv_cat _ + _); omega) ?_
  rw [← h1]
  exact q
theorem mv_s_ldi (row : ∀ (H : Heap) (locs : List Loc) (lsA : Array Slot) (rest : List Value) (x : Int32), lsA[a]? = some (.val (.int x)) → W p l e R s m args below meth c H locs cells slots Q (F0 m pc2 lsA (.int x :: rest)) → W p l e R s m args below meth c H locs cells slots Q (F0 m pc lsA rest))
    (h : mv_ldi a pc2 ls st M = some (pc', ls', st', M')) (k : mv_Se K p l e R s m args below meth c cells slots Q ad cA D x0 L xs A n pc' ls' st' M') : mv_Se K p l e R s m args below meth c cells slots Q ad cA D x0 L xs A n pc ls st M := by
  unfold mv_ldi at h
  cases hv : mv_nth ls a with
  | inl x =>
    rw [hv] at h
    cases h
    intro H locs lsA hn hW hl nl ns
    have hne : mv_I x ≠ mv_U := fun z => by cases z
    exact row H locs lsA _ _ (hl.2.2 a _ (mv_nth_at hne ls a hv) hne) (k H locs lsA hn hW hl nl (mv_nc.mpr ⟨mv_nL_nth nl hne hv, ns⟩))
  | inr q => rw [hv] at h; cases h
theorem mv_s_ldl (row : ∀ (H : Heap) (locs : List Loc) (lsA : Array Slot) (rest : List Value) (x : Int64), lsA[a]? = some (.val (.long x)) → W p l e R s m args below meth c H locs cells slots Q (F0 m pc2 lsA (.long x :: rest)) → W p l e R s m args below meth c H locs cells slots Q (F0 m pc lsA rest))
    (h : mv_ldl a pc2 ls st M = some (pc', ls', st', M')) (k : mv_Se K p l e R s m args below meth c cells slots Q ad cA D x0 L xs A n pc' ls' st' M') : mv_Se K p l e R s m args below meth c cells slots Q ad cA D x0 L xs A n pc ls st M := by
  unfold mv_ldl at h
  rcases hv : mv_nth ls a with x | x | q
  · rw [hv] at h; cases h
  · rw [hv] at h
    cases h
    intro H locs lsA hn hW hl nl ns
    have hne : mv_L x ≠ mv_U := fun z => by cases z
    exact row H locs lsA _ _ (hl.2.2 a _ (mv_nth_at hne ls a hv) hne) (k H locs lsA hn hW hl nl (mv_nc.mpr ⟨mv_nL_nth nl hne hv, ns⟩))
  · rw [hv] at h; cases h
theorem mv_s_lda (row : ∀ (H : Heap) (locs : List Loc) (lsA : Array Slot) (rest : List Value) (x : Nat), lsA[a]? = some (.val (.ref x)) → W p l e R s m args below meth c H locs cells slots Q (F0 m pc2 lsA (.ref x :: rest)) → W p l e R s m args below meth c H locs cells slots Q (F0 m pc lsA rest))
    (rowN : ∀ (H : Heap) (locs : List Loc) (lsA : Array Slot) (rest : List Value), lsA[a]? = some (.val .null) → W p l e R s m args below meth c H locs cells slots Q (F0 m pc2 lsA (.null :: rest)) → W p l e R s m args below meth c H locs cells slots Q (F0 m pc lsA rest))
    (h : mv_lda a pc2 ls st M = some (pc', ls', st', M')) (k : mv_Se K p l e R s m args below meth c cells slots Q ad cA D x0 L xs A n pc' ls' st' M') : mv_Se K p l e R s m args below meth c cells slots Q ad cA D x0 L xs A n pc ls st M := by
  unfold mv_lda at h
  rcases hv : mv_nth ls a with x | x | x | x
  · rw [hv] at h; cases h
  · rw [hv] at h; cases h
  · rw [hv] at h
    cases h
    intro H locs lsA hn hW hl nl ns
    have hne : mv_R x ≠ mv_U := fun z => by cases z
    exact row H locs lsA _ _ (hl.2.2 a _ (mv_nth_at hne ls a hv) hne) (k H locs lsA hn hW hl nl (mv_nc.mpr ⟨mv_nL_nth nl hne hv, ns⟩))
  · match x, hv with
    | 0, hv =>
      rw [hv] at h
      cases h
      intro H locs lsA hn hW hl nl ns
      have hne : mv_N ≠ mv_U := fun z => by cases z
      exact rowN H locs lsA _ (hl.2.2 a _ (mv_nth_at hne ls a hv) hne) (k H locs lsA hn hW hl nl (mv_nc.mpr ⟨trivial, ns⟩))
    | x + 1, hv => rw [hv] at h; cases h
theorem mv_s_sti (hx : x0 = .null ∨ ∃ t, x0 = .ref t)
    (row : ∀ (H : Heap) (locs : List Loc) (lsA : Array Slot) (rest : List Value) (x : Int32) (lv : List (Nat × Value)), lv_has lsA n lv → (∀ ls' : Array Slot, lv_has ls' n ((a, Value.int x) :: lv.filter (fun q => !(q.1 == a) && !(q.1 + 1 == a && q.2.category == 2))) → W p l e R s m args below meth c H locs cells slots Q (F0 m pc2 ls' rest)) → W p l e R s m args below meth c H locs cells slots Q (F0 m pc lsA (.int x :: rest)))
    (h : mv_sti a pc2 ls st M = some (pc', ls', st', M')) (k : mv_Se K p l e R s m args below meth c cells slots Q ad cA D x0 L xs A n pc' ls' st' M') : mv_Se K p l e R s m args below meth c cells slots Q ad cA D x0 L xs A n pc ls st M := by
  rcases st with _ | ⟨v1, r⟩
  · cases h
  rcases v1 with x | x | x | x <;> try cases h
  simp only [mv_sti] at h
  cases hL : mv_isL (mv_nth ls (a - 1)) with
  | true => rw [hL] at h; cases h
  | false =>
    rw [hL] at h
    cases h
    intro H locs lsA hn hW hl nl ns
    obtain ⟨nx, nr⟩ := mv_nc.mp ns
    exact row H locs lsA _ _ _ (hl.has hn) (fun ls' h' => k H locs ls' (by rw [mv_set_len]; exact hn) hW (mv_lr_st1 (v := mv_I x) hx hn hL h') (mv_nL_set nx nl) nr)
theorem mv_s_stl (hx : x0 = .null ∨ ∃ t, x0 = .ref t)
    (row : ∀ (H : Heap) (locs : List Loc) (lsA : Array Slot) (rest : List Value) (x : Int64) (lv : List (Nat × Value)), lv_has lsA n lv → (∀ ls' : Array Slot, lv_has ls' n ((a, Value.long x) :: lv.filter (fun q => !(q.1 == a) && (!(q.1 == a + 1) && !(q.1 + 1 == a && q.2.category == 2)))) → W p l e R s m args below meth c H locs cells slots Q (F0 m pc2 ls' rest)) → W p l e R s m args below meth c H locs cells slots Q (F0 m pc lsA (.long x :: rest)))
    (h : mv_stl a pc2 ls st M = some (pc', ls', st', M')) (k : mv_Se K p l e R s m args below meth c cells slots Q ad cA D x0 L xs A n pc' ls' st' M') : mv_Se K p l e R s m args below meth c cells slots Q ad cA D x0 L xs A n pc ls st M := by
  rcases st with _ | ⟨v1, r⟩
  · cases h
  rcases v1 with x | x | x | x <;> try cases h
  simp only [mv_stl] at h
  cases hL : mv_isL (mv_nth ls (a - 1)) with
  | true => rw [hL] at h; cases h
  | false =>
    rw [hL] at h
    cases h
    intro H locs lsA hn hW hl nl ns
    obtain ⟨nx, nr⟩ := mv_nc.mp ns
    exact row H locs lsA _ _ _ (hl.has hn) (fun ls' h' => k H locs ls' (by rw [mv_set_len, mv_set_len]; exact hn) hW (mv_lr_st2 hx hn hL h') (mv_nL_set trivial (mv_nL_set nx nl)) nr)
theorem mv_s_sta (hx : x0 = .null ∨ ∃ t, x0 = .ref t)
    (row : ∀ (H : Heap) (locs : List Loc) (lsA : Array Slot) (rest : List Value) (x : Nat) (lv : List (Nat × Value)), lv_has lsA n lv → (∀ ls' : Array Slot, lv_has ls' n ((a, Value.ref x) :: lv.filter (fun q => !(q.1 == a) && !(q.1 + 1 == a && q.2.category == 2))) → W p l e R s m args below meth c H locs cells slots Q (F0 m pc2 ls' rest)) → W p l e R s m args below meth c H locs cells slots Q (F0 m pc lsA (.ref x :: rest)))
    (rowN : ∀ (H : Heap) (locs : List Loc) (lsA : Array Slot) (rest : List Value) (lv : List (Nat × Value)), lv_has lsA n lv → (∀ ls' : Array Slot, lv_has ls' n ((a, Value.null) :: lv.filter (fun q => !(q.1 == a) && !(q.1 + 1 == a && q.2.category == 2))) → W p l e R s m args below meth c H locs cells slots Q (F0 m pc2 ls' rest)) → W p l e R s m args below meth c H locs cells slots Q (F0 m pc lsA (.null :: rest)))
    (h : mv_sta a pc2 ls st M = some (pc', ls', st', M')) (k : mv_Se K p l e R s m args below meth c cells slots Q ad cA D x0 L xs A n pc' ls' st' M') : mv_Se K p l e R s m args below meth c cells slots Q ad cA D x0 L xs A n pc ls st M := by
  rcases st with _ | ⟨v1, r⟩
  · cases h
  rcases v1 with x | x | x | x
  · cases h
  · cases h
  · simp only [mv_sta] at h
    cases hL : mv_isL (mv_nth ls (a - 1)) with
    | true => rw [hL] at h; cases h
    | false =>
      rw [hL] at h
      cases h
      intro H locs lsA hn hW hl nl ns
      obtain ⟨nx, nr⟩ := mv_nc.mp ns
      exact row H locs lsA _ _ _ (hl.has hn) (fun ls' h' => k H locs ls' (by rw [mv_set_len]; exact hn) hW (mv_lr_st1 (v := mv_R x) hx hn hL h') (mv_nL_set nx nl) nr)
  · match x, h with
    | 0, h =>
      simp only [mv_sta] at h
      cases hL : mv_isL (mv_nth ls (a - 1)) with
      | true => rw [hL] at h; cases h
      | false =>
        rw [hL] at h
        cases h
        intro H locs lsA hn hW hl nl ns
        obtain ⟨nx, nr⟩ := mv_nc.mp ns
        exact rowN H locs lsA _ _ (hl.has hn) (fun ls' h' => k H locs ls' (by rw [mv_set_len]; exact hn) hW (mv_lr_st1 (v := mv_N) hx hn hL h') (mv_nL_set nx nl) nr)
    | x + 1, h => cases h
theorem mv_s_inc (hx : x0 = .null ∨ ∃ t, x0 = .ref t)
    (row : ∀ (H : Heap) (locs : List Loc) (lsA : Array Slot) (rest : List Value) (x v : Int32) (lv : List (Nat × Value)) (k9 : Nat), lv_has lsA n lv → lv[k9]? = some (a, .int x) → x + Int32.ofInt z = v → (∀ ls' : Array Slot, lv_has ls' n ((a, Value.int v) :: lv.filter (fun q => !(q.1 == a) && !(q.1 + 1 == a && q.2.category == 2))) → W p l e R s m args below meth c H locs cells slots Q (F0 m pc2 ls' rest)) → W p l e R s m args below meth c H locs cells slots Q (F0 m pc lsA rest))
    (h : mv_inc a z pc2 ls st M = some (pc', ls', st', M')) (k : mv_Se K p l e R s m args below meth c cells slots Q ad cA D x0 L xs A n pc' ls' st' M') : mv_Se K p l e R s m args below meth c cells slots Q ad cA D x0 L xs A n pc ls st M := by
  unfold mv_inc at h
  cases hv : mv_nth ls a with
  | inr q => rw [hv] at h; cases h
  | inl x =>
    rw [hv] at h
    dsimp only at h
    cases hL : mv_isL (mv_nth ls (a - 1)) with
    | true => rw [hL] at h; cases h
    | false =>
      rw [hL] at h
      cases h
      intro H locs lsA hn hW hl nl ns
      have hne : mv_I x ≠ mv_U := fun z => by cases z
      obtain ⟨k9, hk9⟩ := List.getElem?_of_mem (mv_lvl_in (ad := ad) (x0 := x0) (mv_nth_at hne ls a hv) hne)
      refine row H locs lsA _ (Int32.ofInt x) (Int32.ofInt (mv_w (x + z))) _ k9 (hl.has hn) hk9 (by rw [mv_w_of, Int32.ofInt_add]) (fun ls' h' => ?_)
      exact k H locs ls' (by rw [mv_set_len]; exact hn) hW (mv_lr_st1 (v := mv_I (mv_w (x + z))) hx hn hL h') (mv_nL_set (mv_w_n _) nl) ns
end
