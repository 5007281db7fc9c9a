/-! calls, and the whole: where mv_x comes to its end, the claim's machine does -/
def mv_rv (ad : Nat → Nat) (x0 : Value) (v : mv_V) : Option Value := match v with
  | .inr (.inr (.inr 1)) => none
  | _ => some (mv_v ad x0 v)
theorem mv_psv (ad : Nat → Nat) (x0 : Value) (v : mv_V) (st : List mv_V) : (mv_psh v st).map (mv_v ad x0) = (mv_rv ad x0 v).toList ++ st.map (mv_v ad x0) := by
  rcases v with z | z | i | k
  · rfl
  · rfl
  · rfl
  · match k with
    | 0 => rfl
    | 1 => rfl
    | k + 2 => rfl
theorem mv_psn {K : Nat} {v : mv_V} {st : List mv_V} (hv : mv_nV K v) (hs : mv_nL K st) : mv_nL K (mv_psh v st) := by
  rcases v with z | z | i | k
  · exact mv_nc.mpr ⟨hv, hs⟩
  · exact mv_nc.mpr ⟨hv, hs⟩
  · exact mv_nc.mpr ⟨hv, hs⟩
  · match k with
    | 0 => exact mv_nc.mpr ⟨hv, hs⟩
    | 1 => exact hs
    | k + 2 => exact mv_nc.mpr ⟨hv, hs⟩
/-- the locals at a method's entry -/
theorem mv_lay_args {ad : Nat → Nat} {x0 : Value} (hx : x0 = .null ∨ ∃ t, x0 = .ref t) : ∀ (vs : List mv_V) (o i : Nat) (v : mv_V), (mv_lay vs)[i]? = some v → v ≠ mv_U → (o + i, mv_v ad x0 v) ∈ lv_args o (vs.map (mv_v ad x0))
  | [], o, i, v, h, _ => by cases h
  | w :: vs, o, i, v, h, hv => by
    rcases w with z | z | q
    · rw [List.map_cons, lv_args]
      match i, h with
      | 0, h => cases h; exact List.mem_cons_self
      | i + 1, h =>
        refine List.mem_cons_of_mem _ ?_
        have := mv_lay_args (ad := ad) hx vs (o + 1) i v h hv
        rw [(show o + (i + 1) = o + 1 + i by omega)]
        exact this
    · rw [List.map_cons, lv_args]
      match i, h with
      | 0, h => cases h; exact List.mem_cons_self
      | 1, h => cases h; exact absurd rfl hv
      | i + 2, h =>
        refine List.mem_cons_of_mem _ ?_
        have := mv_lay_args (ad := ad) hx vs (o + 2) i v h hv
        rw [(show o + (i + 2) = o + 2 + i by omega)]
        exact this
    · rw [List.map_cons, lv_args]
      have hc : ¬ (mv_v ad x0 (.inr (.inr q))).category = 2 := by rw [mv_cat1 hx rfl]; decide
      rw [if_neg hc]
      match i, h with
      | 0, h => cases h; exact List.mem_cons_self
      | i + 1, h =>
        refine List.mem_cons_of_mem _ ?_
        have := mv_lay_args (ad := ad) hx vs (o + 1) i v h hv
        rw [(show o + (i + 1) = o + 1 + i by omega)]
        exact this
theorem mv_lay_len {ad : Nat → Nat} {x0 : Value} (hx : x0 = .null ∨ ∃ t, x0 = .ref t) : ∀ (vs : List mv_V), (lg_sl (vs.map (mv_v ad x0))).length = (mv_lay vs).length
  | [] => rfl
  | w :: vs => by
    have ih := mv_lay_len (ad := ad) hx vs
    unfold lg_sl at ih ⊢
    rw [List.map_cons, List.flatMap_cons, List.length_append, ih]
    rcases w with z | z | q
    · show 1 + _ = _ + 1; omega
    · show 2 + _ = _ + 1 + 1; omega
    · have hc : ¬ (mv_v ad x0 (.inr (.inr q))).category = 2 := by rw [mv_cat1 hx rfl]; decide
      rw [if_neg hc]
      show 1 + _ = _ + 1; omega
theorem mv_pad_at {v : mv_V} (hv : v ≠ mv_U) : ∀ (n : Nat) (l : List mv_V) (i : Nat), (mv_pad n l)[i]? = some v → l[i]? = some v
  | 0, _, _, h => h
  | n + 1, [], 0, h => by cases h; exact absurd rfl hv
  | n + 1, [], i + 1, h => by have := mv_pad_at hv n [] i h; cases this
  | n + 1, w :: l, 0, h => h
  | n + 1, w :: l, i + 1, h => mv_pad_at hv n l i h
theorem mv_pad_len : ∀ (n : Nat) (l : List mv_V), l.length ≤ n → (mv_pad n l).length = n
  | 0, l, h => by show l.length = 0; omega
  | n + 1, [], _ => congrArg (· + 1) (mv_pad_len n [] (Nat.zero_le _))
  | n + 1, w :: l, h => congrArg (· + 1) (mv_pad_len n l (Nat.le_of_succ_le_succ h))
theorem mv_nL_lay {K : Nat} : ∀ (vs : List mv_V), mv_nL K vs → mv_nL K (mv_lay vs)
  | [], h => h
  | w :: vs, h => by
    obtain ⟨h1, h2⟩ := mv_nc.mp h
    have ih := mv_nL_lay vs h2
    rcases w with z | z | q
    · exact mv_nc.mpr ⟨h1, ih⟩
    · exact mv_nc.mpr ⟨h1, mv_nc.mpr ⟨trivial, ih⟩⟩
    · exact mv_nc.mpr ⟨h1, ih⟩
theorem mv_nL_ent {K : Nat} {n : Nat} {vs : List mv_V} (h : mv_nL K vs) : mv_nL K (mv_ent n vs) := by
  intro v hv
  rcases mv_isU v with rfl | hne
  · exact trivial
  · obtain ⟨i, hi⟩ := List.getElem?_of_mem hv
    exact mv_nL_lay vs h v (List.mem_of_getElem? (mv_pad_at hne _ _ i hi))
theorem mv_lr_ent {ad : Nat → Nat} {x0 : Value} (hx : x0 = .null ∨ ∃ t, x0 = .ref t) {vs : List mv_V} {n : Nat} (hl : (mv_lay vs).length ≤ n) {lsA : Array Slot} (h : lv_has lsA n (lv_args 0 (vs.map (mv_v ad x0)))) : mv_lr ad x0 (mv_ent n vs) lsA := by
  refine ⟨h.1.trans (mv_pad_len n _ hl).symm, h.2.1, fun i v hi hv => ?_⟩
  have := mv_lay_args (ad := ad) hx vs 0 i v (mv_pad_at hv _ _ i hi) hv
  have := h.2.2 _ this
  simpa using this
/-- what a method answers -/
def mv_Q (K : Nat) (ad : Nat → Nat) (cA : Nat → ClassId) (D : va_G) (x0 : Value) (L : Nat) (xs : Nat → Int32) (A : Nat → Prop) (v : mv_V) (M' : mv_M) : Array Value → State → Outcome → State → Prop := fun _ st oc t =>
  (oc = .returned (mv_rv ad x0 v) ∧ va_P D mv_cl7 (mv_ws K ad cA M') t.heap ∧ va_D A (mv_ws K ad cA M') ∧ mv_nM K M' ∧ mv_Sc L xs M' ∧ mv_nV K v) ∧ va_F A st t
def mv_Pr (K : Nat) (ad : Nat → Nat) (cA : Nat → ClassId) (D : va_G) (x0 : Value) (L : Nat) (xs : Nat → Int32) (M : mv_M) (sz : Nat) (U : State) : Prop :=
  U.heap.size = sz ∧ va_P D mv_cl7 (mv_ws K ad cA M) U.heap ∧ va_K D mv_cl7 (mv_tys K cA) U ∧ va_D (fun _ => True) (mv_ws K ad cA M) ∧ mv_AW U ∧ mv_F ad x0 L xs (va_A (mv_ws K ad cA M) sz) U U.heap ∧ mv_Fr ad U ∧ mv_nM K M ∧ mv_Sc L xs M
section
variable {p : Program} {l : Launch} {e : Env} {R : Room} {s : State} {m : MethodId} {args : Array Value} {below : List Frame} {meth : Method} {c : Code} {cells slots : Nat} {Q : State → Prop}
variable {ad : Nat → Nat} {cA : Nat → ClassId} {D : va_G} {x0 : Value} {L : Nat} {xs : Nat → Int32} {A : Nat → Prop} {d y : Nat}
variable {K : Nat} {n pc pc2 pc' a b w len idx : Nat} {z : Int} {ls st ls' st' : List mv_V} {M M' : mv_M} {cc : ByteArray}
theorem mv_callk {H : Heap} {locs : List Loc} {A0 A1 : Nat → Prop} {H0 : Heap} {lsA : Array Slot} {st0 rest : List Value} {av : Array Value} {v : mv_V} {free : Addr → Prop} (hr : va_Run p l e R s m args below meth c H locs cells slots 0 0 (F0 m pc lsA st0) rest (mv_Q K ad cA D x0 L xs A1 v M' av) free) (hS : va_S A0 H0 H locs) (hA : ∀ q, A1 q → A0 q) (hf : ∀ q, free q → A0 q)
    (kk : ∀ (H1 : Heap) (locs1 : List Loc), va_P D mv_cl7 (mv_ws K ad cA M') H1 → va_D A0 (mv_ws K ad cA M') → va_S A0 H0 H1 locs1 → mv_nM K M' → mv_Sc L xs M' → mv_nV K v → W p l e R s m args below meth c H1 locs1 cells slots Q (F0 m (pc + 3) lsA ((mv_rv ad x0 v).toList ++ rest))) : W p l e R s m args below meth c H locs cells slots Q (F0 m pc lsA st0) := by
  intro T hT X
  obtain ⟨v9, st₀, t, T', L9, h0, X', hL, e1, e2, ⟨⟨hv, hP, hD, h3, h4, h5⟩, hz, hk⟩, st⟩ := hr T hT X
  cases hv
  rw [h0] at hz hk
  obtain ⟨t2, a1, b1⟩ := kk T'.heap (locs ++ L9) (by rw [e1]; exact hP) (hD.weaken (fun _ q _ h => hA q.1 h))
    ⟨Nat.le_trans hS.1 (by rw [e1]; exact hz), fun q h1 h2 => by rw [e1, hk q (Nat.lt_of_lt_of_le h1 hS.1) (fun z => h2 (hA q z))]; exact hS.2.1 q h1 h2, fun q hq => by
      rcases List.mem_append.mp hq with h | h
      · exact hS.2.2 q h
      · exact hf _ (hL q h)⟩ h3 h4 h5 T' rfl X'
  exact ⟨t2, st t2 a1, b1⟩
theorem mv_blind (sz : Nat) (vs : List Value) : FrameBlind (va_Pc vs (mv_Pr K ad cA D x0 L xs M sz)) := by
  intro a9 U g mk q
  obtain ⟨q0, q1, q2, q3, q4, q5, q6, q7, q8, q9⟩ := q
  have hv : U.vm = (U.calling g mk a9).vm := rfl
  exact ⟨q0, q1, q2, va_K.moved (u := U) (U := U.calling g mk a9) (Vm.Alike.refl U.vm) q3, q4, mv_AW.same hv q5, (mv_F.moved (u := U) (U := U.calling g mk a9) (Vm.Alike.refl U.vm) q6), mv_Fr.same hv.symm q7, q8, q9⟩
theorem mv_prec (cx : mv_Cx K p R s m args c cells slots ad cA D x0 L xs A d y) {H : Heap} {locs : List Loc} (hW : mv_Wd K ad cA D L xs A s H locs M) {U : State} (hU : U.heap = H) (hw : s.WarmedH U.vm) : mv_Pr K ad cA D x0 L xs M H.size U := by
  obtain ⟨hx, hb, hml, hown, hts, hK, hF, hFr, hA, -⟩ := cx
  refine ⟨by rw [hU], by rw [hU]; exact hW.1, hK.moved hw.alike, hW.2.1.weaken (fun _ _ _ _ => trivial), (mv_AW.of hts).warm hw, ?_, hFr.warm hw, hW.2.2.2.1, hW.2.2.2.2⟩
  rw [hU]
  refine ((hF.kept hW.2.2.1.2.1).moved hw.alike).narrow (fun q hq => ?_)
  rcases hq with ⟨k9, e9, h9⟩ | h9
  · exact hW.2.1.2 k9 _ h9
  · exact hA q (Nat.le_trans hW.2.2.1.1 h9)
theorem mv_codegood (y : Nat) (h : Jvm.Cond.code (mv_yn y) (mv_yb y) (mv_nl y) (mv_yr y) ∈ mv_T) : GoodIn mv_T [.code (mv_yn y) (mv_yb y) (mv_nl y) (mv_yr y)] := by
  intro w9 hw
  have e9 := List.mem_singleton.mp hw
  subst e9
  exact ⟨h, Or.inl rfl⟩
abbrev mv_rm (d : Nat) : Room := { frames := d + 1, cells := 0, slots := 0, locals := 45 * (d + 1) }
/-- a call by number: from the callee's contract -/
theorem mv_s_call (cx : mv_Cx K p R s m args c cells slots ad cA D x0 L xs A (d + 1) y) (hny : n = mv_nl y) {i : Instr} {kd : Nat} (hkd : Nat.beq kd 0 = false) (hkd3 : Nat.beq kd 3 = false) (hck : mv_ck y pc i kd len a b w z = true) (hmk : ∀ a, a < 208 → mv_mk a = true)
    (hg : (mv_rcv kd a (st.take b).reverse && Nat.ble b st.length && Nat.ble (mv_cats (st.drop b)) 8 && Nat.ble (mv_lay (st.take b).reverse).length (mv_nl a)) = true) {v : mv_V}
    (hM : ∀ sz : Nat, Met l (mv_yn a) [.code (mv_yn a) (mv_yb a) (mv_nl a) (mv_yr a)] (mv_rm d) (va_Pc ((st.take b).reverse.map (mv_v ad x0)) (mv_Pr K ad cA D x0 L xs M sz)) (mv_Q K ad cA D x0 L xs (va_A (mv_ws K ad cA M) sz) v M') 0 0 (va_A (mv_ws K ad cA M) sz))
    (k : mv_Se K p l e R s m args below meth c cells slots Q ad cA D x0 L xs A n (pc + len) ls (mv_psh v (st.drop b)) M') : mv_Se K p l e R s m args below meth c cells slots Q ad cA D x0 L xs A n pc ls st M := by
  have cx0 := cx
  obtain ⟨hx, hb, hml, hown, hts, hK, hF, hFr, hA, hfr, hlo, hce, hsl, hx0⟩ := cx0
  unfold mv_ck at hck
  obtain ⟨hd, hck⟩ := mv_a1 hck
  have hd := of_decide_eq_true hd
  obtain ⟨hg, hg4⟩ := mv_a1 hg
  obtain ⟨hg, hg3⟩ := mv_a1 hg
  obtain ⟨hg1, hg2⟩ := mv_a1 hg
  have hg2 := Nat.le_of_ble_eq_true hg2
  have hg3 := Nat.le_of_ble_eq_true hg3
  have facts : a < 208 → Jvm.Cond.code (mv_yn a) (mv_yb a) (mv_nl a) (mv_yr a) ∈ mv_T ∧ Jvm.Cond.initialized (mv_yn a).cls ∈ mv_T ∧ ((mv_yn a).cls ≠ "java/lang/invoke/MethodHandle" ∧ (mv_yn a).cls ≠ "java/lang/invoke/VarHandle") ∧ (parseMethodDescriptor (mv_yn a).desc).map (fun d => d.parameters.length) = some (mv_ar a) ∧ mv_nl a ≤ 20 ∧ (mv_yc a = 98 ∨ (mv_yn a).cls = (bif Nat.beq (mv_yc a) 7 then "java/lang/String" else mv_RX (mv_yc a))) := by
    intro ha
    have h := hmk a ha
    unfold mv_mk at h
    obtain ⟨h, h6⟩ := mv_a1 h
    obtain ⟨h, h5⟩ := mv_a1 h
    obtain ⟨h, h4⟩ := mv_a1 h
    obtain ⟨h, h3⟩ := mv_a1 h
    obtain ⟨h, h2⟩ := mv_a1 h
    obtain ⟨h, h1⟩ := mv_a1 h
    refine ⟨mv_in h1, mv_in h2, of_decide_eq_true h3, of_decide_eq_true h4, Nat.le_of_ble_eq_true h5, ?_⟩
    rcases (Bool.or_eq_true _ _).mp h6 with h7 | h7
    · exact Or.inl (mv_beq h7)
    · exact Or.inr (of_decide_eq_true h7)
  have hsplit : st = st.take b ++ st.drop b := (List.take_append_drop b st).symm
  have hAsub : ∀ (H : Heap) (locs : List Loc), mv_Wd K ad cA D L xs A s H locs M → ∀ q, va_A (mv_ws K ad cA M) H.size q → A q := by
    intro H locs hW q hq
    rcases hq with ⟨k9, e9, h9⟩ | h9
    · exact hW.2.1.2 k9 _ h9
    · exact hA q (Nat.le_trans hW.2.2.1.1 h9)
  have back : ∀ (H : Heap) (locs : List Loc) (lsA : Array Slot) (st0 : List Value), ls.length = n → mv_Wd K ad cA D L xs A s H locs M → mv_lr ad x0 ls lsA → mv_nL K ls → mv_nL K st → len = 3 → va_Run p l e R s m args below meth c H locs cells slots 0 0 (F0 m pc lsA st0) ((st.drop b).map (mv_v ad x0)) (mv_Q K ad cA D x0 L xs (va_A (mv_ws K ad cA M) H.size) v M' ((st.take b).reverse.map (mv_v ad x0)).toArray) (va_A (mv_ws K ad cA M) H.size) → W p l e R s m args below meth c H locs cells slots Q (F0 m pc lsA st0) := by
    intro H locs lsA st0 hn hW hl nl ns h3 hr
    refine mv_callk hr hW.2.2.1 (hAsub H locs hW) (hAsub H locs hW) (fun H1 locs1 hP1 hD1 hS1 h5 h6 h7 => ?_)
    have q := k H1 locs1 lsA hn ⟨hP1, hD1, hS1, h5, h6⟩ hl nl (mv_psn h7 (fun v9 h9 => ns v9 (List.mem_of_mem_drop h9)))
    rw [mv_psv, h3] at q
    exact q
  cases i
  case invokestatic idx =>
    obtain ⟨hl3, hgk⟩ := mv_a1 hck
    have hl3 := mv_beq hl3
    rw [hl3] at hd
    simp only [Bool.or_eq_true, Bool.and_eq_true] at hgk
    rcases hgk with ⟨h0, -⟩ | ⟨⟨⟨⟨h0, h1⟩, h2⟩, h4⟩, h5⟩
    · rw [h0] at hkd; cases hkd
    · obtain ⟨f1, f2, f3, f4, f5, f6⟩ := facts (mv_blt h1)
      have h2 := mv_beq h2
      intro H locs lsA hn hW hl nl ns
      have hlenA : ((st.take b).reverse.map (mv_v ad x0)).length = mv_ar a := by
        rw [List.length_map, List.length_reverse, List.length_take]; omega
      have hstk : st.map (mv_v ad x0) = ((st.take b).reverse.map (mv_v ad x0)).reverse ++ (st.drop b).map (mv_v ad x0) := by
        rw [← List.map_reverse, List.reverse_reverse, ← List.map_append, ← hsplit]
      have hpre : PreS s H (va_Pc ((st.take b).reverse.map (mv_v ad x0)) (mv_Pr K ad cA D x0 L xs M H.size)) ((st.take b).reverse.map (mv_v ad x0)) := ⟨mv_blind _ _, fun U hU hw => ⟨rfl, mv_prec cx hW hU hw⟩⟩
      refine back H locs lsA _ hn hW hl nl ns hl3 ?_
      unfold mv_ml at h4
      rcases (Bool.or_eq_true _ _).mp h4 with h4 | h4
      · exact va_runS ⟨hx, hb, hml, hown, hts⟩ (hM H.size) ⟨callB_of (mv_ar a) hts (mv_codegood a f1) rfl rfl rfl (hts _ f2) (hts _ (mv_in h4)) ⟨f3.1, f3.2, f4⟩ ⟨by show d + 1 + 1 ≤ _; omega, by show 8 + (mv_nl a + 11) + 45 * (d + 1) ≤ _; omega⟩, hts _ (mv_in h5)⟩ hpre rfl hlenA (by show lsA.size = mv_nl y; rw [hl.1, hn, hny]) hstk (lv_room (by rw [mv_catl hx0]; exact hg3)) hd ⟨hce, hsl⟩
      · exact va_runSN ⟨hx, hb, hml, hown, hts⟩ (hM H.size) ⟨va_cnB (mv_ar a) hts (mv_codegood a f1) rfl rfl rfl (va_Nw.of rfl (hts _ (mv_in h4))) (hts _ f2) ⟨f3.1, f3.2, f4⟩ ⟨by show d + 1 + 1 ≤ _; omega, by show 8 + (mv_nl a + 11) + 45 * (d + 1) ≤ _; omega⟩, hts _ (mv_in h5), trivial⟩ hpre rfl hlenA (by show lsA.size = mv_nl y; rw [hl.1, hn, hny]) hstk (lv_room (by rw [mv_catl hx0]; exact hg3)) hd ⟨hce, hsl⟩
  case invokevirtual idx =>
    simp only [Bool.and_eq_true] at hck
    obtain ⟨⟨⟨⟨⟨⟨⟨hl3, h0⟩, h1⟩, h2⟩, h4⟩, h5⟩, h6⟩, h7⟩ := hck
    have hl3 := mv_beq hl3
    rw [hl3] at hd
    obtain ⟨f1, f2, f3, f4, f5, f6⟩ := facts (mv_blt h1)
    have h2 := mv_beq h2
    have h0 := mv_beq h0
    have h7 := mv_blt h7
    have f6 : (mv_yn a).cls = (bif Nat.beq (mv_yc a) 7 then "java/lang/String" else mv_RX (mv_yc a)) := by
      rcases f6 with f6 | f6
      · omega
      · exact f6
    subst h0
    obtain ⟨i9, as9, hrec, hcl9⟩ : ∃ (i9 : Nat) (as9 : List mv_V), (st.take b).reverse = mv_R i9 :: as9 ∧ mv_cls i9 = mv_yc a := by
      unfold mv_rcv at hg1
      have : Nat.beq 1 2 = false := rfl
      rw [this] at hg1
      dsimp only [cond] at hg1
      rcases hq : (st.take b).reverse with _ | ⟨v9, as9⟩
      · rw [hq] at hg1; cases hg1
      · rw [hq] at hg1
        rcases v9 with u | u | i9 | u <;> try cases hg1
        exact ⟨i9, as9, rfl, mv_beq hg1⟩
    intro H locs lsA hn hW hl nl ns
    have hlenA : (as9.map (mv_v ad x0)).length = mv_ar a := by
      have : ((st.take b).reverse).length = b := by rw [List.length_reverse, List.length_take]; omega
      rw [hrec, List.length_cons] at this
      rw [List.length_map]; omega
    have hstk : st.map (mv_v ad x0) = (as9.map (mv_v ad x0)).reverse ++ .ref (ad i9) :: (st.drop b).map (mv_v ad x0) := by
      have e9 : st.take b = as9.reverse ++ [mv_R i9] := by
        have := congrArg List.reverse hrec
        rw [List.reverse_reverse, List.reverse_cons] at this
        exact this
      conv => lhs; rw [hsplit, e9]
      rw [List.map_append, List.map_append, List.map_reverse, List.append_assoc]
      rfl
    have hargs : (st.take b).reverse.map (mv_v ad x0) = .ref (ad i9) :: as9.map (mv_v ad x0) := by rw [hrec]; rfl
    have hrcv : ∃ cell : Cell, H[ad i9]? = some cell ∧ cell.vm.isStatics = false ∧ s.vm.findClass (mv_yn a).cls = some cell.cls := by
      by_cases h77 : mv_yc a = 7
      · rw [h77] at hcl9 f6
        obtain ⟨s1, s2⟩ := mv_cls_st hcl9
        have := vk_recv (i := i9 - 210) hF.2.2.2.2.2.2.1 (by omega) hW.2.2.1
        rw [(show 210 + (i9 - 210) = i9 by omega)] at this
        rw [f6]
        exact this
      · have h8 : mv_yc a < 7 := by omega
        obtain ⟨g1, g2, -⟩ := mv_cls_in hcl9 h8
        obtain ⟨q9, -, hq9⟩ := mv_at (K := K) (ad := ad) (cA := cA) (M := M) g1 (ns (mv_R i9) (List.mem_of_mem_take (List.mem_reverse.mp (by rw [hrec]; exact List.mem_cons_self))))
        rw [mv_ce_o g2, hcl9] at hq9
        have := va_recv hK hW.1 (mv_ucl h8) hq9
        have hb7 : Nat.beq (mv_yc a) 7 = false := by
          cases q : Nat.beq (mv_yc a) 7 with
          | false => rfl
          | true => exact absurd (mv_beq q) h77
        rw [f6, hb7]
        exact this
    have hM9 := hM H.size
    have back9 := back H locs lsA (st.map (mv_v ad x0)) hn hW hl nl ns hl3
    rw [hargs] at hM9 back9
    have hpre : PreV s H (mv_yn a).cls (ad i9) (va_Pc (.ref (ad i9) :: as9.map (mv_v ad x0)) (mv_Pr K ad cA D x0 L xs M H.size)) (as9.map (mv_v ad x0)) := ⟨mv_blind _ _, hrcv, fun U hU hw => ⟨rfl, mv_prec cx hW hU hw⟩⟩
    refine back9 ?_
    unfold mv_ml at h4
    rcases (Bool.or_eq_true _ _).mp h4 with h4 | h4
    · exact va_runV ⟨hx, hb, hml, hown, hts⟩ hM9 ⟨callB_of (mv_ar a) hts (mv_codegood a f1) rfl rfl rfl (hts _ f2) (hts _ (mv_in h4)) ⟨f3.1, f3.2, f4⟩ ⟨by show d + 1 + 1 ≤ _; omega, by show 8 + (mv_nl a + 11) + 45 * (d + 1) ≤ _; omega⟩, hts _ (mv_in h5), hts _ (mv_in h6)⟩ hpre rfl hlenA (by show lsA.size = mv_nl y; rw [hl.1, hn, hny]) hstk (lv_room (by rw [mv_catl hx0]; exact hg3)) hd ⟨hce, hsl⟩
    · exact va_runVN ⟨hx, hb, hml, hown, hts⟩ hM9 ⟨va_cnB (mv_ar a) hts (mv_codegood a f1) rfl rfl rfl (va_Nw.of rfl (hts _ (mv_in h4))) (hts _ f2) ⟨f3.1, f3.2, f4⟩ ⟨by show d + 1 + 1 ≤ _; omega, by show 8 + (mv_nl a + 11) + 45 * (d + 1) ≤ _; omega⟩, hts _ (mv_in h5), hts _ (mv_in h6)⟩ hpre rfl hlenA (by show lsA.size = mv_nl y; rw [hl.1, hn, hny]) hstk (lv_room (by rw [mv_catl hx0]; exact hg3)) hd ⟨hce, hsl⟩
  all_goals first
    | (cases hck; done)
    | (simp only [Bool.and_eq_true] at hck
       first
         | (have h9 := hck.1.1.1.1.1.1; rw [h9] at hkd; cases hkd; done)
         | (have h9 := hck.1.1.1.1.1; rw [h9] at hkd; cases hkd; done)
         | (have h9 := hck.1.1.1.1; rw [h9] at hkd; cases hkd; done)
         | (have h9 := hck.1.1.1; first | (rw [h9] at hkd; cases hkd; done) | (rw [h9] at hkd3; cases hkd3; done))
         | (have h9 := hck.1.1; first | (rw [h9] at hkd; cases hkd; done) | (rw [h9] at hkd3; cases hkd3; done))
         | (have h9 := hck.1; first | (rw [h9] at hkd; cases hkd; done) | (rw [h9] at hkd3; cases hkd3; done)))
end
