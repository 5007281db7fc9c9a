section
variable {p : Program} {l : Launch} {e : Env} {R : Room} {s : State} {m : MethodId} {args : Array Value} {below : List Frame} {meth : Method} {c : Code} {cells slots : Nat} {Q : State → Prop}
variable {ad : Nat → Nat} {cA : Nat → ClassId} {D : va_G} {x0 : Value} {L : Nat} {xs : Nat → Int32} {A : Nat → Prop} {d y : Nat}
variable {K : Nat} {n pc pc2 pc' a b w len idx : Nat} {z : Int} {ls st ls' st' : List mv_V} {M M' : mv_M} {cc : ByteArray}
/-- compares: of two -/
theorem mv_s_cm2 (hx : p.tables.exec = Jvm.exec) (hb : c.code = cc) {cn : Jvm.ClassFile.Cond} {off : Int} (hd : decode cc pc = .ok (.if_icmp cn off, 3)) (ht : (pc : Int) + off = (a : Int))
    (h : mv_cm2 cn a (pc + 3) ls st M = some (pc', ls', st', M')) (k : mv_Se K p l e R s m args below meth c cells slots Q ad cA D x0 L xs A n pc' ls' st' M') : mv_Se K p l e R s m args below meth c cells slots Q ad cA D x0 L xs A n pc ls st M := by
  rcases st with _ | ⟨v1, st⟩
  · cases h
  rcases v1 with y | y | y | y <;> try cases h
  rcases st with _ | ⟨v2, r⟩
  · cases h
  rcases v2 with x | x | x | x <;> try cases h
  intro H locs lsA hn hW hl nl ns
  obtain ⟨ny, ns⟩ := mv_nc.mp ns
  obtain ⟨nx, nr⟩ := mv_nc.mp ns
  have q := k H locs lsA hn hW hl nl nr
  have e1 := mv_eq32 nx ny
  have l1 := mv_lt32 nx ny
  have l2 := mv_lt32 ny nx
  have m1 := mv_le32 nx ny
  have m2 := mv_le32 ny nx
  cases cn
  · refine lv_icmp_eq hx hb hd ht (fun h => ?_) (fun h => ?_)
    · simpa [e1.mp h] using q
    · simpa [(show ¬ x = y from fun z => h (e1.mpr z))] using q
  · refine lv_icmp_ne hx hb hd ht (fun h => ?_) (fun h => ?_)
    · simpa [(show ¬ x = y from fun z => h (e1.mpr z))] using q
    · simpa [e1.mp h] using q
  · refine lv_icmp_lt hx hb hd ht (fun h => ?_) (fun h => ?_)
    · simpa [l1.mp h] using q
    · simpa [fun z => h (l1.mpr z), (show ¬ x < y from fun z => h (l1.mpr z))] using q
  · refine lv_icmp_ge hx hb hd ht (fun h => ?_) (fun h => ?_)
    · simpa [(show ¬ x < y from by have := m2.mp h; omega)] using q
    · simpa [(show x < y from by have : ¬ y ≤ x := fun z => h (m2.mpr z); omega)] using q
  · refine lv_icmp_gt hx hb hd ht (fun h => ?_) (fun h => ?_)
    · simpa [l2.mp h] using q
    · simpa [(show ¬ y < x from fun z => h (l2.mpr z))] using q
  · refine lv_icmp_le hx hb hd ht (fun h => ?_) (fun h => ?_)
    · simpa [(show ¬ y < x from by have := m1.mp h; omega)] using q
    · simpa [(show y < x from by have : ¬ x ≤ y := fun z => h (m1.mpr z); omega)] using q
/-- of one -/
theorem mv_s_cm1 (hx : p.tables.exec = Jvm.exec) (hb : c.code = cc) {cn : Jvm.ClassFile.Cond} {off : Int} (hd : decode cc pc = .ok (.ifCond cn off, 3)) (ht : (pc : Int) + off = (a : Int))
    (h : mv_cm1 cn a (pc + 3) ls st M = some (pc', ls', st', M')) (k : mv_Se K p l e R s m args below meth c cells slots Q ad cA D x0 L xs A n pc' ls' st' M') : mv_Se K p l e R s m args below meth c cells slots Q ad cA D x0 L xs A n pc ls st M := by
  rcases st with _ | ⟨v1, r⟩
  · cases h
  rcases v1 with x | x | x | x <;> try cases h
  intro H locs lsA hn hW hl nl ns
  obtain ⟨nx, nr⟩ := mv_nc.mp ns
  have q := k H locs lsA hn hW hl nl nr
  have z0 : Int32.ofInt 0 = 0 := rfl
  have e1 := mv_eq32 nx mv_n0
  have l1 := mv_lt32 nx mv_n0
  have l2 := mv_lt32 mv_n0 nx
  have m1 := mv_le32 nx mv_n0
  have m2 := mv_le32 mv_n0 nx
  rw [z0] at e1 l1 l2 m1 m2
  cases cn
  · refine lv_if_eq hx hb hd ht (fun h => ?_) (fun h => ?_)
    · simpa [e1.mp h] using q
    · simpa [(show ¬ x = 0 from fun z => h (e1.mpr z))] using q
  · refine lv_if_ne hx hb hd ht (fun h => ?_) (fun h => ?_)
    · simpa [(show ¬ x = 0 from fun z => h (e1.mpr z))] using q
    · simpa [e1.mp h] using q
  · refine lv_if_lt hx hb hd ht (fun h => ?_) (fun h => ?_)
    · simpa [l1.mp h] using q
    · simpa [(show ¬ x < 0 from fun z => h (l1.mpr z))] using q
  · refine lv_if_ge hx hb hd ht (fun h => ?_) (fun h => ?_)
    · simpa [(show ¬ x < 0 from by have := m2.mp h; omega)] using q
    · simpa [(show x < 0 from by have : ¬ 0 ≤ x := fun z => h (m2.mpr z); omega)] using q
  · refine lv_if_gt hx hb hd ht (fun h => ?_) (fun h => ?_)
    · simpa [l2.mp h] using q
    · simpa [(show ¬ 0 < x from fun z => h (l2.mpr z))] using q
  · refine lv_if_le hx hb hd ht (fun h => ?_) (fun h => ?_)
    · simpa [(show ¬ 0 < x from by have := m1.mp h; omega)] using q
    · simpa [(show 0 < x from by have : ¬ x ≤ 0 := fun z => h (m1.mpr z); omega)] using q
theorem mv_s_nul (rowR : ∀ (H : Heap) (locs : List Loc) (lsA : Array Slot) (rest : List Value) (x : Nat), W p l e R s m args below meth c H locs cells slots Q (F0 m b lsA rest) → W p l e R s m args below meth c H locs cells slots Q (F0 m pc lsA (.ref x :: rest)))
    (rowN : ∀ (H : Heap) (locs : List Loc) (lsA : Array Slot) (rest : List Value), W p l e R s m args below meth c H locs cells slots Q (F0 m a lsA rest) → W p l e R s m args below meth c H locs cells slots Q (F0 m pc lsA (.null :: rest)))
    (h : mv_nul a b ls st M = some (pc', ls', st', M')) (k : mv_Se K p l e R s m args below meth c cells slots Q ad cA D x0 L xs A n pc' ls' st' M') : mv_Se K p l e R s m args below meth c cells slots Q ad cA D x0 L xs A n pc ls st M := by
  rcases st with _ | ⟨v1, r⟩
  · cases h
  rcases v1 with x | x | x | x
  · cases h
  · cases h
  · cases h
    intro H locs lsA hn hW hl nl ns
    exact rowR H locs lsA _ _ (k H locs lsA hn hW hl nl (mv_nc.mp ns).2)
  · match x, h with
    | 0, h =>
      cases h
      intro H locs lsA hn hW hl nl ns
      exact rowN H locs lsA _ (k H locs lsA hn hW hl nl (mv_nc.mp ns).2)
    | x + 1, h => cases h
/-- switches -/
theorem mv_swg_in (f : List (Int × Nat)) (d : Nat) (x : Int) : (∃ q ∈ f, q.1 = x ∧ mv_swg f d x = q.2) ∨ ((∀ q ∈ f, q.1 ≠ x) ∧ mv_swg f d x = d) := by
  induction f with
  | nil => exact Or.inr ⟨fun q h => absurd h List.not_mem_nil, rfl⟩
  | cons q r ih =>
    obtain ⟨k, t⟩ := q
    by_cases hx : x = k
    · exact Or.inl ⟨(k, t), List.mem_cons_self, hx.symm, by rw [mv_swg, if_pos hx]⟩
    · rw [mv_swg, if_neg hx]
      rcases ih with ⟨q, h1, h2, h3⟩ | ⟨h1, h2⟩
      · exact Or.inl ⟨q, List.mem_cons_of_mem _ h1, h2, h3⟩
      · exact Or.inr ⟨fun q hq => by
          rcases List.mem_cons.mp hq with rfl | hq
          · exact fun z => hx z.symm
          · exact h1 q hq, h2⟩
theorem mv_s_tsw (hx : p.tables.exec = Jvm.exec) (hb : c.code = cc) {df lo hi : Int} {offs : Array Int} {f : List (Int × Nat)} (hd : decode cc pc = .ok (.tableswitch df lo hi offs, len)) (h1 : (pc : Int) + df = (b : Int)) (h2 : hi = lo + (offs.size : Int) - 1)
    (h3 : f.map (fun q => (q.1, (q.2 : Int))) = (offs.toList.zipIdx).map (fun q => (lo + (q.2 : Int), (pc : Int) + q.1)))
    (h : mv_swi f b ls st M = some (pc', ls', st', M')) (k : mv_Se K p l e R s m args below meth c cells slots Q ad cA D x0 L xs A n pc' ls' st' M') : mv_Se K p l e R s m args below meth c cells slots Q ad cA D x0 L xs A n pc ls st M := by
  rcases st with _ | ⟨v1, r⟩
  · cases h
  rcases v1 with x | x | x | x <;> try cases h
  intro H locs lsA hn hW hl nl ns
  obtain ⟨nx, nr⟩ := mv_nc.mp ns
  have q := k H locs lsA hn hW hl nl nr
  have ex := mv_i32 nx
  have key : ∀ j : Nat, j < offs.size → ∃ (t : Nat) (o : Int), f[j]? = some (lo + (j : Int), t) ∧ offs[j]? = some o ∧ (pc : Int) + o = (t : Int) := by
    intro j hj
    have e1 : (f.map (fun q => (q.1, (q.2 : Int))))[j]? = some (lo + (j : Int), (pc : Int) + offs[j]) := by
      rw [h3, List.getElem?_map, List.getElem?_zipIdx]
      simp [hj]
    rw [List.getElem?_map] at e1
    cases hf : f[j]? with
    | none => rw [hf] at e1; cases e1
    | some q =>
      obtain ⟨kq, t⟩ := q
      rw [hf] at e1
      simp only [Option.map_some, Option.some.injEq, Prod.mk.injEq] at e1
      exact ⟨t, offs[j], by rw [e1.1], by simp [hj], e1.2.symm⟩
  have hlen : f.length = offs.size := by
    have := congrArg List.length h3
    simpa using this
  by_cases hlo : x < lo ∨ hi < x
  · have hne : mv_swg f b x = b := by
      rcases mv_swg_in f b x with ⟨q, g1, g2, g3⟩ | ⟨-, g2⟩
      · obtain ⟨j, hj⟩ := List.getElem?_of_mem g1
        have hjl : j < offs.size := by rw [← hlen]; exact (List.getElem?_eq_some_iff.mp hj).1
        obtain ⟨t, o, g4, -, -⟩ := key j hjl
        rw [hj] at g4
        have : q.1 = lo + (j : Int) := by rw [Option.some.inj g4]
        omega
      · exact g2
    refine lv_tableOut hx hb hd (by rw [ex]; exact hlo) h1 ?_
    simpa [hne] using q
  · have hj : (x - lo).toNat < offs.size := by omega
    obtain ⟨t, o, g4, g5, g6⟩ := key (x - lo).toNat hj
    have hk : lo + ((x - lo).toNat : Int) = x := by omega
    have hsw : mv_swg f b x = t := by
      rcases mv_swg_in f b x with ⟨q, g1, g2, g3⟩ | ⟨g1, -⟩
      · obtain ⟨j, hj2⟩ := List.getElem?_of_mem g1
        have hjl : j < offs.size := by rw [← hlen]; exact (List.getElem?_eq_some_iff.mp hj2).1
        obtain ⟨t2, o2, g7, -, -⟩ := key j hjl
        rw [hj2] at g7
        have e7 := Option.some.inj g7
        have e8 : q.1 = lo + (j : Int) := by rw [e7]
        have e9 : j = (x - lo).toNat := by omega
        rw [e9, g4] at hj2
        rw [g3, ← Option.some.inj hj2]
      · exact absurd hk (g1 _ (List.mem_of_getElem? g4))
    refine lv_tableIn hx hb hd (by rw [ex]; omega) (by rw [ex]; omega) (by rw [ex]; exact g5) g6 ?_
    simpa [hsw] using q
theorem mv_lko : ∀ (f : List (Int × Nat)) (ps : List (Int × Int)) (pc b : Nat) (df x : Int), f.map (fun q => (q.1, (q.2 : Int))) = ps.map (fun q => (q.1, (pc : Int) + q.2)) → (pc : Int) + df = (b : Int) → (pc : Int) + Op.lookupswitch.offset ps df x = ((mv_swg f b x : Nat) : Int)
  | [], [], pc, b, df, x, _, h => h
  | [], _ :: _, _, _, _, _, h, _ => by cases h
  | _ :: _, [], _, _, _, _, h, _ => by cases h
  | (k, t) :: f, (k2, o) :: ps, pc, b, df, x, h, hb => by
    simp only [List.map_cons, List.cons.injEq, Prod.mk.injEq] at h
    obtain ⟨⟨h1, h2⟩, h3⟩ := h
    subst h1
    by_cases hx : x = k
    · subst hx
      rw [mv_swg, if_pos rfl, Op.lookupswitch.offset_cons, if_pos (by simp)]
      exact h2.symm
    · rw [mv_swg, if_neg hx, Op.lookupswitch.offset_cons, if_neg (fun z => hx z.symm)]
      exact mv_lko f ps pc b df x h3 hb
theorem mv_s_lsw (hx : p.tables.exec = Jvm.exec) (hb : c.code = cc) {df : Int} {ps : Array (Int × Int)} {f : List (Int × Nat)} (hd : decode cc pc = .ok (.lookupswitch df ps, len)) (h1 : (pc : Int) + df = (b : Int))
    (h3 : f.map (fun q => (q.1, (q.2 : Int))) = ps.toList.map (fun q => (q.1, (pc : Int) + q.2))) (h4 : (ps.toList.zip (ps.toList.drop 1)).all (fun (u, next) => u.1 < next.1) = true)
    (h : mv_swi f b ls st M = some (pc', ls', st', M')) (k : mv_Se K p l e R s m args below meth c cells slots Q ad cA D x0 L xs A n pc' ls' st' M') : mv_Se K p l e R s m args below meth c cells slots Q ad cA D x0 L xs A n pc ls st M := by
  rcases st with _ | ⟨v1, r⟩
  · cases h
  rcases v1 with x | x | x | x <;> try cases h
  intro H locs lsA hn hW hl nl ns
  obtain ⟨nx, nr⟩ := mv_nc.mp ns
  have q := k H locs lsA hn hW hl nl nr
  exact lv_lookup hx hb hd h4 (by rw [mv_i32 nx]) (mv_lko f ps.toList pc b df x h3 h1) q
/-- fields -/
theorem mv_ce_o {i : Nat} (h : mv_ak i = 0) : mv_ce ad cA M i = .inr (mv_cls i, (List.range (mv_nf (mv_cls i))).map (mv_fv ad M i)) := by unfold mv_ce; rw [h]; rfl
theorem mv_getw (hx : p.tables.exec = Jvm.exec) (hb : c.code = cc) (hts : ∀ w ∈ mv_T, w.before args s = true) {own : String} (hown : s.vm.findClass own = some m.cls) (hK : va_K D mv_cl7 (mv_tys K cA) s) {H : Heap} {locs : List Loc} {lsA : Array Slot} {rest : List Value} (hP : va_P D mv_cl7 (mv_ws K ad cA M) H) {i : Nat} (hi : mv_cls i = a) (hB : mv_B K i = true)
    (hfl : mv_fl w own idx a b = true) (hd : decode cc pc = .ok (.getfield idx, 3)) (kk : W p l e R s m args below meth c H locs cells slots Q (F0 m (pc + 3) lsA (mv_fv ad M i b :: rest))) : W p l e R s m args below meth c H locs cells slots Q (F0 m pc lsA (.ref (ad i) :: rest)) := by
  simp only [mv_fl, Bool.and_eq_true, Bool.or_eq_true] at hfl
  obtain ⟨⟨ha, hbn⟩, hl⟩ := hfl
  have ha := mv_blt ha
  have hbn := mv_blt hbn
  obtain ⟨g1, g2, -⟩ := mv_cls_in hi ha
  obtain ⟨q, -, hq⟩ := mv_at (K := K) (ad := ad) (cA := cA) (M := M) g1 hB
  rw [mv_ce_o g2, hi] at hq
  have hv : ((List.range (mv_nf a)).map (mv_fv ad M i))[b]? = some (mv_fv ad M i b) := by
    rw [List.getElem?_map, List.getElem?_range hbn]; rfl
  rcases hl with hl | hl
  · exact va_get hx hb hts (mv_uin ha) hown hK hP q hq (mv_ucl ha) b hbn (hts _ (mv_in hl)) (fun x h => h) hv hd kk
  · exact va_getN hx hb hts (mv_uin ha) hown hK hP q hq (mv_ucl ha) b hbn (hts _ (mv_in hl)) (fun x h => h) hv hd kk
theorem mv_fk7 {b : Nat} : mv_fk 7 b ≠ 0 ∧ mv_fk 7 b ≠ 2 ∧ mv_fk 7 b ≠ 3 ∧ (mv_fk 7 b = 1 → b = 0) ∧ (mv_fk 7 b = 4 → b = 1) := by
  match b with
  | 0 => decide
  | 1 => decide
  | b + 2 => exact ⟨fun h => (by cases h), fun h => (by cases h), fun h => (by cases h), fun h => (by cases h), fun h => (by cases h)⟩
theorem mv_fk4 : ∀ a, a < 7 → ∀ b, b < mv_nf a → mv_fk a b ≠ 4 := by decide +kernel
theorem mv_fk2 (i b : Nat) (hi : i < 200) (ha : mv_cls i < 7) (hb : b < mv_nf (mv_cls i)) (h : mv_fk (mv_cls i) b = 2) : i = 28 ∧ b = 7 := by
  have hb42 : b < 42 := by
    have h0 : ∀ a, a < 7 → mv_nf a ≤ 42 := by decide +kernel
    have := h0 _ ha
    omega
  have h0 : ∀ i, i < 200 → ∀ b, b < 42 → (mv_cls i < 7 ∧ b < mv_nf (mv_cls i) ∧ mv_fk (mv_cls i) b = 2) → i = 28 ∧ b = 7 := by decide +kernel
  exact h0 i hi b hb42 ⟨ha, hb, h⟩
theorem mv_s_gf (cx : mv_Cx K p R s m args c cells slots ad cA D x0 L xs A d y) (hd : decode (mv_yb y) pc = .ok (.getfield idx, 3))
    (hfl : mv_fl w (mv_yn y).cls idx a b = true ∨ (a = 7 ∧ ((b = 0 ∧ mv_has w (.fieldLink (mv_yn y).cls idx "java/lang/String" "value" "[B") = true) ∨ (b = 1 ∧ mv_has w (.fieldLink (mv_yn y).cls idx "java/lang/String" "coder" "B") = true))))
    (h : mv_gf a b (pc + 3) ls st M = some (pc', ls', st', M')) (hp : pc' ≠ mv_bad) (k : mv_Se K p l e R s m args below meth c cells slots Q ad cA D x0 L xs A n pc' ls' st' M') : mv_Se K p l e R s m args below meth c cells slots Q ad cA D x0 L xs A n pc ls st M := by
  obtain ⟨hx, hb, hml, hown, hts, hK, hF, hFr, hA, -⟩ := cx
  rcases st with _ | ⟨v1, r⟩
  · cases h
  rcases v1 with x | x | i | x <;> try cases h
  simp only [mv_gf] at h
  cases hc : Nat.beq (mv_cls i) a with
  | false => rw [hc] at h; cases h
  | true =>
  rw [hc] at h
  have hc := mv_beq hc
  dsimp only [cond] at h
  rcases hfl with hfl | ⟨rfl, hs⟩
  · have ha : a < 7 := by
      simp only [mv_fl, Bool.and_eq_true] at hfl
      exact mv_blt hfl.1.1
    have hbn : b < mv_nf a := by
      simp only [mv_fl, Bool.and_eq_true] at hfl
      exact mv_blt hfl.1.2
    have hi200 := (mv_cls_in hc ha).2.2
    have hak := (mv_cls_in hc ha).2.1
    have n4 := mv_fk4 a ha b hbn
    generalize hk : mv_fk a b = kk at h
    have hfv : mv_fv ad M i b = mv_fvk ad M i b kk := by unfold mv_fv; rw [hc, hk]
    have hnM : ∀ (HH : Heap) (lo : List Loc), mv_Wd K ad cA D L xs A s HH lo M → mv_n32 (M i b) := fun HH lo hW => (hW.2.2.2.1.1 i b).2 (by rw [hak]; decide)
    have hdyn : mv_fk a b = 2 → ∀ (HH : Heap) (lo : List Loc), mv_Wd K ad cA D L xs A s HH lo M → mv_B K i = true → 0 ≤ M i b → mv_B K (M i b).toNat = true := by
      intro h2 HH lo hW hB h0
      have hib : i = 28 ∧ b = 7 := mv_fk2 i b hi200 (by rw [hc]; exact ha) (by rw [hc]; exact hbn) (by rw [hc]; exact h2)
      obtain ⟨rfl, rfl⟩ := hib
      exact hW.2.2.2.1.2 hB h0
    match kk, h, hfv, hk with
    | 0, h, hfv, _ =>
      cases h
      intro H locs lsA hn hW hl nl ns
      refine mv_getw hx hb hts hown hK hW.1 hc (mv_nc.mp ns).1 hfl hd ?_
      rw [hfv]
      exact k H locs lsA hn hW hl nl (mv_nc.mpr ⟨hnM H locs hW, (mv_nc.mp ns).2⟩)
    | 1, h, hfv, hk =>
      cases h
      intro H locs lsA hn hW hl nl ns
      refine mv_getw hx hb hts hown hK hW.1 hc (mv_nc.mp ns).1 hfl hd ?_
      rw [hfv]
      exact k H locs lsA hn hW hl nl (mv_nc.mpr ⟨mv_Bref (by rw [hc]; exact ha) (by rw [hc]; exact hbn) (by rw [hc]; exact hk) (mv_nc.mp ns).1, (mv_nc.mp ns).2⟩)
    | 2, h, hfv, hk =>
      cases h
      intro H locs lsA hn hW hl nl ns
      refine mv_getw hx hb hts hown hK hW.1 hc (mv_nc.mp ns).1 hfl hd ?_
      by_cases h0 : 0 ≤ M i b
      · rw [hfv]
        have q := k H locs lsA hn hW hl nl (mv_nc.mpr ⟨hdyn hk H locs hW (mv_nc.mp ns).1 h0, (mv_nc.mp ns).2⟩)
        rw [if_pos h0] at q
        show W p l e R s m args below meth c H locs cells slots Q (F0 m (pc + 3) lsA ((if 0 ≤ M i b then Value.ref (ad (M i b).toNat) else .null) :: _))
        rw [if_pos h0]
        exact q
      · rw [if_neg h0] at hp; exact absurd rfl hp
    | 3, h, hfv, _ =>
      cases h
      intro H locs lsA hn hW hl nl ns
      refine mv_getw hx hb hts hown hK hW.1 hc (mv_nc.mp ns).1 hfl hd ?_
      rw [hfv]
      exact k H locs lsA hn hW hl nl (mv_nc.mpr ⟨hnM H locs hW, (mv_nc.mp ns).2⟩)
    | 4, _, _, hk => exact absurd hk n4
    | _ + 5, h, _, _ => cases h
  · obtain ⟨hs1, hs2⟩ := mv_cls_st hc
    obtain ⟨-, -, -, -, -, -, hS9, -⟩ := hF
    have hi' : 210 + (i - 210) = i := by omega
    obtain ⟨g1, g2, g3, g4⟩ := hS9.1 (i - 210) (by omega)
    dsimp only at g1 g2 g3 g4
    rw [hi'] at g1 g2 g3
    have hrf : mv_ref i 0 = 230 + (i - 210) := by
      have b0 : ∀ t, t ≤ 200 → Nat.blt i t = false := fun t ht => by
        cases q : Nat.blt i t with
        | false => rfl
        | true => have := mv_blt q; omega
      unfold mv_ref
      rw [b0 10 (by omega), b0 28 (by omega), b0 30 (by omega), b0 60 (by omega), b0 70 (by omega), b0 100 (by omega), b0 200 (by omega)]
      show i + 20 = _
      omega
    rcases hs with ⟨rfl, hs⟩ | ⟨rfl, hs⟩
    · cases h
      intro H locs lsA hn hW hl nl ns
      refine vk_getf hx hb g3 hW.2.2.1 hown (hts _ (mv_in hs)) (fun x h => h) hd ?_
      have q := k H locs lsA hn hW hl nl (mv_nc.mpr ⟨(by show mv_B K (mv_ref i 0) = true; rw [hrf]; exact mv_B200 (by omega)), (mv_nc.mp ns).2⟩)
      rw [hrf] at q
      exact q
    · cases h
      intro H locs lsA hn hW hl nl ns
      refine vk_getf hx hb g2 hW.2.2.1 hown (hts _ (mv_in hs)) (fun x h => h) hd ?_
      exact k H locs lsA hn hW hl nl (mv_nc.mpr ⟨mv_n0, (mv_nc.mp ns).2⟩)
/-- the world after a write at the cell i -/
theorem mv_Wd.put {H H1 : Heap} {locs locs1 : List Loc} {q i : Nat} {e1 : va_E} {f : Nat → Int} (hW : mv_Wd K ad cA D L xs A s H locs M) (hq : (mv_idk K)[q]? = some i) (hi : i < 200) (he : mv_ce ad cA (mv_st M i f) i = e1) (hf : ∀ j, (mv_ak i = 2 → mv_n64 (f j)) ∧ (mv_ak i ≠ 2 → mv_n32 (f j))) (hf7 : i = 28 → mv_B K 28 = true → 0 ≤ f 7 → mv_B K (f 7).toNat = true)
    (hP : va_P D mv_cl7 ((mv_ws K ad cA M).set q (ad i, e1)) H1) (hD : va_D A ((mv_ws K ad cA M).set q (ad i, e1))) (hS : va_S A s.heap H1 locs1) : mv_Wd K ad cA D L xs A s H1 locs1 (mv_st M i f) := by
  have e2 := mv_wset (M' := mv_st M i f) hq (fun j hj => mv_st_n M f hj) he
  rw [e2] at hP hD
  refine ⟨hP, hD, hS, ⟨fun i2 j => ?_, fun hB h0 => ?_⟩, ?_, hW.2.2.2.2.2.1, fun j hj => ?_⟩
  · by_cases h2 : i2 = i
    · subst h2
      rw [mv_st_s]
      exact hf j
    · rw [mv_st_n M f h2]
      exact hW.2.2.2.1.1 i2 j
  · by_cases h2 : i = 28
    · subst h2
      rw [mv_st_s] at h0 ⊢
      exact hf7 rfl hB h0
    · rw [mv_st_n M f (Ne.symm h2)] at h0 ⊢
      exact hW.2.2.2.1.2 hB h0
  · rw [mv_st_n M f (by omega)]; exact hW.2.2.2.2.1
  · rw [mv_st_n M f (by omega)]; exact hW.2.2.2.2.2.2 j hj
theorem mv_fput {i b : Nat} {x : Int} {v : Value} (hb : b < mv_nf (mv_cls i)) (hv : mv_fv ad (mv_st M i (mv_up (M i) b x)) i b = v) : ((List.range (mv_nf (mv_cls i))).map (mv_fv ad M i)).set b v = (List.range (mv_nf (mv_cls i))).map (mv_fv ad (mv_st M i (mv_up (M i) b x)) i) := by
  apply List.ext_getElem?
  intro k
  by_cases hk : k = b
  · subst hk
    rw [List.getElem?_set_self (by simpa using hb), List.getElem?_map, List.getElem?_range hb, ← hv]; rfl
  · rw [List.getElem?_set_ne (Ne.symm hk), List.getElem?_map, List.getElem?_map]
    cases hr : (List.range (mv_nf (mv_cls i)))[k]? with
    | none => rfl
    | some k2 =>
      have hk2 : k2 = k := by
        have := List.getElem?_eq_some_iff.mp hr
        obtain ⟨h1, h2⟩ := this
        rw [List.getElem_range] at h2
        exact h2.symm
      subst hk2
      show some (mv_fv ad M i k2) = some (mv_fv ad (mv_st M i (mv_up (M i) b x)) i k2)
      unfold mv_fv mv_fvk
      rw [mv_st_s]
      unfold mv_up
      rw [if_neg hk]
theorem mv_putw (hx : p.tables.exec = Jvm.exec) (hb : c.code = cc) (hts : ∀ w ∈ mv_T, w.before args s = true) {own : String} (hown : s.vm.findClass own = some m.cls) (hK : va_K D mv_cl7 (mv_tys K cA) s) {H : Heap} {locs : List Loc} {lsA : Array Slot} {rest : List Value} (hW : mv_Wd K ad cA D L xs A s H locs M) {i : Nat} (hi : mv_cls i = a) (hB : mv_B K i = true) {x : Int} {v : Value} (h7 : i = 28 → b = 7 → 0 ≤ x → mv_B K x.toNat = true)
    (hfl : mv_fl w own idx a b = true) (hfin : (mv_TX a b).2.2.2 = false) (hv : mv_fv ad (mv_st M i (mv_up (M i) b x)) i b = v) (hnx : mv_n32 x) (hnar : narrow (mv_TY a b) v = v) (hfit : fits (mv_TY a b) v = true) (hd : decode cc pc = .ok (.putfield idx, 3))
    (kk : ∀ (H1 : Heap) (locs1 : List Loc), mv_Wd K ad cA D L xs A s H1 locs1 (mv_st M i (mv_up (M i) b x)) → W p l e R s m args below meth c H1 locs1 cells slots Q (F0 m (pc + 3) lsA rest)) : W p l e R s m args below meth c H locs cells slots Q (F0 m pc lsA (v :: .ref (ad i) :: rest)) := by
  simp only [mv_fl, Bool.and_eq_true, Bool.or_eq_true] at hfl
  obtain ⟨⟨ha, hbn⟩, hl⟩ := hfl
  have ha := mv_blt ha
  have hbn := mv_blt hbn
  obtain ⟨g1, g2, g3⟩ := mv_cls_in hi ha
  obtain ⟨q, hq0, hq⟩ := mv_at (K := K) (ad := ad) (cA := cA) (M := M) g1 hB
  rw [mv_ce_o g2, hi] at hq
  have hlen : b < ((List.range (mv_nf a)).map (mv_fv ad M i)).length := by simpa using hbn
  have fin : ∀ (H1 : Heap) (locs1 : List Loc), va_P D mv_cl7 ((mv_ws K ad cA M).set q (ad i, .inr (a, ((List.range (mv_nf a)).map (mv_fv ad M i)).set b v))) H1 → va_D A ((mv_ws K ad cA M).set q (ad i, .inr (a, ((List.range (mv_nf a)).map (mv_fv ad M i)).set b v))) → va_S A s.heap H1 locs1 → W p l e R s m args below meth c H1 locs1 cells slots Q (F0 m (pc + 3) lsA rest) := by
    intro H1 locs1 hP1 hD1 hS1
    refine kk H1 locs1 (hW.put hq0 g3 ?_ (fun j => ⟨fun h => absurd (g2.symm.trans h) (by decide), fun _ => ?_⟩) (fun h28 hB28 h0 => ?_) hP1 hD1 hS1)
    · rw [mv_ce_o g2, hi]
      subst hi
      rw [mv_fput hbn hv]
    · unfold mv_up
      by_cases hj : j = b
      · rw [if_pos hj]; exact hnx
      · rw [if_neg hj]; exact (hW.2.2.2.1.1 i j).2 (by rw [g2]; decide)
    · unfold mv_up at h0 ⊢
      by_cases hj : 7 = b
      · rw [if_pos hj] at h0 ⊢
        exact h7 h28 hj.symm h0
      · rw [if_neg hj] at h0 ⊢
        subst h28
        exact hW.2.2.2.1.2 hB28 h0
  rcases hl with hl | hl
  · exact va_put hx hb hts (mv_uin ha) (mv_TY a) (mv_uty ha) (mv_unm ha) hown hK hW.1 hW.2.1 hW.2.2.1 q hq (mv_ucl ha) b hbn (hts _ (mv_in hl)) (fun x h => h) hfin (mv_uty ha b hbn) hnar hfit hlen hd fin
  · exact va_putN hx hb hts (mv_uin ha) (mv_TY a) (mv_uty ha) (mv_unm ha) hown hK hW.1 hW.2.1 hW.2.2.1 q hq (mv_ucl ha) b hbn (hts _ (mv_in hl)) (fun x h => h) hfin (mv_uty ha b hbn) hnar hfit hlen hd fin
theorem mv_nb01 (x : Int) (h : x = 0 ∨ x = 1) : narrow .boolean (.int (Int32.ofInt x)) = .int (Int32.ofInt x) ∧ fits .boolean (.int (Int32.ofInt x)) = true := by
  rcases h with rfl | rfl <;> exact ⟨by decide +kernel, by decide +kernel⟩
theorem mv_s_pf (cx : mv_Cx K p R s m args c cells slots ad cA D x0 L xs A d y) (hd : decode (mv_yb y) pc = .ok (.putfield idx, 3)) (hfl : mv_fl w (mv_yn y).cls idx a b = true) (hfin : (mv_TX a b).2.2.2 = false)
    (h : mv_pf a b (pc + 3) ls st M = some (pc', ls', st', M')) (hp : pc' ≠ mv_bad) (k : mv_Se K p l e R s m args below meth c cells slots Q ad cA D x0 L xs A n pc' ls' st' M') : mv_Se K p l e R s m args below meth c cells slots Q ad cA D x0 L xs A n pc ls st M := by
  obtain ⟨hx, hb, hml, hown, hts, hK, hF, hFr, hA, -⟩ := cx
  have ha : a < 7 := by
    simp only [mv_fl, Bool.and_eq_true] at hfl
    exact mv_blt hfl.1.1
  have hbn : b < mv_nf a := by
    simp only [mv_fl, Bool.and_eq_true] at hfl
    exact mv_blt hfl.1.2
  obtain ⟨t0, t3, t2⟩ := mv_fty a ha b hbn
  rcases st with _ | ⟨v1, st⟩
  · cases h
  rcases v1 with x | x | j | x <;> try cases h
  · rcases st with _ | ⟨v2, r⟩
    · cases h
    rcases v2 with u | u | i | u <;> try cases h
    simp only [mv_pf] at h
    cases hc : Nat.beq (mv_cls i) a with
    | false => rw [hc] at h; cases h
    | true =>
    rw [hc] at h
    have hc := mv_beq hc
    dsimp only [cond] at h
    have hfv : ∀ kk, mv_fk a b = kk → kk ≠ 1 → kk ≠ 2 → mv_fv ad (mv_st M i (mv_up (M i) b x)) i b = .int (Int32.ofInt x) := by
      intro kk hk h1 h2
      unfold mv_fv
      rw [hc, hk]
      unfold mv_fvk
      rw [mv_st_s]
      unfold mv_up
      rw [if_pos rfl]
      match kk, h1, h2 with
      | 0, _, _ => rfl
      | kk + 3, _, _ => rfl
    generalize hk : mv_fk a b = kk at h
    match kk, h, hk with
    | 0, h, hk =>
      cases h
      intro H locs lsA hn hW hl nl ns
      obtain ⟨nx, nr⟩ := mv_nc.mp ns
      refine mv_putw hx hb hts hown hK hW hc (mv_nc.mp nr).1 (fun h28 h7 _ => absurd hk (by subst h28; subst h7; rw [← hc]; decide)) hfl hfin (hfv 0 hk (by decide) (by decide)) nx (by rw [t0 hk]; rfl) (by rw [t0 hk]; rfl) hd (fun H1 locs1 hW1 => ?_)
      exact k H1 locs1 lsA hn hW1 hl nl (mv_nc.mp nr).2
    | 1, h, _ => cases h
    | 2, h, _ => cases h
    | 3, h, hk =>
      cases h
      intro H locs lsA hn hW hl nl ns
      obtain ⟨nx, nr⟩ := mv_nc.mp ns
      have hx01 : x = 0 ∨ x = 1 := by
        by_cases h9 : x = 0 ∨ x = 1
        · exact h9
        · rw [if_neg h9] at hp; exact absurd rfl hp
      refine mv_putw hx hb hts hown hK hW hc (mv_nc.mp nr).1 (fun h28 h7 _ => absurd hk (by subst h28; subst h7; rw [← hc]; decide)) hfl hfin (hfv 3 hk (by decide) (by decide)) nx (by rw [t3 hk]; exact (mv_nb01 x hx01).1) (by rw [t3 hk]; exact (mv_nb01 x hx01).2) hd (fun H1 locs1 hW1 => ?_)
      have q := k H1 locs1 lsA hn hW1 hl nl (mv_nc.mp nr).2
      rw [if_pos hx01] at q
      exact q
    | _ + 4, h, _ => cases h
  · rcases st with _ | ⟨v2, r⟩
    · cases h
    rcases v2 with u | u | i | u <;> try cases h
    simp only [mv_pf] at h
    cases hc : Nat.beq (mv_cls i) a with
    | false => rw [hc] at h; cases h
    | true =>
    cases hj : Nat.beq (mv_cls j) 0 with
    | false => rw [hc, hj] at h; cases h
    | true =>
    rw [hc, hj] at h
    have hc := mv_beq hc
    have hj := mv_beq hj
    dsimp only [cond, Bool.and] at h
    generalize hk : mv_fk a b = kk at h
    match kk, h, hk with
    | 0, h, _ => cases h
    | 1, h, _ => cases h
    | 2, h, hk =>
      cases h
      intro H locs lsA hn hW hl nl ns
      have hfv : mv_fv ad (mv_st M i (mv_up (M i) b (j : Int))) i b = .ref (ad j) := by
        unfold mv_fv
        rw [hc, hk]
        unfold mv_fvk
        rw [mv_st_s]
        unfold mv_up
        rw [if_pos rfl]
        show (if (0 : Int) ≤ (j : Int) then Value.ref (ad (j : Int).toNat) else .null) = _
        rw [if_pos (by omega)]
        rfl
      have hj200 := (mv_cls_in hj (by decide)).2.2
      refine mv_putw hx hb hts hown hK hW hc (mv_nc.mp (mv_nc.mp ns).2).1 (x := (j : Int)) (fun _ _ _ => by rw [Int.toNat_natCast]; exact (mv_nc.mp ns).1) hfl hfin hfv (by unfold mv_n32; omega) (by rw [t2 hk]; rfl) (by rw [t2 hk]; rfl) hd (fun H1 locs1 hW1 => ?_)
      exact k H1 locs1 lsA hn hW1 hl nl (mv_nc.mp (mv_nc.mp ns).2).2
    | _ + 3, h, _ => cases h
end
