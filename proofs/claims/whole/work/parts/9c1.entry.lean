/-! the law's entry -/
/-- the classes are known -/
theorem cn_known {args : Array Value} {s : State} (hts : ∀ w ∈ mv_T, w.before args s = true) : ∃ D : va_G, va_K D mv_cl7 [] s := by
  have hi : ∀ a, a < 7 → ∃ n, Cond.instantiable (mv_RX a) n ∈ mv_T := fun a ha => mv_7 (P := fun a => ∃ n, Cond.instantiable (mv_RX a) n ∈ mv_T) ⟨3, mv_in (p := 199) (by decide +kernel)⟩ ⟨8, mv_in (p := 126) (by decide +kernel)⟩ ⟨3, mv_in (p := 214) (by decide +kernel)⟩ ⟨10, mv_in (p := 159) (by decide +kernel)⟩ ⟨12, mv_in (p := 233) (by decide +kernel)⟩ ⟨9, mv_in (p := 116) (by decide +kernel)⟩ ⟨42, mv_in (p := 916) (by decide +kernel)⟩ ha
  have h0 : ∀ a : Nat, ∃ q : ClassId × (Nat → Nat), a < 7 → u_Kn s (mv_RX a) (mv_TX a) (mv_nf a) q.1 q.2 := by
    intro a
    by_cases c : a < 7
    · obtain ⟨n, hn⟩ := hi a c
      obtain ⟨cC, iS, h⟩ := u_known hts (mv_uin c) (hts _ hn)
      exact ⟨(cC, iS), fun _ => h⟩
    · exact ⟨(default, fun _ => 0), fun h => absurd h c⟩
  obtain ⟨f, hf⟩ := Classical.axiomOfChoice h0
  refine ⟨(fun a => (f a).1, fun a => (f a).2), fun a q hq => ?_, fun k q hk => by cases hk⟩
  have hl : a < 7 := (List.getElem?_eq_some_iff.mp hq).1
  rw [mv_ucl hl] at hq
  cases hq
  exact hf a hl
theorem cn_entry {s : State} {b L : Nat} {xs : Nat → Int32} (hts : ∀ w ∈ lw_tbl, w.before #[Value.ref b] s = true) (hX : va_X b L xs s s.heap) (hbl : b < s.heap.size) (hgv : (Jvm.Cond.and given_1 narrow_1).before #[Value.ref b] s = true) :
    ∃ (ad0 : Nat → Nat) (x0 : Value), (x0 = .null ∨ ∃ t, x0 = .ref t) ∧ ad0 202 = b ∧ mv_AW s ∧ va_AO RX0 s ∧ va_AO RX2 s ∧ mv_Fr ad0 s ∧ mv_F ad0 x0 L xs (cn_A0 s) s s.heap := by
  have hT : ∀ w ∈ mv_T, w.before #[Value.ref b] s = true := fun w hw => hts w (List.mem_filter.mp hw).1
  have hg : ∀ w ∈ cn_fl, w.before #[Value.ref b] s = true := flat_of_before _ hgv
  obtain ⟨tA, eA, hA⟩ := va_Tof (A := cn_A0 s) (N := 6) (ty := .int) (tm := .static "UnclesByWard" "ABOVE" "[I") (f := fun j => .int (Int32.ofInt (mv_ro 200 j))) (by decide) (hg _ (by decide +kernel)) (va_eqt (hg _ (by decide +kernel))) (fun j hj => va_eqt (hg _ (cn_t1 j hj))) cn_A0_n
  obtain ⟨tT, eT, hTn⟩ := va_Tof (A := cn_A0 s) (N := 6) (ty := .int) (tm := .static "UnclesByWard" "TENS" "[I") (f := fun j => .int (Int32.ofInt (mv_ro 201 j))) (by decide) (hg _ (by decide +kernel)) (va_eqt (hg _ (by decide +kernel))) (fun j hj => va_eqt (hg _ (cn_t2 j hj))) cn_A0_n
  have zA := va_Zref (A := cn_A0 s) (hts _ (List.mem_of_getElem? (i := 914) (by decide +kernel))) (hts _ (List.mem_of_getElem? (i := 99) (by decide +kernel))) eA cn_A0_n
  have zT := va_Zref (A := cn_A0 s) (hts _ (List.mem_of_getElem? (i := 717) (by decide +kernel))) (hts _ (List.mem_of_getElem? (i := 99) (by decide +kernel))) eT cn_A0_n
  have zC := va_Zof (A := cn_A0 s) (C := "java/lang/String") (n := "COMPACT_STRINGS") (d := "Z") (v := .int 1) (hts _ (List.mem_of_getElem? (i := 296) (by decide +kernel))) (hts _ (List.mem_of_getElem? (i := 105) (by decide +kernel))) (va_eqt (hg _ (by decide +kernel))) cn_A0_n
  have zS := va_Zqof (A := cn_A0 s) (C := "jdk/internal/util/Preconditions") (n := "SIOOBE_FORMATTER") (d := "Ljava/util/function/BiFunction;") (hts _ (List.mem_of_getElem? (i := 312) (by decide +kernel))) (hts _ (List.mem_of_getElem? (i := 107) (by decide +kernel))) (hg _ (by decide +kernel)) cn_A0_n
  obtain ⟨x0, hx0, zS⟩ : ∃ x0 : Value, (x0 = .null ∨ ∃ t, x0 = .ref t) ∧ va_Z "jdk/internal/util/Preconditions" "SIOOBE_FORMATTER" "Ljava/util/function/BiFunction;" x0 (cn_A0 s) s s.heap := by
    rcases zS with h | ⟨t, h⟩
    · exact ⟨_, Or.inl rfl, h⟩
    · exact ⟨_, Or.inr ⟨t, rfl⟩, h⟩
  obtain ⟨adK, adV, hS, hev⟩ := vk_Sof (args := #[Value.ref b]) (s := s) (N := 14) (tm := cn_tm) (len := mv_sl) (byt := mv_sb) (A := cn_A0 s) cn_s1 (fun i hi => hg _ (cn_s2 i hi)) (fun i hi => hg _ (cn_s3 i hi)) (fun i hi => hg _ (cn_s4 i hi)) (fun i hi => hg _ (cn_s5 i hi)) (fun i hi j hj => hg _ (cn_s6 i hi j hj))
    (fun i j hi hj hij => (cn_s7 i hi j hj hij).imp (hg _) (hg _)) cn_A0_n
  have aK : ∀ i, i < 14 → (fun i : Nat => if i = 200 then tA else if i = 201 then tT else if i = 202 then b else if i < 230 then adK (i - 210) else adV (i - 230)) (210 + i) = adK i := fun i hi => by
    show (if 210 + i = 200 then tA else if 210 + i = 201 then tT else if 210 + i = 202 then b else if 210 + i < 230 then adK (210 + i - 210) else adV (210 + i - 230)) = adK i
    rw [if_neg (by omega), if_neg (by omega), if_neg (by omega), if_pos (by omega), show 210 + i - 210 = i by omega]
  have aV : ∀ i, (fun i : Nat => if i = 200 then tA else if i = 201 then tT else if i = 202 then b else if i < 230 then adK (i - 210) else adV (i - 230)) (230 + i) = adV i := fun i => by
    show (if 230 + i = 200 then tA else if 230 + i = 201 then tT else if 230 + i = 202 then b else if 230 + i < 230 then adK (230 + i - 210) else adV (230 + i - 230)) = adV i
    rw [if_neg (by omega), if_neg (by omega), if_neg (by omega), if_neg (by omega), show 230 + i - 230 = i by omega]
  refine ⟨fun i => if i = 200 then tA else if i = 201 then tT else if i = 202 then b else if i < 230 then adK (i - 210) else adV (i - 230), x0, hx0, rfl, mv_AW.of hT, va_AO.of (hts _ (List.mem_of_getElem? (i := 124) (by decide +kernel))), va_AO.of (hts _ (List.mem_of_getElem? (i := 198) (by decide +kernel))), fun k hk => ?_, zA, hA, zT, hTn, zC, zS, ⟨fun i hi => ?_, fun i j hi hj e => ?_⟩, ?_⟩
  · rw [aK k hk]
    exact vk_R.of (hts _ (cn_s8 k hk)) (hev k hk)
  · have h := hS.1 i hi
    rw [← aK i hi, ← aV i] at h
    exact h
  · refine hS.2 i j hi hj ?_
    rw [← aK i hi, ← aK j hj]
    exact e
  · obtain ⟨scr, h1, h2, h3, h4, h5⟩ := hX
    exact ⟨scr, h1, h2, h3, by omega, by rw [h4], h5, cn_A0_n b hbl⟩
