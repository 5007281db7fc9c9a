section
variable {p : Program} {l : Launch} {e : Env} {R : Room} {s : State} {m : MethodId} {args : Array Value} {below : List Frame} {meth : Method} {c : Code} {cells slots : Nat} {Q : State → Prop}
variable {ad : Nat → Nat} {cA : Nat → ClassId} {D : va_G} {x0 : Value} {L : Nat} {xs : Nat → Int32} {A : Nat → Prop} {d y : Nat}
variable {K : Nat} {n pc pc2 pc' a b w len idx : Nat} {z : Int} {ls st ls' st' : List mv_V} {M M' : mv_M} {cc : ByteArray}
theorem mv_nn_P {α : Type} {P : α → Prop} {dv : α} (hd : P dv) : ∀ (f : List α) (k : Nat), (∀ x ∈ f, P x) → P (mv_nn dv f k)
  | [], _, _ => hd
  | x :: _, 0, h => h x List.mem_cons_self
  | _ :: f, k + 1, h => mv_nn_P hd f k (fun x hx => h x (List.mem_cons_of_mem _ hx))
theorem mv_nnn (ff : List (List Int)) (h : ∀ f ∈ ff, ∀ x ∈ f, mv_n32 x) (a b : Nat) : mv_n32 (mv_nn 0 (mv_nn [] ff a) b) :=
  mv_nn_P mv_n0 _ b (mv_nn_P (P := fun f : List Int => ∀ x ∈ f, mv_n32 x) (fun x hx => absurd hx List.not_mem_nil) ff a h)
theorem mv_ro_n (i j : Nat) : mv_n32 (mv_ro i j) := by
  have h1 : ∀ x ∈ ([-1, 0, 0, 1, 2, 0] : List Int), mv_b32 x = true := by decide +kernel
  have h2 : ∀ x ∈ ([1, 10, 100, 1000, 10000, 100000] : List Int), mv_b32 x = true := by decide +kernel
  have h3 : ∀ f ∈ mv_strs, ∀ x ∈ f, mv_b32 x = true := by decide +kernel
  have k1 := mv_nn_P (P := mv_n32) mv_n0 _ j (fun x hx => mv_b32_n (h1 x hx))
  have k2 := mv_nn_P (P := mv_n32) mv_n0 _ j (fun x hx => mv_b32_n (h2 x hx))
  have k3 := mv_nnn mv_strs (fun f hf x hx => mv_b32_n (h3 f hf x hx)) (i - 230) j
  unfold mv_ro
  cases Nat.beq i 200 with
  | true => exact k1
  | false =>
    dsimp only [cond]
    cases Nat.beq i 201 with
    | true => exact k2
    | false => exact k3
theorem mv_rd_lt {i j : Nat} (h : i < 200) : mv_rd M i j = M i j := by
  unfold mv_rd
  have : Nat.blt i 200 = true := Nat.ble_eq_true_of_le h
  rw [this]; rfl
theorem mv_ln_lt {i : Nat} (h : i ≠ 202) : mv_ln M i = (mv_len i : Int) := by
  unfold mv_ln
  have : Nat.beq i 202 = false := by
    cases q : Nat.beq i 202 with
    | false => rfl
    | true => exact absurd (mv_beq q) h
  rw [this]; rfl
theorem mv_ty1 {i : Nat} (h : mv_ak i = 1) : mv_ty i = .int := by unfold mv_ty; rw [h]; rfl
theorem mv_ty2 {i : Nat} (h : mv_ak i = 2) : mv_ty i = .long := by unfold mv_ty; rw [h]; rfl
theorem mv_ty3 {i : Nat} (h : mv_ak i = 3) : ∃ C : String, mv_ty i = .object C := by
  unfold mv_ty
  rw [h]
  cases Nat.beq i 1 with
  | true => exact ⟨_, rfl⟩
  | false => exact ⟨_, rfl⟩
theorem mv_ce1 {i : Nat} (h : mv_ak i = 1) : mv_ce ad cA M i = .inl (cA i, mv_len i, .inl (fun j => Int32.ofInt (M i j))) := by unfold mv_ce; rw [h]; rfl
theorem mv_ce2 {i : Nat} (h : mv_ak i = 2) : mv_ce ad cA M i = .inl (cA i, mv_len i, .inr (.inl (fun j => Int64.ofInt (M i j)))) := by unfold mv_ce; rw [h]; rfl
theorem mv_ce3 {i : Nat} (h : mv_ak i = 3) : mv_ce ad cA M i = .inl (cA i, mv_len i, .inr (.inr (.inr (.inr (fun j => some (ad (mv_el i j))))))) := by unfold mv_ce; rw [h]; rfl
theorem mv_slen : ∀ k, k < 14 → mv_len (230 + k) = mv_sl.getD k 0 ∧ ∀ j, j < mv_len (230 + k) → Int32.ofInt (mv_ro (230 + k) j) = (mv_sb.getD k []).getD j 0 := by decide +kernel
theorem mv_bad_if {P : Prop} {i : Decidable P} {x : Nat} (h : (if P then x else mv_bad) ≠ mv_bad) : P := by
  by_cases h9 : P
  · exact h9
  · rw [if_neg h9] at h; exact absurd rfl h
theorem mv_s_ali (cx : mv_Cx K p R s m args c cells slots ad cA D x0 L xs A d y) (hd : decode (mv_yb y) pc = .ok (.iaload, 1))
    (h : mv_ali (pc + 1) ls st M = some (pc', ls', st', M')) (hp : pc' ≠ mv_bad) (k : mv_Se K p l e R s m args below meth c cells slots Q ad cA D x0 L xs A n pc' ls' st' M') : mv_Se K p l e R s m args below meth c cells slots Q ad cA D x0 L xs A n pc ls st M := by
  obtain ⟨hx, hb, hml, hown, hts, hK, hF, hFr, hA, -⟩ := cx
  rcases st with _ | ⟨v1, st⟩
  · cases h
  rcases v1 with j | j | j | j <;> try cases h
  rcases st with _ | ⟨v2, r⟩
  · cases h
  rcases v2 with u | u | i | u <;> try cases h
  simp only [mv_ali] at h
  generalize hk : mv_ak i = kk at h
  match kk, h, hk with
  | 0, h, _ => cases h
  | 1, h, hk =>
    cases h
    have hc := mv_bad_if hp
    obtain ⟨g1, g2, g3⟩ := mv_ak_in (Or.inl hk)
    rw [mv_ln_lt (by omega)] at hc
    intro H locs lsA hn hW hl nl ns
    obtain ⟨nj, nr⟩ := mv_nc.mp ns
    obtain ⟨q, -, hq⟩ := mv_at (K := K) (ad := ad) (cA := cA) (M := M) g1 (mv_nc.mp nr).1
    obtain ⟨t, ht⟩ := mv_tyat (K := K) (cA := cA) g2 (mv_nc.mp nr).1
    rw [mv_ce1 hk] at hq
    rw [mv_ty1 hk] at ht
    refine va_iald hx hb hK hW.1 q t hq ht (mv_ix nj hc) hd ?_
    have q2 := k H locs lsA hn hW hl nl (mv_nc.mpr ⟨by rw [mv_rd_lt g3]; exact (hW.2.2.2.1.1 i _).2 (by rw [hk]; decide), (mv_nc.mp nr).2⟩)
    rw [mv_ln_lt (by omega), if_pos hc, mv_rd_lt g3] at q2
    rw [mv_cj nj]
    exact q2
  | 2, h, _ => cases h
  | 3, h, _ => cases h
  | 4, h, hk =>
    cases h
    have hc := mv_bad_if hp
    intro H locs lsA hn hW hl nl ns
    obtain ⟨nj, nr⟩ := mv_nc.mp ns
    have q2 := k H locs lsA hn hW hl nl (mv_nc.mpr ⟨by
      rcases mv_ak_ro hk with rfl | rfl
      · exact mv_ro_n 200 _
      · exact mv_ro_n 201 _, (mv_nc.mp nr).2⟩)
    rw [if_pos hc] at q2
    rcases mv_ak_ro hk with rfl | rfl
    · exact va_ti hx hb hF.2.1 hW.2.2.1 (mv_ix nj hc) (by rw [mv_cj nj]; rfl) hd q2
    · exact va_ti hx hb hF.2.2.2.1 hW.2.2.1 (mv_ix nj hc) (by rw [mv_cj nj]; rfl) hd q2
  | 5, h, _ => cases h
  | 6, h, hk =>
    cases h
    have hc := mv_bad_if hp
    have hi := mv_ak_sc hk
    subst hi
    intro H locs lsA hn hW hl nl ns
    obtain ⟨nj, nr⟩ := mv_nc.mp ns
    have hc2 : 0 ≤ j ∧ j < (L : Int) := by rw [← hW.2.2.2.2.1]; exact hc
    have q2 := k H locs lsA hn hW hl nl (mv_nc.mpr ⟨(hW.2.2.2.1.1 202 _).2 (by decide), (mv_nc.mp nr).2⟩)
    rw [if_pos hc] at q2
    refine va_ti hx hb hF.2.2.2.2.2.2.2 hW.2.2.1 (mv_ix nj hc2) (v := .int (Int32.ofInt (M 202 j.toNat))) ?_ hd q2
    rw [mv_cj nj, hW.2.2.2.2.2.2 j.toNat (by omega)]
  | kk + 7, h, _ => cases h
theorem mv_s_alb (cx : mv_Cx K p R s m args c cells slots ad cA D x0 L xs A d y) (hd : decode (mv_yb y) pc = .ok (.baload, 1))
    (h : mv_alb (pc + 1) ls st M = some (pc', ls', st', M')) (hp : pc' ≠ mv_bad) (k : mv_Se K p l e R s m args below meth c cells slots Q ad cA D x0 L xs A n pc' ls' st' M') : mv_Se K p l e R s m args below meth c cells slots Q ad cA D x0 L xs A n pc ls st M := by
  obtain ⟨hx, hb, hml, hown, hts, hK, hF, hFr, hA, -⟩ := cx
  rcases st with _ | ⟨v1, st⟩
  · cases h
  rcases v1 with j | j | j | j <;> try cases h
  rcases st with _ | ⟨v2, r⟩
  · cases h
  rcases v2 with u | u | i | u <;> try cases h
  simp only [mv_alb] at h
  generalize hk : mv_ak i = kk at h
  match kk, h, hk with
  | 0, h, _ => cases h
  | 1, h, _ => cases h
  | 2, h, _ => cases h
  | 3, h, _ => cases h
  | 4, h, _ => cases h
  | 5, h, hk =>
    cases h
    have hc := mv_bad_if hp
    obtain ⟨i1, i2⟩ := mv_ak_by hk
    obtain ⟨i3, rfl⟩ : ∃ i3, i = 230 + i3 := ⟨i - 230, by omega⟩
    obtain ⟨s1, s2⟩ := mv_slen i3 (by omega)
    obtain ⟨g1, g2, g3, g4⟩ := hF.2.2.2.2.2.2.1.1 i3 (by omega)
    have hc2 := hc
    rw [mv_ln_lt (by omega), s1] at hc2
    intro H locs lsA hn hW hl nl ns
    obtain ⟨nj, nr⟩ := mv_nc.mp ns
    have hrd : mv_rd M (230 + i3) j.toNat = mv_ro (230 + i3) j.toNat := by
      unfold mv_rd
      have b1 : Nat.blt (230 + i3) 200 = false := by
        cases q : Nat.blt (230 + i3) 200 with
        | false => rfl
        | true => have := mv_blt q; omega
      have b2 : Nat.beq (230 + i3) 202 = false := by
        cases q : Nat.beq (230 + i3) 202 with
        | false => rfl
        | true => have := mv_beq q; omega
      rw [b1, b2]; rfl
    have q2 := k H locs lsA hn hW hl nl (mv_nc.mpr ⟨by rw [hrd]; exact mv_ro_n _ _, (mv_nc.mp nr).2⟩)
    rw [if_pos hc, hrd] at q2
    refine va_tb hx hb g4 hW.2.2.1 (mv_ix nj hc2) (v := .int (Int32.ofInt (mv_ro (230 + i3) j.toNat))) ?_ hd q2
    rw [mv_cj nj, s2 j.toNat (by omega)]
  | kk + 6, h, _ => cases h
theorem mv_s_all (cx : mv_Cx K p R s m args c cells slots ad cA D x0 L xs A d y) (hd : decode (mv_yb y) pc = .ok (.laload, 1))
    (h : mv_all (pc + 1) ls st M = some (pc', ls', st', M')) (hp : pc' ≠ mv_bad) (k : mv_Se K p l e R s m args below meth c cells slots Q ad cA D x0 L xs A n pc' ls' st' M') : mv_Se K p l e R s m args below meth c cells slots Q ad cA D x0 L xs A n pc ls st M := by
  obtain ⟨hx, hb, hml, hown, hts, hK, hF, hFr, hA, -⟩ := cx
  rcases st with _ | ⟨v1, st⟩
  · cases h
  rcases v1 with j | j | j | j <;> try cases h
  rcases st with _ | ⟨v2, r⟩
  · cases h
  rcases v2 with u | u | i | u <;> try cases h
  simp only [mv_all] at h
  generalize hk : mv_ak i = kk at h
  match kk, h, hk with
  | 0, h, _ => cases h
  | 1, h, _ => cases h
  | 2, h, hk =>
    cases h
    have hc := mv_bad_if hp
    obtain ⟨g1, g2, g3⟩ := mv_ak_in (Or.inr (Or.inl hk))
    rw [mv_ln_lt (by omega)] at hc
    intro H locs lsA hn hW hl nl ns
    obtain ⟨nj, nr⟩ := mv_nc.mp ns
    obtain ⟨q, -, hq⟩ := mv_at (K := K) (ad := ad) (cA := cA) (M := M) g1 (mv_nc.mp nr).1
    obtain ⟨t, ht⟩ := mv_tyat (K := K) (cA := cA) g2 (mv_nc.mp nr).1
    rw [mv_ce2 hk] at hq
    rw [mv_ty2 hk] at ht
    refine va_lald hx hb hK hW.1 q t hq ht (mv_ix nj hc) hd ?_
    have q2 := k H locs lsA hn hW hl nl (mv_nc.mpr ⟨by rw [mv_rd_lt g3]; exact (hW.2.2.2.1.1 i _).1 hk, (mv_nc.mp nr).2⟩)
    rw [mv_ln_lt (by omega), if_pos hc, mv_rd_lt g3] at q2
    rw [mv_cj nj]
    exact q2
  | kk + 3, h, _ => cases h
theorem mv_s_ala (cx : mv_Cx K p R s m args c cells slots ad cA D x0 L xs A d y) (hd : decode (mv_yb y) pc = .ok (.aaload, 1))
    (h : mv_ala (pc + 1) ls st M = some (pc', ls', st', M')) (hp : pc' ≠ mv_bad) (k : mv_Se K p l e R s m args below meth c cells slots Q ad cA D x0 L xs A n pc' ls' st' M') : mv_Se K p l e R s m args below meth c cells slots Q ad cA D x0 L xs A n pc ls st M := by
  obtain ⟨hx, hb, hml, hown, hts, hK, hF, hFr, hA, -⟩ := cx
  rcases st with _ | ⟨v1, st⟩
  · cases h
  rcases v1 with j | j | j | j <;> try cases h
  rcases st with _ | ⟨v2, r⟩
  · cases h
  rcases v2 with u | u | i | u <;> try cases h
  simp only [mv_ala] at h
  generalize hk : mv_ak i = kk at h
  match kk, h, hk with
  | 0, h, _ => cases h
  | 1, h, _ => cases h
  | 2, h, _ => cases h
  | 3, h, hk =>
    cases h
    have hc := mv_bad_if hp
    obtain ⟨g1, g2, g3⟩ := mv_ak_in (Or.inr (Or.inr hk))
    rw [mv_ln_lt (by omega)] at hc
    intro H locs lsA hn hW hl nl ns
    obtain ⟨nj, nr⟩ := mv_nc.mp ns
    obtain ⟨q, -, hq⟩ := mv_at (K := K) (ad := ad) (cA := cA) (M := M) g1 (mv_nc.mp nr).1
    obtain ⟨t, ht⟩ := mv_tyat (K := K) (cA := cA) g2 (mv_nc.mp nr).1
    obtain ⟨C, hC⟩ := mv_ty3 hk
    rw [mv_ce3 hk] at hq
    rw [hC] at ht
    refine va_aldq hx hb hK hW.1 q t hq ht (mv_ix nj hc) hd ?_
    have q2 := k H locs lsA hn hW hl nl (mv_nc.mpr ⟨mv_Bel hk (by omega) (mv_nc.mp nr).1, (mv_nc.mp nr).2⟩)
    rw [mv_ln_lt (by omega), if_pos hc] at q2
    rw [mv_cj nj]
    exact q2
  | kk + 4, h, _ => cases h
theorem mv_s_asi (cx : mv_Cx K p R s m args c cells slots ad cA D x0 L xs A d y) (hd : decode (mv_yb y) pc = .ok (.iastore, 1))
    (h : mv_asi (pc + 1) ls st M = some (pc', ls', st', M')) (hp : pc' ≠ mv_bad) (k : mv_Se K p l e R s m args below meth c cells slots Q ad cA D x0 L xs A n pc' ls' st' M') : mv_Se K p l e R s m args below meth c cells slots Q ad cA D x0 L xs A n pc ls st M := by
  obtain ⟨hx, hb, hml, hown, hts, hK, hF, hFr, hA, -⟩ := cx
  rcases st with _ | ⟨v0, st⟩
  · cases h
  rcases v0 with x | x | x | x <;> try cases h
  rcases st with _ | ⟨v1, st⟩
  · cases h
  rcases v1 with j | j | j | j <;> try cases h
  rcases st with _ | ⟨v2, r⟩
  · cases h
  rcases v2 with u | u | i | u <;> try cases h
  simp only [mv_asi] at h
  generalize hk : mv_ak i = kk at h
  match kk, h, hk with
  | 0, h, _ => cases h
  | 1, h, hk =>
    cases h
    have hc := mv_bad_if hp
    obtain ⟨g1, g2, g3⟩ := mv_ak_in (Or.inl hk)
    rw [mv_ln_lt (by omega)] at hc
    intro H locs lsA hn hW hl nl ns
    obtain ⟨nx, ns⟩ := mv_nc.mp ns
    obtain ⟨nj, nr⟩ := mv_nc.mp ns
    obtain ⟨q, hq0, hq⟩ := mv_at (K := K) (ad := ad) (cA := cA) (M := M) g1 (mv_nc.mp nr).1
    obtain ⟨t, ht⟩ := mv_tyat (K := K) (cA := cA) g2 (mv_nc.mp nr).1
    rw [mv_ce1 hk] at hq
    rw [mv_ty1 hk] at ht
    refine va_iast hx hb hK hW.1 hW.2.1 hW.2.2.1 q t hq ht (x := Int32.ofInt x) (mv_ix nj hc) hd (fun H1 locs1 hP1 hD1 hS1 => ?_)
    have hW1 := hW.put hq0 g3 (f := mv_up (M i) j.toNat x) (by
      rw [mv_ce1 hk, mv_st_s, mv_cj nj]
      congr 3
      congr 1
      funext k9
      unfold mv_up upd
      by_cases h9 : k9 = j.toNat
      · rw [if_pos h9, if_pos h9]
      · rw [if_neg h9, if_neg h9]) (fun k9 => ⟨fun h => absurd (hk.symm.trans h) (by decide), fun _ => by
      unfold mv_up
      by_cases h9 : k9 = j.toNat
      · rw [if_pos h9]; exact nx
      · rw [if_neg h9]; exact (hW.2.2.2.1.1 i k9).2 (by rw [hk]; decide)⟩) (fun h28 => absurd hk (by subst h28; decide)) hP1 hD1 hS1
    have q2 := k H1 locs1 lsA hn hW1 hl nl (mv_nc.mp nr).2
    rw [mv_ln_lt (by omega), if_pos hc] at q2
    exact q2
  | kk + 2, h, _ => cases h
theorem mv_s_asl (cx : mv_Cx K p R s m args c cells slots ad cA D x0 L xs A d y) (hd : decode (mv_yb y) pc = .ok (.lastore, 1))
    (h : mv_asl (pc + 1) ls st M = some (pc', ls', st', M')) (hp : pc' ≠ mv_bad) (k : mv_Se K p l e R s m args below meth c cells slots Q ad cA D x0 L xs A n pc' ls' st' M') : mv_Se K p l e R s m args below meth c cells slots Q ad cA D x0 L xs A n pc ls st M := by
  obtain ⟨hx, hb, hml, hown, hts, hK, hF, hFr, hA, -⟩ := cx
  rcases st with _ | ⟨v0, st⟩
  · cases h
  rcases v0 with x | x | x | x <;> try cases h
  rcases st with _ | ⟨v1, st⟩
  · cases h
  rcases v1 with j | j | j | j <;> try cases h
  rcases st with _ | ⟨v2, r⟩
  · cases h
  rcases v2 with u | u | i | u <;> try cases h
  simp only [mv_asl] at h
  generalize hk : mv_ak i = kk at h
  match kk, h, hk with
  | 0, h, _ => cases h
  | 1, h, _ => cases h
  | 2, h, hk =>
    cases h
    have hc := mv_bad_if hp
    obtain ⟨g1, g2, g3⟩ := mv_ak_in (Or.inr (Or.inl hk))
    rw [mv_ln_lt (by omega)] at hc
    intro H locs lsA hn hW hl nl ns
    obtain ⟨nx, ns⟩ := mv_nc.mp ns
    obtain ⟨nj, nr⟩ := mv_nc.mp ns
    obtain ⟨q, hq0, hq⟩ := mv_at (K := K) (ad := ad) (cA := cA) (M := M) g1 (mv_nc.mp nr).1
    obtain ⟨t, ht⟩ := mv_tyat (K := K) (cA := cA) g2 (mv_nc.mp nr).1
    rw [mv_ce2 hk] at hq
    rw [mv_ty2 hk] at ht
    refine va_last hx hb hK hW.1 hW.2.1 hW.2.2.1 q t hq ht (x := Int64.ofInt x) (mv_ix nj hc) hd (fun H1 locs1 hP1 hD1 hS1 => ?_)
    have hW1 := hW.put hq0 g3 (f := mv_up (M i) j.toNat x) (by
      rw [mv_ce2 hk, mv_st_s, mv_cj nj]
      congr 4
      congr 1
      funext k9
      unfold mv_up vp_updL
      by_cases h9 : k9 = j.toNat
      · rw [if_pos h9, if_pos h9]
      · rw [if_neg h9, if_neg h9]) (fun k9 => ⟨fun _ => by
      unfold mv_up
      by_cases h9 : k9 = j.toNat
      · rw [if_pos h9]; exact nx
      · rw [if_neg h9]; exact (hW.2.2.2.1.1 i k9).1 hk, fun h => absurd hk h⟩) (fun h28 => absurd hk (by subst h28; decide)) hP1 hD1 hS1
    have q2 := k H1 locs1 lsA hn hW1 hl nl (mv_nc.mp nr).2
    rw [mv_ln_lt (by omega), if_pos hc] at q2
    exact q2
  | kk + 3, h, _ => cases h
theorem mv_oN (k : Nat) : Int32.ofNat k = Int32.ofInt (k : Int) := by
  apply Int32.toInt_inj.mp
  simp
theorem mv_len_n {i : Nat} (h : i < 244) : mv_len i < 2147483648 := by
  have h0 : ∀ i, i < 244 → mv_len i < 2147483648 := by decide +kernel
  exact h0 i h
theorem mv_s_aln (cx : mv_Cx K p R s m args c cells slots ad cA D x0 L xs A d y) (hd : decode (mv_yb y) pc = .ok (.arraylength, 1))
    (h : mv_aln (pc + 1) ls st M = some (pc', ls', st', M')) (k : mv_Se K p l e R s m args below meth c cells slots Q ad cA D x0 L xs A n pc' ls' st' M') : mv_Se K p l e R s m args below meth c cells slots Q ad cA D x0 L xs A n pc ls st M := by
  obtain ⟨hx, hb, hml, hown, hts, hK, hF, hFr, hA, -⟩ := cx
  rcases st with _ | ⟨v2, r⟩
  · cases h
  rcases v2 with u | u | i | u <;> try cases h
  simp only [mv_aln] at h
  have hk7 := mv_ak_le i
  have hi : mv_ak i ≠ 0 → i < 244 := fun h9 => by
    by_cases h8 : i < 244
    · exact h8
    · exact absurd (mv_ak_ge (by omega)) h9
  generalize hk : mv_ak i = kk at h hk7 hi
  match kk, h, hk, hk7, hi with
  | 0, h, _, _, _ => cases h
  | kk + 1, h, hk, hk7, hi =>
    cases h
    have hi := hi (by omega)
    by_cases h3 : kk + 1 ≤ 3
    · obtain ⟨g1, g2, g3⟩ := mv_ak_in (i := i) (by omega)
      intro H locs lsA hn hW hl nl ns
      obtain ⟨q, -, hq⟩ := mv_at (K := K) (ad := ad) (cA := cA) (M := M) g1 (mv_nc.mp ns).1
      obtain ⟨t, ht⟩ := mv_tyat (K := K) (cA := cA) g2 (mv_nc.mp ns).1
      have hle : mv_ln M i = (mv_len i : Int) := mv_ln_lt (by omega)
      have q2 := k H locs lsA hn hW hl nl (mv_nc.mpr ⟨by
        have := mv_len_n hi
        show mv_n32 (mv_ln M i)
        rw [hle]; unfold mv_n32; omega, (mv_nc.mp ns).2⟩)
      rw [hle] at q2
      rcases (show kk + 1 = 1 ∨ kk + 1 = 2 ∨ kk + 1 = 3 by omega) with h9 | h9 | h9
      · rw [h9] at hk
        rw [mv_ce1 hk] at hq
        exact va_alen hx hb hK hW.1 q t hq ht (mv_oN _) hd q2
      · rw [h9] at hk
        rw [mv_ce2 hk] at hq
        exact va_alen hx hb hK hW.1 q t hq ht (mv_oN _) hd q2
      · rw [h9] at hk
        rw [mv_ce3 hk] at hq
        exact va_alen hx hb hK hW.1 q t hq ht (mv_oN _) hd q2
    · intro H locs lsA hn hW hl nl ns
      rcases (show kk + 1 = 4 ∨ kk + 1 = 5 ∨ kk + 1 = 6 by omega) with h9 | h9 | h9
      · rw [h9] at hk
        have q2 := k H locs lsA hn hW hl nl (mv_nc.mpr ⟨by
          rcases mv_ak_ro hk with rfl | rfl <;> (show mv_n32 6; unfold mv_n32; omega), (mv_nc.mp ns).2⟩)
        rcases mv_ak_ro hk with rfl | rfl
        · exact va_tlen hx hb hF.2.1 hW.2.2.1 (mv_oN _) hd q2
        · exact va_tlen hx hb hF.2.2.2.1 hW.2.2.1 (mv_oN _) hd q2
      · rw [h9] at hk
        obtain ⟨i1, i2⟩ := mv_ak_by hk
        obtain ⟨i3, rfl⟩ : ∃ i3, i = 230 + i3 := ⟨i - 230, by omega⟩
        obtain ⟨s1, s2⟩ := mv_slen i3 (by omega)
        obtain ⟨g1, g2, g3, g4⟩ := hF.2.2.2.2.2.2.1.1 i3 (by omega)
        have hle : mv_ln M (230 + i3) = (mv_len (230 + i3) : Int) := mv_ln_lt (by omega)
        have q2 := k H locs lsA hn hW hl nl (mv_nc.mpr ⟨by
          have := mv_len_n i2
          show mv_n32 (mv_ln M (230 + i3))
          rw [hle]; unfold mv_n32; omega, (mv_nc.mp ns).2⟩)
        rw [hle, s1] at q2
        exact va_tlen hx hb g4 hW.2.2.1 (mv_oN _) hd q2
      · rw [h9] at hk
        have hi := mv_ak_sc hk
        subst hi
        have hle : mv_ln M 202 = (L : Int) := hW.2.2.2.2.1
        have q2 := k H locs lsA hn hW hl nl (mv_nc.mpr ⟨by
          have := hW.2.2.2.2.2.1
          show mv_n32 (mv_ln M 202)
          rw [hle]; unfold mv_n32; omega, (mv_nc.mp ns).2⟩)
        rw [hle] at q2
        exact va_tlen hx hb hF.2.2.2.2.2.2.2 hW.2.2.1 (mv_oN _) hd q2
theorem mv_s_cpy (cx : mv_Cx K p R s m args c cells slots ad cA D x0 L xs A d y) (hd : decode (mv_yb y) pc = .ok (.invokestatic idx, 3)) (hlk : mv_has w (.methodLink (mv_yn y).cls idx arraycopyName) = true) (hny : n = mv_nl y)
    (h : mv_cpy (pc + 3) ls st M = some (pc', ls', st', M')) (hp : pc' ≠ mv_bad) (k : mv_Se K p l e R s m args below meth c cells slots Q ad cA D x0 L xs A n pc' ls' st' M') : mv_Se K p l e R s m args below meth c cells slots Q ad cA D x0 L xs A n pc ls st M := by
  obtain ⟨hx, hb, hml, hown, hts, hK, hF, hFr, hA, hfr, hlo, hce, hsl, hx0⟩ := cx
  rcases st with _ | ⟨v1, st⟩
  · cases h
  rcases v1 with n9 | u | u | u <;> try cases h
  rcases st with _ | ⟨v1, st⟩
  · cases h
  rcases v1 with dp | u | u | u <;> try cases h
  rcases st with _ | ⟨v1, st⟩
  · cases h
  rcases v1 with u | u | j | u <;> try cases h
  rcases st with _ | ⟨v1, st⟩
  · cases h
  rcases v1 with sp | u | u | u <;> try cases h
  rcases st with _ | ⟨v1, r⟩
  · cases h
  rcases v1 with u | u | i | u <;> try cases h
  simp only [mv_cpy] at h
  by_cases hk : mv_ak i = 1 ∧ mv_ak j = 1
  · obtain ⟨hk, hj⟩ := hk
    rw [hk, hj] at h
    cases hr : Nat.ble (mv_cats r) 8 with
    | false => rw [hr] at h; cases h
    | true =>
      rw [hr] at h
      cases h
      have hr := Nat.le_of_ble_eq_true hr
      obtain ⟨c1, c2, c3, c4, c5⟩ := mv_bad_if hp
      have hcc : 0 ≤ sp ∧ 0 ≤ dp ∧ 0 ≤ n9 ∧ sp + n9 ≤ mv_ln M i ∧ dp + n9 ≤ mv_ln M j := ⟨c1, c2, c3, c4, c5⟩
      obtain ⟨g1, g2, g3⟩ := mv_ak_in (Or.inl hk)
      obtain ⟨f1, f2, f3⟩ := mv_ak_in (Or.inl hj)
      rw [mv_ln_lt (by omega)] at c4 c5
      intro H locs lsA hn hW hl nl ns
      obtain ⟨nn, ns⟩ := mv_nc.mp ns
      obtain ⟨nd, ns⟩ := mv_nc.mp ns
      obtain ⟨nBj, ns⟩ := mv_nc.mp ns
      obtain ⟨nsp, ns⟩ := mv_nc.mp ns
      obtain ⟨nBi, nr⟩ := mv_nc.mp ns
      obtain ⟨q, -, hq⟩ := mv_at (K := K) (ad := ad) (cA := cA) (M := M) g1 nBi
      obtain ⟨t, ht⟩ := mv_tyat (K := K) (cA := cA) g2 nBi
      obtain ⟨q9, hq90, hq9⟩ := mv_at (K := K) (ad := ad) (cA := cA) (M := M) f1 nBj
      obtain ⟨t9, ht9⟩ := mv_tyat (K := K) (cA := cA) f2 nBj
      rw [mv_ce1 hk] at hq
      rw [mv_ty1 hk] at ht
      rw [mv_ce1 hj] at hq9
      rw [mv_ty1 hj] at ht9
      have ng : ∀ x : Int, mv_n32 x → 0 ≤ x → ¬ Int32.ofInt x < 0 := fun x hx9 h0 h1 => by
        have := (mv_lt32 hx9 mv_n0).mp h1
        omega
      refine va_copyi hx hb (by rw [hml, hl.1, hn, hny]) hown (hts _ (mv_in hlk)) (hts _ mv_wcn) (hts _ mv_wcs) (hts _ mv_wci) hK hW.1 hW.2.1 hW.2.2.1 q q9 t t9 hq hq9 ht ht9 rfl (ng sp nsp c1) (ng dp nd c2) (ng n9 nn c3)
        (by rw [mv_cj nsp, mv_cj nn]; omega) (by rw [mv_cj nd, mv_cj nn]; omega) (fun i9 _ => rfl) (by omega) (by
          rw [mv_catl hx0]
          have : nativeFrameWords "java/lang/System" "arraycopy" 5 = 7 := by decide +kernel
          omega) hd (fun H1 locs1 hP1 hD1 hS1 => ?_)
      have hW1 := hW.put hq90 f3 (f := mv_cp (M i) (M j) sp.toNat dp.toNat n9.toNat) (by
        rw [mv_ce1 hj, mv_st_s, mv_cj nsp, mv_cj nd, mv_cj nn]
        congr 3
        congr 1
        funext k9
        unfold mv_cp va_cpy
        by_cases h9 : dp.toNat ≤ k9 ∧ k9 < dp.toNat + n9.toNat
        · rw [if_pos h9, if_pos h9]
        · rw [if_neg h9, if_neg h9]) (fun k9 => ⟨fun h => absurd (hj.symm.trans h) (by decide), fun _ => by
        unfold mv_cp
        by_cases h9 : dp.toNat ≤ k9 ∧ k9 < dp.toNat + n9.toNat
        · rw [if_pos h9]; exact (hW.2.2.2.1.1 i _).2 (by rw [hk]; decide)
        · rw [if_neg h9]; exact (hW.2.2.2.1.1 j k9).2 (by rw [hj]; decide)⟩) (fun h28 => absurd hj (by subst h28; decide)) hP1 hD1 hS1
      have q2 := k H1 locs1 lsA hn hW1 hl nl nr
      rw [if_pos hcc] at q2
      exact q2
  · exfalso
    split at h
    · rename_i h1 h2
      exact hk ⟨h1, h2⟩
    · cases h
end
