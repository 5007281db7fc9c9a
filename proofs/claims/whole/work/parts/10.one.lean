section
variable {p : Program} {l : Launch} {e : Env} {R : Room} {s : State} {m : MethodId} {args : Array Value} {below : List Frame} {meth : Method} {c : Code} {cells slots : Nat} {Q : State → Prop}
variable {ad : Nat → Nat} {cA : Nat → ClassId} {D : va_G} {x0 : Value} {L : Nat} {xs : Nat → Int32} {A : Nat → Prop} {d y : Nat}
variable {K : Nat} {n pc pc2 pc' a b w len idx : Nat} {z : Int} {ls st ls' st' : List mv_V} {M M' : mv_M} {cc : ByteArray}
theorem mv_a1 {u v : Bool} (h : (u && v) = true) : u = true ∧ v = true := by simpa using h
theorem mv_f2 {f : Int → Int → Int} {g : Int32 → Int32 → Int32} (h : ∀ x y, Int32.ofInt (f x y) = g (Int32.ofInt x) (Int32.ofInt y)) : ∀ x y, mv_n32 x → mv_n32 y → Int32.ofInt (mv_w (f x y)) = g (Int32.ofInt x) (Int32.ofInt y) ∧ mv_n32 (mv_w (f x y)) := fun x y _ _ => ⟨by rw [mv_w_of, h], mv_w_n _⟩
theorem mv_f3 {f : Int → Int → Int} {g : Int64 → Int64 → Int64} (h : ∀ x y, Int64.ofInt (f x y) = g (Int64.ofInt x) (Int64.ofInt y)) : ∀ x y, mv_n64 x → mv_n64 y → Int64.ofInt (mv_wl (f x y)) = g (Int64.ofInt x) (Int64.ofInt y) ∧ mv_n64 (mv_wl (f x y)) := fun x y _ _ => ⟨by rw [mv_wl_of, h], mv_wl_n _⟩
theorem mv_f4 {g : Int32 → Int32 → Int32} : ∀ x y, mv_n32 x → mv_n32 y → Int32.ofInt ((g (Int32.ofInt x) (Int32.ofInt y)).toInt) = g (Int32.ofInt x) (Int32.ofInt y) ∧ mv_n32 ((g (Int32.ofInt x) (Int32.ofInt y)).toInt) := fun _ _ _ _ => ⟨mv_o32 _, mv_t32 _⟩
theorem mv_f5 {g : Int32 → Int32} : ∀ x, mv_n32 x → Int32.ofInt ((g (Int32.ofInt x)).toInt) = g (Int32.ofInt x) ∧ mv_n32 ((g (Int32.ofInt x)).toInt) := fun _ _ => ⟨mv_o32 _, mv_t32 _⟩
theorem mv_dif (cx : mv_Cx K p R s m args c cells slots ad cA D x0 L xs A d y) (hd : decode (mv_yb y) pc = .ok (.idiv, 1)) (h : mv_step .idiv 1 a b z pc ls st M = some (pc', ls', st', M')) (hp : pc' ≠ mv_bad) (k : mv_Se K p l e R s m args below meth c cells slots Q ad cA D x0 L xs A n pc' ls' st' M') : mv_Se K p l e R s m args below meth c cells slots Q ad cA D x0 L xs A n pc ls st M := by
  obtain ⟨hx, hb, -⟩ := cx
  rcases st with _ | ⟨v1, st⟩
  · cases h
  rcases v1 with v | v | v | v <;> try cases h
  rcases st with _ | ⟨v2, r⟩
  · cases h
  rcases v2 with u | u | u | u <;> try cases h
  intro H locs lsA hn hW hl nl ns
  obtain ⟨nv, ns⟩ := mv_nc.mp ns
  obtain ⟨nu, nr⟩ := mv_nc.mp ns
  by_cases h0 : v = 0
  · rw [if_pos h0] at hp; exact absurd rfl hp
  · have q := k H locs lsA hn hW hl nl (mv_nc.mpr ⟨mv_w_n _, nr⟩)
    rw [if_neg h0] at q
    refine lv_idiv hx hb hd (fun h9 => h0 ((mv_eq32 nv mv_n0).mp h9)) ?_
    rw [← mv_div32 nu nv]
    exact q
theorem mv_rif (cx : mv_Cx K p R s m args c cells slots ad cA D x0 L xs A d y) (hd : decode (mv_yb y) pc = .ok (.irem, 1)) (h : mv_step .irem 1 a b z pc ls st M = some (pc', ls', st', M')) (hp : pc' ≠ mv_bad) (k : mv_Se K p l e R s m args below meth c cells slots Q ad cA D x0 L xs A n pc' ls' st' M') : mv_Se K p l e R s m args below meth c cells slots Q ad cA D x0 L xs A n pc ls st M := by
  obtain ⟨hx, hb, -⟩ := cx
  rcases st with _ | ⟨v1, st⟩
  · cases h
  rcases v1 with v | v | v | v <;> try cases h
  rcases st with _ | ⟨v2, r⟩
  · cases h
  rcases v2 with u | u | u | u <;> try cases h
  intro H locs lsA hn hW hl nl ns
  obtain ⟨nv, ns⟩ := mv_nc.mp ns
  obtain ⟨nu, nr⟩ := mv_nc.mp ns
  by_cases h0 : v = 0
  · rw [if_pos h0] at hp; exact absurd rfl hp
  · have q := k H locs lsA hn hW hl nl (mv_nc.mpr ⟨mv_w_n _, nr⟩)
    rw [if_neg h0] at q
    refine lv_irem hx hb hd (fun h9 => h0 ((mv_eq32 nv mv_n0).mp h9)) ?_
    rw [← mv_rem32 nu nv]
    exact q
theorem mv_dil (cx : mv_Cx K p R s m args c cells slots ad cA D x0 L xs A d y) (hd : decode (mv_yb y) pc = .ok (.ldiv, 1)) (h : mv_step .ldiv 1 a b z pc ls st M = some (pc', ls', st', M')) (hp : pc' ≠ mv_bad) (k : mv_Se K p l e R s m args below meth c cells slots Q ad cA D x0 L xs A n pc' ls' st' M') : mv_Se K p l e R s m args below meth c cells slots Q ad cA D x0 L xs A n pc ls st M := by
  obtain ⟨hx, hb, -⟩ := cx
  rcases st with _ | ⟨v1, st⟩
  · cases h
  rcases v1 with v | v | v | v <;> try cases h
  rcases st with _ | ⟨v2, r⟩
  · cases h
  rcases v2 with u | u | u | u <;> try cases h
  intro H locs lsA hn hW hl nl ns
  obtain ⟨nv, ns⟩ := mv_nc.mp ns
  obtain ⟨nu, nr⟩ := mv_nc.mp ns
  by_cases h0 : v = 0
  · rw [if_pos h0] at hp; exact absurd rfl hp
  · have q := k H locs lsA hn hW hl nl (mv_nc.mpr ⟨mv_wl_n _, nr⟩)
    rw [if_neg h0] at q
    refine lv_ldiv hx hb hd (fun h9 => h0 ((mv_eq64 nv (by unfold mv_n64; omega)).mp h9)) ?_
    rw [← mv_div64 nu nv]
    exact q
theorem mv_ril (cx : mv_Cx K p R s m args c cells slots ad cA D x0 L xs A d y) (hd : decode (mv_yb y) pc = .ok (.lrem, 1)) (h : mv_step .lrem 1 a b z pc ls st M = some (pc', ls', st', M')) (hp : pc' ≠ mv_bad) (k : mv_Se K p l e R s m args below meth c cells slots Q ad cA D x0 L xs A n pc' ls' st' M') : mv_Se K p l e R s m args below meth c cells slots Q ad cA D x0 L xs A n pc ls st M := by
  obtain ⟨hx, hb, -⟩ := cx
  rcases st with _ | ⟨v1, st⟩
  · cases h
  rcases v1 with v | v | v | v <;> try cases h
  rcases st with _ | ⟨v2, r⟩
  · cases h
  rcases v2 with u | u | u | u <;> try cases h
  intro H locs lsA hn hW hl nl ns
  obtain ⟨nv, ns⟩ := mv_nc.mp ns
  obtain ⟨nu, nr⟩ := mv_nc.mp ns
  by_cases h0 : v = 0
  · rw [if_pos h0] at hp; exact absurd rfl hp
  · have q := k H locs lsA hn hW hl nl (mv_nc.mpr ⟨mv_wl_n _, nr⟩)
    rw [if_neg h0] at q
    refine lv_lrem hx hb hd (fun h9 => h0 ((mv_eq64 nv (by unfold mv_n64; omega)).mp h9)) ?_
    rw [← mv_rem64 nu nv]
    exact q
theorem mv_lcm (cx : mv_Cx K p R s m args c cells slots ad cA D x0 L xs A d y) (hd : decode (mv_yb y) pc = .ok (.lcmp, 1)) (h : mv_step .lcmp 1 a b z pc ls st M = some (pc', ls', st', M')) (k : mv_Se K p l e R s m args below meth c cells slots Q ad cA D x0 L xs A n pc' ls' st' M') : mv_Se K p l e R s m args below meth c cells slots Q ad cA D x0 L xs A n pc ls st M := by
  obtain ⟨hx, hb, -⟩ := cx
  rcases st with _ | ⟨v1, st⟩
  · cases h
  rcases v1 with v | v | v | v <;> try cases h
  rcases st with _ | ⟨v2, r⟩
  · cases h
  rcases v2 with u | u | u | u <;> try cases h
  intro H locs lsA hn hW hl nl ns
  obtain ⟨nv, ns⟩ := mv_nc.mp ns
  obtain ⟨nu, nr⟩ := mv_nc.mp ns
  have q := k H locs lsA hn hW hl nl (mv_nc.mpr ⟨by
    show mv_n32 (mv_lcmp u v)
    unfold mv_n32 mv_lcmp
    by_cases h1 : u < v
    · rw [if_pos h1]; omega
    · rw [if_neg h1]
      by_cases h2 : u = v
      · rw [if_pos h2]; omega
      · rw [if_neg h2]; omega, nr⟩)
  refine W.lcmp hx hb hd ?_
  have hc : lg_cmp (Int64.ofInt u) (Int64.ofInt v) = Int32.ofInt (mv_lcmp u v) := by
    unfold lg_cmp mv_lcmp
    have l1 := mv_lt64 nu nv
    have l2 := mv_lt64 nv nu
    have l3 := mv_eq64 nu nv
    by_cases h1 : u < v
    · rw [if_pos h1, if_neg (fun h9 => by have := l2.mp h9; omega), if_neg (fun h9 => by have := l3.mp h9; omega)]; rfl
    · rw [if_neg h1]
      by_cases h2 : u = v
      · rw [if_pos h2, if_neg (fun h9 => by have := l2.mp h9; omega), if_pos (l3.mpr h2)]; rfl
      · rw [if_neg h2, if_pos (show Int64.ofInt u > Int64.ofInt v from l2.mpr (by omega))]; rfl
  rw [hc]
  exact q
theorem mv_gst (cx : mv_Cx K p R s m args c cells slots ad cA D x0 L xs A d y) (hd : decode (mv_yb y) pc = .ok (.getstatic idx, 3)) (hg : mv_gk w (mv_yn y).cls idx a = true) (h : mv_step (.getstatic idx) 3 a b z pc ls st M = some (pc', ls', st', M')) (k : mv_Se K p l e R s m args below meth c cells slots Q ad cA D x0 L xs A n pc' ls' st' M') : mv_Se K p l e R s m args below meth c cells slots Q ad cA D x0 L xs A n pc ls st M := by
  obtain ⟨hx, hb, hml, hown, hts, hK, hF, hFr, hA, -⟩ := cx
  match a, hg, h with
  | 0, hg, h =>
    cases h
    intro H locs lsA hn hW hl nl ns
    exact va_gets hx hb hF.1 hW.2.2.1 hown (hts _ (mv_in hg)) (fun x h => h) hd (k H locs lsA hn hW hl nl (mv_nc.mpr ⟨mv_B200 (by omega), ns⟩))
  | 1, hg, h =>
    cases h
    intro H locs lsA hn hW hl nl ns
    exact va_getsN hx hb hF.2.2.1 hW.2.2.1 hown (hts _ (mv_in hg)) (fun x h => h) hd (k H locs lsA hn hW hl nl (mv_nc.mpr ⟨mv_B200 (by omega), ns⟩))
  | 2, hg, h =>
    cases h
    intro H locs lsA hn hW hl nl ns
    exact va_gets hx hb hF.2.2.2.2.1 hW.2.2.1 hown (hts _ (mv_in hg)) (fun x h => h) hd (k H locs lsA hn hW hl nl (mv_nc.mpr ⟨(by unfold mv_nV mv_n32; omega), ns⟩))
  | 3, hg, h =>
    cases h
    intro H locs lsA hn hW hl nl ns
    exact va_gets hx hb hF.2.2.2.2.2.1 hW.2.2.1 hown (hts _ (mv_in hg)) (fun x h => h) hd (k H locs lsA hn hW hl nl (mv_nc.mpr ⟨trivial, ns⟩))
  | a + 4, hg, h => cases hg
set_option maxHeartbeats 2000000 in
theorem mv_one {i : Instr} (cx : mv_Cx K p R s m args c cells slots ad cA D x0 L xs A d y) (hny : n = mv_nl y) (hck : mv_ck y pc i 0 len a b w z = true)
    (h : mv_step i len a b z pc ls st M = some (pc', ls', st', M')) (hp : pc' ≠ mv_bad) (k : mv_Se K p l e R s m args below meth c cells slots Q ad cA D x0 L xs A n pc' ls' st' M') : mv_Se K p l e R s m args below meth c cells slots Q ad cA D x0 L xs A n pc ls st M := by
  have cx0 := cx
  obtain ⟨hx, hb, hml, hown, hts, hK, hF, hFr, hA, hfr, hlo, hce, hsl, hx0⟩ := cx0
  unfold mv_ck at hck
  obtain ⟨hd, hck⟩ := mv_a1 hck
  have hd := of_decide_eq_true hd
  cases i
  case iconst v =>
    simp only [Bool.and_eq_true, decide_eq_true_eq] at hck
    obtain ⟨⟨⟨-, hl⟩, he⟩, hz⟩ := hck
    have hl := mv_beq hl; subst hl
    cases h
    exact mv_s_push (mv_b32_n hz) (fun _ _ _ _ => lv_iconst hx hb hd he) k
  case bipush v =>
    simp only [Bool.and_eq_true, decide_eq_true_eq] at hck
    obtain ⟨⟨⟨-, hl⟩, he⟩, hz⟩ := hck
    have hl := mv_beq hl; subst hl
    cases h
    exact mv_s_push (mv_b32_n hz) (fun _ _ _ _ => lv_bipush hx hb hd he) k
  case sipush v =>
    simp only [Bool.and_eq_true, decide_eq_true_eq] at hck
    obtain ⟨⟨⟨-, hl⟩, he⟩, hz⟩ := hck
    have hl := mv_beq hl; subst hl
    cases h
    exact mv_s_push (mv_b32_n hz) (fun _ _ _ _ => lv_sipush hx hb hd he) k
  case ldc idx =>
    match a, hck, h with
    | 0, hck, h =>
      simp only [Bool.and_eq_true, decide_eq_true_eq] at hck
      obtain ⟨⟨-, hl⟩, he, hz⟩ := hck
      have hl := mv_beq hl; subst hl
      cases h
      exact mv_s_push (mv_b32_n hz) (fun _ _ _ _ => lv_ldc hx hb hown (hts _ (mv_in he)) hd) k
    | a + 1, hck, h =>
      simp only [Bool.and_eq_true, decide_eq_true_eq] at hck
      obtain ⟨⟨-, hl⟩, ⟨⟨h1, h2⟩, h3⟩, h4⟩ := hck
      have hl := mv_beq hl; subst hl
      have h1 := Nat.le_of_ble_eq_true h1
      have h2 := mv_blt h2
      have h4 := mv_beq h4
      cases h
      intro H locs lsA hn hW hl nl ns
      have hq := hFr (b - 210) (by omega)
      rw [h3, h4, (show 210 + (b - 210) = b by omega)] at hq
      exact va_ldcS hx hb hown hq hd (k H locs lsA hn hW hl nl (mv_nc.mpr ⟨mv_B200 (by omega), ns⟩))
  case ldc_w idx =>
    simp only [Bool.and_eq_true, decide_eq_true_eq] at hck
    obtain ⟨⟨⟨-, hl⟩, he⟩, hz⟩ := hck
    have hl := mv_beq hl; subst hl
    cases h
    exact mv_s_push (mv_b32_n hz) (fun _ _ _ _ => lv_ldcw hx hb hown (hts _ (mv_in he)) hd) k
  case lconst v =>
    simp only [Bool.and_eq_true, decide_eq_true_eq] at hck
    obtain ⟨⟨⟨-, hl⟩, he⟩, hz⟩ := hck
    have hl := mv_beq hl; subst hl
    cases h
    exact mv_s_pushl (mv_b64_n hz) (fun _ _ _ _ => lv_lconst hx hb hd he) k
  case ldc2_w idx =>
    simp only [Bool.and_eq_true, decide_eq_true_eq] at hck
    obtain ⟨⟨⟨-, hl⟩, he⟩, hz⟩ := hck
    have hl := mv_beq hl; subst hl
    cases h
    exact mv_s_pushl (mv_b64_n hz) (fun _ _ _ _ => lv_ldc2 hx hb hown (hts _ (mv_in he)) hd) k
  case aconst_null =>
    obtain ⟨-, hl⟩ := mv_a1 hck
    have hl := mv_beq hl; subst hl
    cases h
    intro H locs lsA hn hW hl nl ns
    exact lv_null hx hb hd (k H locs lsA hn hW hl nl (mv_nc.mpr ⟨trivial, ns⟩))
  case iload_n v =>
    obtain ⟨hl, he⟩ := mv_a1 hck
    have hl := mv_beq (mv_a1 hl).2; subst hl
    exact mv_s_ldi (fun _ _ _ _ _ => lv_iload_n hx hb hd (mv_beq he)) h k
  case iload v =>
    obtain ⟨hl, he⟩ := mv_a1 hck
    have hl := mv_beq (mv_a1 hl).2; subst hl
    have he := mv_beq he; subst he
    exact mv_s_ldi (fun _ _ _ _ _ => lv_iload hx hb hd) h k
  case lload_n v =>
    obtain ⟨hl, he⟩ := mv_a1 hck
    have hl := mv_beq (mv_a1 hl).2; subst hl
    exact mv_s_ldl (fun _ _ _ _ _ => lv_lload_n hx hb hd (mv_beq he)) h k
  case lload v =>
    obtain ⟨hl, he⟩ := mv_a1 hck
    have hl := mv_beq (mv_a1 hl).2; subst hl
    have he := mv_beq he; subst he
    exact mv_s_ldl (fun _ _ _ _ _ => lv_lload hx hb hd) h k
  case aload_n v =>
    obtain ⟨hl, he⟩ := mv_a1 hck
    have hl := mv_beq (mv_a1 hl).2; subst hl
    exact mv_s_lda (fun _ _ _ _ _ => lv_aload_n hx hb hd (mv_beq he)) (fun _ _ _ _ => lv_aload_nN hx hb hd (mv_beq he)) h k
  case aload v =>
    obtain ⟨hl, he⟩ := mv_a1 hck
    have hl := mv_beq (mv_a1 hl).2; subst hl
    have he := mv_beq he; subst he
    exact mv_s_lda (fun _ _ _ _ _ => lv_aload hx hb hd) (fun _ _ _ _ => lv_aloadN hx hb hd) h k
  case istore_n v =>
    obtain ⟨hl, hlt⟩ := mv_a1 hck
    obtain ⟨hl, he⟩ := mv_a1 hl
    have hl := mv_beq (mv_a1 hl).2; subst hl
    have hlt := mv_blt hlt
    exact mv_s_sti hx0 (fun _ _ _ _ _ _ hv => lv_istore_n hx hb hd (mv_beq he) hv (by omega) rfl) h k
  case istore v =>
    obtain ⟨hl, hlt⟩ := mv_a1 hck
    obtain ⟨hl, he⟩ := mv_a1 hl
    have hl := mv_beq (mv_a1 hl).2; subst hl
    have hlt := mv_blt hlt
    have he := mv_beq he; subst he
    exact mv_s_sti hx0 (fun _ _ _ _ _ _ hv => lv_istore hx hb hd hv (by omega) rfl) h k
  case lstore_n v =>
    obtain ⟨hl, hlt⟩ := mv_a1 hck
    obtain ⟨hl, he⟩ := mv_a1 hl
    have hl := mv_beq (mv_a1 hl).2; subst hl
    have hlt := mv_blt hlt
    exact mv_s_stl hx0 (fun _ _ _ _ _ _ hv => lv_lstore_n hx hb hd (mv_beq he) hv (by omega) rfl) h k
  case lstore v =>
    obtain ⟨hl, hlt⟩ := mv_a1 hck
    obtain ⟨hl, he⟩ := mv_a1 hl
    have hl := mv_beq (mv_a1 hl).2; subst hl
    have hlt := mv_blt hlt
    have he := mv_beq he; subst he
    exact mv_s_stl hx0 (fun _ _ _ _ _ _ hv => lv_lstore hx hb hd hv (by omega) rfl) h k
  case astore_n v =>
    obtain ⟨hl, hlt⟩ := mv_a1 hck
    obtain ⟨hl, he⟩ := mv_a1 hl
    have hl := mv_beq (mv_a1 hl).2; subst hl
    have hlt := mv_blt hlt
    exact mv_s_sta hx0 (fun _ _ _ _ _ _ hv => lv_astore_n hx hb hd (mv_beq he) hv (by omega) rfl) (fun _ _ _ _ _ hv => lv_astore_nN hx hb hd (mv_beq he) hv (by omega) rfl) h k
  case astore v =>
    obtain ⟨hl, hlt⟩ := mv_a1 hck
    obtain ⟨hl, he⟩ := mv_a1 hl
    have hl := mv_beq (mv_a1 hl).2; subst hl
    have hlt := mv_blt hlt
    have he := mv_beq he; subst he
    exact mv_s_sta hx0 (fun _ _ _ _ _ _ hv => lv_astore hx hb hd hv (by omega) rfl) (fun _ _ _ _ _ hv => lv_astoreN hx hb hd hv (by omega) rfl) h k
  case iinc v u =>
    obtain ⟨hl, hz⟩ := mv_a1 hck
    obtain ⟨hl, hlt⟩ := mv_a1 hl
    obtain ⟨hl, he⟩ := mv_a1 hl
    have hl := mv_beq (mv_a1 hl).2; subst hl
    have hlt := mv_blt hlt
    have he := mv_beq he; subst he
    have hz := of_decide_eq_true hz
    exact mv_s_inc hx0 (fun _ _ _ _ _ _ _ _ hv hk9 hs => lv_iinc hx hb hd hv hk9 (by rw [hz]; exact hs) (by omega) rfl) h k
  case iadd =>
    have hl := mv_beq (mv_a1 hck).2; subst hl
    exact mv_s_bin hx0 (mv_f2 (g := fun x y => x + y) Int32.ofInt_add) (fun _ _ _ _ _ _ _ _ => lv_iadd hx hb hd) h k
  case isub =>
    have hl := mv_beq (mv_a1 hck).2; subst hl
    exact mv_s_bin hx0 (mv_f2 (g := fun x y => x - y) Int32.ofInt_sub) (fun _ _ _ _ _ _ _ _ => lv_isub hx hb hd) h k
  case imul =>
    have hl := mv_beq (mv_a1 hck).2; subst hl
    exact mv_s_bin hx0 (mv_f2 (g := fun x y => x * y) Int32.ofInt_mul) (fun _ _ _ _ _ _ _ _ => lv_imul hx hb hd) h k
  case iand =>
    have hl := mv_beq (mv_a1 hck).2; subst hl
    exact mv_s_bin hx0 (mv_f4 (g := fun x y => x &&& y)) (fun _ _ _ _ _ _ _ _ => lv_iand hx hb hd) h k
  case ior =>
    have hl := mv_beq (mv_a1 hck).2; subst hl
    exact mv_s_bin hx0 (mv_f4 (g := fun x y => x ||| y)) (fun _ _ _ _ _ _ _ _ => lv_ior hx hb hd) h k
  case ixor =>
    have hl := mv_beq (mv_a1 hck).2; subst hl
    exact mv_s_bin hx0 (mv_f4 (g := fun x y => x ^^^ y)) (fun _ _ _ _ _ _ _ _ => lv_ixor hx hb hd) h k
  case ishl =>
    have hl := mv_beq (mv_a1 hck).2; subst hl
    exact mv_s_bin hx0 (mv_f4 (g := fun x y => x <<< (y &&& 31))) (fun _ _ _ _ _ _ _ _ => lv_ishl hx hb hd) h k
  case ishr =>
    have hl := mv_beq (mv_a1 hck).2; subst hl
    exact mv_s_bin hx0 (mv_f4 (g := fun x y => x >>> (y &&& 31))) (fun _ _ _ _ _ _ _ _ => lv_ishr hx hb hd) h k
  case iushr =>
    have hl := mv_beq (mv_a1 hck).2; subst hl
    exact mv_s_bin hx0 (mv_f4 (g := fun x y => (x.toUInt32 >>> (y.toUInt32 &&& Int32.toUInt32 31)).toInt32)) (fun _ _ _ _ _ _ _ _ => lv_iushr hx hb hd rfl) h k
  case idiv =>
    have hl := mv_beq (mv_a1 hck).2; subst hl
    exact mv_dif cx hd h hp k
  case irem =>
    have hl := mv_beq (mv_a1 hck).2; subst hl
    exact mv_rif cx hd h hp k
  case ineg =>
    have hl := mv_beq (mv_a1 hck).2; subst hl
    exact mv_s_una (g := fun x => -x) (fun x _ => ⟨by rw [mv_w_of, Int32.ofInt_neg], mv_w_n _⟩) (fun _ _ _ _ _ => lv_ineg hx hb hd) h k
  case i2b =>
    have hl := mv_beq (mv_a1 hck).2; subst hl
    exact mv_s_una (mv_f5 (g := fun x => x.toInt8.toInt32)) (fun _ _ _ _ _ => lv_i2b hx hb hd rfl) h k
  case i2s =>
    have hl := mv_beq (mv_a1 hck).2; subst hl
    exact mv_s_una (mv_f5 (g := fun x => x.toInt16.toInt32)) (fun _ _ _ _ _ => lv_i2s hx hb hd rfl) h k
  case i2c =>
    have hl := mv_beq (mv_a1 hck).2; subst hl
    exact mv_s_una (mv_f5 (g := fun x => (x.toUInt32 % 65536).toInt32)) (fun _ _ _ _ _ => lv_i2c hx hb hd rfl) h k
  case ladd =>
    have hl := mv_beq (mv_a1 hck).2; subst hl
    exact mv_s_bnl hx0 (mv_f3 (g := fun x y => x + y) Int64.ofInt_add) (fun _ _ _ _ _ _ _ _ => lv_ladd hx hb hd) h k
  case lsub =>
    have hl := mv_beq (mv_a1 hck).2; subst hl
    exact mv_s_bnl hx0 (mv_f3 (g := fun x y => x - y) Int64.ofInt_sub) (fun _ _ _ _ _ _ _ _ => lv_lsub hx hb hd) h k
  case lmul =>
    have hl := mv_beq (mv_a1 hck).2; subst hl
    exact mv_s_bnl hx0 (mv_f3 (g := fun x y => x * y) Int64.ofInt_mul) (fun _ _ _ _ _ _ _ _ => lv_lmul hx hb hd) h k
  case ldiv =>
    have hl := mv_beq (mv_a1 hck).2; subst hl
    exact mv_dil cx hd h hp k
  case lrem =>
    have hl := mv_beq (mv_a1 hck).2; subst hl
    exact mv_ril cx hd h hp k
  case lcmp =>
    have hl := mv_beq (mv_a1 hck).2; subst hl
    exact mv_lcm cx hd h k
  case lshl =>
    have hl := mv_beq (mv_a1 hck).2; subst hl
    rcases st with _ | ⟨v1, st⟩
    · cases h
    rcases v1 with v | v | v | v <;> try cases h
    rcases st with _ | ⟨v2, r⟩
    · cases h
    rcases v2 with u | u | u | u <;> try cases h
    intro H locs lsA hn hW hl nl ns
    obtain ⟨nv, ns⟩ := mv_nc.mp ns
    obtain ⟨nu, nr⟩ := mv_nc.mp ns
    exact lv_lshl hx hb hd (mv_o64 _).symm (k H locs lsA hn hW hl nl (mv_nc.mpr ⟨mv_t64 _, nr⟩))
  case lshr =>
    have hl := mv_beq (mv_a1 hck).2; subst hl
    rcases st with _ | ⟨v1, st⟩
    · cases h
    rcases v1 with v | v | v | v <;> try cases h
    rcases st with _ | ⟨v2, r⟩
    · cases h
    rcases v2 with u | u | u | u <;> try cases h
    intro H locs lsA hn hW hl nl ns
    obtain ⟨nv, ns⟩ := mv_nc.mp ns
    obtain ⟨nu, nr⟩ := mv_nc.mp ns
    exact lv_lshr hx hb hd (mv_o64 _).symm (k H locs lsA hn hW hl nl (mv_nc.mpr ⟨mv_t64 _, nr⟩))
  case i2l =>
    have hl := mv_beq (mv_a1 hck).2; subst hl
    rcases st with _ | ⟨v1, r⟩
    · cases h
    rcases v1 with v | v | v | v <;> try cases h
    intro H locs lsA hn hW hl nl ns
    obtain ⟨nv, nr⟩ := mv_nc.mp ns
    exact lv_i2l hx hb hd (mv_i2l nv) (k H locs lsA hn hW hl nl (mv_nc.mpr ⟨mv_n32_64 nv, nr⟩))
  case l2i =>
    have hl := mv_beq (mv_a1 hck).2; subst hl
    rcases st with _ | ⟨v1, r⟩
    · cases h
    rcases v1 with v | v | v | v <;> try cases h
    intro H locs lsA hn hW hl nl ns
    obtain ⟨nv, nr⟩ := mv_nc.mp ns
    exact lv_l2i hx hb hd (mv_l2i nv) (k H locs lsA hn hW hl nl (mv_nc.mpr ⟨mv_w_n _, nr⟩))
  case dup =>
    have hl := mv_beq (mv_a1 hck).2; subst hl
    rcases st with _ | ⟨v1, r⟩
    · cases h
    have h : (bif mv_isL v1 then none else some (pc + 1, ls, v1 :: v1 :: r, M)) = some (pc', ls', st', M') := h
    cases hv : mv_isL v1 with
    | true => rw [hv] at h; cases h
    | false =>
      rw [hv] at h
      cases h
      intro H locs lsA hn hW hl nl ns
      obtain ⟨nv, nr⟩ := mv_nc.mp ns
      exact lv_dup hx hb hd (mv_cat1 hx0 hv) (k H locs lsA hn hW hl nl (mv_nc.mpr ⟨nv, mv_nc.mpr ⟨nv, nr⟩⟩))
  case dup2 =>
    have hl := mv_beq (mv_a1 hck).2; subst hl
    rcases st with _ | ⟨v1, st⟩
    · cases h
    rcases st with _ | ⟨v2, r⟩
    · cases h
    have h : (bif mv_isL v1 || mv_isL v2 then none else some (pc + 1, ls, v1 :: v2 :: v1 :: v2 :: r, M)) = some (pc', ls', st', M') := h
    cases hv : mv_isL v1 with
    | true => rw [hv] at h; cases h
    | false =>
      cases hv2 : mv_isL v2 with
      | true => rw [hv, hv2] at h; cases h
      | false =>
        rw [hv, hv2] at h
        cases h
        intro H locs lsA hn hW hl nl ns
        obtain ⟨nv, ns⟩ := mv_nc.mp ns
        obtain ⟨nu, nr⟩ := mv_nc.mp ns
        exact lv_dup2_11 hx hb hd (mv_cat1 hx0 hv) (mv_cat1 hx0 hv2) (k H locs lsA hn hW hl nl (mv_nc.mpr ⟨nv, mv_nc.mpr ⟨nu, mv_nc.mpr ⟨nv, mv_nc.mpr ⟨nu, nr⟩⟩⟩⟩))
  case pop =>
    have hl := mv_beq (mv_a1 hck).2; subst hl
    rcases st with _ | ⟨v1, r⟩
    · cases h
    have h : (bif mv_isL v1 then none else some (pc + 1, ls, r, M)) = some (pc', ls', st', M') := h
    cases hv : mv_isL v1 with
    | true => rw [hv] at h; cases h
    | false =>
      rw [hv] at h
      cases h
      intro H locs lsA hn hW hl nl ns
      obtain ⟨nv, nr⟩ := mv_nc.mp ns
      exact lv_pop hx hb hd (mv_cat1 hx0 hv) (k H locs lsA hn hW hl nl nr)
  case goto off =>
    obtain ⟨hl, ht⟩ := mv_a1 hck
    have hl := mv_beq (mv_a1 hl).2; subst hl
    cases h
    intro H locs lsA hn hW hl nl ns
    exact lv_goto hx hb hd (of_decide_eq_true ht) (k H locs lsA hn hW hl nl ns)
  case if_icmp cn off =>
    obtain ⟨hl, ht⟩ := mv_a1 hck
    have hl := mv_beq (mv_a1 hl).2; subst hl
    exact mv_s_cm2 hx hb hd (of_decide_eq_true ht) h k
  case ifCond cn off =>
    obtain ⟨hl, ht⟩ := mv_a1 hck
    have hl := mv_beq (mv_a1 hl).2; subst hl
    exact mv_s_cm1 hx hb hd (of_decide_eq_true ht) h k
  case ifnull off =>
    obtain ⟨hl, ht⟩ := mv_a1 hck
    have hl := mv_beq (mv_a1 hl).2; subst hl
    exact mv_s_nul (a := a) (b := pc + 3) (fun _ _ _ _ _ => lv_ifnull hx hb hd) (fun _ _ _ _ => lv_ifnullN hx hb hd (of_decide_eq_true ht)) h k
  case ifnonnull off =>
    obtain ⟨hl, ht⟩ := mv_a1 hck
    have hl := mv_beq (mv_a1 hl).2; subst hl
    exact mv_s_nul (a := pc + 3) (b := a) (fun _ _ _ _ _ => lv_ifnonnull hx hb hd (of_decide_eq_true ht)) (fun _ _ _ _ => lv_ifnonnullN hx hb hd) h k
  case tableswitch df lo hi offs =>
    simp only [Bool.and_eq_true, decide_eq_true_eq] at hck
    obtain ⟨⟨⟨⟨⟨-, h1⟩, h2⟩, h3⟩, -⟩, -⟩ := hck
    exact mv_s_tsw hx hb hd h1 h2 h3 h k
  case lookupswitch df ps =>
    obtain ⟨hck, h4⟩ := mv_a1 hck
    obtain ⟨hck, h3⟩ := mv_a1 hck
    obtain ⟨-, h1⟩ := mv_a1 hck
    exact mv_s_lsw hx hb hd (of_decide_eq_true h1) (of_decide_eq_true h3) h4 h k
  case getfield idx =>
    obtain ⟨hl, hg⟩ := mv_a1 hck
    have hl := mv_beq (mv_a1 hl).2; subst hl
    refine mv_s_gf (w := w) cx hd ?_ h hp k
    simp only [Bool.or_eq_true, Bool.and_eq_true] at hg
    rcases hg with hg | ⟨h7, hg⟩
    · exact Or.inl hg
    · exact Or.inr ⟨mv_beq h7, hg.elim (fun q => Or.inl ⟨mv_beq q.1, q.2⟩) (fun q => Or.inr ⟨mv_beq q.1, q.2⟩)⟩
  case putfield idx =>
    obtain ⟨hl, hf⟩ := mv_a1 hck
    obtain ⟨hl, hg⟩ := mv_a1 hl
    have hl := mv_beq (mv_a1 hl).2; subst hl
    exact mv_s_pf cx hd hg (by simpa using hf) h hp k
  case iaload =>
    have hl := mv_beq (mv_a1 hck).2; subst hl
    exact mv_s_ali cx hd h hp k
  case laload =>
    have hl := mv_beq (mv_a1 hck).2; subst hl
    exact mv_s_all cx hd h hp k
  case aaload =>
    have hl := mv_beq (mv_a1 hck).2; subst hl
    exact mv_s_ala cx hd h hp k
  case baload =>
    have hl := mv_beq (mv_a1 hck).2; subst hl
    exact mv_s_alb cx hd h hp k
  case iastore =>
    have hl := mv_beq (mv_a1 hck).2; subst hl
    exact mv_s_asi cx hd h hp k
  case lastore =>
    have hl := mv_beq (mv_a1 hck).2; subst hl
    exact mv_s_asl cx hd h hp k
  case arraylength =>
    have hl := mv_beq (mv_a1 hck).2; subst hl
    exact mv_s_aln cx hd h k
  case getstatic idx =>
    obtain ⟨hl, hg⟩ := mv_a1 hck
    have hl := mv_beq (mv_a1 hl).2; subst hl
    exact mv_gst cx hd hg h k
  case invokestatic idx =>
    obtain ⟨hl, hg⟩ := mv_a1 hck
    have hl := mv_beq hl; subst hl
    simp only [Bool.or_eq_true, Bool.and_eq_true] at hg
    rcases hg with ⟨-, hg⟩ | ⟨⟨⟨⟨h0, -⟩, -⟩, -⟩, -⟩
    · have h : mv_ivs a (pc + 3) ls st M = some (pc', ls', st', M') := h
      unfold mv_ivs at h
      split at h
      · exact mv_s_cpy cx hd hg hny h hp k
      · cases hr : Nat.ble (mv_cats st) 12 with
        | false => rw [hr] at h; cases h
        | true =>
          rw [hr] at h
          have hr := Nat.le_of_ble_eq_true hr
          refine mv_s_bin hx0 (g := fun x y => if x < y then y else x) (fun x y nx ny => ?_) (fun _ _ _ _ _ _ hs hc => va_mmax hx hb (by rw [hml, hs, hny]) hown (hts _ (mv_in hg)) (hts _ mv_wm1) (hts _ mv_wmi) (hts _ mv_wm2) (by omega) (by omega) hce hsl hd) h k
          have l1 := mv_lt32 nx ny
          by_cases h9 : x < y
          · rw [if_pos h9]; exact ⟨by rw [if_pos (l1.mpr h9)], ny⟩
          · rw [if_neg h9]; exact ⟨by rw [if_neg (fun z9 => h9 (l1.mp z9))], nx⟩
      · cases hr : Nat.ble (mv_cats st) 12 with
        | false => rw [hr] at h; cases h
        | true =>
          rw [hr] at h
          have hr := Nat.le_of_ble_eq_true hr
          refine mv_s_bin hx0 (g := fun x y => if y < x then y else x) (fun x y nx ny => ?_) (fun _ _ _ _ _ _ hs hc => va_mmin hx hb (by rw [hml, hs, hny]) hown (hts _ (mv_in hg)) (hts _ mv_wm3) (hts _ mv_wmi) (hts _ mv_wm4) (by omega) (by omega) hce hsl hd) h k
          have l1 := mv_lt32 ny nx
          by_cases h9 : y < x
          · rw [if_pos h9]; exact ⟨by rw [if_pos (l1.mpr h9)], ny⟩
          · rw [if_neg h9]; exact ⟨by rw [if_neg (fun z9 => h9 (l1.mp z9))], nx⟩
      · cases hr : Nat.ble (mv_cats st) 12 with
        | false => rw [hr] at h; cases h
        | true =>
          rw [hr] at h
          have hr := Nat.le_of_ble_eq_true hr
          refine mv_s_bnl hx0 (g := fun x y => if y < x then x else y) (fun x y nx ny => ?_) (fun _ _ _ _ _ _ hs hc => va_mmax_long hx hb (by rw [hml, hs, hny]) hown (hts _ (mv_in hg)) (hts _ mv_wm5) (hts _ mv_wmi) (hts _ mv_wm6) (by omega) (by omega) hce hsl hd) h k
          have l1 := mv_lt64 ny nx
          by_cases h9 : y < x
          · rw [if_pos h9]; exact ⟨by rw [if_pos (l1.mpr h9)], nx⟩
          · rw [if_neg h9]; exact ⟨by rw [if_neg (fun z9 => h9 (l1.mp z9))], ny⟩
      · cases h
    · cases h0
  all_goals cases h
end
