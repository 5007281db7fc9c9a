/-! the model reads a text: eRead -/
def sp_mE (K W : Nat → Int) (N Q : Nat → Nat) : Nat → Nat → Bool → Bool → List Int → List Int → Bool × Nat × List Int
  | 0, _, _, _, _, _ => (false, 0, [])
  | m + 1, p, w, y, h, k =>
    if w = true then
      (if K p = 300 then sp_mE K W N Q m (N p) false y (sp_uwh 7 h) ((k ++ [100000 + W p]) ++ sp_uwc 7 h)
      else if K p = 301 then sp_mE K W N Q m (N p) false y (sp_uwh 7 h) ((k ++ [W p]) ++ sp_uwc 7 h)
      else if K p = 261 ∧ y = true then (if sp_kz h = 5 then (false, Q p, []) else sp_mE K W N Q m (N p) true y (13 :: h) k)
      else if K p = 45 then (if sp_kz h = 5 then (false, Q p, []) else sp_mE K W N Q m (N p) true false (19 :: h) k)
      else if K p = 40 then (if sp_kz h = 5 then (false, Q p, []) else sp_mE K W N Q m (N p) true true (0 :: h) k)
      else (false, Q p, []))
    else if K p = 59 then (if (sp_uwh 1 h).length = 0 then (true, N p, k ++ sp_uwc 1 h) else (false, Q p, []))
    else if K p = 41 then (if (sp_uwh 1 h).length = 0 then (false, Q p, []) else sp_mE K W N Q m (N p) false y (sp_uwh 7 (sp_uwh 1 h).tail) ((k ++ sp_uwc 1 h) ++ sp_uwc 7 (sp_uwh 1 h).tail))
    else if sp_sgk (K p) = -1 then (false, Q p, [])
    else if sp_rnk (sp_sgk (K p)) = 4 ∧ sp_tp4 (sp_uwh (sp_lst (sp_sgk (K p))) h) = true then (false, Q p, [])
    else sp_mE K W N Q m (N p) true (decide (sp_sgk (K p) ≤ 12)) (sp_sgk (K p) :: sp_uwh (sp_lst (sp_sgk (K p))) h) (k ++ sp_uwc (sp_lst (sp_sgk (K p))) h)
theorem sp_uw_pop : ∀ (h : List Int) (s : Int) (r : List Int), sp_uwh 1 h = s :: r → s = 0
  | [], _, _, e => by cases e
  | a :: q, s, r, e => by
    rw [sp_uwh] at e
    by_cases c : sp_rnk a < 1
    · rw [if_pos c] at e
      have := (sp_rnk_b a).2.2.1 c
      injection e with e1 e2
      omega
    · rw [if_neg c] at e
      exact sp_uw_pop q s r e
def sp_b2 (b : Bool) : Int := if b = true then 1 else 0
theorem tk_40 {f : Nat → Int} {t p : Nat} : 40 ≤ tk_K f t p := by
  by_cases c : t ≤ tk_Q f t p
  · rw [(tk_end c).1]
    decide
  · by_cases cl : sp_isL (f (tk_Q f t p)) = true
    · rw [(tk_let (by omega) cl).1]
      unfold sp_rw
      repeat (first | omega | split)
    · by_cases cd : sp_isD (f (tk_Q f t p)) = true
      · rw [(tk_dig (by omega) cl cd).1]
        split <;> omega
      · rw [(tk_sig (by omega) cl cd).1]
        by_cases cg : sp_isG (f (tk_Q f t p)) = true
        · rw [if_pos cg]
          have := sp_isG_t.1 cg
          omega
        · rw [if_neg cg]
          decide
def sp_fr (n : Nat) (M0 M : mv_M) : Prop := (mv_ag [100, 110, 126] M0 M ∧ ∀ j, (j ≠ 21 ∧ j ≠ 22 ∧ j ≠ 23 ∧ j ≠ 24 ∧ j ≠ 27 ∧ j ≠ 28 ∧ j ≠ 29) → M 100 j = M0 100 j) ∧ ∀ j, j < 200 * n → M 110 j = M0 110 j
theorem sp_fr_tr {n : Nat} {h k : List Int} {M0 M M1 : mv_M} (h1 : sp_fr n M0 M) (h2 : sp_mhs n h k M M1) : sp_fr n M0 M1 :=
  ⟨⟨h1.1.1.tr h2.1.1, fun j hj => (h2.1.2 j hj.2.2.2.2).trans (h1.1.2 j hj)⟩, fun j hj => (h2.2.2.2.2 j hj).trans (h1.2 j hj)⟩
theorem sp_mhs_rb {n : Nat} {h k : List Int} {M0 M : mv_M} (hm : sp_mhs n h k M0 M) : sp_mhs n h k M M := ⟨⟨mv_ag.rf, fun _ _ => rfl⟩, hm.2.1, hm.2.2.1, hm.2.2.2.1, fun _ _ => rfl⟩
def sp_mpo (n : Nat) (r : Bool × Nat × List Int) (M0 M : mv_M) : Prop := sp_fr n M0 M ∧ (r.1 = true → M 100 21 = (r.2.1 : Int) ∧ M 100 29 = (r.2.2.length : Int) ∧ sp_at (M 110) (200 * n) r.2.2) ∧ (¬ r.1 = true → M 100 22 = (r.2.1 : Int))
theorem sp_mpo_f {n q : Nat} {h k : List Int} {M0 MX M : mv_M} (hf : sp_fr n M0 MX) (hm : sp_mhs n h k MX M) (h22 : MX 100 22 = (q : Int)) : sp_mpo n (false, q, []) M0 M := ⟨sp_fr_tr hf hm, fun z => absurd z Bool.false_ne_true, fun _ => (hm.1.2 22 (by decide)).trans h22⟩
/-- next, where the model holds signs -/
def sp_nxp (f : Nat → Int) (t p n : Nat) (h k : List Int) (M0 M1 : mv_M) : Prop := sp_fr n M0 M1 ∧ sp_mhs n h k M1 M1 ∧ M1 100 23 = tk_M (tk_K f t p) ∧ M1 100 22 = (tk_Q f t p : Int) ∧ (tk_K f t p ≠ 303 → M1 100 21 = (tk_N f t p : Int)) ∧ ((tk_K f t p = 300 ∨ tk_K f t p = 301) → M1 100 24 = tk_W f t p) ∧ ((256 ≤ tk_K f t p ∧ tk_K f t p ≤ 258) → M1 100 24 = tk_K f t p - 256)
theorem sp_mnx {f : Nat → Int} {t p n : Nat} {h k : List Int} {M0 M : mv_M} (ht : t ≤ 160) (hp : p ≤ t) (hf : ∀ j, j < t → M0 108 j = f j) (hb : ∀ j, j < t → 0 ≤ f j ∧ f j ≤ 255) (hw : sp_at (M0 125) 0 sp_words) (h9 : M0 100 9 = (t : Int)) (hfr : sp_fr n M0 M) (hm : sp_mhs n h k M M) (h21 : M 100 21 = (p : Int)) :
    mv_Ru 7 127 0 [mv_R 100, mv_U, mv_U] [] M mv_U (sp_nxp f t p n h k M0) := by
  obtain ⟨⟨a1, a2⟩, a3⟩ := hfr
  obtain ⟨_, ⟨b1, b2⟩, b3, ⟨b4, b5⟩, _⟩ := hm
  have e108 : M 108 = M0 108 := a1 108 (by decide)
  have hcg := tk_cg hf hp
  refine (sp_mnt (d := 0) (M0 := M) ht hp (fun j hj => by rw [e108, hf j hj]; exact hb j hj) (by rw [a1 125 (by decide)]; exact hw) ((a2 9 (by decide)).trans h9) h21).imp (fun M1 q => ?_)
  obtain ⟨q1, q2, q3, q4, q5, q6, q7⟩ := q
  rw [e108] at q3 q4 q5 q6 q7
  rw [hcg.2.1] at q3 q5 q6 q7
  rw [hcg.1] at q4
  rw [hcg.2.2.1] at q5
  have q6 : (tk_K f t p = 300 ∨ tk_K f t p = 301) → M1 100 24 = tk_W f t p := fun z => (q6 z).trans (hcg.2.2.2 z)
  exact ⟨⟨⟨a1.tr (q1.wd (by decide)), fun j hj => (q2 j ⟨hj.1, hj.2.1, hj.2.2.1, hj.2.2.2.1⟩).trans (a2 j hj)⟩, fun j hj => by rw [q1 110 (by decide)]; exact a3 j hj⟩, ⟨⟨mv_ag.rf, fun _ _ => rfl⟩, ⟨(q2 27 (by decide)).trans b1, by rw [q1 126 (by decide)]; exact b2⟩, (q2 28 (by decide)).trans b3, ⟨(q2 29 (by decide)).trans b4, by rw [q1 110 (by decide)]; exact b5⟩, fun _ _ => rfl⟩, q3, q4, q5, q6, q7⟩
theorem tk_M_f {k : Int} (h : 40 ≤ k) : (tk_M k = 1 ↔ k = 300) ∧ (tk_M k = 2 ↔ k = 301) ∧ (tk_M k = 6 ↔ k = 261) ∧ (tk_M k = 45 ↔ k = 45) ∧ (tk_M k = 40 ↔ k = 40) ∧ (tk_M k = 59 ↔ k = 59) ∧ (tk_M k = 41 ↔ k = 41) ∧ sp_sgm (tk_M k) = sp_sgk k := by
  unfold tk_M sp_sgm sp_sgk
  refine ⟨?_, ?_, ?_, ?_, ?_, ?_, ?_, ?_⟩ <;> repeat (first | omega | split)
theorem sp_sgk_b {k : Int} (h : sp_sgk k ≠ -1) : (sp_sgk k = 11 ∨ sp_sgk k = 12 ∨ (14 ≤ sp_sgk k ∧ sp_sgk k ≤ 18)) ∧ k ≠ 302 ∧ k ≠ 303 := by
  unfold sp_sgk at h ⊢
  revert h
  repeat (first | omega | split)
theorem sp_me {f : Nat → Int} {t n : Nat} {M0 : mv_M} (ht : t ≤ 160) (hn : n < 6) (hf : ∀ j, j < t → M0 108 j = f j) (hb : ∀ j, j < t → 0 ≤ f j ∧ f j ≤ 255) (hw : sp_at (M0 125) 0 sp_words) (h9 : M0 100 9 = (t : Int)) (h12 : M0 100 12 = (n : Int)) :
    ∀ (m p : Nat) (w y : Bool) (h k : List Int) (M : mv_M) (l3 : mv_V), p ≤ t → t - p < m → h.length + k.length ≤ p → mv_isL l3 = false → sp_fr n M0 M → sp_mhs n h k M M → M 100 21 = (p : Int) →
      mv_Ru 8 135 14 [mv_R 100, mv_I (sp_b2 w), mv_I (sp_b2 y), l3] [] M (mv_I (sp_b2 (sp_mE (tk_K f t) (tk_W f t) (tk_N f t) (tk_Q f t) m p w y h k).1)) (sp_mpo n (sp_mE (tk_K f t) (tk_W f t) (tk_N f t) (tk_Q f t) m p w y h k) M0)
  | 0, p, w, y, h, k, M, l3, hp, hm, _, _, _, _, _ => absurd hm (by omega)
  | m + 1, p, w, y, h, k, M, l3, hp, hfu, hlen, h3, hfr, hm, h21 => by
    have hnx := sp_mnx ht hp hf hb hw h9 hfr hm h21
    have hN := tk_ok f t p hp
    have h40 := tk_40 (f := f) (t := t) (p := p)
    have hMf := tk_M_f h40
    have hWb := tk_W_b f hp hb
    have huwl := fun le => sp_uw_len le h
    have fin : ∀ MX, sp_nxp f t p n h k M0 MX → mv_Ru 8 135 18 [mv_R 100, mv_I (sp_b2 w), mv_I (sp_b2 y), l3] [] MX (mv_I (sp_b2 (sp_mE (tk_K f t) (tk_W f t) (tk_N f t) (tk_Q f t) (m + 1) p w y h k).1)) (sp_mpo n (sp_mE (tk_K f t) (tk_W f t) (tk_N f t) (tk_Q f t) (m + 1) p w y h k) M0) := fun MX q => by
      obtain ⟨q0, q1, q2, q3, q4, q5, _⟩ := q
      have h12X : MX 100 12 = (n : Int) := (q0.1.2 12 (by decide)).trans h12
      have go : ∀ (w2 y2 : Bool) (h2 k2 : List Int) (M2 : mv_M) (l3 : mv_V), (tk_K f t p ≠ 302 ∧ tk_K f t p ≠ 303) → h2.length + k2.length ≤ p + 1 → mv_isL l3 = false → sp_mhs n h2 k2 MX M2 →
          mv_Ru 8 135 14 [mv_R 100, mv_I (sp_b2 w2), mv_I (sp_b2 y2), l3] [] M2 (mv_I (sp_b2 (sp_mE (tk_K f t) (tk_W f t) (tk_N f t) (tk_Q f t) m (tk_N f t p) w2 y2 h2 k2).1)) (sp_mpo n (sp_mE (tk_K f t) (tk_W f t) (tk_N f t) (tk_Q f t) m (tk_N f t p) w2 y2 h2 k2) M0) := fun w2 y2 h2 k2 M2 l3 c1 c2 c3 c4 => by
        have hN2 := hN.2 c1.1
        have hN1 := hN.1
        exact sp_me ht hn hf hb hw h9 h12 m (tk_N f t p) w2 y2 h2 k2 M2 l3 hN1 (by omega) (by omega) c3 (sp_fr_tr q0 c4) (sp_mhs_rb c4) ((c4.1.2 21 (by decide)).trans (q4 c1.2))
      have res0 : ∀ (h2 k2 : List Int) (M2 : mv_M), sp_mhs n h2 k2 MX M2 → sp_mpo n (false, tk_Q f t p, []) M0 M2 := fun h2 k2 M2 c => sp_mpo_f q0 c q3
      rw [sp_mE]
      obtain ⟨z, hz⟩ : ∃ z, z = sp_b2 y := ⟨_, rfl⟩
      have hz01 : (y = true → z = 1) ∧ (¬ y = true → z = 0) := by
        rw [hz]
        cases y <;> decide
      cases w
      · rw [if_neg Bool.false_ne_true, ← hz, show sp_b2 false = 0 from rfl]
        by_cases c59 : tk_K f t p = 59
        · rw [if_pos c59]
          rw [hMf.2.2.2.2.2.1.2 c59] at q2
          have huw := sp_muw (least := 1) hn h12X (by decide) h k MX mv_U q1 (by omega) rfl
          have e21 := q4 (by omega)
          by_cases c0 : (sp_uwh 1 h).length = 0
          · rw [if_pos c0]
            refine mv_go' 2 (pc' := if 0 = 0 then 150 else 22) (ls' := [mv_R 100, mv_I 0, mv_I z, l3]) (st' := []) (M1 := MX) rfl ?_
            refine mv_tt' (by first | decide | omega) ?_
            refine mv_go' 2 (pc' := 154) (ls' := [mv_R 100, mv_I 0, mv_I z, l3]) (st' := [mv_I (MX 100 23)]) (M1 := MX) rfl ?_
            rw [show MX 100 23 = 59 from by exact q2]
            refine mv_go' 2 (pc' := if 59 = 59 then 159 else 177) (ls' := [mv_R 100, mv_I 0, mv_I z, l3]) (st' := []) (M1 := MX) rfl ?_
            refine mv_tt' (by first | decide | omega) ?_
            refine mv_go' 2 (pc' := 161) (ls' := [mv_R 100, mv_I 0, mv_I z, l3]) (st' := [mv_I 1, mv_R 100]) (M1 := MX) rfl ?_
            refine mv_call (st2 := []) rfl (Or.inl rfl) rfl rfl rfl (huw) (by first | decide | omega) (fun Ma1 hm2 => ?_)
            have hu := hm2
            have e27 : Ma1 100 27 = 0 := by rw [hu.2.1.1, c0]; rfl
            refine mv_go' 2 (pc' := 168) (ls' := [mv_R 100, mv_I 0, mv_I z, l3]) (st' := [mv_I (Ma1 100 27)]) (M1 := Ma1) rfl ?_
            rw [show Ma1 100 27 = 0 from by exact e27]
            refine mv_go' 1 (pc' := if 0 = 0 then 171 else 175) (ls' := [mv_R 100, mv_I 0, mv_I z, l3]) (st' := []) (M1 := Ma1) rfl ?_
            refine mv_tt' (by first | decide | omega) ?_
            refine mv_go' 2 (pc' := 176) (ls' := [mv_R 100, mv_I 0, mv_I z, l3]) (st' := [mv_I 1]) (M1 := Ma1) rfl ?_
            exact mv_ret (fun n => rfl) ⟨sp_fr_tr q0 hu, fun _ => ⟨(hu.1.2 21 (by decide)).trans e21, hu.2.2.2.1.1, hu.2.2.2.1.2⟩, fun c => absurd rfl c⟩
          · rw [if_neg c0]
            obtain ⟨x, hx⟩ : ∃ x, x = (sp_uwh 1 h).length := ⟨_, rfl⟩
            rw [← hx] at c0
            refine mv_go' 2 (pc' := if 0 = 0 then 150 else 22) (ls' := [mv_R 100, mv_I 0, mv_I z, l3]) (st' := []) (M1 := MX) rfl ?_
            refine mv_tt' (by first | decide | omega) ?_
            refine mv_go' 2 (pc' := 154) (ls' := [mv_R 100, mv_I 0, mv_I z, l3]) (st' := [mv_I (MX 100 23)]) (M1 := MX) rfl ?_
            rw [show MX 100 23 = 59 from by exact q2]
            refine mv_go' 2 (pc' := if 59 = 59 then 159 else 177) (ls' := [mv_R 100, mv_I 0, mv_I z, l3]) (st' := []) (M1 := MX) rfl ?_
            refine mv_tt' (by first | decide | omega) ?_
            refine mv_go' 2 (pc' := 161) (ls' := [mv_R 100, mv_I 0, mv_I z, l3]) (st' := [mv_I 1, mv_R 100]) (M1 := MX) rfl ?_
            refine mv_call (st2 := []) rfl (Or.inl rfl) rfl rfl rfl (huw) (by first | decide | omega) (fun Ma3 hm4 => ?_)
            have hu := hm4
            have e27 : Ma3 100 27 = (x : Int) := by rw [hu.2.1.1, hx]
            refine mv_go' 2 (pc' := 168) (ls' := [mv_R 100, mv_I 0, mv_I z, l3]) (st' := [mv_I (Ma3 100 27)]) (M1 := Ma3) rfl ?_
            rw [show Ma3 100 27 = (x : Int) from by exact e27]
            refine mv_go' 1 (pc' := if (x : Int) = 0 then 171 else 175) (ls' := [mv_R 100, mv_I 0, mv_I z, l3]) (st' := []) (M1 := Ma3) rfl ?_
            refine mv_ff' (by omega) ?_
            refine mv_go' 1 (pc' := 176) (ls' := [mv_R 100, mv_I 0, mv_I z, l3]) (st' := [mv_I 0]) (M1 := Ma3) rfl ?_
            exact mv_ret (fun n => rfl) (res0 _ _ _ hu)
        · rw [if_neg c59]
          have n59 : ¬ tk_M (tk_K f t p) = 59 := fun c => c59 (hMf.2.2.2.2.2.1.1 c)
          by_cases c41 : tk_K f t p = 41
          · rw [if_pos c41]
            rw [hMf.2.2.2.2.2.2.1.2 c41] at q2
            have huw := sp_muw (least := 1) hn h12X (by decide) h k MX mv_U q1 (by omega) rfl
            have hul := huwl 1
            by_cases c0 : (sp_uwh 1 h).length = 0
            · rw [if_pos c0]
              refine mv_go' 2 (pc' := if 0 = 0 then 150 else 22) (ls' := [mv_R 100, mv_I 0, mv_I z, l3]) (st' := []) (M1 := MX) rfl ?_
              refine mv_tt' (by first | decide | omega) ?_
              refine mv_go' 2 (pc' := 154) (ls' := [mv_R 100, mv_I 0, mv_I z, l3]) (st' := [mv_I (MX 100 23)]) (M1 := MX) rfl ?_
              rw [show MX 100 23 = 41 from by exact q2]
              refine mv_go' 2 (pc' := if 41 = 59 then 159 else 177) (ls' := [mv_R 100, mv_I 0, mv_I z, l3]) (st' := []) (M1 := MX) rfl ?_
              refine mv_ff' (by first | decide | omega) ?_
              refine mv_go' 2 (pc' := 181) (ls' := [mv_R 100, mv_I 0, mv_I z, l3]) (st' := [mv_I (MX 100 23)]) (M1 := MX) rfl ?_
              rw [show MX 100 23 = 41 from by exact q2]
              refine mv_go' 2 (pc' := if 41 = 41 then 186 else 229) (ls' := [mv_R 100, mv_I 0, mv_I z, l3]) (st' := []) (M1 := MX) rfl ?_
              refine mv_tt' (by first | decide | omega) ?_
              refine mv_go' 2 (pc' := 188) (ls' := [mv_R 100, mv_I 0, mv_I z, l3]) (st' := [mv_I 1, mv_R 100]) (M1 := MX) rfl ?_
              refine mv_call (st2 := []) rfl (Or.inl rfl) rfl rfl rfl (huw) (by first | decide | omega) (fun Ma5 hm6 => ?_)
              have hu := hm6
              have e27 : Ma5 100 27 = 0 := by rw [hu.2.1.1, c0]; rfl
              refine mv_go' 2 (pc' := 195) (ls' := [mv_R 100, mv_I 0, mv_I z, l3]) (st' := [mv_I (Ma5 100 27)]) (M1 := Ma5) rfl ?_
              rw [show Ma5 100 27 = 0 from by exact e27]
              refine mv_go' 1 (pc' := if 0 = 0 then 198 else 200) (ls' := [mv_R 100, mv_I 0, mv_I z, l3]) (st' := []) (M1 := Ma5) rfl ?_
              refine mv_tt' (by first | decide | omega) ?_
              refine mv_go' 1 (pc' := 199) (ls' := [mv_R 100, mv_I 0, mv_I z, l3]) (st' := [mv_I 0]) (M1 := Ma5) rfl ?_
              exact mv_ret (fun n => rfl) (res0 _ _ _ hu)
            · rw [if_neg c0]
              have hpop := sp_uw_pop h
              obtain ⟨h1, hh1⟩ : ∃ h1, h1 = sp_uwh 1 h := ⟨_, rfl⟩
              obtain ⟨k1, hk1⟩ : ∃ k1, k1 = k ++ sp_uwc 1 h := ⟨_, rfl⟩
              have hk1l : h1.length + k1.length ≤ p := by rw [hh1, hk1, List.length_append]; omega
              rw [← hh1] at c0 hpop
              rw [← hh1, ← hk1] at huw ⊢
              match h1, c0, hpop, hk1l, huw with
              | [], c0, _, _, _ => exact absurd rfl c0
              | s :: r, _, hpop, hk1l, huw =>
                have hs0 : s = 0 := hpop s r rfl
                subst hs0
                have hkz := sp_kz_b r
                rw [List.length_cons] at hk1l
                have hrl := sp_uw_len 7 r
                have goes := go false y (sp_uwh 7 r) (k1 ++ sp_uwc 7 r)
                rw [← hz, show sp_b2 false = 0 from rfl] at goes
                have hst : ∀ MU MY : mv_M, sp_mhs n (0 :: r) k1 MX MU → mv_ag [100] MU MY → (∀ j, (j ≠ 27 ∧ j ≠ 28) → MY 100 j = MU 100 j) → MY 100 27 = (r.length : Int) → MY 100 28 = sp_kz r → sp_mhs n r k1 MX MY := fun MU MY u q1 q2 q3 q4 => by
                  obtain ⟨⟨a1, a2⟩, ⟨b1, b2⟩, b3, ⟨b4, b5⟩, b6⟩ := u
                  exact ⟨⟨a1.tr (q1.wd (by simp)), fun j hj => (q2 j ⟨hj.1, hj.2.1⟩).trans (a2 j hj)⟩, ⟨q3, by rw [q1 126 (by decide)]; exact b2.2⟩, q4, ⟨(q2 29 (by decide)).trans b4, by rw [q1 110 (by decide)]; exact b5⟩, fun j hj => by rw [q1 110 (by decide)]; exact b6 j hj⟩
                have huw7 := fun MY (u : sp_mhs n r k1 MX MY) => sp_muw (least := 7) hn h12X (by decide) r k1 MY mv_U u (by omega) rfl
                obtain ⟨x, hx⟩ : ∃ x, x = r.length := ⟨_, rfl⟩
                obtain ⟨v, hv⟩ : ∃ v, v = sp_kz r := ⟨_, rfl⟩
                rw [← hx, ← hv] at hst hkz
                rw [← hx] at hk1l
                refine mv_go' 2 (pc' := if 0 = 0 then 150 else 22) (ls' := [mv_R 100, mv_I 0, mv_I z, l3]) (st' := []) (M1 := MX) rfl ?_
                refine mv_tt' (by first | decide | omega) ?_
                refine mv_go' 2 (pc' := 154) (ls' := [mv_R 100, mv_I 0, mv_I z, l3]) (st' := [mv_I (MX 100 23)]) (M1 := MX) rfl ?_
                rw [show MX 100 23 = 41 from by exact q2]
                refine mv_go' 2 (pc' := if 41 = 59 then 159 else 177) (ls' := [mv_R 100, mv_I 0, mv_I z, l3]) (st' := []) (M1 := MX) rfl ?_
                refine mv_ff' (by first | decide | omega) ?_
                refine mv_go' 2 (pc' := 181) (ls' := [mv_R 100, mv_I 0, mv_I z, l3]) (st' := [mv_I (MX 100 23)]) (M1 := MX) rfl ?_
                rw [show MX 100 23 = 41 from by exact q2]
                refine mv_go' 2 (pc' := if 41 = 41 then 186 else 229) (ls' := [mv_R 100, mv_I 0, mv_I z, l3]) (st' := []) (M1 := MX) rfl ?_
                refine mv_tt' (by first | decide | omega) ?_
                refine mv_go' 2 (pc' := 188) (ls' := [mv_R 100, mv_I 0, mv_I z, l3]) (st' := [mv_I 1, mv_R 100]) (M1 := MX) rfl ?_
                refine mv_call (st2 := []) rfl (Or.inl rfl) rfl rfl rfl (huw) (by first | decide | omega) (fun Ma7 hm8 => ?_)
                have hu := hm8
                have e27 : Ma7 100 27 = ((x + 1 : Nat) : Int) := by rw [hu.2.1.1, hx]; rfl
                have e28 : Ma7 100 28 = v + 1 := by rw [hu.2.2.1, sp_kz, if_pos (Or.inl rfl), hv]
                refine mv_go' 2 (pc' := 195) (ls' := [mv_R 100, mv_I 0, mv_I z, l3]) (st' := [mv_I (Ma7 100 27)]) (M1 := Ma7) rfl ?_
                rw [show Ma7 100 27 = ((x + 1 : Nat) : Int) from by exact e27]
                refine mv_go' 1 (pc' := if ((x + 1 : Nat) : Int) = 0 then 198 else 200) (ls' := [mv_R 100, mv_I 0, mv_I z, l3]) (st' := []) (M1 := Ma7) rfl ?_
                refine mv_ff' (by omega) ?_
                refine mv_go' 3 (pc' := 205) (ls' := [mv_R 100, mv_I 0, mv_I z, l3]) (st' := [mv_I (Ma7 100 27), mv_R 100]) (M1 := Ma7) rfl ?_
                rw [show Ma7 100 27 = ((x + 1 : Nat) : Int) from by exact e27]
                refine mv_go' 6 (pc' := 215) (ls' := [mv_R 100, mv_I 0, mv_I z, l3]) (st' := [mv_I (Ma7 100 28), mv_R 100]) (M1 := (mv_st Ma7 100 (mv_up (Ma7 100) 27 (mv_w (((x + 1 : Nat) : Int) - 1))))) rfl ?_
                rw [show Ma7 100 28 = (v + 1) from by exact e28]
                refine mv_go' 3 (pc' := 220) (ls' := [mv_R 100, mv_I 0, mv_I z, l3]) (st' := []) (M1 := (mv_st (mv_st Ma7 100 (mv_up (Ma7 100) 27 (mv_w (((x + 1 : Nat) : Int) - 1)))) 100 (mv_up (mv_up (Ma7 100) 27 (mv_w (((x + 1 : Nat) : Int) - 1))) 28 (mv_w ((v + 1) - 1))))) rfl ?_
                rw [show mv_w (((x + 1 : Nat) : Int) - 1) = ((x + 1 : Nat) : Int) - 1 from mv_w_id (by omega) (by omega)]
                rw [show mv_w ((v + 1) - 1) = (v + 1) - 1 from mv_w_id (by omega) (by omega)]
                have u27 : ((x + 1 : Nat) : Int) - 1 = (x : Int) := by omega
                have u28 : (v + 1) - 1 = v := by omega
                have hs2 := hst _ (mv_st (mv_st Ma7 100 (mv_up (Ma7 100) 27 (((x + 1 : Nat) : Int) - 1))) 100 (mv_up (mv_up (Ma7 100) 27 (((x + 1 : Nat) : Int) - 1)) 28 ((v + 1) - 1))) hu (by repeat (first | exact mv_ag.rf | refine mv_ag.st ?_ (by decide))) (fun j hj => (mv_up_n _ _ hj.2).trans (mv_up_n _ _ hj.1)) u27 u28
                refine mv_go' 2 (pc' := 223) (ls' := [mv_R 100, mv_I 0, mv_I z, l3]) (st' := [mv_I 7, mv_R 100]) (M1 := (mv_st (mv_st Ma7 100 (mv_up (Ma7 100) 27 (((x + 1 : Nat) : Int) - 1))) 100 (mv_up (mv_up (Ma7 100) 27 (((x + 1 : Nat) : Int) - 1)) 28 ((v + 1) - 1)))) rfl ?_
                refine mv_call (st2 := []) rfl (Or.inl rfl) rfl rfl rfl ((huw7 _ hs2)) (by first | decide | omega) (fun Ma9 hm10 => ?_)
                have hu7 := hm10
                refine mv_go' 1 (pc' := 14) (ls' := [mv_R 100, mv_I 0, mv_I z, l3]) (st' := []) (M1 := Ma9) rfl ?_
                exact goes _ _ (by omega) (by rw [List.length_append]; omega) h3 hu7
          · rw [if_neg c41]
            have n41 : ¬ tk_M (tk_K f t p) = 41 := fun c => c41 (hMf.2.2.2.2.2.2.1.1 c)
            have hsg := sp_msg q2
            rw [hMf.2.2.2.2.2.2.2] at hsg
            obtain ⟨mk, hmk⟩ : ∃ mk, mk = tk_M (tk_K f t p) := ⟨_, rfl⟩
            rw [← hmk] at q2 n59 n41
            have hsb := sp_sgk_b (k := tk_K f t p)
            obtain ⟨s, hs⟩ : ∃ s, s = sp_sgk (tk_K f t p) := ⟨_, rfl⟩
            rw [← hs] at hsg hsb ⊢
            by_cases cs : s = -1
            · rw [if_pos cs]
              refine mv_go' 2 (pc' := if 0 = 0 then 150 else 22) (ls' := [mv_R 100, mv_I 0, mv_I z, l3]) (st' := []) (M1 := MX) rfl ?_
              refine mv_tt' (by first | decide | omega) ?_
              refine mv_go' 2 (pc' := 154) (ls' := [mv_R 100, mv_I 0, mv_I z, l3]) (st' := [mv_I (MX 100 23)]) (M1 := MX) rfl ?_
              rw [show MX 100 23 = mk from by exact q2]
              refine mv_go' 2 (pc' := if mk = 59 then 159 else 177) (ls' := [mv_R 100, mv_I 0, mv_I z, l3]) (st' := []) (M1 := MX) rfl ?_
              refine mv_ff' (by omega) ?_
              refine mv_go' 2 (pc' := 181) (ls' := [mv_R 100, mv_I 0, mv_I z, l3]) (st' := [mv_I (MX 100 23)]) (M1 := MX) rfl ?_
              rw [show MX 100 23 = mk from by exact q2]
              refine mv_go' 2 (pc' := if mk = 41 then 186 else 229) (ls' := [mv_R 100, mv_I 0, mv_I z, l3]) (st' := []) (M1 := MX) rfl ?_
              refine mv_ff' (by omega) ?_
              refine mv_go' 1 (pc' := 230) (ls' := [mv_R 100, mv_I 0, mv_I z, l3]) (st' := [mv_R 100]) (M1 := MX) rfl ?_
              refine mv_callP (st2 := [mv_I s]) rfl (Or.inl rfl) rfl rfl rfl (hsg) (by first | decide | omega) ?_
              refine mv_go' 4 (pc' := if s = (-1) then 247 else 239) (ls' := [mv_R 100, mv_I 0, mv_I z, mv_I s]) (st' := []) (M1 := MX) rfl ?_
              refine mv_tt' (by omega) ?_
              refine mv_go' 1 (pc' := 248) (ls' := [mv_R 100, mv_I 0, mv_I z, mv_I s]) (st' := [mv_I 0]) (M1 := MX) rfl ?_
              exact mv_ret (fun n => rfl) (res0 _ _ _ q1)
            · rw [if_neg cs]
              obtain ⟨hsb1, hsb2⟩ := hsb cs
              have hbt := sp_mbt hn h12X q1 hsb1 (by omega)
              have hul := huwl (sp_lst s)
              by_cases c4 : sp_rnk s = 4 ∧ sp_tp4 (sp_uwh (sp_lst s) h) = true
              · rw [if_pos c4]
                rw [if_pos c4, if_pos c4] at hbt
                refine mv_go' 2 (pc' := if 0 = 0 then 150 else 22) (ls' := [mv_R 100, mv_I 0, mv_I z, l3]) (st' := []) (M1 := MX) rfl ?_
                refine mv_tt' (by first | decide | omega) ?_
                refine mv_go' 2 (pc' := 154) (ls' := [mv_R 100, mv_I 0, mv_I z, l3]) (st' := [mv_I (MX 100 23)]) (M1 := MX) rfl ?_
                rw [show MX 100 23 = mk from by exact q2]
                refine mv_go' 2 (pc' := if mk = 59 then 159 else 177) (ls' := [mv_R 100, mv_I 0, mv_I z, l3]) (st' := []) (M1 := MX) rfl ?_
                refine mv_ff' (by omega) ?_
                refine mv_go' 2 (pc' := 181) (ls' := [mv_R 100, mv_I 0, mv_I z, l3]) (st' := [mv_I (MX 100 23)]) (M1 := MX) rfl ?_
                rw [show MX 100 23 = mk from by exact q2]
                refine mv_go' 2 (pc' := if mk = 41 then 186 else 229) (ls' := [mv_R 100, mv_I 0, mv_I z, l3]) (st' := []) (M1 := MX) rfl ?_
                refine mv_ff' (by omega) ?_
                refine mv_go' 1 (pc' := 230) (ls' := [mv_R 100, mv_I 0, mv_I z, l3]) (st' := [mv_R 100]) (M1 := MX) rfl ?_
                refine mv_callP (st2 := [mv_I s]) rfl (Or.inl rfl) rfl rfl rfl (hsg) (by first | decide | omega) ?_
                refine mv_go' 4 (pc' := if s = (-1) then 247 else 239) (ls' := [mv_R 100, mv_I 0, mv_I z, mv_I s]) (st' := []) (M1 := MX) rfl ?_
                refine mv_ff' (by omega) ?_
                refine mv_go' 2 (pc' := 241) (ls' := [mv_R 100, mv_I 0, mv_I z, mv_I s]) (st' := [mv_I s, mv_R 100]) (M1 := MX) rfl ?_
                refine mv_call (st2 := [mv_I 0]) rfl (Or.inl rfl) rfl rfl rfl (hbt) (by first | decide | omega) (fun Ma11 hm12 => ?_)
                have hu := hm12
                refine mv_go' 1 (pc' := if 0 = 0 then 247 else 249) (ls' := [mv_R 100, mv_I 0, mv_I z, mv_I s]) (st' := []) (M1 := Ma11) rfl ?_
                refine mv_tt' (by first | decide | omega) ?_
                refine mv_go' 1 (pc' := 248) (ls' := [mv_R 100, mv_I 0, mv_I z, mv_I s]) (st' := [mv_I 0]) (M1 := Ma11) rfl ?_
                exact mv_ret (fun n => rfl) (res0 _ _ _ hu)
              · rw [if_neg c4]
                rw [if_neg c4, if_neg c4] at hbt
                have goes := fun M2 => go true (decide (s ≤ 12)) (s :: sp_uwh (sp_lst s) h) (k ++ sp_uwc (sp_lst s) h) M2 (mv_I s) hsb2 (by rw [List.length_cons, List.length_append]; omega) rfl
                rw [show sp_b2 true = 1 from rfl] at goes
                have hg2 : (s ≤ 12 → sp_b2 (decide (s ≤ 12)) = 1) ∧ (¬ s ≤ 12 → sp_b2 (decide (s ≤ 12)) = 0) := ⟨fun c => by rw [decide_eq_true c]; rfl, fun c => by rw [decide_eq_false c]; rfl⟩
                obtain ⟨g, hg⟩ : ∃ g, g = sp_b2 (decide (s ≤ 12)) := ⟨_, rfl⟩
                rw [← hg] at goes hg2
                refine mv_go' 2 (pc' := if 0 = 0 then 150 else 22) (ls' := [mv_R 100, mv_I 0, mv_I z, l3]) (st' := []) (M1 := MX) rfl ?_
                refine mv_tt' (by first | decide | omega) ?_
                refine mv_go' 2 (pc' := 154) (ls' := [mv_R 100, mv_I 0, mv_I z, l3]) (st' := [mv_I (MX 100 23)]) (M1 := MX) rfl ?_
                rw [show MX 100 23 = mk from by exact q2]
                refine mv_go' 2 (pc' := if mk = 59 then 159 else 177) (ls' := [mv_R 100, mv_I 0, mv_I z, l3]) (st' := []) (M1 := MX) rfl ?_
                refine mv_ff' (by omega) ?_
                refine mv_go' 2 (pc' := 181) (ls' := [mv_R 100, mv_I 0, mv_I z, l3]) (st' := [mv_I (MX 100 23)]) (M1 := MX) rfl ?_
                rw [show MX 100 23 = mk from by exact q2]
                refine mv_go' 2 (pc' := if mk = 41 then 186 else 229) (ls' := [mv_R 100, mv_I 0, mv_I z, l3]) (st' := []) (M1 := MX) rfl ?_
                refine mv_ff' (by omega) ?_
                refine mv_go' 1 (pc' := 230) (ls' := [mv_R 100, mv_I 0, mv_I z, l3]) (st' := [mv_R 100]) (M1 := MX) rfl ?_
                refine mv_callP (st2 := [mv_I s]) rfl (Or.inl rfl) rfl rfl rfl (hsg) (by first | decide | omega) ?_
                refine mv_go' 4 (pc' := if s = (-1) then 247 else 239) (ls' := [mv_R 100, mv_I 0, mv_I z, mv_I s]) (st' := []) (M1 := MX) rfl ?_
                refine mv_ff' (by omega) ?_
                refine mv_go' 2 (pc' := 241) (ls' := [mv_R 100, mv_I 0, mv_I z, mv_I s]) (st' := [mv_I s, mv_R 100]) (M1 := MX) rfl ?_
                refine mv_call (st2 := [mv_I 1]) rfl (Or.inl rfl) rfl rfl rfl (hbt) (by first | decide | omega) (fun Ma13 hm14 => ?_)
                have hu := hm14
                refine mv_go' 1 (pc' := if 1 = 0 then 247 else 249) (ls' := [mv_R 100, mv_I 0, mv_I z, mv_I s]) (st' := []) (M1 := Ma13) rfl ?_
                refine mv_ff' (by first | decide | omega) ?_
                refine mv_go' 5 (pc' := if 12 < s then 261 else 257) (ls' := [mv_R 100, mv_I 1, mv_I z, mv_I s]) (st' := []) (M1 := Ma13) rfl ?_
                refine mv_sp' (fun ha15 => ?_) (fun ha15 => ?_)
                · refine mv_go' 3 (pc' := 14) (ls' := [mv_R 100, mv_I 1, mv_I 0, mv_I s]) (st' := []) (M1 := Ma13) rfl ?_
                  refine mv_eqs (ls2 := [mv_R 100, mv_I 1, mv_I g, mv_I s]) (by rw [show g = 0 from by omega]) rfl rfl ?_
                  exact goes _ hu
                · refine mv_go' 4 (pc' := 14) (ls' := [mv_R 100, mv_I 1, mv_I 1, mv_I s]) (st' := []) (M1 := Ma13) rfl ?_
                  refine mv_eqs (ls2 := [mv_R 100, mv_I 1, mv_I g, mv_I s]) (by rw [show g = 1 from by omega]) rfl rfl ?_
                  exact goes _ hu
      · rw [if_pos rfl, ← hz, show sp_b2 true = 1 from rfl]
        by_cases c300 : tk_K f t p = 300
        · rw [if_pos c300]
          rw [hMf.1.2 c300] at q2
          have e24 := q5 (Or.inl c300)
          have hWb := hWb (Or.inl c300)
          have hpt := sp_mpt (c := 100000 + tk_W f t p) hn h12X q1 (by omega)
          have huw := fun MY u => sp_muw (M0 := MX) (least := 7) hn h12X (by decide) h (k ++ [100000 + tk_W f t p]) MY mv_U u (by rw [List.length_append, List.length_cons, List.length_nil]; omega) rfl
          have goes := fun M2 => go false y (sp_uwh 7 h) ((k ++ [100000 + tk_W f t p]) ++ sp_uwc 7 h) M2 l3 (by omega) (by have := huwl 7; rw [List.length_append, List.length_append, List.length_cons, List.length_nil]; omega) h3
          rw [← hz, show sp_b2 false = 0 from rfl] at goes
          obtain ⟨x, hx⟩ : ∃ x, x = tk_W f t p := ⟨_, rfl⟩
          rw [← hx] at e24 hWb hpt huw goes ⊢
          refine mv_go' 2 (pc' := if 1 = 0 then 150 else 22) (ls' := [mv_R 100, mv_I 1, mv_I z, l3]) (st' := []) (M1 := MX) rfl ?_
          refine mv_ff' (by first | decide | omega) ?_
          refine mv_go' 2 (pc' := 26) (ls' := [mv_R 100, mv_I 1, mv_I z, l3]) (st' := [mv_I (MX 100 23)]) (M1 := MX) rfl ?_
          rw [show MX 100 23 = 1 from by exact q2]
          refine mv_go' 2 (pc' := if 1 = 1 then 38 else 30) (ls' := [mv_R 100, mv_I 1, mv_I z, l3]) (st' := []) (M1 := MX) rfl ?_
          refine mv_tt' (by first | decide | omega) ?_
          refine mv_go' 3 (pc' := 43) (ls' := [mv_R 100, mv_I 1, mv_I z, l3]) (st' := [mv_I (MX 100 23), mv_R 100]) (M1 := MX) rfl ?_
          rw [show MX 100 23 = 1 from by exact q2]
          refine mv_go' 2 (pc' := if 1 = 1 then 47 else 57) (ls' := [mv_R 100, mv_I 1, mv_I z, l3]) (st' := [mv_R 100]) (M1 := MX) rfl ?_
          refine mv_tt' (by first | decide | omega) ?_
          refine mv_go' 3 (pc' := 53) (ls' := [mv_R 100, mv_I 1, mv_I z, l3]) (st' := [mv_I (MX 100 24), mv_I 100000, mv_R 100]) (M1 := MX) rfl ?_
          rw [show MX 100 24 = x from by exact e24]
          refine mv_go' 2 (pc' := 61) (ls' := [mv_R 100, mv_I 1, mv_I z, l3]) (st' := [mv_I (mv_w (100000 + x)), mv_R 100]) (M1 := MX) rfl ?_
          rw [show mv_w (100000 + x) = 100000 + x from mv_w_id (by omega) (by omega)]
          refine mv_call (st2 := []) rfl (Or.inl rfl) rfl rfl rfl (hpt) (by first | decide | omega) (fun Ma16 hm17 => ?_)
          have hu := hm17
          refine mv_go' 2 (pc' := 67) (ls' := [mv_R 100, mv_I 1, mv_I z, l3]) (st' := [mv_I 7, mv_R 100]) (M1 := Ma16) rfl ?_
          refine mv_call (st2 := []) rfl (Or.inl rfl) rfl rfl rfl ((huw _ hu)) (by first | decide | omega) (fun Ma18 hm19 => ?_)
          have hu7 := hm19
          refine mv_go' 3 (pc' := 14) (ls' := [mv_R 100, mv_I 0, mv_I z, l3]) (st' := []) (M1 := Ma18) rfl ?_
          exact goes _ hu7
        · rw [if_neg c300]
          have n300 : ¬ tk_M (tk_K f t p) = 1 := fun c => c300 (hMf.1.1 c)
          by_cases c301 : tk_K f t p = 301
          · rw [if_pos c301]
            rw [hMf.2.1.2 c301] at q2
            have e24 := q5 (Or.inr c301)
            have hpt := sp_mpt (c := tk_W f t p) hn h12X q1 (by omega)
            have huw := fun MY u => sp_muw (M0 := MX) (least := 7) hn h12X (by decide) h (k ++ [tk_W f t p]) MY mv_U u (by rw [List.length_append, List.length_cons, List.length_nil]; omega) rfl
            have goes := fun M2 => go false y (sp_uwh 7 h) ((k ++ [tk_W f t p]) ++ sp_uwc 7 h) M2 l3 (by omega) (by have := huwl 7; rw [List.length_append, List.length_append, List.length_cons, List.length_nil]; omega) h3
            rw [← hz, show sp_b2 false = 0 from rfl] at goes
            obtain ⟨x, hx⟩ : ∃ x, x = tk_W f t p := ⟨_, rfl⟩
            rw [← hx] at e24 hpt huw goes ⊢
            refine mv_go' 2 (pc' := if 1 = 0 then 150 else 22) (ls' := [mv_R 100, mv_I 1, mv_I z, l3]) (st' := []) (M1 := MX) rfl ?_
            refine mv_ff' (by first | decide | omega) ?_
            refine mv_go' 2 (pc' := 26) (ls' := [mv_R 100, mv_I 1, mv_I z, l3]) (st' := [mv_I (MX 100 23)]) (M1 := MX) rfl ?_
            rw [show MX 100 23 = 2 from by exact q2]
            refine mv_go' 2 (pc' := if 2 = 1 then 38 else 30) (ls' := [mv_R 100, mv_I 1, mv_I z, l3]) (st' := []) (M1 := MX) rfl ?_
            refine mv_ff' (by first | decide | omega) ?_
            refine mv_go' 2 (pc' := 34) (ls' := [mv_R 100, mv_I 1, mv_I z, l3]) (st' := [mv_I (MX 100 23)]) (M1 := MX) rfl ?_
            rw [show MX 100 23 = 2 from by exact q2]
            refine mv_go' 2 (pc' := if 2 = 2 then 38 else 75) (ls' := [mv_R 100, mv_I 1, mv_I z, l3]) (st' := []) (M1 := MX) rfl ?_
            refine mv_tt' (by first | decide | omega) ?_
            refine mv_go' 3 (pc' := 43) (ls' := [mv_R 100, mv_I 1, mv_I z, l3]) (st' := [mv_I (MX 100 23), mv_R 100]) (M1 := MX) rfl ?_
            rw [show MX 100 23 = 2 from by exact q2]
            refine mv_go' 2 (pc' := if 2 = 1 then 47 else 57) (ls' := [mv_R 100, mv_I 1, mv_I z, l3]) (st' := [mv_R 100]) (M1 := MX) rfl ?_
            refine mv_ff' (by first | decide | omega) ?_
            refine mv_go' 2 (pc' := 61) (ls' := [mv_R 100, mv_I 1, mv_I z, l3]) (st' := [mv_I (MX 100 24), mv_R 100]) (M1 := MX) rfl ?_
            rw [show MX 100 24 = x from by exact e24]
            refine mv_call (st2 := []) rfl (Or.inl rfl) rfl rfl rfl (hpt) (by first | decide | omega) (fun Ma20 hm21 => ?_)
            have hu := hm21
            refine mv_go' 2 (pc' := 67) (ls' := [mv_R 100, mv_I 1, mv_I z, l3]) (st' := [mv_I 7, mv_R 100]) (M1 := Ma20) rfl ?_
            refine mv_call (st2 := []) rfl (Or.inl rfl) rfl rfl rfl ((huw _ hu)) (by first | decide | omega) (fun Ma22 hm23 => ?_)
            have hu7 := hm23
            refine mv_go' 3 (pc' := 14) (ls' := [mv_R 100, mv_I 0, mv_I z, l3]) (st' := []) (M1 := Ma22) rfl ?_
            exact goes _ hu7
          · rw [if_neg c301]
            have n301 : ¬ tk_M (tk_K f t p) = 2 := fun c => c301 (hMf.2.1.1 c)
            by_cases c261 : tk_K f t p = 261 ∧ y = true
            · rw [if_pos c261]
              rw [hMf.2.2.1.2 c261.1] at q2
              have z1 := hz01.1 c261.2
              by_cases c5 : sp_kz h = 5
              · rw [if_pos c5]
                refine mv_go' 2 (pc' := if 1 = 0 then 150 else 22) (ls' := [mv_R 100, mv_I 1, mv_I z, l3]) (st' := []) (M1 := MX) rfl ?_
                refine mv_ff' (by first | decide | omega) ?_
                refine mv_go' 2 (pc' := 26) (ls' := [mv_R 100, mv_I 1, mv_I z, l3]) (st' := [mv_I (MX 100 23)]) (M1 := MX) rfl ?_
                rw [show MX 100 23 = 6 from by exact q2]
                refine mv_go' 2 (pc' := if 6 = 1 then 38 else 30) (ls' := [mv_R 100, mv_I 1, mv_I z, l3]) (st' := []) (M1 := MX) rfl ?_
                refine mv_ff' (by first | decide | omega) ?_
                refine mv_go' 2 (pc' := 34) (ls' := [mv_R 100, mv_I 1, mv_I z, l3]) (st' := [mv_I (MX 100 23)]) (M1 := MX) rfl ?_
                rw [show MX 100 23 = 6 from by exact q2]
                refine mv_go' 2 (pc' := if 6 = 2 then 38 else 75) (ls' := [mv_R 100, mv_I 1, mv_I z, l3]) (st' := []) (M1 := MX) rfl ?_
                refine mv_ff' (by first | decide | omega) ?_
                refine mv_go' 2 (pc' := 79) (ls' := [mv_R 100, mv_I 1, mv_I z, l3]) (st' := [mv_I (MX 100 23)]) (M1 := MX) rfl ?_
                rw [show MX 100 23 = 6 from by exact q2]
                refine mv_go' 2 (pc' := if 6 = 6 then 84 else 99) (ls' := [mv_R 100, mv_I 1, mv_I z, l3]) (st' := []) (M1 := MX) rfl ?_
                refine mv_tt' (by first | decide | omega) ?_
                refine mv_go' 2 (pc' := if z = 0 then 99 else 88) (ls' := [mv_R 100, mv_I 1, mv_I z, l3]) (st' := []) (M1 := MX) rfl ?_
                refine mv_ff' (by omega) ?_
                refine mv_go' 2 (pc' := 91) (ls' := [mv_R 100, mv_I 1, mv_I z, l3]) (st' := [mv_I 13, mv_R 100]) (M1 := MX) rfl ?_
                refine mv_callP (st2 := [mv_I 0]) rfl (Or.inl rfl) rfl rfl rfl ((sp_mop_f q1 c5)) (by first | decide | omega) ?_
                refine mv_go' 1 (pc' := if 0 = 0 then 97 else 14) (ls' := [mv_R 100, mv_I 1, mv_I z, l3]) (st' := []) (M1 := MX) rfl ?_
                refine mv_tt' (by first | decide | omega) ?_
                refine mv_go' 1 (pc' := 98) (ls' := [mv_R 100, mv_I 1, mv_I z, l3]) (st' := [mv_I 0]) (M1 := MX) rfl ?_
                exact mv_ret (fun n => rfl) (res0 _ _ _ q1)
              · rw [if_neg c5]
                have goes := fun M2 => go true y (13 :: h) k M2 l3 (by omega) (by rw [List.length_cons]; omega) h3
                rw [← hz, show sp_b2 true = 1 from rfl] at goes
                refine mv_go' 2 (pc' := if 1 = 0 then 150 else 22) (ls' := [mv_R 100, mv_I 1, mv_I z, l3]) (st' := []) (M1 := MX) rfl ?_
                refine mv_ff' (by first | decide | omega) ?_
                refine mv_go' 2 (pc' := 26) (ls' := [mv_R 100, mv_I 1, mv_I z, l3]) (st' := [mv_I (MX 100 23)]) (M1 := MX) rfl ?_
                rw [show MX 100 23 = 6 from by exact q2]
                refine mv_go' 2 (pc' := if 6 = 1 then 38 else 30) (ls' := [mv_R 100, mv_I 1, mv_I z, l3]) (st' := []) (M1 := MX) rfl ?_
                refine mv_ff' (by first | decide | omega) ?_
                refine mv_go' 2 (pc' := 34) (ls' := [mv_R 100, mv_I 1, mv_I z, l3]) (st' := [mv_I (MX 100 23)]) (M1 := MX) rfl ?_
                rw [show MX 100 23 = 6 from by exact q2]
                refine mv_go' 2 (pc' := if 6 = 2 then 38 else 75) (ls' := [mv_R 100, mv_I 1, mv_I z, l3]) (st' := []) (M1 := MX) rfl ?_
                refine mv_ff' (by first | decide | omega) ?_
                refine mv_go' 2 (pc' := 79) (ls' := [mv_R 100, mv_I 1, mv_I z, l3]) (st' := [mv_I (MX 100 23)]) (M1 := MX) rfl ?_
                rw [show MX 100 23 = 6 from by exact q2]
                refine mv_go' 2 (pc' := if 6 = 6 then 84 else 99) (ls' := [mv_R 100, mv_I 1, mv_I z, l3]) (st' := []) (M1 := MX) rfl ?_
                refine mv_tt' (by first | decide | omega) ?_
                refine mv_go' 2 (pc' := if z = 0 then 99 else 88) (ls' := [mv_R 100, mv_I 1, mv_I z, l3]) (st' := []) (M1 := MX) rfl ?_
                refine mv_ff' (by omega) ?_
                refine mv_go' 2 (pc' := 91) (ls' := [mv_R 100, mv_I 1, mv_I z, l3]) (st' := [mv_I 13, mv_R 100]) (M1 := MX) rfl ?_
                refine mv_call (st2 := [mv_I 1]) rfl (Or.inl rfl) rfl rfl rfl ((sp_mop_t (s := 13) q1 c5 (by decide) (by omega))) (by first | decide | omega) (fun Ma24 hm25 => ?_)
                have hu := hm25
                refine mv_go' 1 (pc' := if 1 = 0 then 97 else 14) (ls' := [mv_R 100, mv_I 1, mv_I z, l3]) (st' := []) (M1 := Ma24) rfl ?_
                refine mv_ff' (by first | decide | omega) ?_
                exact goes _ hu
            · rw [if_neg c261]
              by_cases c45 : tk_K f t p = 45
              · rw [if_pos c45]
                rw [hMf.2.2.2.1.2 c45] at q2
                by_cases c5 : sp_kz h = 5
                · rw [if_pos c5]
                  refine mv_go' 2 (pc' := if 1 = 0 then 150 else 22) (ls' := [mv_R 100, mv_I 1, mv_I z, l3]) (st' := []) (M1 := MX) rfl ?_
                  refine mv_ff' (by first | decide | omega) ?_
                  refine mv_go' 2 (pc' := 26) (ls' := [mv_R 100, mv_I 1, mv_I z, l3]) (st' := [mv_I (MX 100 23)]) (M1 := MX) rfl ?_
                  rw [show MX 100 23 = 45 from by exact q2]
                  refine mv_go' 2 (pc' := if 45 = 1 then 38 else 30) (ls' := [mv_R 100, mv_I 1, mv_I z, l3]) (st' := []) (M1 := MX) rfl ?_
                  refine mv_ff' (by first | decide | omega) ?_
                  refine mv_go' 2 (pc' := 34) (ls' := [mv_R 100, mv_I 1, mv_I z, l3]) (st' := [mv_I (MX 100 23)]) (M1 := MX) rfl ?_
                  rw [show MX 100 23 = 45 from by exact q2]
                  refine mv_go' 2 (pc' := if 45 = 2 then 38 else 75) (ls' := [mv_R 100, mv_I 1, mv_I z, l3]) (st' := []) (M1 := MX) rfl ?_
                  refine mv_ff' (by first | decide | omega) ?_
                  refine mv_go' 2 (pc' := 79) (ls' := [mv_R 100, mv_I 1, mv_I z, l3]) (st' := [mv_I (MX 100 23)]) (M1 := MX) rfl ?_
                  rw [show MX 100 23 = 45 from by exact q2]
                  refine mv_go' 2 (pc' := if 45 = 6 then 84 else 99) (ls' := [mv_R 100, mv_I 1, mv_I z, l3]) (st' := []) (M1 := MX) rfl ?_
                  refine mv_ff' (by first | decide | omega) ?_
                  refine mv_go' 2 (pc' := 103) (ls' := [mv_R 100, mv_I 1, mv_I z, l3]) (st' := [mv_I (MX 100 23)]) (M1 := MX) rfl ?_
                  rw [show MX 100 23 = 45 from by exact q2]
                  refine mv_go' 2 (pc' := if 45 = 45 then 108 else 124) (ls' := [mv_R 100, mv_I 1, mv_I z, l3]) (st' := []) (M1 := MX) rfl ?_
                  refine mv_tt' (by first | decide | omega) ?_
                  refine mv_go' 2 (pc' := 111) (ls' := [mv_R 100, mv_I 1, mv_I z, l3]) (st' := [mv_I 19, mv_R 100]) (M1 := MX) rfl ?_
                  refine mv_callP (st2 := [mv_I 0]) rfl (Or.inl rfl) rfl rfl rfl ((sp_mop_f q1 c5)) (by first | decide | omega) ?_
                  refine mv_go' 1 (pc' := if 0 = 0 then 117 else 119) (ls' := [mv_R 100, mv_I 1, mv_I z, l3]) (st' := []) (M1 := MX) rfl ?_
                  refine mv_tt' (by first | decide | omega) ?_
                  refine mv_go' 1 (pc' := 118) (ls' := [mv_R 100, mv_I 1, mv_I z, l3]) (st' := [mv_I 0]) (M1 := MX) rfl ?_
                  exact mv_ret (fun n => rfl) (res0 _ _ _ q1)
                · rw [if_neg c5]
                  have goes := fun M2 => go true false (19 :: h) k M2 l3 (by omega) (by rw [List.length_cons]; omega) h3
                  rw [show sp_b2 false = 0 from rfl, show sp_b2 true = 1 from rfl] at goes
                  refine mv_go' 2 (pc' := if 1 = 0 then 150 else 22) (ls' := [mv_R 100, mv_I 1, mv_I z, l3]) (st' := []) (M1 := MX) rfl ?_
                  refine mv_ff' (by first | decide | omega) ?_
                  refine mv_go' 2 (pc' := 26) (ls' := [mv_R 100, mv_I 1, mv_I z, l3]) (st' := [mv_I (MX 100 23)]) (M1 := MX) rfl ?_
                  rw [show MX 100 23 = 45 from by exact q2]
                  refine mv_go' 2 (pc' := if 45 = 1 then 38 else 30) (ls' := [mv_R 100, mv_I 1, mv_I z, l3]) (st' := []) (M1 := MX) rfl ?_
                  refine mv_ff' (by first | decide | omega) ?_
                  refine mv_go' 2 (pc' := 34) (ls' := [mv_R 100, mv_I 1, mv_I z, l3]) (st' := [mv_I (MX 100 23)]) (M1 := MX) rfl ?_
                  rw [show MX 100 23 = 45 from by exact q2]
                  refine mv_go' 2 (pc' := if 45 = 2 then 38 else 75) (ls' := [mv_R 100, mv_I 1, mv_I z, l3]) (st' := []) (M1 := MX) rfl ?_
                  refine mv_ff' (by first | decide | omega) ?_
                  refine mv_go' 2 (pc' := 79) (ls' := [mv_R 100, mv_I 1, mv_I z, l3]) (st' := [mv_I (MX 100 23)]) (M1 := MX) rfl ?_
                  rw [show MX 100 23 = 45 from by exact q2]
                  refine mv_go' 2 (pc' := if 45 = 6 then 84 else 99) (ls' := [mv_R 100, mv_I 1, mv_I z, l3]) (st' := []) (M1 := MX) rfl ?_
                  refine mv_ff' (by first | decide | omega) ?_
                  refine mv_go' 2 (pc' := 103) (ls' := [mv_R 100, mv_I 1, mv_I z, l3]) (st' := [mv_I (MX 100 23)]) (M1 := MX) rfl ?_
                  rw [show MX 100 23 = 45 from by exact q2]
                  refine mv_go' 2 (pc' := if 45 = 45 then 108 else 124) (ls' := [mv_R 100, mv_I 1, mv_I z, l3]) (st' := []) (M1 := MX) rfl ?_
                  refine mv_tt' (by first | decide | omega) ?_
                  refine mv_go' 2 (pc' := 111) (ls' := [mv_R 100, mv_I 1, mv_I z, l3]) (st' := [mv_I 19, mv_R 100]) (M1 := MX) rfl ?_
                  refine mv_call (st2 := [mv_I 1]) rfl (Or.inl rfl) rfl rfl rfl ((sp_mop_t (s := 19) q1 c5 (by decide) (by omega))) (by first | decide | omega) (fun Ma26 hm27 => ?_)
                  have hu := hm27
                  refine mv_go' 1 (pc' := if 1 = 0 then 117 else 119) (ls' := [mv_R 100, mv_I 1, mv_I z, l3]) (st' := []) (M1 := Ma26) rfl ?_
                  refine mv_ff' (by first | decide | omega) ?_
                  refine mv_go' 3 (pc' := 14) (ls' := [mv_R 100, mv_I 1, mv_I 0, l3]) (st' := []) (M1 := Ma26) rfl ?_
                  exact goes _ hu
              · rw [if_neg c45]
                by_cases c40 : tk_K f t p = 40
                · rw [if_pos c40]
                  rw [hMf.2.2.2.2.1.2 c40] at q2
                  by_cases c5 : sp_kz h = 5
                  · rw [if_pos c5]
                    refine mv_go' 2 (pc' := if 1 = 0 then 150 else 22) (ls' := [mv_R 100, mv_I 1, mv_I z, l3]) (st' := []) (M1 := MX) rfl ?_
                    refine mv_ff' (by first | decide | omega) ?_
                    refine mv_go' 2 (pc' := 26) (ls' := [mv_R 100, mv_I 1, mv_I z, l3]) (st' := [mv_I (MX 100 23)]) (M1 := MX) rfl ?_
                    rw [show MX 100 23 = 40 from by exact q2]
                    refine mv_go' 2 (pc' := if 40 = 1 then 38 else 30) (ls' := [mv_R 100, mv_I 1, mv_I z, l3]) (st' := []) (M1 := MX) rfl ?_
                    refine mv_ff' (by first | decide | omega) ?_
                    refine mv_go' 2 (pc' := 34) (ls' := [mv_R 100, mv_I 1, mv_I z, l3]) (st' := [mv_I (MX 100 23)]) (M1 := MX) rfl ?_
                    rw [show MX 100 23 = 40 from by exact q2]
                    refine mv_go' 2 (pc' := if 40 = 2 then 38 else 75) (ls' := [mv_R 100, mv_I 1, mv_I z, l3]) (st' := []) (M1 := MX) rfl ?_
                    refine mv_ff' (by first | decide | omega) ?_
                    refine mv_go' 2 (pc' := 79) (ls' := [mv_R 100, mv_I 1, mv_I z, l3]) (st' := [mv_I (MX 100 23)]) (M1 := MX) rfl ?_
                    rw [show MX 100 23 = 40 from by exact q2]
                    refine mv_go' 2 (pc' := if 40 = 6 then 84 else 99) (ls' := [mv_R 100, mv_I 1, mv_I z, l3]) (st' := []) (M1 := MX) rfl ?_
                    refine mv_ff' (by first | decide | omega) ?_
                    refine mv_go' 2 (pc' := 103) (ls' := [mv_R 100, mv_I 1, mv_I z, l3]) (st' := [mv_I (MX 100 23)]) (M1 := MX) rfl ?_
                    rw [show MX 100 23 = 40 from by exact q2]
                    refine mv_go' 2 (pc' := if 40 = 45 then 108 else 124) (ls' := [mv_R 100, mv_I 1, mv_I z, l3]) (st' := []) (M1 := MX) rfl ?_
                    refine mv_ff' (by first | decide | omega) ?_
                    refine mv_go' 2 (pc' := 128) (ls' := [mv_R 100, mv_I 1, mv_I z, l3]) (st' := [mv_I (MX 100 23)]) (M1 := MX) rfl ?_
                    rw [show MX 100 23 = 40 from by exact q2]
                    refine mv_go' 2 (pc' := if 40 = 40 then 133 else 148) (ls' := [mv_R 100, mv_I 1, mv_I z, l3]) (st' := []) (M1 := MX) rfl ?_
                    refine mv_tt' (by first | decide | omega) ?_
                    refine mv_go' 2 (pc' := 135) (ls' := [mv_R 100, mv_I 1, mv_I z, l3]) (st' := [mv_I 0, mv_R 100]) (M1 := MX) rfl ?_
                    refine mv_callP (st2 := [mv_I 0]) rfl (Or.inl rfl) rfl rfl rfl ((sp_mop_f q1 c5)) (by first | decide | omega) ?_
                    refine mv_go' 1 (pc' := if 0 = 0 then 141 else 143) (ls' := [mv_R 100, mv_I 1, mv_I z, l3]) (st' := []) (M1 := MX) rfl ?_
                    refine mv_tt' (by first | decide | omega) ?_
                    refine mv_go' 1 (pc' := 142) (ls' := [mv_R 100, mv_I 1, mv_I z, l3]) (st' := [mv_I 0]) (M1 := MX) rfl ?_
                    exact mv_ret (fun n => rfl) (res0 _ _ _ q1)
                  · rw [if_neg c5]
                    have goes := fun M2 => go true true (0 :: h) k M2 l3 (by omega) (by rw [List.length_cons]; omega) h3
                    rw [show sp_b2 true = 1 from rfl] at goes
                    refine mv_go' 2 (pc' := if 1 = 0 then 150 else 22) (ls' := [mv_R 100, mv_I 1, mv_I z, l3]) (st' := []) (M1 := MX) rfl ?_
                    refine mv_ff' (by first | decide | omega) ?_
                    refine mv_go' 2 (pc' := 26) (ls' := [mv_R 100, mv_I 1, mv_I z, l3]) (st' := [mv_I (MX 100 23)]) (M1 := MX) rfl ?_
                    rw [show MX 100 23 = 40 from by exact q2]
                    refine mv_go' 2 (pc' := if 40 = 1 then 38 else 30) (ls' := [mv_R 100, mv_I 1, mv_I z, l3]) (st' := []) (M1 := MX) rfl ?_
                    refine mv_ff' (by first | decide | omega) ?_
                    refine mv_go' 2 (pc' := 34) (ls' := [mv_R 100, mv_I 1, mv_I z, l3]) (st' := [mv_I (MX 100 23)]) (M1 := MX) rfl ?_
                    rw [show MX 100 23 = 40 from by exact q2]
                    refine mv_go' 2 (pc' := if 40 = 2 then 38 else 75) (ls' := [mv_R 100, mv_I 1, mv_I z, l3]) (st' := []) (M1 := MX) rfl ?_
                    refine mv_ff' (by first | decide | omega) ?_
                    refine mv_go' 2 (pc' := 79) (ls' := [mv_R 100, mv_I 1, mv_I z, l3]) (st' := [mv_I (MX 100 23)]) (M1 := MX) rfl ?_
                    rw [show MX 100 23 = 40 from by exact q2]
                    refine mv_go' 2 (pc' := if 40 = 6 then 84 else 99) (ls' := [mv_R 100, mv_I 1, mv_I z, l3]) (st' := []) (M1 := MX) rfl ?_
                    refine mv_ff' (by first | decide | omega) ?_
                    refine mv_go' 2 (pc' := 103) (ls' := [mv_R 100, mv_I 1, mv_I z, l3]) (st' := [mv_I (MX 100 23)]) (M1 := MX) rfl ?_
                    rw [show MX 100 23 = 40 from by exact q2]
                    refine mv_go' 2 (pc' := if 40 = 45 then 108 else 124) (ls' := [mv_R 100, mv_I 1, mv_I z, l3]) (st' := []) (M1 := MX) rfl ?_
                    refine mv_ff' (by first | decide | omega) ?_
                    refine mv_go' 2 (pc' := 128) (ls' := [mv_R 100, mv_I 1, mv_I z, l3]) (st' := [mv_I (MX 100 23)]) (M1 := MX) rfl ?_
                    rw [show MX 100 23 = 40 from by exact q2]
                    refine mv_go' 2 (pc' := if 40 = 40 then 133 else 148) (ls' := [mv_R 100, mv_I 1, mv_I z, l3]) (st' := []) (M1 := MX) rfl ?_
                    refine mv_tt' (by first | decide | omega) ?_
                    refine mv_go' 2 (pc' := 135) (ls' := [mv_R 100, mv_I 1, mv_I z, l3]) (st' := [mv_I 0, mv_R 100]) (M1 := MX) rfl ?_
                    refine mv_call (st2 := [mv_I 1]) rfl (Or.inl rfl) rfl rfl rfl ((sp_mop_t (s := 0) q1 c5 (by decide) (by omega))) (by first | decide | omega) (fun Ma28 hm29 => ?_)
                    have hu := hm29
                    refine mv_go' 1 (pc' := if 1 = 0 then 141 else 143) (ls' := [mv_R 100, mv_I 1, mv_I z, l3]) (st' := []) (M1 := Ma28) rfl ?_
                    refine mv_ff' (by first | decide | omega) ?_
                    refine mv_go' 3 (pc' := 14) (ls' := [mv_R 100, mv_I 1, mv_I 1, l3]) (st' := []) (M1 := Ma28) rfl ?_
                    exact goes _ hu
                · rw [if_neg c40]
                  have n45 : ¬ tk_M (tk_K f t p) = 45 := fun c => c45 (hMf.2.2.2.1.1 c)
                  have n40 : ¬ tk_M (tk_K f t p) = 40 := fun c => c40 (hMf.2.2.2.2.1.1 c)
                  have n6 : tk_M (tk_K f t p) = 6 → z = 0 := fun c => hz01.2 (fun c2 => c261 ⟨hMf.2.2.1.1 c, c2⟩)
                  obtain ⟨mk, hmk⟩ : ∃ mk, mk = tk_M (tk_K f t p) := ⟨_, rfl⟩
                  rw [← hmk] at q2 n300 n301 n45 n40 n6
                  by_cases c6 : mk = 6
                  · have z0 := n6 c6
                    refine mv_go' 2 (pc' := if 1 = 0 then 150 else 22) (ls' := [mv_R 100, mv_I 1, mv_I z, l3]) (st' := []) (M1 := MX) rfl ?_
                    refine mv_ff' (by first | decide | omega) ?_
                    refine mv_go' 2 (pc' := 26) (ls' := [mv_R 100, mv_I 1, mv_I z, l3]) (st' := [mv_I (MX 100 23)]) (M1 := MX) rfl ?_
                    rw [show MX 100 23 = mk from by exact q2]
                    refine mv_go' 2 (pc' := if mk = 1 then 38 else 30) (ls' := [mv_R 100, mv_I 1, mv_I z, l3]) (st' := []) (M1 := MX) rfl ?_
                    refine mv_ff' (by omega) ?_
                    refine mv_go' 2 (pc' := 34) (ls' := [mv_R 100, mv_I 1, mv_I z, l3]) (st' := [mv_I (MX 100 23)]) (M1 := MX) rfl ?_
                    rw [show MX 100 23 = mk from by exact q2]
                    refine mv_go' 2 (pc' := if mk = 2 then 38 else 75) (ls' := [mv_R 100, mv_I 1, mv_I z, l3]) (st' := []) (M1 := MX) rfl ?_
                    refine mv_ff' (by omega) ?_
                    refine mv_go' 2 (pc' := 79) (ls' := [mv_R 100, mv_I 1, mv_I z, l3]) (st' := [mv_I (MX 100 23)]) (M1 := MX) rfl ?_
                    rw [show MX 100 23 = mk from by exact q2]
                    refine mv_go' 2 (pc' := if mk = 6 then 84 else 99) (ls' := [mv_R 100, mv_I 1, mv_I z, l3]) (st' := []) (M1 := MX) rfl ?_
                    refine mv_tt' (by omega) ?_
                    refine mv_go' 2 (pc' := if z = 0 then 99 else 88) (ls' := [mv_R 100, mv_I 1, mv_I z, l3]) (st' := []) (M1 := MX) rfl ?_
                    refine mv_tt' (by omega) ?_
                    refine mv_go' 2 (pc' := 103) (ls' := [mv_R 100, mv_I 1, mv_I z, l3]) (st' := [mv_I (MX 100 23)]) (M1 := MX) rfl ?_
                    rw [show MX 100 23 = mk from by exact q2]
                    refine mv_go' 2 (pc' := if mk = 45 then 108 else 124) (ls' := [mv_R 100, mv_I 1, mv_I z, l3]) (st' := []) (M1 := MX) rfl ?_
                    refine mv_ff' (by omega) ?_
                    refine mv_go' 2 (pc' := 128) (ls' := [mv_R 100, mv_I 1, mv_I z, l3]) (st' := [mv_I (MX 100 23)]) (M1 := MX) rfl ?_
                    rw [show MX 100 23 = mk from by exact q2]
                    refine mv_go' 2 (pc' := if mk = 40 then 133 else 148) (ls' := [mv_R 100, mv_I 1, mv_I z, l3]) (st' := []) (M1 := MX) rfl ?_
                    refine mv_ff' (by omega) ?_
                    refine mv_go' 1 (pc' := 149) (ls' := [mv_R 100, mv_I 1, mv_I z, l3]) (st' := [mv_I 0]) (M1 := MX) rfl ?_
                    exact mv_ret (fun n => rfl) (res0 _ _ _ q1)
                  · refine mv_go' 2 (pc' := if 1 = 0 then 150 else 22) (ls' := [mv_R 100, mv_I 1, mv_I z, l3]) (st' := []) (M1 := MX) rfl ?_
                    refine mv_ff' (by first | decide | omega) ?_
                    refine mv_go' 2 (pc' := 26) (ls' := [mv_R 100, mv_I 1, mv_I z, l3]) (st' := [mv_I (MX 100 23)]) (M1 := MX) rfl ?_
                    rw [show MX 100 23 = mk from by exact q2]
                    refine mv_go' 2 (pc' := if mk = 1 then 38 else 30) (ls' := [mv_R 100, mv_I 1, mv_I z, l3]) (st' := []) (M1 := MX) rfl ?_
                    refine mv_ff' (by omega) ?_
                    refine mv_go' 2 (pc' := 34) (ls' := [mv_R 100, mv_I 1, mv_I z, l3]) (st' := [mv_I (MX 100 23)]) (M1 := MX) rfl ?_
                    rw [show MX 100 23 = mk from by exact q2]
                    refine mv_go' 2 (pc' := if mk = 2 then 38 else 75) (ls' := [mv_R 100, mv_I 1, mv_I z, l3]) (st' := []) (M1 := MX) rfl ?_
                    refine mv_ff' (by omega) ?_
                    refine mv_go' 2 (pc' := 79) (ls' := [mv_R 100, mv_I 1, mv_I z, l3]) (st' := [mv_I (MX 100 23)]) (M1 := MX) rfl ?_
                    rw [show MX 100 23 = mk from by exact q2]
                    refine mv_go' 2 (pc' := if mk = 6 then 84 else 99) (ls' := [mv_R 100, mv_I 1, mv_I z, l3]) (st' := []) (M1 := MX) rfl ?_
                    refine mv_ff' (by omega) ?_
                    refine mv_go' 2 (pc' := 103) (ls' := [mv_R 100, mv_I 1, mv_I z, l3]) (st' := [mv_I (MX 100 23)]) (M1 := MX) rfl ?_
                    rw [show MX 100 23 = mk from by exact q2]
                    refine mv_go' 2 (pc' := if mk = 45 then 108 else 124) (ls' := [mv_R 100, mv_I 1, mv_I z, l3]) (st' := []) (M1 := MX) rfl ?_
                    refine mv_ff' (by omega) ?_
                    refine mv_go' 2 (pc' := 128) (ls' := [mv_R 100, mv_I 1, mv_I z, l3]) (st' := [mv_I (MX 100 23)]) (M1 := MX) rfl ?_
                    rw [show MX 100 23 = mk from by exact q2]
                    refine mv_go' 2 (pc' := if mk = 40 then 133 else 148) (ls' := [mv_R 100, mv_I 1, mv_I z, l3]) (st' := []) (M1 := MX) rfl ?_
                    refine mv_ff' (by omega) ?_
                    refine mv_go' 1 (pc' := 149) (ls' := [mv_R 100, mv_I 1, mv_I z, l3]) (st' := [mv_I 0]) (M1 := MX) rfl ?_
                    exact mv_ret (fun n => rfl) (res0 _ _ _ q1)
    obtain ⟨w0, hw0⟩ : ∃ w0, w0 = sp_b2 w := ⟨_, rfl⟩
    obtain ⟨y0, hy0⟩ : ∃ y0, y0 = sp_b2 y := ⟨_, rfl⟩
    rw [← hw0, ← hy0] at fin ⊢
    refine mv_go' 1 (pc' := 15) (ls' := [mv_R 100, mv_I w0, mv_I y0, l3]) (st' := [mv_R 100]) (M1 := M) rfl ?_
    refine mv_call (st2 := []) rfl (Or.inl rfl) rfl rfl rfl (hnx) (by first | decide | omega) (fun Ma30 hm31 => ?_)
    have hq := hm31
    exact fin _ hq
