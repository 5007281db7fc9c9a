/-! the class reads a text: rows of either, both, sum, term -/
def sp_pr (f : Nat → Int) (t : Nat) : Nat → Nat → Nat → Nat → Bool × Nat × List Int := sp_pz (tk_K f t) (tk_W f t) (tk_N f t) (tk_Q f t)
def sp_cr (f : Nat → Int) (t l : Nat) (r : Bool × Nat × List Int) (c : List Int) (M0 M : mv_M) : Prop := if r.1 = true then sp_cs f t l r.2.1 (c ++ r.2.2) M0 M else sp_cf t l r.2.1 M0 M
theorem sp_cr_t {f : Nat → Int} {t l : Nat} {r : Bool × Nat × List Int} {c : List Int} {M0 M : mv_M} (g : r.1 = true) : sp_cr f t l r c M0 M ↔ sp_cs f t l r.2.1 (c ++ r.2.2) M0 M := by
  unfold sp_cr
  rw [if_pos g]
theorem sp_cr_f {f : Nat → Int} {t l : Nat} {r : Bool × Nat × List Int} {c : List Int} {M0 M : mv_M} (g : ¬ r.1 = true) : sp_cr f t l r c M0 M ↔ sp_cf t l r.2.1 M0 M := by
  unfold sp_cr
  rw [if_neg g]
theorem sp_cr_thn {f : Nat → Int} {t l : Nat} {r : Bool × Nat × List Int} {k : Nat → Bool × Nat × List Int} {c : List Int} {M0 M : mv_M} (g : r.1 = true) (h : sp_cr f t l (k r.2.1) (c ++ r.2.2) M0 M) : sp_cr f t l (sp_thn r k) c M0 M := by
  rw [sp_thn_t g]
  by_cases g2 : (k r.2.1).1 = true
  · rw [sp_cr_t g2, List.append_assoc] at h
    exact (sp_cr_t (r := ((k r.2.1).1, (k r.2.1).2.1, r.2.2 ++ (k r.2.1).2.2)) g2).2 h
  · rw [sp_cr_f g2] at h
    exact (sp_cr_f (r := ((k r.2.1).1, (k r.2.1).2.1, r.2.2 ++ (k r.2.1).2.2)) g2).2 h
theorem sp_cr_tnf {f : Nat → Int} {t l : Nat} {r : Bool × Nat × List Int} {k : Nat → Bool × Nat × List Int} {c : List Int} {M0 M : mv_M} (g : ¬ r.1 = true) (h : sp_cf t l r.2.1 M0 M) : sp_cr f t l (sp_thn r k) c M0 M := by
  rw [sp_thn_f g]
  exact (sp_cr_f g).2 h
theorem tk_ok (f : Nat → Int) (t : Nat) : sp_tks t (tk_K f t) (tk_N f t) := fun p hp => ⟨(tk_N_b f hp).2.1, (tk_N_b f hp).2.2.1⟩
def sp_CX (f : Nat → Int) (t l : Nat) (M0 : mv_M) (n x : Nat) : Prop := ∀ (d p : Nat) (c : List Int) (M : mv_M), d ≤ 5 → p ≤ t → 16 * (t - p) + (6 - x) < n → c.length ≤ p → sp_cs f t l p c M0 M →
  mv_Ru (7 * (5 - d) + (14 - x)) (15 + x) 0 (mv_ent (mv_nl (15 + x)) [mv_R 28, mv_I (d : Int)]) [] M mv_U (sp_cr f t l (sp_pr f t n x d p) c M0)
def sp_CL (f : Nat → Int) (t l : Nat) (M0 : mv_M) (n x : Nat) : Prop := ∀ (d p i : Nat) (c : List Int) (M : mv_M), d ≤ 5 → p ≤ t → 16 * (t - p) < n → c.length ≤ p → i ≤ p → sp_cs f t l p c M0 M →
  mv_Ru (7 * (5 - d) + (14 - x)) (15 + x) 7 [mv_R 28, mv_I (d : Int), mv_I (i : Int)] [] M mv_U (sp_cr f t l (sp_pr f t n (x + 10) d p) c M0)
theorem sp_skp_d {c : Int → Bool} {f : Nat → Int} {r p j : Nat} (h : j < sp_skp c f r p - p) : c (f (p + j)) = true := sp_skp_a c f r p (p + j) (by omega) (by omega)
theorem tk_W_b (f : Nat → Int) {t p : Nat} (hp : p ≤ t) (hb : ∀ j, j < t → 0 ≤ f j ∧ f j ≤ 255) (h : tk_K f t p = 300 ∨ tk_K f t p = 301) : 0 ≤ tk_W f t p ∧ tk_W f t p ≤ 9999 ∧ (tk_K f t p = 301 → tk_W f t p ≤ 5) := by
  have hq := tk_Q_b f hp
  by_cases c : t ≤ tk_Q f t p
  · have := (tk_end c).1
    omega
  · by_cases cl : sp_isL (f (tk_Q f t p)) = true
    · obtain ⟨k1, _, k3⟩ := tk_let (by omega) cl
      have hr := sp_rw_b (sp_word f (tk_Q f t p) (sp_skp sp_isL f (t - tk_Q f t p) (tk_Q f t p)))
      rw [k1] at h ⊢
      rw [k3]
      obtain ⟨w, hw⟩ : ∃ w, w = sp_word f (tk_Q f t p) (sp_skp sp_isL f (t - tk_Q f t p) (tk_Q f t p)) := ⟨_, rfl⟩
      rw [← hw] at h hr ⊢
      have h2 : sp_rw w = 301 := by omega
      have h3 : w < 12 := hr.2.2 h2
      have h4 : ¬ w < 6 := fun z => by unfold sp_rw at h2; rw [if_pos z] at h2; omega
      omega
    · by_cases cd : sp_isD (f (tk_Q f t p)) = true
      · obtain ⟨k1, _, k3⟩ := tk_dig (by omega) cl cd
        rw [k1] at h ⊢
        rw [k3]
        obtain ⟨n, hn⟩ : ∃ n, n = sp_skp sp_isD f (t - tk_Q f t p) (tk_Q f t p) - tk_Q f t p := ⟨_, rfl⟩
        have hnv := sp_nv_b (f := f) (q := tk_Q f t p) n (fun j hj => sp_isD_t.1 (sp_skp_d (r := t - tk_Q f t p) (by omega)))
        rw [← hn] at h ⊢
        by_cases z : 4 < n
        · rw [if_pos z] at h
          omega
        · rw [if_neg z]
          omega
      · obtain ⟨k1, _⟩ := tk_sig (by omega) cl cd
        rw [k1] at h
        by_cases cg : sp_isG (f (tk_Q f t p)) = true
        · rw [if_pos cg] at h
          have := sp_isG_t.1 cg
          omega
        · rw [if_neg cg] at h
          omega
/-! expect -/
theorem sp_cex_t {f : Nat → Int} {t l p : Nat} {s : Int} {c : List Int} {M0 M : mv_M} (hl : sp_ly l) (ht : t ≤ 160) (hp : p ≤ t) (hb : ∀ j, j < t → 0 ≤ f j ∧ f j ≤ 255) (h : sp_cs f t l p c M0 M) (h3 : s ≠ 303) (hk : tk_K f t p = s) : mv_Ru 8 9 0 [mv_R 28, mv_I s] [] M mv_U (sp_cs f t l (tk_N f t p) c M0) := by
  have e3 := h.2.2.1.trans hk
  have htok := sp_ctok (d := 0) hl ht hp hb h (by omega)
  refine mv_go' 2 (pc' := 4) (ls' := [mv_R 28, mv_I s]) (st' := [mv_I (M 28 3)]) (M1 := M) rfl ?_
  rw [show M 28 3 = s from by exact e3]
  refine mv_go' 2 (pc' := if s = s then 8 else 15) (ls' := [mv_R 28, mv_I s]) (st' := []) (M1 := M) rfl ?_
  refine mv_tt' (by first | decide | omega) ?_
  refine mv_go' 1 (pc' := 9) (ls' := [mv_R 28, mv_I s]) (st' := [mv_R 28]) (M1 := M) rfl ?_
  refine mv_call (st2 := []) rfl (Or.inl rfl) rfl rfl rfl (htok) (by first | decide | omega) (fun Ma1 hm2 => ?_)
  have hy := hm2
  refine mv_go' 1 (pc' := 19) (ls' := [mv_R 28, mv_I s]) (st' := []) (M1 := Ma1) rfl ?_
  exact mv_ret (fun n => rfl) hy
theorem sp_cex_f {f : Nat → Int} {t l p : Nat} {s : Int} {c : List Int} {M0 M : mv_M} (hl : sp_ly l) (h : sp_cs f t l p c M0 M) (hc : c.length ≤ 160) (hk : ¬ tk_K f t p = s) : mv_Ru 8 9 0 [mv_R 28, mv_I s] [] M mv_U (sp_cf t l (tk_Q f t p) M0) := by
  have e3 := h.2.2.1
  have href := sp_crf_s hl h hc
  obtain ⟨k0, hk0⟩ : ∃ k0, k0 = tk_K f t p := ⟨_, rfl⟩
  rw [← hk0] at hk e3
  refine mv_go' 2 (pc' := 4) (ls' := [mv_R 28, mv_I s]) (st' := [mv_I (M 28 3)]) (M1 := M) rfl ?_
  rw [show M 28 3 = k0 from by exact e3]
  refine mv_go' 2 (pc' := if k0 = s then 8 else 15) (ls' := [mv_R 28, mv_I s]) (st' := []) (M1 := M) rfl ?_
  refine mv_ff' (by omega) ?_
  refine mv_go' 1 (pc' := 16) (ls' := [mv_R 28, mv_I s]) (st' := [mv_R 28]) (M1 := M) rfl ?_
  refine mv_call (st2 := []) rfl (Or.inl rfl) rfl rfl rfl (href) (by first | decide | omega) (fun Ma3 hm4 => ?_)
  have hy := hm4
  exact mv_ret (fun n => rfl) hy
theorem sp_cex_x {t l q : Nat} {s : Int} {M0 M : mv_M} (hl : sp_ly l) (h : sp_cf t l q M0 M) (hk : s ≠ 303) : mv_Ru 8 9 0 [mv_R 28, mv_I s] [] M mv_U (sp_cf t l q M0) := by
  have e3 := h.2.2.1
  have href := sp_crf_f hl h
  have hk2 : ¬ (303 = s) := by omega
  refine mv_go' 2 (pc' := 4) (ls' := [mv_R 28, mv_I s]) (st' := [mv_I (M 28 3)]) (M1 := M) rfl ?_
  rw [show M 28 3 = 303 from by exact e3]
  refine mv_go' 2 (pc' := if 303 = s then 8 else 15) (ls' := [mv_R 28, mv_I s]) (st' := []) (M1 := M) rfl ?_
  refine mv_ff' (by omega) ?_
  refine mv_go' 1 (pc' := 16) (ls' := [mv_R 28, mv_I s]) (st' := [mv_R 28]) (M1 := M) rfl ?_
  refine mv_call (st2 := []) rfl (Or.inl rfl) rfl rfl rfl (href) (by first | decide | omega) (fun Ma5 hm6 => ?_)
  have hy := hm6
  exact mv_ret (fun n => rfl) hy
theorem sp_cX_0 {f : Nat → Int} {t l n : Nat} {M0 : mv_M} (hl : sp_ly l) (ht : t ≤ 160) (h1 : sp_CX f t l M0 n (0 + 1)) (hL : sp_CL f t l M0 n 0) : sp_CX f t l M0 (n + 1) 0 := by
  intro d p c M hd hp hf hc hs
  have ok1 := sp_pz_ok (W := tk_W f t) (Q := tk_Q f t) (tk_ok f t) n (0 + 1) d p hp (by omega) (by show 16 * (t - p) + (6 - (0 + 1)) < n; omega)
  have e : sp_pr f t (n + 1) 0 d p = sp_thn (sp_pr f t n (0 + 1) d p) (fun p1 => sp_pr f t n (0 + 10) d p1) := sp_pzx _ _ _ _ _ _ _ (by omega)
  have h1 := h1 d p c M hd hp (by omega) hc hs
  obtain ⟨r1, hr1⟩ : ∃ r, r = sp_pr f t n (0 + 1) d p := ⟨_, rfl⟩
  rw [← hr1] at h1 e
  rw [show sp_pz (tk_K f t) (tk_W f t) (tk_N f t) (tk_Q f t) n (0 + 1) d p = r1 from hr1.symm] at ok1
  rw [e]
  show mv_Ru (7 * (5 - d) + (14 - 0)) (15 + 0) 0 [mv_R 28, mv_I (d : Int), mv_U] [] M mv_U _
  have fin : ∀ MX, sp_cr f t l r1 c M0 MX → mv_Ru (7 * (5 - d) + (14 - 0)) (15 + 0) 5 [mv_R 28, mv_I (d : Int), mv_U] [] MX mv_U (sp_cr f t l (sp_thn r1 (fun p1 => sp_pr f t n (0 + 10) d p1)) c M0) := fun MX hx => by
    by_cases g : r1.1 = true
    · have ok2 := ok1 g
      have hx2 := (sp_cr_t g).1 hx
      have hL2 := hL d r1.2.1 0 (c ++ r1.2.2) MX hd ok2.2.1 (by omega) (by rw [List.length_append]; have := ok2.2.2; omega) (Nat.zero_le _) hx2
      refine mv_go' 2 (pc' := 7) (ls' := [mv_R 28, mv_I (d : Int), mv_I 0]) (st' := []) (M1 := MX) rfl ?_
      exact hL2.imp (fun M2 q => sp_cr_thn g q)
    · have hx2 := (sp_cr_f g).1 hx
      have e303 := hx2.2.2.1
      refine mv_go' 5 (pc' := if 0 < 160 then 14 else 49) (ls' := [mv_R 28, mv_I (d : Int), mv_I 0]) (st' := []) (M1 := MX) rfl ?_
      refine mv_tt' (by first | decide | omega) ?_
      refine mv_go' 2 (pc' := 18) (ls' := [mv_R 28, mv_I (d : Int), mv_I 0]) (st' := [mv_I (MX 28 3)]) (M1 := MX) rfl ?_
      rw [show MX 28 3 = 303 from by exact e303]
      refine mv_go' 2 (pc' := if 303 = 259 then 24 else 49) (ls' := [mv_R 28, mv_I (d : Int), mv_I 0]) (st' := []) (M1 := MX) rfl ?_
      refine mv_ff' (by first | decide | omega) ?_
      exact mv_ret (fun n => rfl) (sp_cr_tnf g hx2)
  refine mv_go' 2 (pc' := 2) (ls' := [mv_R 28, mv_I (d : Int), mv_U]) (st' := [mv_I (d : Int), mv_R 28]) (M1 := M) rfl ?_
  refine mv_call (st2 := []) rfl (Or.inl rfl) rfl rfl rfl (h1) (by first | decide | omega) (fun Ma7 hm8 => ?_)
  have hx := hm8
  exact fin _ hx
theorem sp_cL_0 {f : Nat → Int} {t l n : Nat} {M0 : mv_M} (hl : sp_ly l) (ht : t ≤ 160) (hb : ∀ j, j < t → 0 ≤ f j ∧ f j ≤ 255) (h1 : sp_CX f t l M0 n (0 + 1)) (hL : sp_CL f t l M0 n 0) : sp_CL f t l M0 (n + 1) 0 := by
  intro d p i c M hd hp hf hc hi hs
  have e : sp_pr f t (n + 1) (0 + 10) d p = if sp_opx 0 (tk_K f t p) = 0 then (true, p, []) else sp_thn (sp_suf (sp_pr f t n (0 + 1) d (tk_N f t p)) (sp_opx 0 (tk_K f t p))) (fun p1 => sp_pr f t n (0 + 10) d p1) := sp_pzl _ _ _ _ _ _ _ _
  have e3 := hs.2.2.1
  rw [e]
  by_cases k : tk_K f t p = 259
  · have eop : sp_opx 0 (tk_K f t p) = 20000 := by rw [k]; rfl
    rw [if_neg (by omega), eop]
    have hN := tk_ok f t p hp
    have hN2 := hN.2 (by omega)
    have hN1 := hN.1
    have htok := fun d => sp_ctok (d := d) hl ht hp hb hs (by omega)
    have ok1 := sp_pz_ok (W := tk_W f t) (Q := tk_Q f t) (tk_ok f t) n (0 + 1) d (tk_N f t p) hN1 (by omega) (by show 16 * (t - tk_N f t p) + (6 - (0 + 1)) < n; omega)
    have h1 := fun MX => h1 d (tk_N f t p) c MX hd hN1 (by omega) (by omega)
    obtain ⟨r1, hr1⟩ : ∃ r, r = sp_pr f t n (0 + 1) d (tk_N f t p) := ⟨_, rfl⟩
    rw [← hr1] at h1 ⊢
    rw [show sp_pz (tk_K f t) (tk_W f t) (tk_N f t) (tk_Q f t) n (0 + 1) d (tk_N f t p) = r1 from hr1.symm] at ok1
    have fin : ∀ MX, sp_cr f t l r1 c M0 MX → mv_Ru (7 * (5 - d) + (14 - 0)) (15 + 0) 33 [mv_R 28, mv_I (d : Int), mv_I (i : Int)] [] MX mv_U (sp_cr f t l (sp_thn (sp_suf r1 20000) (fun p1 => sp_pr f t n (0 + 10) d p1)) c M0) := fun MX hx => by
      by_cases g : r1.1 = true
      · have ok2 := ok1 g
        have hx2 := (sp_cr_t g).1 hx
        have e7 : MX 28 7 = (l : Int) := hx2.2.1.2
        have e70 : 0 ≤ MX 28 7 := by omega
        have hlen : (c ++ r1.2.2).length + (tk_N f t p) ≤ r1.2.1 + c.length := by rw [List.length_append]; have := ok2.2.2; omega
        have hL2 := fun MY => hL d r1.2.1 (i + 1) ((c ++ r1.2.2) ++ [20000]) MY hd ok2.2.1 (by have := ok2.1.1; omega) (by rw [List.length_append, List.length_cons, List.length_nil]; omega) (by have := ok2.1.1; omega)
        refine mv_go' 2 (pc' := if 0 ≤ MX 28 7 then 37 else mv_bad) (ls' := [mv_R 28, mv_I (d : Int), mv_I (i : Int)]) (st' := [mv_R ((MX 28 7).toNat)]) (M1 := MX) rfl ?_
        refine mv_tt' (by omega) ?_
        refine mv_go' 1 (pc' := 40) (ls' := [mv_R 28, mv_I (d : Int), mv_I (i : Int)]) (st' := [mv_I 20000, mv_R ((MX 28 7).toNat)]) (M1 := MX) rfl ?_
        refine mv_call (st2 := []) rfl (Or.inl rfl) (sp_lyg hl e7) rfl rfl ((sp_cladd_s hl hx2 (by have := ok2.2.1; omega))) (by first | decide | omega) (fun Ma9 hm10 => ?_)
        have hy := hm10
        refine mv_go' 2 (pc' := 7) (ls' := [mv_R 28, mv_I (d : Int), mv_I (mv_w ((i : Int) + 1))]) (st' := []) (M1 := Ma9) rfl ?_
        rw [show mv_w ((i : Int) + 1) = (i : Int) + 1 from mv_w_id (by omega) (by omega)]
        rw [show (i : Int) + 1 = ((i + 1 : Nat) : Int) from by omega]
        exact (hL2 _ hy).imp (fun M2 q => sp_cr_thn (r := sp_suf r1 20000) g (by
          show sp_cr f t l (sp_pr f t n (0 + 10) d r1.2.1) (c ++ (r1.2.2 ++ [20000])) M0 M2
          rw [← List.append_assoc]
          exact q))
      · have hx2 := (sp_cr_f g).1 hx
        have e7 : MX 28 7 = (l : Int) := hx2.2.1.2
        have e70 : 0 ≤ MX 28 7 := by omega
        refine mv_go' 2 (pc' := if 0 ≤ MX 28 7 then 37 else mv_bad) (ls' := [mv_R 28, mv_I (d : Int), mv_I (i : Int)]) (st' := [mv_R ((MX 28 7).toNat)]) (M1 := MX) rfl ?_
        refine mv_tt' (by omega) ?_
        refine mv_go' 1 (pc' := 40) (ls' := [mv_R 28, mv_I (d : Int), mv_I (i : Int)]) (st' := [mv_I 20000, mv_R ((MX 28 7).toNat)]) (M1 := MX) rfl ?_
        refine mv_call (st2 := []) rfl (Or.inl rfl) (sp_lyg hl e7) rfl rfl ((sp_cladd_f hl hx2)) (by first | decide | omega) (fun Ma11 hm12 => ?_)
        have hy := hm12
        have e303 := hy.2.2.1
        refine mv_go' 5 (pc' := if (mv_w ((i : Int) + 1)) < 160 then 14 else 49) (ls' := [mv_R 28, mv_I (d : Int), mv_I (mv_w ((i : Int) + 1))]) (st' := []) (M1 := Ma11) rfl ?_
        rw [show mv_w ((i : Int) + 1) = (i : Int) + 1 from mv_w_id (by omega) (by omega)]
        rw [show (i : Int) + 1 = ((i + 1 : Nat) : Int) from by omega]
        refine mv_sp' (fun ha13 => ?_) (fun ha13 => ?_)
        · refine mv_go' 2 (pc' := 18) (ls' := [mv_R 28, mv_I (d : Int), mv_I ((i + 1 : Nat) : Int)]) (st' := [mv_I (Ma11 28 3)]) (M1 := Ma11) rfl ?_
          rw [show Ma11 28 3 = 303 from by exact e303]
          refine mv_go' 2 (pc' := if 303 = 259 then 24 else 49) (ls' := [mv_R 28, mv_I (d : Int), mv_I ((i + 1 : Nat) : Int)]) (st' := []) (M1 := Ma11) rfl ?_
          refine mv_ff' (by first | decide | omega) ?_
          exact mv_ret (fun n => rfl) (sp_cr_tnf (r := sp_suf r1 20000) g hy)
        · exact mv_ret (fun n => rfl) (sp_cr_tnf (r := sp_suf r1 20000) g hy)
    obtain ⟨k0, hk0⟩ : ∃ k0, k0 = tk_K f t p := ⟨_, rfl⟩
    rw [← hk0] at k e3
    refine mv_go' 3 (pc' := if (i : Int) < 160 then 14 else 49) (ls' := [mv_R 28, mv_I (d : Int), mv_I (i : Int)]) (st' := []) (M1 := M) rfl ?_
    refine mv_tt' (by omega) ?_
    refine mv_go' 2 (pc' := 18) (ls' := [mv_R 28, mv_I (d : Int), mv_I (i : Int)]) (st' := [mv_I (M 28 3)]) (M1 := M) rfl ?_
    rw [show M 28 3 = k0 from by exact e3]
    refine mv_go' 2 (pc' := if k0 = 259 then 24 else 49) (ls' := [mv_R 28, mv_I (d : Int), mv_I (i : Int)]) (st' := []) (M1 := M) rfl ?_
    refine mv_tt' (by omega) ?_
    refine mv_go' 1 (pc' := 25) (ls' := [mv_R 28, mv_I (d : Int), mv_I (i : Int)]) (st' := [mv_R 28]) (M1 := M) rfl ?_
    refine mv_call (st2 := []) rfl (Or.inl rfl) rfl rfl rfl ((htok 0)) (by first | decide | omega) (fun Ma14 hm15 => ?_)
    have hy := hm15
    refine mv_go' 2 (pc' := 30) (ls' := [mv_R 28, mv_I (d : Int), mv_I (i : Int)]) (st' := [mv_I (d : Int), mv_R 28]) (M1 := Ma14) rfl ?_
    refine mv_call (st2 := []) rfl (Or.inl rfl) rfl rfl rfl ((h1 _ hy)) (by first | decide | omega) (fun Ma16 hm17 => ?_)
    have hx := hm17
    exact fin _ hx
  · have eop : sp_opx 0 (tk_K f t p) = 0 := if_neg k
    rw [if_pos eop]
    have hs2 : sp_cr f t l (true, p, []) c M0 M := (sp_cr_t (r := (true, p, [])) rfl).2 (by rw [show c ++ (true, p, ([] : List Int)).2.2 = c from List.append_nil c]; exact hs)
    obtain ⟨k0, hk0⟩ : ∃ k0, k0 = tk_K f t p := ⟨_, rfl⟩
    rw [← hk0] at k e3
    refine mv_go' 3 (pc' := if (i : Int) < 160 then 14 else 49) (ls' := [mv_R 28, mv_I (d : Int), mv_I (i : Int)]) (st' := []) (M1 := M) rfl ?_
    refine mv_sp' (fun ha18 => ?_) (fun ha18 => ?_)
    · refine mv_go' 2 (pc' := 18) (ls' := [mv_R 28, mv_I (d : Int), mv_I (i : Int)]) (st' := [mv_I (M 28 3)]) (M1 := M) rfl ?_
      rw [show M 28 3 = k0 from by exact e3]
      refine mv_go' 2 (pc' := if k0 = 259 then 24 else 49) (ls' := [mv_R 28, mv_I (d : Int), mv_I (i : Int)]) (st' := []) (M1 := M) rfl ?_
      refine mv_ff' (by omega) ?_
      exact mv_ret (fun n => rfl) hs2
    · exact mv_ret (fun n => rfl) hs2
theorem sp_cX_1 {f : Nat → Int} {t l n : Nat} {M0 : mv_M} (hl : sp_ly l) (ht : t ≤ 160) (h1 : sp_CX f t l M0 n (1 + 1)) (hL : sp_CL f t l M0 n 1) : sp_CX f t l M0 (n + 1) 1 := by
  intro d p c M hd hp hf hc hs
  have ok1 := sp_pz_ok (W := tk_W f t) (Q := tk_Q f t) (tk_ok f t) n (1 + 1) d p hp (by omega) (by show 16 * (t - p) + (6 - (1 + 1)) < n; omega)
  have e : sp_pr f t (n + 1) 1 d p = sp_thn (sp_pr f t n (1 + 1) d p) (fun p1 => sp_pr f t n (1 + 10) d p1) := sp_pzx _ _ _ _ _ _ _ (by omega)
  have h1 := h1 d p c M hd hp (by omega) hc hs
  obtain ⟨r1, hr1⟩ : ∃ r, r = sp_pr f t n (1 + 1) d p := ⟨_, rfl⟩
  rw [← hr1] at h1 e
  rw [show sp_pz (tk_K f t) (tk_W f t) (tk_N f t) (tk_Q f t) n (1 + 1) d p = r1 from hr1.symm] at ok1
  rw [e]
  show mv_Ru (7 * (5 - d) + (14 - 1)) (15 + 1) 0 [mv_R 28, mv_I (d : Int), mv_U] [] M mv_U _
  have fin : ∀ MX, sp_cr f t l r1 c M0 MX → mv_Ru (7 * (5 - d) + (14 - 1)) (15 + 1) 5 [mv_R 28, mv_I (d : Int), mv_U] [] MX mv_U (sp_cr f t l (sp_thn r1 (fun p1 => sp_pr f t n (1 + 10) d p1)) c M0) := fun MX hx => by
    by_cases g : r1.1 = true
    · have ok2 := ok1 g
      have hx2 := (sp_cr_t g).1 hx
      have hL2 := hL d r1.2.1 0 (c ++ r1.2.2) MX hd ok2.2.1 (by omega) (by rw [List.length_append]; have := ok2.2.2; omega) (Nat.zero_le _) hx2
      refine mv_go' 2 (pc' := 7) (ls' := [mv_R 28, mv_I (d : Int), mv_I 0]) (st' := []) (M1 := MX) rfl ?_
      exact hL2.imp (fun M2 q => sp_cr_thn g q)
    · have hx2 := (sp_cr_f g).1 hx
      have e303 := hx2.2.2.1
      refine mv_go' 5 (pc' := if 0 < 160 then 14 else 49) (ls' := [mv_R 28, mv_I (d : Int), mv_I 0]) (st' := []) (M1 := MX) rfl ?_
      refine mv_tt' (by first | decide | omega) ?_
      refine mv_go' 2 (pc' := 18) (ls' := [mv_R 28, mv_I (d : Int), mv_I 0]) (st' := [mv_I (MX 28 3)]) (M1 := MX) rfl ?_
      rw [show MX 28 3 = 303 from by exact e303]
      refine mv_go' 2 (pc' := if 303 = 260 then 24 else 49) (ls' := [mv_R 28, mv_I (d : Int), mv_I 0]) (st' := []) (M1 := MX) rfl ?_
      refine mv_ff' (by first | decide | omega) ?_
      exact mv_ret (fun n => rfl) (sp_cr_tnf g hx2)
  refine mv_go' 2 (pc' := 2) (ls' := [mv_R 28, mv_I (d : Int), mv_U]) (st' := [mv_I (d : Int), mv_R 28]) (M1 := M) rfl ?_
  refine mv_call (st2 := []) rfl (Or.inl rfl) rfl rfl rfl (h1) (by first | decide | omega) (fun Ma19 hm20 => ?_)
  have hx := hm20
  exact fin _ hx
theorem sp_cL_1 {f : Nat → Int} {t l n : Nat} {M0 : mv_M} (hl : sp_ly l) (ht : t ≤ 160) (hb : ∀ j, j < t → 0 ≤ f j ∧ f j ≤ 255) (h1 : sp_CX f t l M0 n (1 + 1)) (hL : sp_CL f t l M0 n 1) : sp_CL f t l M0 (n + 1) 1 := by
  intro d p i c M hd hp hf hc hi hs
  have e : sp_pr f t (n + 1) (1 + 10) d p = if sp_opx 1 (tk_K f t p) = 0 then (true, p, []) else sp_thn (sp_suf (sp_pr f t n (1 + 1) d (tk_N f t p)) (sp_opx 1 (tk_K f t p))) (fun p1 => sp_pr f t n (1 + 10) d p1) := sp_pzl _ _ _ _ _ _ _ _
  have e3 := hs.2.2.1
  rw [e]
  by_cases k : tk_K f t p = 260
  · have eop : sp_opx 1 (tk_K f t p) = 20001 := by rw [k]; rfl
    rw [if_neg (by omega), eop]
    have hN := tk_ok f t p hp
    have hN2 := hN.2 (by omega)
    have hN1 := hN.1
    have htok := fun d => sp_ctok (d := d) hl ht hp hb hs (by omega)
    have ok1 := sp_pz_ok (W := tk_W f t) (Q := tk_Q f t) (tk_ok f t) n (1 + 1) d (tk_N f t p) hN1 (by omega) (by show 16 * (t - tk_N f t p) + (6 - (1 + 1)) < n; omega)
    have h1 := fun MX => h1 d (tk_N f t p) c MX hd hN1 (by omega) (by omega)
    obtain ⟨r1, hr1⟩ : ∃ r, r = sp_pr f t n (1 + 1) d (tk_N f t p) := ⟨_, rfl⟩
    rw [← hr1] at h1 ⊢
    rw [show sp_pz (tk_K f t) (tk_W f t) (tk_N f t) (tk_Q f t) n (1 + 1) d (tk_N f t p) = r1 from hr1.symm] at ok1
    have fin : ∀ MX, sp_cr f t l r1 c M0 MX → mv_Ru (7 * (5 - d) + (14 - 1)) (15 + 1) 33 [mv_R 28, mv_I (d : Int), mv_I (i : Int)] [] MX mv_U (sp_cr f t l (sp_thn (sp_suf r1 20001) (fun p1 => sp_pr f t n (1 + 10) d p1)) c M0) := fun MX hx => by
      by_cases g : r1.1 = true
      · have ok2 := ok1 g
        have hx2 := (sp_cr_t g).1 hx
        have e7 : MX 28 7 = (l : Int) := hx2.2.1.2
        have e70 : 0 ≤ MX 28 7 := by omega
        have hlen : (c ++ r1.2.2).length + (tk_N f t p) ≤ r1.2.1 + c.length := by rw [List.length_append]; have := ok2.2.2; omega
        have hL2 := fun MY => hL d r1.2.1 (i + 1) ((c ++ r1.2.2) ++ [20001]) MY hd ok2.2.1 (by have := ok2.1.1; omega) (by rw [List.length_append, List.length_cons, List.length_nil]; omega) (by have := ok2.1.1; omega)
        refine mv_go' 2 (pc' := if 0 ≤ MX 28 7 then 37 else mv_bad) (ls' := [mv_R 28, mv_I (d : Int), mv_I (i : Int)]) (st' := [mv_R ((MX 28 7).toNat)]) (M1 := MX) rfl ?_
        refine mv_tt' (by omega) ?_
        refine mv_go' 1 (pc' := 40) (ls' := [mv_R 28, mv_I (d : Int), mv_I (i : Int)]) (st' := [mv_I 20001, mv_R ((MX 28 7).toNat)]) (M1 := MX) rfl ?_
        refine mv_call (st2 := []) rfl (Or.inl rfl) (sp_lyg hl e7) rfl rfl ((sp_cladd_s hl hx2 (by have := ok2.2.1; omega))) (by first | decide | omega) (fun Ma21 hm22 => ?_)
        have hy := hm22
        refine mv_go' 2 (pc' := 7) (ls' := [mv_R 28, mv_I (d : Int), mv_I (mv_w ((i : Int) + 1))]) (st' := []) (M1 := Ma21) rfl ?_
        rw [show mv_w ((i : Int) + 1) = (i : Int) + 1 from mv_w_id (by omega) (by omega)]
        rw [show (i : Int) + 1 = ((i + 1 : Nat) : Int) from by omega]
        exact (hL2 _ hy).imp (fun M2 q => sp_cr_thn (r := sp_suf r1 20001) g (by
          show sp_cr f t l (sp_pr f t n (1 + 10) d r1.2.1) (c ++ (r1.2.2 ++ [20001])) M0 M2
          rw [← List.append_assoc]
          exact q))
      · have hx2 := (sp_cr_f g).1 hx
        have e7 : MX 28 7 = (l : Int) := hx2.2.1.2
        have e70 : 0 ≤ MX 28 7 := by omega
        refine mv_go' 2 (pc' := if 0 ≤ MX 28 7 then 37 else mv_bad) (ls' := [mv_R 28, mv_I (d : Int), mv_I (i : Int)]) (st' := [mv_R ((MX 28 7).toNat)]) (M1 := MX) rfl ?_
        refine mv_tt' (by omega) ?_
        refine mv_go' 1 (pc' := 40) (ls' := [mv_R 28, mv_I (d : Int), mv_I (i : Int)]) (st' := [mv_I 20001, mv_R ((MX 28 7).toNat)]) (M1 := MX) rfl ?_
        refine mv_call (st2 := []) rfl (Or.inl rfl) (sp_lyg hl e7) rfl rfl ((sp_cladd_f hl hx2)) (by first | decide | omega) (fun Ma23 hm24 => ?_)
        have hy := hm24
        have e303 := hy.2.2.1
        refine mv_go' 5 (pc' := if (mv_w ((i : Int) + 1)) < 160 then 14 else 49) (ls' := [mv_R 28, mv_I (d : Int), mv_I (mv_w ((i : Int) + 1))]) (st' := []) (M1 := Ma23) rfl ?_
        rw [show mv_w ((i : Int) + 1) = (i : Int) + 1 from mv_w_id (by omega) (by omega)]
        rw [show (i : Int) + 1 = ((i + 1 : Nat) : Int) from by omega]
        refine mv_sp' (fun ha25 => ?_) (fun ha25 => ?_)
        · refine mv_go' 2 (pc' := 18) (ls' := [mv_R 28, mv_I (d : Int), mv_I ((i + 1 : Nat) : Int)]) (st' := [mv_I (Ma23 28 3)]) (M1 := Ma23) rfl ?_
          rw [show Ma23 28 3 = 303 from by exact e303]
          refine mv_go' 2 (pc' := if 303 = 260 then 24 else 49) (ls' := [mv_R 28, mv_I (d : Int), mv_I ((i + 1 : Nat) : Int)]) (st' := []) (M1 := Ma23) rfl ?_
          refine mv_ff' (by first | decide | omega) ?_
          exact mv_ret (fun n => rfl) (sp_cr_tnf (r := sp_suf r1 20001) g hy)
        · exact mv_ret (fun n => rfl) (sp_cr_tnf (r := sp_suf r1 20001) g hy)
    obtain ⟨k0, hk0⟩ : ∃ k0, k0 = tk_K f t p := ⟨_, rfl⟩
    rw [← hk0] at k e3
    refine mv_go' 3 (pc' := if (i : Int) < 160 then 14 else 49) (ls' := [mv_R 28, mv_I (d : Int), mv_I (i : Int)]) (st' := []) (M1 := M) rfl ?_
    refine mv_tt' (by omega) ?_
    refine mv_go' 2 (pc' := 18) (ls' := [mv_R 28, mv_I (d : Int), mv_I (i : Int)]) (st' := [mv_I (M 28 3)]) (M1 := M) rfl ?_
    rw [show M 28 3 = k0 from by exact e3]
    refine mv_go' 2 (pc' := if k0 = 260 then 24 else 49) (ls' := [mv_R 28, mv_I (d : Int), mv_I (i : Int)]) (st' := []) (M1 := M) rfl ?_
    refine mv_tt' (by omega) ?_
    refine mv_go' 1 (pc' := 25) (ls' := [mv_R 28, mv_I (d : Int), mv_I (i : Int)]) (st' := [mv_R 28]) (M1 := M) rfl ?_
    refine mv_call (st2 := []) rfl (Or.inl rfl) rfl rfl rfl ((htok 0)) (by first | decide | omega) (fun Ma26 hm27 => ?_)
    have hy := hm27
    refine mv_go' 2 (pc' := 30) (ls' := [mv_R 28, mv_I (d : Int), mv_I (i : Int)]) (st' := [mv_I (d : Int), mv_R 28]) (M1 := Ma26) rfl ?_
    refine mv_call (st2 := []) rfl (Or.inl rfl) rfl rfl rfl ((h1 _ hy)) (by first | decide | omega) (fun Ma28 hm29 => ?_)
    have hx := hm29
    exact fin _ hx
  · have eop : sp_opx 1 (tk_K f t p) = 0 := if_neg k
    rw [if_pos eop]
    have hs2 : sp_cr f t l (true, p, []) c M0 M := (sp_cr_t (r := (true, p, [])) rfl).2 (by rw [show c ++ (true, p, ([] : List Int)).2.2 = c from List.append_nil c]; exact hs)
    obtain ⟨k0, hk0⟩ : ∃ k0, k0 = tk_K f t p := ⟨_, rfl⟩
    rw [← hk0] at k e3
    refine mv_go' 3 (pc' := if (i : Int) < 160 then 14 else 49) (ls' := [mv_R 28, mv_I (d : Int), mv_I (i : Int)]) (st' := []) (M1 := M) rfl ?_
    refine mv_sp' (fun ha30 => ?_) (fun ha30 => ?_)
    · refine mv_go' 2 (pc' := 18) (ls' := [mv_R 28, mv_I (d : Int), mv_I (i : Int)]) (st' := [mv_I (M 28 3)]) (M1 := M) rfl ?_
      rw [show M 28 3 = k0 from by exact e3]
      refine mv_go' 2 (pc' := if k0 = 260 then 24 else 49) (ls' := [mv_R 28, mv_I (d : Int), mv_I (i : Int)]) (st' := []) (M1 := M) rfl ?_
      refine mv_ff' (by omega) ?_
      exact mv_ret (fun n => rfl) hs2
    · exact mv_ret (fun n => rfl) hs2
theorem sp_cX_4 {f : Nat → Int} {t l n : Nat} {M0 : mv_M} (hl : sp_ly l) (ht : t ≤ 160) (h1 : sp_CX f t l M0 n (4 + 1)) (hL : sp_CL f t l M0 n 4) : sp_CX f t l M0 (n + 1) 4 := by
  intro d p c M hd hp hf hc hs
  have ok1 := sp_pz_ok (W := tk_W f t) (Q := tk_Q f t) (tk_ok f t) n (4 + 1) d p hp (by omega) (by show 16 * (t - p) + (6 - (4 + 1)) < n; omega)
  have e : sp_pr f t (n + 1) 4 d p = sp_thn (sp_pr f t n (4 + 1) d p) (fun p1 => sp_pr f t n (4 + 10) d p1) := sp_pzx _ _ _ _ _ _ _ (by omega)
  have h1 := h1 d p c M hd hp (by omega) hc hs
  obtain ⟨r1, hr1⟩ : ∃ r, r = sp_pr f t n (4 + 1) d p := ⟨_, rfl⟩
  rw [← hr1] at h1 e
  rw [show sp_pz (tk_K f t) (tk_W f t) (tk_N f t) (tk_Q f t) n (4 + 1) d p = r1 from hr1.symm] at ok1
  rw [e]
  show mv_Ru (7 * (5 - d) + (14 - 4)) (15 + 4) 0 [mv_R 28, mv_I (d : Int), mv_U] [] M mv_U _
  have fin : ∀ MX, sp_cr f t l r1 c M0 MX → mv_Ru (7 * (5 - d) + (14 - 4)) (15 + 4) 5 [mv_R 28, mv_I (d : Int), mv_U] [] MX mv_U (sp_cr f t l (sp_thn r1 (fun p1 => sp_pr f t n (4 + 10) d p1)) c M0) := fun MX hx => by
    by_cases g : r1.1 = true
    · have ok2 := ok1 g
      have hx2 := (sp_cr_t g).1 hx
      have hL2 := hL d r1.2.1 0 (c ++ r1.2.2) MX hd ok2.2.1 (by omega) (by rw [List.length_append]; have := ok2.2.2; omega) (Nat.zero_le _) hx2
      refine mv_go' 2 (pc' := 7) (ls' := [mv_R 28, mv_I (d : Int), mv_I 0]) (st' := []) (M1 := MX) rfl ?_
      exact hL2.imp (fun M2 q => sp_cr_thn g q)
    · have hx2 := (sp_cr_f g).1 hx
      have e303 := hx2.2.2.1
      refine mv_go' 5 (pc' := if 0 < 160 then 14 else 48) (ls' := [mv_R 28, mv_I (d : Int), mv_I 0]) (st' := []) (M1 := MX) rfl ?_
      refine mv_tt' (by first | decide | omega) ?_
      refine mv_go' 2 (pc' := 18) (ls' := [mv_R 28, mv_I (d : Int), mv_I 0]) (st' := [mv_I (MX 28 3)]) (M1 := MX) rfl ?_
      rw [show MX 28 3 = 303 from by exact e303]
      refine mv_go' 2 (pc' := if 303 = 42 then 23 else 48) (ls' := [mv_R 28, mv_I (d : Int), mv_I 0]) (st' := []) (M1 := MX) rfl ?_
      refine mv_ff' (by first | decide | omega) ?_
      exact mv_ret (fun n => rfl) (sp_cr_tnf g hx2)
  refine mv_go' 2 (pc' := 2) (ls' := [mv_R 28, mv_I (d : Int), mv_U]) (st' := [mv_I (d : Int), mv_R 28]) (M1 := M) rfl ?_
  refine mv_call (st2 := []) rfl (Or.inl rfl) rfl rfl rfl (h1) (by first | decide | omega) (fun Ma31 hm32 => ?_)
  have hx := hm32
  exact fin _ hx
theorem sp_cL_4 {f : Nat → Int} {t l n : Nat} {M0 : mv_M} (hl : sp_ly l) (ht : t ≤ 160) (hb : ∀ j, j < t → 0 ≤ f j ∧ f j ≤ 255) (h1 : sp_CX f t l M0 n (4 + 1)) (hL : sp_CL f t l M0 n 4) : sp_CL f t l M0 (n + 1) 4 := by
  intro d p i c M hd hp hf hc hi hs
  have e : sp_pr f t (n + 1) (4 + 10) d p = if sp_opx 4 (tk_K f t p) = 0 then (true, p, []) else sp_thn (sp_suf (sp_pr f t n (4 + 1) d (tk_N f t p)) (sp_opx 4 (tk_K f t p))) (fun p1 => sp_pr f t n (4 + 10) d p1) := sp_pzl _ _ _ _ _ _ _ _
  have e3 := hs.2.2.1
  rw [e]
  by_cases k : tk_K f t p = 42
  · have eop : sp_opx 4 (tk_K f t p) = 20006 := by rw [k]; rfl
    rw [if_neg (by omega), eop]
    have hN := tk_ok f t p hp
    have hN2 := hN.2 (by omega)
    have hN1 := hN.1
    have htok := fun d => sp_ctok (d := d) hl ht hp hb hs (by omega)
    have ok1 := sp_pz_ok (W := tk_W f t) (Q := tk_Q f t) (tk_ok f t) n (4 + 1) d (tk_N f t p) hN1 (by omega) (by show 16 * (t - tk_N f t p) + (6 - (4 + 1)) < n; omega)
    have h1 := fun MX => h1 d (tk_N f t p) c MX hd hN1 (by omega) (by omega)
    obtain ⟨r1, hr1⟩ : ∃ r, r = sp_pr f t n (4 + 1) d (tk_N f t p) := ⟨_, rfl⟩
    rw [← hr1] at h1 ⊢
    rw [show sp_pz (tk_K f t) (tk_W f t) (tk_N f t) (tk_Q f t) n (4 + 1) d (tk_N f t p) = r1 from hr1.symm] at ok1
    have fin : ∀ MX, sp_cr f t l r1 c M0 MX → mv_Ru (7 * (5 - d) + (14 - 4)) (15 + 4) 32 [mv_R 28, mv_I (d : Int), mv_I (i : Int)] [] MX mv_U (sp_cr f t l (sp_thn (sp_suf r1 20006) (fun p1 => sp_pr f t n (4 + 10) d p1)) c M0) := fun MX hx => by
      by_cases g : r1.1 = true
      · have ok2 := ok1 g
        have hx2 := (sp_cr_t g).1 hx
        have e7 : MX 28 7 = (l : Int) := hx2.2.1.2
        have e70 : 0 ≤ MX 28 7 := by omega
        have hlen : (c ++ r1.2.2).length + (tk_N f t p) ≤ r1.2.1 + c.length := by rw [List.length_append]; have := ok2.2.2; omega
        have hL2 := fun MY => hL d r1.2.1 (i + 1) ((c ++ r1.2.2) ++ [20006]) MY hd ok2.2.1 (by have := ok2.1.1; omega) (by rw [List.length_append, List.length_cons, List.length_nil]; omega) (by have := ok2.1.1; omega)
        refine mv_go' 2 (pc' := if 0 ≤ MX 28 7 then 36 else mv_bad) (ls' := [mv_R 28, mv_I (d : Int), mv_I (i : Int)]) (st' := [mv_R ((MX 28 7).toNat)]) (M1 := MX) rfl ?_
        refine mv_tt' (by omega) ?_
        refine mv_go' 1 (pc' := 39) (ls' := [mv_R 28, mv_I (d : Int), mv_I (i : Int)]) (st' := [mv_I 20006, mv_R ((MX 28 7).toNat)]) (M1 := MX) rfl ?_
        refine mv_call (st2 := []) rfl (Or.inl rfl) (sp_lyg hl e7) rfl rfl ((sp_cladd_s hl hx2 (by have := ok2.2.1; omega))) (by first | decide | omega) (fun Ma33 hm34 => ?_)
        have hy := hm34
        refine mv_go' 2 (pc' := 7) (ls' := [mv_R 28, mv_I (d : Int), mv_I (mv_w ((i : Int) + 1))]) (st' := []) (M1 := Ma33) rfl ?_
        rw [show mv_w ((i : Int) + 1) = (i : Int) + 1 from mv_w_id (by omega) (by omega)]
        rw [show (i : Int) + 1 = ((i + 1 : Nat) : Int) from by omega]
        exact (hL2 _ hy).imp (fun M2 q => sp_cr_thn (r := sp_suf r1 20006) g (by
          show sp_cr f t l (sp_pr f t n (4 + 10) d r1.2.1) (c ++ (r1.2.2 ++ [20006])) M0 M2
          rw [← List.append_assoc]
          exact q))
      · have hx2 := (sp_cr_f g).1 hx
        have e7 : MX 28 7 = (l : Int) := hx2.2.1.2
        have e70 : 0 ≤ MX 28 7 := by omega
        refine mv_go' 2 (pc' := if 0 ≤ MX 28 7 then 36 else mv_bad) (ls' := [mv_R 28, mv_I (d : Int), mv_I (i : Int)]) (st' := [mv_R ((MX 28 7).toNat)]) (M1 := MX) rfl ?_
        refine mv_tt' (by omega) ?_
        refine mv_go' 1 (pc' := 39) (ls' := [mv_R 28, mv_I (d : Int), mv_I (i : Int)]) (st' := [mv_I 20006, mv_R ((MX 28 7).toNat)]) (M1 := MX) rfl ?_
        refine mv_call (st2 := []) rfl (Or.inl rfl) (sp_lyg hl e7) rfl rfl ((sp_cladd_f hl hx2)) (by first | decide | omega) (fun Ma35 hm36 => ?_)
        have hy := hm36
        have e303 := hy.2.2.1
        refine mv_go' 5 (pc' := if (mv_w ((i : Int) + 1)) < 160 then 14 else 48) (ls' := [mv_R 28, mv_I (d : Int), mv_I (mv_w ((i : Int) + 1))]) (st' := []) (M1 := Ma35) rfl ?_
        rw [show mv_w ((i : Int) + 1) = (i : Int) + 1 from mv_w_id (by omega) (by omega)]
        rw [show (i : Int) + 1 = ((i + 1 : Nat) : Int) from by omega]
        refine mv_sp' (fun ha37 => ?_) (fun ha37 => ?_)
        · refine mv_go' 2 (pc' := 18) (ls' := [mv_R 28, mv_I (d : Int), mv_I ((i + 1 : Nat) : Int)]) (st' := [mv_I (Ma35 28 3)]) (M1 := Ma35) rfl ?_
          rw [show Ma35 28 3 = 303 from by exact e303]
          refine mv_go' 2 (pc' := if 303 = 42 then 23 else 48) (ls' := [mv_R 28, mv_I (d : Int), mv_I ((i + 1 : Nat) : Int)]) (st' := []) (M1 := Ma35) rfl ?_
          refine mv_ff' (by first | decide | omega) ?_
          exact mv_ret (fun n => rfl) (sp_cr_tnf (r := sp_suf r1 20006) g hy)
        · exact mv_ret (fun n => rfl) (sp_cr_tnf (r := sp_suf r1 20006) g hy)
    obtain ⟨k0, hk0⟩ : ∃ k0, k0 = tk_K f t p := ⟨_, rfl⟩
    rw [← hk0] at k e3
    refine mv_go' 3 (pc' := if (i : Int) < 160 then 14 else 48) (ls' := [mv_R 28, mv_I (d : Int), mv_I (i : Int)]) (st' := []) (M1 := M) rfl ?_
    refine mv_tt' (by omega) ?_
    refine mv_go' 2 (pc' := 18) (ls' := [mv_R 28, mv_I (d : Int), mv_I (i : Int)]) (st' := [mv_I (M 28 3)]) (M1 := M) rfl ?_
    rw [show M 28 3 = k0 from by exact e3]
    refine mv_go' 2 (pc' := if k0 = 42 then 23 else 48) (ls' := [mv_R 28, mv_I (d : Int), mv_I (i : Int)]) (st' := []) (M1 := M) rfl ?_
    refine mv_tt' (by omega) ?_
    refine mv_go' 1 (pc' := 24) (ls' := [mv_R 28, mv_I (d : Int), mv_I (i : Int)]) (st' := [mv_R 28]) (M1 := M) rfl ?_
    refine mv_call (st2 := []) rfl (Or.inl rfl) rfl rfl rfl ((htok 0)) (by first | decide | omega) (fun Ma38 hm39 => ?_)
    have hy := hm39
    refine mv_go' 2 (pc' := 29) (ls' := [mv_R 28, mv_I (d : Int), mv_I (i : Int)]) (st' := [mv_I (d : Int), mv_R 28]) (M1 := Ma38) rfl ?_
    refine mv_call (st2 := []) rfl (Or.inl rfl) rfl rfl rfl ((h1 _ hy)) (by first | decide | omega) (fun Ma40 hm41 => ?_)
    have hx := hm41
    exact fin _ hx
  · have eop : sp_opx 4 (tk_K f t p) = 0 := if_neg k
    rw [if_pos eop]
    have hs2 : sp_cr f t l (true, p, []) c M0 M := (sp_cr_t (r := (true, p, [])) rfl).2 (by rw [show c ++ (true, p, ([] : List Int)).2.2 = c from List.append_nil c]; exact hs)
    obtain ⟨k0, hk0⟩ : ∃ k0, k0 = tk_K f t p := ⟨_, rfl⟩
    rw [← hk0] at k e3
    refine mv_go' 3 (pc' := if (i : Int) < 160 then 14 else 48) (ls' := [mv_R 28, mv_I (d : Int), mv_I (i : Int)]) (st' := []) (M1 := M) rfl ?_
    refine mv_sp' (fun ha42 => ?_) (fun ha42 => ?_)
    · refine mv_go' 2 (pc' := 18) (ls' := [mv_R 28, mv_I (d : Int), mv_I (i : Int)]) (st' := [mv_I (M 28 3)]) (M1 := M) rfl ?_
      rw [show M 28 3 = k0 from by exact e3]
      refine mv_go' 2 (pc' := if k0 = 42 then 23 else 48) (ls' := [mv_R 28, mv_I (d : Int), mv_I (i : Int)]) (st' := []) (M1 := M) rfl ?_
      refine mv_ff' (by omega) ?_
      exact mv_ret (fun n => rfl) hs2
    · exact mv_ret (fun n => rfl) hs2
