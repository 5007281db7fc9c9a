/-! the class reads a text: sums -/
def sp_CL3 (f : Nat → Int) (t l : Nat) (M0 : mv_M) (n : Nat) : Prop := ∀ (d p i : Nat) (c : List Int) (M : mv_M) (l3 : mv_V), d ≤ 5 → p ≤ t → 16 * (t - p) < n → c.length ≤ p → i ≤ p → mv_isL l3 = false → sp_cs f t l p c M0 M →
  mv_Ru (7 * (5 - d) + (14 - 3)) (15 + 3) 7 [mv_R 28, mv_I (d : Int), mv_I (i : Int), l3] [] M mv_U (sp_cr f t l (sp_pr f t n (3 + 10) d p) c M0)
theorem sp_cX_3 {f : Nat → Int} {t l n : Nat} {M0 : mv_M} (hl : sp_ly l) (ht : t ≤ 160) (h1 : sp_CX f t l M0 n (3 + 1)) (hL : sp_CL3 f t l M0 n) : sp_CX f t l M0 (n + 1) 3 := by
  intro d p c M hd hp hf hc hs
  have ok1 := sp_pz_ok (W := tk_W f t) (Q := tk_Q f t) (tk_ok f t) n (3 + 1) d p hp (by omega) (by show 16 * (t - p) + (6 - (3 + 1)) < n; omega)
  have e : sp_pr f t (n + 1) 3 d p = sp_thn (sp_pr f t n (3 + 1) d p) (fun p1 => sp_pr f t n (3 + 10) d p1) := sp_pzx _ _ _ _ _ _ _ (by omega)
  have h1 := h1 d p c M hd hp (by omega) hc hs
  obtain ⟨r1, hr1⟩ : ∃ r, r = sp_pr f t n (3 + 1) d p := ⟨_, rfl⟩
  rw [← hr1] at h1 e
  rw [show sp_pz (tk_K f t) (tk_W f t) (tk_N f t) (tk_Q f t) n (3 + 1) d p = r1 from hr1.symm] at ok1
  rw [e]
  show mv_Ru (7 * (5 - d) + (14 - 3)) (15 + 3) 0 [mv_R 28, mv_I (d : Int), mv_U, mv_U] [] M mv_U _
  have fin : ∀ MX, sp_cr f t l r1 c M0 MX → mv_Ru (7 * (5 - d) + (14 - 3)) (15 + 3) 5 [mv_R 28, mv_I (d : Int), mv_U, mv_U] [] MX mv_U (sp_cr f t l (sp_thn r1 (fun p1 => sp_pr f t n (3 + 10) d p1)) c M0) := fun MX hx => by
    by_cases g : r1.1 = true
    · have ok2 := ok1 g
      have hx2 := (sp_cr_t g).1 hx
      have hL2 := hL d r1.2.1 0 (c ++ r1.2.2) MX mv_U hd ok2.2.1 (by omega) (by rw [List.length_append]; have := ok2.2.2; omega) (Nat.zero_le _) rfl hx2
      refine mv_go' 2 (pc' := 7) (ls' := [mv_R 28, mv_I (d : Int), mv_I 0, mv_U]) (st' := []) (M1 := MX) rfl ?_
      exact hL2.imp (fun M2 q => sp_cr_thn g q)
    · have hx2 := (sp_cr_f g).1 hx
      have e303 := hx2.2.2.1
      refine mv_go' 5 (pc' := if 0 < 160 then 14 else 74) (ls' := [mv_R 28, mv_I (d : Int), mv_I 0, mv_U]) (st' := []) (M1 := MX) rfl ?_
      refine mv_tt' (by first | decide | omega) ?_
      refine mv_go' 2 (pc' := 18) (ls' := [mv_R 28, mv_I (d : Int), mv_I 0, mv_U]) (st' := [mv_I (MX 28 3)]) (M1 := MX) rfl ?_
      rw [show MX 28 3 = 303 from by exact e303]
      refine mv_go' 2 (pc' := if 303 = 43 then 32 else 23) (ls' := [mv_R 28, mv_I (d : Int), mv_I 0, mv_U]) (st' := []) (M1 := MX) rfl ?_
      refine mv_ff' (by first | decide | omega) ?_
      refine mv_go' 2 (pc' := 27) (ls' := [mv_R 28, mv_I (d : Int), mv_I 0, mv_U]) (st' := [mv_I (MX 28 3)]) (M1 := MX) rfl ?_
      rw [show MX 28 3 = 303 from by exact e303]
      refine mv_go' 2 (pc' := if 303 = 45 then 32 else 74) (ls' := [mv_R 28, mv_I (d : Int), mv_I 0, mv_U]) (st' := []) (M1 := MX) rfl ?_
      refine mv_ff' (by first | decide | omega) ?_
      exact mv_ret (fun n => rfl) (sp_cr_tnf g hx2)
  refine mv_go' 2 (pc' := 2) (ls' := [mv_R 28, mv_I (d : Int), mv_U, mv_U]) (st' := [mv_I (d : Int), mv_R 28]) (M1 := M) rfl ?_
  refine mv_call (st2 := []) rfl (Or.inl rfl) rfl rfl rfl (h1) (by first | decide | omega) (fun Ma1 hm2 => ?_)
  have hx := hm2
  exact fin _ hx
theorem sp_cL_3 {f : Nat → Int} {t l n : Nat} {M0 : mv_M} (hl : sp_ly l) (ht : t ≤ 160) (hb : ∀ j, j < t → 0 ≤ f j ∧ f j ≤ 255) (h1 : sp_CX f t l M0 n (3 + 1)) (hL : sp_CL3 f t l M0 n) : sp_CL3 f t l M0 (n + 1) := by
  intro d p i c M l3 hd hp hf hc hi h3 hs
  have e : sp_pr f t (n + 1) (3 + 10) d p = if sp_opx 3 (tk_K f t p) = 0 then (true, p, []) else sp_thn (sp_suf (sp_pr f t n (3 + 1) d (tk_N f t p)) (sp_opx 3 (tk_K f t p))) (fun p1 => sp_pr f t n (3 + 10) d p1) := sp_pzl _ _ _ _ _ _ _ _
  have e3 := hs.2.2.1
  rw [e]
  by_cases k : tk_K f t p = 43 ∨ tk_K f t p = 45
  · obtain ⟨s, eop, hs1⟩ : ∃ s, sp_opx 3 (tk_K f t p) = s ∧ ((tk_K f t p = 43 ∧ s = 20004) ∨ (tk_K f t p = 45 ∧ s = 20005)) := by
      rcases k with k | k
      · exact ⟨20004, by rw [k]; rfl, Or.inl ⟨k, rfl⟩⟩
      · exact ⟨20005, by rw [k]; rfl, Or.inr ⟨k, rfl⟩⟩
    rw [if_neg (by omega), eop]
    have hN := tk_ok f t p hp
    have hN2 := hN.2 (by omega)
    have hN1 := hN.1
    have htok := fun d => sp_ctok (d := d) hl ht hp hb hs (by omega)
    have ok1 := sp_pz_ok (W := tk_W f t) (Q := tk_Q f t) (tk_ok f t) n (3 + 1) d (tk_N f t p) hN1 (by omega) (by show 16 * (t - tk_N f t p) + (6 - (3 + 1)) < n; omega)
    have h1 := fun MX => h1 d (tk_N f t p) c MX hd hN1 (by omega) (by omega)
    obtain ⟨r1, hr1⟩ : ∃ r, r = sp_pr f t n (3 + 1) d (tk_N f t p) := ⟨_, rfl⟩
    rw [← hr1] at h1 ⊢
    rw [show sp_pz (tk_K f t) (tk_W f t) (tk_N f t) (tk_Q f t) n (3 + 1) d (tk_N f t p) = r1 from hr1.symm] at ok1
    have fin : ∀ MX, sp_cr f t l r1 c M0 MX → mv_Ru (7 * (5 - d) + (14 - 3)) (15 + 3) 60 [mv_R 28, mv_I (d : Int), mv_I (i : Int), mv_I s] [] MX mv_U (sp_cr f t l (sp_thn (sp_suf r1 s) (fun p1 => sp_pr f t n (3 + 10) d p1)) c M0) := fun MX hx => by
      by_cases g : r1.1 = true
      · have ok2 := ok1 g
        have hx2 := (sp_cr_t g).1 hx
        have e7 : MX 28 7 = (l : Int) := hx2.2.1.2
        have e70 : 0 ≤ MX 28 7 := by omega
        have hlen : (c ++ r1.2.2).length + (tk_N f t p) ≤ r1.2.1 + c.length := by rw [List.length_append]; have := ok2.2.2; omega
        have hL2 := fun MY => hL d r1.2.1 (i + 1) ((c ++ r1.2.2) ++ [s]) MY (mv_I s) hd ok2.2.1 (by have := ok2.1.1; omega) (by rw [List.length_append, List.length_cons, List.length_nil]; omega) (by have := ok2.1.1; omega) rfl
        refine mv_go' 2 (pc' := if 0 ≤ MX 28 7 then 64 else mv_bad) (ls' := [mv_R 28, mv_I (d : Int), mv_I (i : Int), mv_I s]) (st' := [mv_R ((MX 28 7).toNat)]) (M1 := MX) rfl ?_
        refine mv_tt' (by omega) ?_
        refine mv_go' 1 (pc' := 65) (ls' := [mv_R 28, mv_I (d : Int), mv_I (i : Int), mv_I s]) (st' := [mv_I s, mv_R ((MX 28 7).toNat)]) (M1 := MX) rfl ?_
        refine mv_call (st2 := []) rfl (Or.inl rfl) (sp_lyg hl e7) rfl rfl ((sp_cladd_s hl hx2 (by have := ok2.2.1; omega))) (by first | decide | omega) (fun Ma3 hm4 => ?_)
        have hy := hm4
        refine mv_go' 2 (pc' := 7) (ls' := [mv_R 28, mv_I (d : Int), mv_I (mv_w ((i : Int) + 1)), mv_I s]) (st' := []) (M1 := Ma3) rfl ?_
        rw [show mv_w ((i : Int) + 1) = (i : Int) + 1 from mv_w_id (by omega) (by omega)]
        rw [show (i : Int) + 1 = ((i + 1 : Nat) : Int) from by omega]
        exact (hL2 _ hy).imp (fun M2 q => sp_cr_thn (r := sp_suf r1 s) g (by
          show sp_cr f t l (sp_pr f t n (3 + 10) d r1.2.1) (c ++ (r1.2.2 ++ [s])) M0 M2
          rw [← List.append_assoc]
          exact q))
      · have hx2 := (sp_cr_f g).1 hx
        have e7 : MX 28 7 = (l : Int) := hx2.2.1.2
        have e70 : 0 ≤ MX 28 7 := by omega
        refine mv_go' 2 (pc' := if 0 ≤ MX 28 7 then 64 else mv_bad) (ls' := [mv_R 28, mv_I (d : Int), mv_I (i : Int), mv_I s]) (st' := [mv_R ((MX 28 7).toNat)]) (M1 := MX) rfl ?_
        refine mv_tt' (by omega) ?_
        refine mv_go' 1 (pc' := 65) (ls' := [mv_R 28, mv_I (d : Int), mv_I (i : Int), mv_I s]) (st' := [mv_I s, mv_R ((MX 28 7).toNat)]) (M1 := MX) rfl ?_
        refine mv_call (st2 := []) rfl (Or.inl rfl) (sp_lyg hl e7) rfl rfl ((sp_cladd_f hl hx2)) (by first | decide | omega) (fun Ma5 hm6 => ?_)
        have hy := hm6
        have e303 := hy.2.2.1
        refine mv_go' 5 (pc' := if (mv_w ((i : Int) + 1)) < 160 then 14 else 74) (ls' := [mv_R 28, mv_I (d : Int), mv_I (mv_w ((i : Int) + 1)), mv_I s]) (st' := []) (M1 := Ma5) rfl ?_
        rw [show mv_w ((i : Int) + 1) = (i : Int) + 1 from mv_w_id (by omega) (by omega)]
        rw [show (i : Int) + 1 = ((i + 1 : Nat) : Int) from by omega]
        refine mv_sp' (fun ha7 => ?_) (fun ha7 => ?_)
        · refine mv_go' 2 (pc' := 18) (ls' := [mv_R 28, mv_I (d : Int), mv_I ((i + 1 : Nat) : Int), mv_I s]) (st' := [mv_I (Ma5 28 3)]) (M1 := Ma5) rfl ?_
          rw [show Ma5 28 3 = 303 from by exact e303]
          refine mv_go' 2 (pc' := if 303 = 43 then 32 else 23) (ls' := [mv_R 28, mv_I (d : Int), mv_I ((i + 1 : Nat) : Int), mv_I s]) (st' := []) (M1 := Ma5) rfl ?_
          refine mv_ff' (by first | decide | omega) ?_
          refine mv_go' 2 (pc' := 27) (ls' := [mv_R 28, mv_I (d : Int), mv_I ((i + 1 : Nat) : Int), mv_I s]) (st' := [mv_I (Ma5 28 3)]) (M1 := Ma5) rfl ?_
          rw [show Ma5 28 3 = 303 from by exact e303]
          refine mv_go' 2 (pc' := if 303 = 45 then 32 else 74) (ls' := [mv_R 28, mv_I (d : Int), mv_I ((i + 1 : Nat) : Int), mv_I s]) (st' := []) (M1 := Ma5) rfl ?_
          refine mv_ff' (by first | decide | omega) ?_
          exact mv_ret (fun n => rfl) (sp_cr_tnf (r := sp_suf r1 s) g hy)
        · exact mv_ret (fun n => rfl) (sp_cr_tnf (r := sp_suf r1 s) g hy)
    obtain ⟨k0, hk0⟩ : ∃ k0, k0 = tk_K f t p := ⟨_, rfl⟩
    rw [← hk0] at k e3 hs1
    rcases hs1 with ⟨hs1, hs2⟩ | ⟨hs1, hs2⟩
    · subst hs2
      refine mv_go' 3 (pc' := if (i : Int) < 160 then 14 else 74) (ls' := [mv_R 28, mv_I (d : Int), mv_I (i : Int), l3]) (st' := []) (M1 := M) rfl ?_
      refine mv_tt' (by omega) ?_
      refine mv_go' 2 (pc' := 18) (ls' := [mv_R 28, mv_I (d : Int), mv_I (i : Int), l3]) (st' := [mv_I (M 28 3)]) (M1 := M) rfl ?_
      rw [show M 28 3 = k0 from by exact e3]
      refine mv_go' 2 (pc' := if k0 = 43 then 32 else 23) (ls' := [mv_R 28, mv_I (d : Int), mv_I (i : Int), l3]) (st' := []) (M1 := M) rfl ?_
      refine mv_tt' (by omega) ?_
      refine mv_go' 2 (pc' := 36) (ls' := [mv_R 28, mv_I (d : Int), mv_I (i : Int), l3]) (st' := [mv_I (M 28 3)]) (M1 := M) rfl ?_
      rw [show M 28 3 = k0 from by exact e3]
      refine mv_go' 2 (pc' := if k0 = 43 then 41 else 47) (ls' := [mv_R 28, mv_I (d : Int), mv_I (i : Int), l3]) (st' := []) (M1 := M) rfl ?_
      refine mv_tt' (by omega) ?_
      refine mv_go' 4 (pc' := 52) (ls' := [mv_R 28, mv_I (d : Int), mv_I (i : Int), mv_I 20004]) (st' := [mv_R 28]) (M1 := M) rfl ?_
      refine mv_call (st2 := []) rfl (Or.inl rfl) rfl rfl rfl ((htok 0)) (by first | decide | omega) (fun Ma8 hm9 => ?_)
      have hy := hm9
      refine mv_go' 2 (pc' := 57) (ls' := [mv_R 28, mv_I (d : Int), mv_I (i : Int), mv_I 20004]) (st' := [mv_I (d : Int), mv_R 28]) (M1 := Ma8) rfl ?_
      refine mv_call (st2 := []) rfl (Or.inl rfl) rfl rfl rfl ((h1 _ hy)) (by first | decide | omega) (fun Ma10 hm11 => ?_)
      have hx := hm11
      exact fin _ hx
    · subst hs2
      refine mv_go' 3 (pc' := if (i : Int) < 160 then 14 else 74) (ls' := [mv_R 28, mv_I (d : Int), mv_I (i : Int), l3]) (st' := []) (M1 := M) rfl ?_
      refine mv_tt' (by omega) ?_
      refine mv_go' 2 (pc' := 18) (ls' := [mv_R 28, mv_I (d : Int), mv_I (i : Int), l3]) (st' := [mv_I (M 28 3)]) (M1 := M) rfl ?_
      rw [show M 28 3 = k0 from by exact e3]
      refine mv_go' 2 (pc' := if k0 = 43 then 32 else 23) (ls' := [mv_R 28, mv_I (d : Int), mv_I (i : Int), l3]) (st' := []) (M1 := M) rfl ?_
      refine mv_ff' (by omega) ?_
      refine mv_go' 2 (pc' := 27) (ls' := [mv_R 28, mv_I (d : Int), mv_I (i : Int), l3]) (st' := [mv_I (M 28 3)]) (M1 := M) rfl ?_
      rw [show M 28 3 = k0 from by exact e3]
      refine mv_go' 2 (pc' := if k0 = 45 then 32 else 74) (ls' := [mv_R 28, mv_I (d : Int), mv_I (i : Int), l3]) (st' := []) (M1 := M) rfl ?_
      refine mv_tt' (by omega) ?_
      refine mv_go' 2 (pc' := 36) (ls' := [mv_R 28, mv_I (d : Int), mv_I (i : Int), l3]) (st' := [mv_I (M 28 3)]) (M1 := M) rfl ?_
      rw [show M 28 3 = k0 from by exact e3]
      refine mv_go' 2 (pc' := if k0 = 43 then 41 else 47) (ls' := [mv_R 28, mv_I (d : Int), mv_I (i : Int), l3]) (st' := []) (M1 := M) rfl ?_
      refine mv_ff' (by omega) ?_
      refine mv_go' 3 (pc' := 52) (ls' := [mv_R 28, mv_I (d : Int), mv_I (i : Int), mv_I 20005]) (st' := [mv_R 28]) (M1 := M) rfl ?_
      refine mv_call (st2 := []) rfl (Or.inl rfl) rfl rfl rfl ((htok 0)) (by first | decide | omega) (fun Ma12 hm13 => ?_)
      have hy := hm13
      refine mv_go' 2 (pc' := 57) (ls' := [mv_R 28, mv_I (d : Int), mv_I (i : Int), mv_I 20005]) (st' := [mv_I (d : Int), mv_R 28]) (M1 := Ma12) rfl ?_
      refine mv_call (st2 := []) rfl (Or.inl rfl) rfl rfl rfl ((h1 _ hy)) (by first | decide | omega) (fun Ma14 hm15 => ?_)
      have hx := hm15
      exact fin _ hx
  · have eop : sp_opx 3 (tk_K f t p) = 0 := by
      show (if tk_K f t p = 43 then (20004 : Int) else if tk_K f t p = 45 then 20005 else 0) = 0
      rw [if_neg (fun z => k (Or.inl z)), if_neg (fun z => k (Or.inr z))]
    rw [if_pos eop]
    have hs2 : sp_cr f t l (true, p, []) c M0 M := (sp_cr_t (r := (true, p, [])) rfl).2 (by rw [show c ++ (true, p, ([] : List Int)).2.2 = c from List.append_nil c]; exact hs)
    obtain ⟨k0, hk0⟩ : ∃ k0, k0 = tk_K f t p := ⟨_, rfl⟩
    rw [← hk0] at k e3
    refine mv_go' 3 (pc' := if (i : Int) < 160 then 14 else 74) (ls' := [mv_R 28, mv_I (d : Int), mv_I (i : Int), l3]) (st' := []) (M1 := M) rfl ?_
    refine mv_sp' (fun ha16 => ?_) (fun ha16 => ?_)
    · refine mv_go' 2 (pc' := 18) (ls' := [mv_R 28, mv_I (d : Int), mv_I (i : Int), l3]) (st' := [mv_I (M 28 3)]) (M1 := M) rfl ?_
      rw [show M 28 3 = k0 from by exact e3]
      refine mv_go' 2 (pc' := if k0 = 43 then 32 else 23) (ls' := [mv_R 28, mv_I (d : Int), mv_I (i : Int), l3]) (st' := []) (M1 := M) rfl ?_
      refine mv_ff' (by omega) ?_
      refine mv_go' 2 (pc' := 27) (ls' := [mv_R 28, mv_I (d : Int), mv_I (i : Int), l3]) (st' := [mv_I (M 28 3)]) (M1 := M) rfl ?_
      rw [show M 28 3 = k0 from by exact e3]
      refine mv_go' 2 (pc' := if k0 = 45 then 32 else 74) (ls' := [mv_R 28, mv_I (d : Int), mv_I (i : Int), l3]) (st' := []) (M1 := M) rfl ?_
      refine mv_ff' (by omega) ?_
      exact mv_ret (fun n => rfl) hs2
    · exact mv_ret (fun n => rfl) hs2
/-! the class reads a text: one -/
theorem sp_cX_5 {f : Nat → Int} {t l n : Nat} {M0 : mv_M} (hl : sp_ly l) (ht : t ≤ 160) (hb : ∀ j, j < t → 0 ≤ f j ∧ f j ≤ 255) (h5 : sp_CX f t l M0 n 5) (h0 : sp_CX f t l M0 n 0) : sp_CX f t l M0 (n + 1) 5 := by
  intro d p c M hd hp hf hc hs
  have e : sp_pr f t (n + 1) 5 d p = _ := sp_pz5 _ _ _ _ _ _ _
  rw [e]
  clear e
  have e3 := hs.2.2.1
  have e7 : M 28 7 = (l : Int) := hs.2.1.2
  have e70 : 0 ≤ M 28 7 := by omega
  have hN := tk_ok f t p hp
  show mv_Ru (7 * (5 - d) + (14 - 5)) (15 + 5) 0 [mv_R 28, mv_I (d : Int)] [] M mv_U _
  by_cases k1 : tk_K f t p = 300 ∨ tk_K f t p = 301
  · obtain ⟨s, hs1, eop⟩ : ∃ s, ((tk_K f t p = 300 ∧ s = tk_W f t p) ∨ (tk_K f t p = 301 ∧ s = 10000 + tk_W f t p)) ∧ ∀ z : Bool × Nat × List Int, (if tk_K f t p = 300 then (true, tk_N f t p, [tk_W f t p]) else if tk_K f t p = 301 then (true, tk_N f t p, [10000 + tk_W f t p]) else z) = (true, tk_N f t p, [s]) := by
      rcases k1 with k | k
      · exact ⟨_, Or.inl ⟨k, rfl⟩, fun z => if_pos k⟩
      · exact ⟨_, Or.inr ⟨k, rfl⟩, fun z => by rw [if_neg (by omega), if_pos k]⟩
    rw [eop]
    have hWb := tk_W_b f hp hb k1
    have e5 := hs.2.2.2.2.2.1 k1
    have hN2 := hN.2 (by omega)
    have hadd := sp_cladd_s (s := s) hl hs (by omega)
    have htok := fun MX hy => sp_ctok (d := 0) (c := c ++ [s]) (M0 := M0) (M := MX) hl ht hp hb hy (by omega)
    obtain ⟨w, hw⟩ : ∃ w, w = tk_W f t p := ⟨_, rfl⟩
    rw [← hw] at hs1 hWb e5
    obtain ⟨k0, hk0⟩ : ∃ k0, k0 = tk_K f t p := ⟨_, rfl⟩
    rw [← hk0] at k1 e3 hs1
    rcases hs1 with ⟨hs1, hs2⟩ | ⟨hs1, hs2⟩
    · refine mv_go' 2 (pc' := 4) (ls' := [mv_R 28, mv_I (d : Int)]) (st' := [mv_I (M 28 3)]) (M1 := M) rfl ?_
      rw [show M 28 3 = k0 from by exact e3]
      refine mv_go' 2 (pc' := if k0 = 300 then 10 else 28) (ls' := [mv_R 28, mv_I (d : Int)]) (st' := []) (M1 := M) rfl ?_
      refine mv_tt' (by omega) ?_
      refine mv_go' 2 (pc' := if 0 ≤ M 28 7 then 14 else mv_bad) (ls' := [mv_R 28, mv_I (d : Int)]) (st' := [mv_R ((M 28 7).toNat)]) (M1 := M) rfl ?_
      refine mv_tt' (by omega) ?_
      refine mv_go' 2 (pc' := 18) (ls' := [mv_R 28, mv_I (d : Int)]) (st' := [mv_I (M 28 5), mv_R ((M 28 7).toNat)]) (M1 := M) rfl ?_
      rw [show M 28 5 = s from by exact e5.trans hs2.symm]
      refine mv_call (st2 := []) rfl (Or.inl rfl) (sp_lyg hl e7) rfl rfl (hadd) (by first | decide | omega) (fun Ma17 hm18 => ?_)
      have hy := hm18
      refine mv_go' 1 (pc' := 22) (ls' := [mv_R 28, mv_I (d : Int)]) (st' := [mv_R 28]) (M1 := Ma17) rfl ?_
      refine mv_call (st2 := []) rfl (Or.inl rfl) rfl rfl rfl ((htok _ hy)) (by first | decide | omega) (fun Ma19 hm20 => ?_)
      have hz := hm20
      refine mv_go' 1 (pc' := 136) (ls' := [mv_R 28, mv_I (d : Int)]) (st' := []) (M1 := Ma19) rfl ?_
      exact mv_ret (fun n => rfl) ((sp_cr_t (r := (true, tk_N f t p, [s])) rfl).2 hz)
    · refine mv_go' 2 (pc' := 4) (ls' := [mv_R 28, mv_I (d : Int)]) (st' := [mv_I (M 28 3)]) (M1 := M) rfl ?_
      rw [show M 28 3 = k0 from by exact e3]
      refine mv_go' 2 (pc' := if k0 = 300 then 10 else 28) (ls' := [mv_R 28, mv_I (d : Int)]) (st' := []) (M1 := M) rfl ?_
      refine mv_ff' (by omega) ?_
      refine mv_go' 2 (pc' := 32) (ls' := [mv_R 28, mv_I (d : Int)]) (st' := [mv_I (M 28 3)]) (M1 := M) rfl ?_
      rw [show M 28 3 = k0 from by exact e3]
      refine mv_go' 2 (pc' := if k0 = 301 then 38 else 60) (ls' := [mv_R 28, mv_I (d : Int)]) (st' := []) (M1 := M) rfl ?_
      refine mv_tt' (by omega) ?_
      refine mv_go' 2 (pc' := if 0 ≤ M 28 7 then 42 else mv_bad) (ls' := [mv_R 28, mv_I (d : Int)]) (st' := [mv_R ((M 28 7).toNat)]) (M1 := M) rfl ?_
      refine mv_tt' (by omega) ?_
      refine mv_go' 3 (pc' := 49) (ls' := [mv_R 28, mv_I (d : Int)]) (st' := [mv_I (M 28 5), mv_I 10000, mv_R ((M 28 7).toNat)]) (M1 := M) rfl ?_
      rw [show M 28 5 = w from by exact e5]
      refine mv_go' 1 (pc' := 50) (ls' := [mv_R 28, mv_I (d : Int)]) (st' := [mv_I (mv_w (10000 + w)), mv_R ((M 28 7).toNat)]) (M1 := M) rfl ?_
      rw [show mv_w (10000 + w) = 10000 + w from mv_w_id (by omega) (by omega)]
      rw [show 10000 + w = s from hs2.symm]
      refine mv_call (st2 := []) rfl (Or.inl rfl) (sp_lyg hl e7) rfl rfl (hadd) (by first | decide | omega) (fun Ma21 hm22 => ?_)
      have hy := hm22
      refine mv_go' 1 (pc' := 54) (ls' := [mv_R 28, mv_I (d : Int)]) (st' := [mv_R 28]) (M1 := Ma21) rfl ?_
      refine mv_call (st2 := []) rfl (Or.inl rfl) rfl rfl rfl ((htok _ hy)) (by first | decide | omega) (fun Ma23 hm24 => ?_)
      have hz := hm24
      refine mv_go' 1 (pc' := 136) (ls' := [mv_R 28, mv_I (d : Int)]) (st' := []) (M1 := Ma23) rfl ?_
      exact mv_ret (fun n => rfl) ((sp_cr_t (r := (true, tk_N f t p, [s])) rfl).2 hz)
  · have k1a : ¬ tk_K f t p = 300 := fun z => k1 (Or.inl z)
    have k1b : ¬ tk_K f t p = 301 := fun z => k1 (Or.inr z)
    rw [if_neg k1a, if_neg k1b]
    by_cases k2 : tk_K f t p = 45 ∧ d < 5
    · rw [if_pos k2]
      have hN2 := hN.2 (by omega)
      have htok := sp_ctok (d := 0) hl ht hp hb hs (by omega)
      have ok1 := sp_pz_ok (W := tk_W f t) (Q := tk_Q f t) (tk_ok f t) n 5 (d + 1) (tk_N f t p) hN.1 (by omega) (by show 16 * (t - tk_N f t p) + (6 - 5) < n; omega)
      have h1 := fun MX => h5 (d + 1) (tk_N f t p) c MX (by omega) hN.1 (by omega) (by omega)
      rw [show sp_pz (tk_K f t) (tk_W f t) (tk_N f t) (tk_Q f t) n 5 (d + 1) (tk_N f t p) = sp_pr f t n 5 (d + 1) (tk_N f t p) from rfl] at ok1 ⊢
      obtain ⟨r1, hr1⟩ : ∃ r, r = sp_pr f t n 5 (d + 1) (tk_N f t p) := ⟨_, rfl⟩
      rw [← hr1] at h1 ok1 ⊢
      have fin : ∀ MX, sp_cr f t l r1 c M0 MX → mv_Ru (7 * (5 - d) + (14 - 5)) (15 + 5) 85 [mv_R 28, mv_I (d : Int)] [] MX mv_U (sp_cr f t l (sp_suf r1 20008) c M0) := fun MX hx => by
        by_cases g : r1.1 = true
        · have ok2 := ok1 g
          have hx2 := (sp_cr_t g).1 hx
          have e7 : MX 28 7 = (l : Int) := hx2.2.1.2
          have e70 : 0 ≤ MX 28 7 := by omega
          refine mv_go' 2 (pc' := if 0 ≤ MX 28 7 then 89 else mv_bad) (ls' := [mv_R 28, mv_I (d : Int)]) (st' := [mv_R ((MX 28 7).toNat)]) (M1 := MX) rfl ?_
          refine mv_tt' (by omega) ?_
          refine mv_go' 1 (pc' := 92) (ls' := [mv_R 28, mv_I (d : Int)]) (st' := [mv_I 20008, mv_R ((MX 28 7).toNat)]) (M1 := MX) rfl ?_
          refine mv_call (st2 := []) rfl (Or.inl rfl) (sp_lyg hl e7) rfl rfl ((sp_cladd_s hl hx2 (by have := ok2.2.1; have := ok2.2.2; rw [List.length_append]; omega))) (by first | decide | omega) (fun Ma25 hm26 => ?_)
          have hy := hm26
          refine mv_go' 1 (pc' := 136) (ls' := [mv_R 28, mv_I (d : Int)]) (st' := []) (M1 := Ma25) rfl ?_
          exact mv_ret (fun n => rfl) ((sp_cr_t (r := sp_suf r1 20008) g).2 (by
            show sp_cs f t l r1.2.1 (c ++ (r1.2.2 ++ [20008])) M0 _
            rw [← List.append_assoc]
            exact hy))
        · have hx2 := (sp_cr_f g).1 hx
          have e7 : MX 28 7 = (l : Int) := hx2.2.1.2
          have e70 : 0 ≤ MX 28 7 := by omega
          refine mv_go' 2 (pc' := if 0 ≤ MX 28 7 then 89 else mv_bad) (ls' := [mv_R 28, mv_I (d : Int)]) (st' := [mv_R ((MX 28 7).toNat)]) (M1 := MX) rfl ?_
          refine mv_tt' (by omega) ?_
          refine mv_go' 1 (pc' := 92) (ls' := [mv_R 28, mv_I (d : Int)]) (st' := [mv_I 20008, mv_R ((MX 28 7).toNat)]) (M1 := MX) rfl ?_
          refine mv_call (st2 := []) rfl (Or.inl rfl) (sp_lyg hl e7) rfl rfl ((sp_cladd_f hl hx2)) (by first | decide | omega) (fun Ma27 hm28 => ?_)
          have hy := hm28
          refine mv_go' 1 (pc' := 136) (ls' := [mv_R 28, mv_I (d : Int)]) (st' := []) (M1 := Ma27) rfl ?_
          exact mv_ret (fun n => rfl) ((sp_cr_f (r := sp_suf r1 20008) g).2 hy)
      obtain ⟨k0, hk0⟩ : ∃ k0, k0 = tk_K f t p := ⟨_, rfl⟩
      rw [← hk0] at k2 e3
      refine mv_go' 2 (pc' := 4) (ls' := [mv_R 28, mv_I (d : Int)]) (st' := [mv_I (M 28 3)]) (M1 := M) rfl ?_
      rw [show M 28 3 = k0 from by exact e3]
      refine mv_go' 2 (pc' := if k0 = 300 then 10 else 28) (ls' := [mv_R 28, mv_I (d : Int)]) (st' := []) (M1 := M) rfl ?_
      refine mv_ff' (by omega) ?_
      refine mv_go' 2 (pc' := 32) (ls' := [mv_R 28, mv_I (d : Int)]) (st' := [mv_I (M 28 3)]) (M1 := M) rfl ?_
      rw [show M 28 3 = k0 from by exact e3]
      refine mv_go' 2 (pc' := if k0 = 301 then 38 else 60) (ls' := [mv_R 28, mv_I (d : Int)]) (st' := []) (M1 := M) rfl ?_
      refine mv_ff' (by omega) ?_
      refine mv_go' 2 (pc' := 64) (ls' := [mv_R 28, mv_I (d : Int)]) (st' := [mv_I (M 28 3)]) (M1 := M) rfl ?_
      rw [show M 28 3 = k0 from by exact e3]
      refine mv_go' 2 (pc' := if k0 = 45 then 69 else 98) (ls' := [mv_R 28, mv_I (d : Int)]) (st' := []) (M1 := M) rfl ?_
      refine mv_tt' (by omega) ?_
      refine mv_go' 3 (pc' := if (d : Int) < 5 then 74 else 98) (ls' := [mv_R 28, mv_I (d : Int)]) (st' := []) (M1 := M) rfl ?_
      refine mv_tt' (by omega) ?_
      refine mv_go' 1 (pc' := 75) (ls' := [mv_R 28, mv_I (d : Int)]) (st' := [mv_R 28]) (M1 := M) rfl ?_
      refine mv_call (st2 := []) rfl (Or.inl rfl) rfl rfl rfl (htok) (by first | decide | omega) (fun Ma29 hm30 => ?_)
      have hy := hm30
      refine mv_go' 4 (pc' := 82) (ls' := [mv_R 28, mv_I (d : Int)]) (st' := [mv_I (mv_w ((d : Int) + 1)), mv_R 28]) (M1 := Ma29) rfl ?_
      rw [show mv_w ((d : Int) + 1) = (d : Int) + 1 from mv_w_id (by omega) (by omega)]
      rw [show (d : Int) + 1 = ((d + 1 : Nat) : Int) from by omega]
      refine mv_call (st2 := []) rfl (Or.inl rfl) rfl rfl rfl ((h1 _ hy)) (by first | decide | omega) (fun Ma31 hm32 => ?_)
      have hx := hm32
      exact fin _ hx
    · rw [if_neg k2]
      by_cases k3 : tk_K f t p = 40 ∧ d < 5
      · rw [if_pos k3]
        have hN2 := hN.2 (by omega)
        have htok := sp_ctok (d := 0) hl ht hp hb hs (by omega)
        have ok1 := sp_pz_ok (W := tk_W f t) (Q := tk_Q f t) (tk_ok f t) n 0 (d + 1) (tk_N f t p) hN.1 (by omega) (by show 16 * (t - tk_N f t p) + (6 - 0) < n; omega)
        have h1 := fun MX => h0 (d + 1) (tk_N f t p) c MX (by omega) hN.1 (by omega) (by omega)
        rw [show sp_pz (tk_K f t) (tk_W f t) (tk_N f t) (tk_Q f t) n 0 (d + 1) (tk_N f t p) = sp_pr f t n 0 (d + 1) (tk_N f t p) from rfl] at ok1 ⊢
        obtain ⟨r1, hr1⟩ : ∃ r, r = sp_pr f t n 0 (d + 1) (tk_N f t p) := ⟨_, rfl⟩
        rw [← hr1] at h1 ok1 ⊢
        have fin : ∀ MX, sp_cr f t l r1 c M0 MX → mv_Ru (7 * (5 - d) + (14 - 5)) (15 + 5) 123 [mv_R 28, mv_I (d : Int)] [] MX mv_U (sp_cr f t l (sp_thn r1 (fun p1 => if tk_K f t p1 = 41 then (true, tk_N f t p1, []) else (false, tk_Q f t p1, []))) c M0) := fun MX hx => by
          by_cases g : r1.1 = true
          · have ok2 := ok1 g
            have hx2 := (sp_cr_t g).1 hx
            have e3 := hx2.2.2.1
            have hlen : (c ++ r1.2.2).length ≤ r1.2.1 := by rw [List.length_append]; have := ok2.2.2; omega
            by_cases k4 : tk_K f t r1.2.1 = 41
            · have htok := sp_ctok (d := 0) hl ht ok2.2.1 hb hx2 (by omega)
              obtain ⟨k0, hk0⟩ : ∃ k0, k0 = tk_K f t r1.2.1 := ⟨_, rfl⟩
              have k5 := k4
              rw [← hk0] at k5 e3
              refine mv_go' 2 (pc' := 126) (ls' := [mv_R 28, mv_I (d : Int)]) (st' := [mv_I 41, mv_R 28]) (M1 := MX) rfl ?_
              refine mv_call (st2 := []) rfl (Or.inl rfl) rfl rfl rfl ((sp_cex_t hl ht ok2.2.1 hb hx2 (by omega) k4)) (by first | decide | omega) (fun Ma33 hm34 => ?_)
              have hy := hm34
              refine mv_go' 1 (pc' := 136) (ls' := [mv_R 28, mv_I (d : Int)]) (st' := []) (M1 := Ma33) rfl ?_
              exact mv_ret (fun n => rfl) (sp_cr_thn g (by rw [if_pos k4]; exact (sp_cr_t (r := (true, tk_N f t r1.2.1, [])) rfl).2 (by rw [show (c ++ r1.2.2) ++ (true, tk_N f t r1.2.1, ([] : List Int)).2.2 = c ++ r1.2.2 from List.append_nil _]; exact hy)))
            · refine mv_go' 2 (pc' := 126) (ls' := [mv_R 28, mv_I (d : Int)]) (st' := [mv_I 41, mv_R 28]) (M1 := MX) rfl ?_
              refine mv_call (st2 := []) rfl (Or.inl rfl) rfl rfl rfl ((sp_cex_f hl hx2 (by have := ok2.2.1; omega) k4)) (by first | decide | omega) (fun Ma35 hm36 => ?_)
              have hy := hm36
              refine mv_go' 1 (pc' := 136) (ls' := [mv_R 28, mv_I (d : Int)]) (st' := []) (M1 := Ma35) rfl ?_
              exact mv_ret (fun n => rfl) (sp_cr_thn g (by rw [if_neg k4]; exact (sp_cr_f (r := (false, tk_Q f t r1.2.1, [])) Bool.false_ne_true).2 hy))
          · have hx2 := (sp_cr_f g).1 hx
            refine mv_go' 2 (pc' := 126) (ls' := [mv_R 28, mv_I (d : Int)]) (st' := [mv_I 41, mv_R 28]) (M1 := MX) rfl ?_
            refine mv_call (st2 := []) rfl (Or.inl rfl) rfl rfl rfl ((sp_cex_x hl hx2 (by decide))) (by first | decide | omega) (fun Ma37 hm38 => ?_)
            have hy := hm38
            refine mv_go' 1 (pc' := 136) (ls' := [mv_R 28, mv_I (d : Int)]) (st' := []) (M1 := Ma37) rfl ?_
            exact mv_ret (fun n => rfl) (sp_cr_tnf g hy)
        obtain ⟨k0, hk0⟩ : ∃ k0, k0 = tk_K f t p := ⟨_, rfl⟩
        rw [← hk0] at k3 e3
        refine mv_go' 2 (pc' := 4) (ls' := [mv_R 28, mv_I (d : Int)]) (st' := [mv_I (M 28 3)]) (M1 := M) rfl ?_
        rw [show M 28 3 = k0 from by exact e3]
        refine mv_go' 2 (pc' := if k0 = 300 then 10 else 28) (ls' := [mv_R 28, mv_I (d : Int)]) (st' := []) (M1 := M) rfl ?_
        refine mv_ff' (by omega) ?_
        refine mv_go' 2 (pc' := 32) (ls' := [mv_R 28, mv_I (d : Int)]) (st' := [mv_I (M 28 3)]) (M1 := M) rfl ?_
        rw [show M 28 3 = k0 from by exact e3]
        refine mv_go' 2 (pc' := if k0 = 301 then 38 else 60) (ls' := [mv_R 28, mv_I (d : Int)]) (st' := []) (M1 := M) rfl ?_
        refine mv_ff' (by omega) ?_
        refine mv_go' 2 (pc' := 64) (ls' := [mv_R 28, mv_I (d : Int)]) (st' := [mv_I (M 28 3)]) (M1 := M) rfl ?_
        rw [show M 28 3 = k0 from by exact e3]
        refine mv_go' 2 (pc' := if k0 = 45 then 69 else 98) (ls' := [mv_R 28, mv_I (d : Int)]) (st' := []) (M1 := M) rfl ?_
        refine mv_ff' (by omega) ?_
        refine mv_go' 2 (pc' := 102) (ls' := [mv_R 28, mv_I (d : Int)]) (st' := [mv_I (M 28 3)]) (M1 := M) rfl ?_
        rw [show M 28 3 = k0 from by exact e3]
        refine mv_go' 2 (pc' := if k0 = 40 then 107 else 132) (ls' := [mv_R 28, mv_I (d : Int)]) (st' := []) (M1 := M) rfl ?_
        refine mv_tt' (by omega) ?_
        refine mv_go' 3 (pc' := if (d : Int) < 5 then 112 else 132) (ls' := [mv_R 28, mv_I (d : Int)]) (st' := []) (M1 := M) rfl ?_
        refine mv_tt' (by omega) ?_
        refine mv_go' 1 (pc' := 113) (ls' := [mv_R 28, mv_I (d : Int)]) (st' := [mv_R 28]) (M1 := M) rfl ?_
        refine mv_call (st2 := []) rfl (Or.inl rfl) rfl rfl rfl (htok) (by first | decide | omega) (fun Ma39 hm40 => ?_)
        have hy := hm40
        refine mv_go' 4 (pc' := 120) (ls' := [mv_R 28, mv_I (d : Int)]) (st' := [mv_I (mv_w ((d : Int) + 1)), mv_R 28]) (M1 := Ma39) rfl ?_
        rw [show mv_w ((d : Int) + 1) = (d : Int) + 1 from mv_w_id (by omega) (by omega)]
        rw [show (d : Int) + 1 = ((d + 1 : Nat) : Int) from by omega]
        refine mv_call (st2 := []) rfl (Or.inl rfl) rfl rfl rfl ((h1 _ hy)) (by first | decide | omega) (fun Ma41 hm42 => ?_)
        have hx := hm42
        exact fin _ hx
      · rw [if_neg k3]
        have href := sp_crf_s hl hs (by omega)
        obtain ⟨k0, hk0⟩ : ∃ k0, k0 = tk_K f t p := ⟨_, rfl⟩
        rw [← hk0] at k1a k1b k2 k3 e3
        have k2b : k0 = 45 → 5 ≤ d := fun z => by omega
        have k3b : k0 = 40 → 5 ≤ d := fun z => by omega
        by_cases hd5 : d < 5
        · have k4 : ¬ (k0 = 45 ∨ k0 = 40 ∨ k0 = 300 ∨ k0 = 301) := by omega
          refine mv_go' 2 (pc' := 4) (ls' := [mv_R 28, mv_I (d : Int)]) (st' := [mv_I (M 28 3)]) (M1 := M) rfl ?_
          rw [show M 28 3 = k0 from by exact e3]
          refine mv_go' 2 (pc' := if k0 = 300 then 10 else 28) (ls' := [mv_R 28, mv_I (d : Int)]) (st' := []) (M1 := M) rfl ?_
          refine mv_ff' (by omega) ?_
          refine mv_go' 2 (pc' := 32) (ls' := [mv_R 28, mv_I (d : Int)]) (st' := [mv_I (M 28 3)]) (M1 := M) rfl ?_
          rw [show M 28 3 = k0 from by exact e3]
          refine mv_go' 2 (pc' := if k0 = 301 then 38 else 60) (ls' := [mv_R 28, mv_I (d : Int)]) (st' := []) (M1 := M) rfl ?_
          refine mv_ff' (by omega) ?_
          refine mv_go' 2 (pc' := 64) (ls' := [mv_R 28, mv_I (d : Int)]) (st' := [mv_I (M 28 3)]) (M1 := M) rfl ?_
          rw [show M 28 3 = k0 from by exact e3]
          refine mv_go' 2 (pc' := if k0 = 45 then 69 else 98) (ls' := [mv_R 28, mv_I (d : Int)]) (st' := []) (M1 := M) rfl ?_
          refine mv_ff' (by omega) ?_
          refine mv_go' 2 (pc' := 102) (ls' := [mv_R 28, mv_I (d : Int)]) (st' := [mv_I (M 28 3)]) (M1 := M) rfl ?_
          rw [show M 28 3 = k0 from by exact e3]
          refine mv_go' 2 (pc' := if k0 = 40 then 107 else 132) (ls' := [mv_R 28, mv_I (d : Int)]) (st' := []) (M1 := M) rfl ?_
          refine mv_ff' (by omega) ?_
          refine mv_go' 1 (pc' := 133) (ls' := [mv_R 28, mv_I (d : Int)]) (st' := [mv_R 28]) (M1 := M) rfl ?_
          refine mv_call (st2 := []) rfl (Or.inl rfl) rfl rfl rfl (href) (by first | decide | omega) (fun Ma43 hm44 => ?_)
          have hy := hm44
          exact mv_ret (fun n => rfl) ((sp_cr_f (r := (false, tk_Q f t p, [])) Bool.false_ne_true).2 hy)
        · have k4 : ¬ (k0 = 300 ∨ k0 = 301) := by omega
          refine mv_go' 2 (pc' := 4) (ls' := [mv_R 28, mv_I (d : Int)]) (st' := [mv_I (M 28 3)]) (M1 := M) rfl ?_
          rw [show M 28 3 = k0 from by exact e3]
          refine mv_go' 2 (pc' := if k0 = 300 then 10 else 28) (ls' := [mv_R 28, mv_I (d : Int)]) (st' := []) (M1 := M) rfl ?_
          refine mv_ff' (by omega) ?_
          refine mv_go' 2 (pc' := 32) (ls' := [mv_R 28, mv_I (d : Int)]) (st' := [mv_I (M 28 3)]) (M1 := M) rfl ?_
          rw [show M 28 3 = k0 from by exact e3]
          refine mv_go' 2 (pc' := if k0 = 301 then 38 else 60) (ls' := [mv_R 28, mv_I (d : Int)]) (st' := []) (M1 := M) rfl ?_
          refine mv_ff' (by omega) ?_
          refine mv_go' 2 (pc' := 64) (ls' := [mv_R 28, mv_I (d : Int)]) (st' := [mv_I (M 28 3)]) (M1 := M) rfl ?_
          rw [show M 28 3 = k0 from by exact e3]
          refine mv_go' 2 (pc' := if k0 = 45 then 69 else 98) (ls' := [mv_R 28, mv_I (d : Int)]) (st' := []) (M1 := M) rfl ?_
          refine mv_sp' (fun ha45 => ?_) (fun ha45 => ?_)
          · refine mv_go' 3 (pc' := if (d : Int) < 5 then 74 else 98) (ls' := [mv_R 28, mv_I (d : Int)]) (st' := []) (M1 := M) rfl ?_
            refine mv_ff' (by omega) ?_
            refine mv_go' 2 (pc' := 102) (ls' := [mv_R 28, mv_I (d : Int)]) (st' := [mv_I (M 28 3)]) (M1 := M) rfl ?_
            rw [show M 28 3 = k0 from by exact e3]
            refine mv_go' 2 (pc' := if k0 = 40 then 107 else 132) (ls' := [mv_R 28, mv_I (d : Int)]) (st' := []) (M1 := M) rfl ?_
            refine mv_ff' (by omega) ?_
            refine mv_go' 1 (pc' := 133) (ls' := [mv_R 28, mv_I (d : Int)]) (st' := [mv_R 28]) (M1 := M) rfl ?_
            refine mv_call (st2 := []) rfl (Or.inl rfl) rfl rfl rfl (href) (by first | decide | omega) (fun Ma46 hm47 => ?_)
            have hy := hm47
            exact mv_ret (fun n => rfl) ((sp_cr_f (r := (false, tk_Q f t p, [])) Bool.false_ne_true).2 hy)
          · refine mv_go' 2 (pc' := 102) (ls' := [mv_R 28, mv_I (d : Int)]) (st' := [mv_I (M 28 3)]) (M1 := M) rfl ?_
            rw [show M 28 3 = k0 from by exact e3]
            refine mv_go' 2 (pc' := if k0 = 40 then 107 else 132) (ls' := [mv_R 28, mv_I (d : Int)]) (st' := []) (M1 := M) rfl ?_
            refine mv_sp' (fun ha48 => ?_) (fun ha48 => ?_)
            · refine mv_go' 3 (pc' := if (d : Int) < 5 then 112 else 132) (ls' := [mv_R 28, mv_I (d : Int)]) (st' := []) (M1 := M) rfl ?_
              refine mv_ff' (by omega) ?_
              refine mv_go' 1 (pc' := 133) (ls' := [mv_R 28, mv_I (d : Int)]) (st' := [mv_R 28]) (M1 := M) rfl ?_
              refine mv_call (st2 := []) rfl (Or.inl rfl) rfl rfl rfl (href) (by first | decide | omega) (fun Ma49 hm50 => ?_)
              have hy := hm50
              exact mv_ret (fun n => rfl) ((sp_cr_f (r := (false, tk_Q f t p, [])) Bool.false_ne_true).2 hy)
            · refine mv_go' 1 (pc' := 133) (ls' := [mv_R 28, mv_I (d : Int)]) (st' := [mv_R 28]) (M1 := M) rfl ?_
              refine mv_call (st2 := []) rfl (Or.inl rfl) rfl rfl rfl (href) (by first | decide | omega) (fun Ma51 hm52 => ?_)
              have hy := hm52
              exact mv_ret (fun n => rfl) ((sp_cr_f (r := (false, tk_Q f t p, [])) Bool.false_ne_true).2 hy)
