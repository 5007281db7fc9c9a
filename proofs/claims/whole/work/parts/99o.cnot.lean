/-! the class reads a text: not -/
theorem sp_cX_2 {f : Nat → Int} {t l n : Nat} {M0 : mv_M} (hl : sp_ly l) (ht : t ≤ 160) (hb : ∀ j, j < t → 0 ≤ f j ∧ f j ≤ 255) (h2 : sp_CX f t l M0 n 2) (h3 : sp_CX f t l M0 n 3) : sp_CX f t l M0 (n + 1) 2 := by
  intro d p c M hd hp hf hc hs
  have e : sp_pr f t (n + 1) 2 d p = _ := sp_pz2 _ _ _ _ _ _ _
  rw [e]
  clear e
  have e3 := hs.2.2.1
  have hN := tk_ok f t p hp
  show mv_Ru (7 * (5 - d) + (14 - 2)) (15 + 2) 0 [mv_R 28, mv_I (d : Int), mv_U] [] M mv_U _
  by_cases k1 : tk_K f t p = 261 ∧ d < 5
  · rw [if_pos k1]
    have hN2 := hN.2 (by omega)
    have htok := sp_ctok (d := 0) hl ht hp hb hs (by omega)
    have ok1 := sp_pz_ok (W := tk_W f t) (Q := tk_Q f t) (tk_ok f t) n 2 (d + 1) (tk_N f t p) hN.1 (by omega) (by show 16 * (t - tk_N f t p) + (6 - 2) < n; omega)
    have h1 := fun MX => h2 (d + 1) (tk_N f t p) c MX (by omega) hN.1 (by omega) (by omega)
    rw [show sp_pz (tk_K f t) (tk_W f t) (tk_N f t) (tk_Q f t) n 2 (d + 1) (tk_N f t p) = sp_pr f t n 2 (d + 1) (tk_N f t p) from rfl] at ok1 ⊢
    obtain ⟨r1, hr1⟩ : ∃ r, r = sp_pr f t n 2 (d + 1) (tk_N f t p) := ⟨_, rfl⟩
    rw [← hr1] at h1 ok1 ⊢
    have fin : ∀ MX, sp_cr f t l r1 c M0 MX → mv_Ru (7 * (5 - d) + (14 - 2)) (15 + 2) 26 [mv_R 28, mv_I (d : Int), mv_U] [] MX mv_U (sp_cr f t l (sp_suf r1 20007) c M0) := fun MX hx => by
      by_cases g : r1.1 = true
      · have ok2 := ok1 g
        have hx2 := (sp_cr_t g).1 hx
        have e7 : MX 28 7 = (l : Int) := hx2.2.1.2
        have e70 : 0 ≤ MX 28 7 := by omega
        refine mv_go' 2 (pc' := if 0 ≤ MX 28 7 then 30 else mv_bad) (ls' := [mv_R 28, mv_I (d : Int), mv_U]) (st' := [mv_R ((MX 28 7).toNat)]) (M1 := MX) rfl ?_
        refine mv_tt' (by omega) ?_
        refine mv_go' 1 (pc' := 33) (ls' := [mv_R 28, mv_I (d : Int), mv_U]) (st' := [mv_I 20007, mv_R ((MX 28 7).toNat)]) (M1 := MX) rfl ?_
        refine mv_call (st2 := []) rfl (Or.inl rfl) (sp_lyg hl e7) rfl rfl ((sp_cladd_s hl hx2 (by have := ok2.2.1; have := ok2.2.2; rw [List.length_append]; omega))) (by first | decide | omega) (fun Ma1 hm2 => ?_)
        have hy := hm2
        exact mv_ret (fun n => rfl) ((sp_cr_t (r := sp_suf r1 20007) g).2 (by
          show sp_cs f t l r1.2.1 (c ++ (r1.2.2 ++ [20007])) M0 _
          rw [← List.append_assoc]
          exact hy))
      · have hx2 := (sp_cr_f g).1 hx
        have e7 : MX 28 7 = (l : Int) := hx2.2.1.2
        have e70 : 0 ≤ MX 28 7 := by omega
        refine mv_go' 2 (pc' := if 0 ≤ MX 28 7 then 30 else mv_bad) (ls' := [mv_R 28, mv_I (d : Int), mv_U]) (st' := [mv_R ((MX 28 7).toNat)]) (M1 := MX) rfl ?_
        refine mv_tt' (by omega) ?_
        refine mv_go' 1 (pc' := 33) (ls' := [mv_R 28, mv_I (d : Int), mv_U]) (st' := [mv_I 20007, mv_R ((MX 28 7).toNat)]) (M1 := MX) rfl ?_
        refine mv_call (st2 := []) rfl (Or.inl rfl) (sp_lyg hl e7) rfl rfl ((sp_cladd_f hl hx2)) (by first | decide | omega) (fun Ma3 hm4 => ?_)
        have hy := hm4
        exact mv_ret (fun n => rfl) ((sp_cr_f (r := sp_suf r1 20007) g).2 hy)
    obtain ⟨k0, hk0⟩ : ∃ k0, k0 = tk_K f t p := ⟨_, rfl⟩
    rw [← hk0] at k1 e3
    refine mv_go' 2 (pc' := 4) (ls' := [mv_R 28, mv_I (d : Int), mv_U]) (st' := [mv_I (M 28 3)]) (M1 := M) rfl ?_
    rw [show M 28 3 = k0 from by exact e3]
    refine mv_go' 2 (pc' := if k0 = 261 then 10 else 37) (ls' := [mv_R 28, mv_I (d : Int), mv_U]) (st' := []) (M1 := M) rfl ?_
    refine mv_tt' (by omega) ?_
    refine mv_go' 3 (pc' := if (d : Int) < 5 then 15 else 37) (ls' := [mv_R 28, mv_I (d : Int), mv_U]) (st' := []) (M1 := M) rfl ?_
    refine mv_tt' (by omega) ?_
    refine mv_go' 1 (pc' := 16) (ls' := [mv_R 28, mv_I (d : Int), mv_U]) (st' := [mv_R 28]) (M1 := M) rfl ?_
    refine mv_call (st2 := []) rfl (Or.inl rfl) rfl rfl rfl (htok) (by first | decide | omega) (fun Ma5 hm6 => ?_)
    have hy := hm6
    refine mv_go' 4 (pc' := 23) (ls' := [mv_R 28, mv_I (d : Int), mv_U]) (st' := [mv_I (mv_w ((d : Int) + 1)), mv_R 28]) (M1 := Ma5) rfl ?_
    rw [show mv_w ((d : Int) + 1) = (d : Int) + 1 from mv_w_id (by omega) (by omega)]
    rw [show (d : Int) + 1 = ((d + 1 : Nat) : Int) from by omega]
    refine mv_call (st2 := []) rfl (Or.inl rfl) rfl rfl rfl ((h1 _ hy)) (by first | decide | omega) (fun Ma7 hm8 => ?_)
    have hx := hm8
    exact fin _ hx
  · rw [if_neg k1]
    have ok1 := sp_pz_ok (W := tk_W f t) (Q := tk_Q f t) (tk_ok f t) n 3 d p hp (by omega) (by show 16 * (t - p) + (6 - 3) < n; omega)
    have h1 := h3 d p c M hd hp (by omega) hc hs
    rw [show sp_pz (tk_K f t) (tk_W f t) (tk_N f t) (tk_Q f t) n 3 d p = sp_pr f t n 3 d p from rfl] at ok1 ⊢
    obtain ⟨r1, hr1⟩ : ∃ r, r = sp_pr f t n 3 d p := ⟨_, rfl⟩
    rw [← hr1] at h1 ok1 ⊢
    have fin : ∀ MX, sp_cr f t l r1 c M0 MX → mv_Ru (7 * (5 - d) + (14 - 2)) (15 + 2) 42 [mv_R 28, mv_I (d : Int), mv_U] [] MX mv_U (sp_cr f t l (sp_thn r1 (fun p1 => if sp_opx 2 (tk_K f t p1) = 0 then (true, p1, []) else sp_suf (sp_pr f t n 3 d (tk_N f t p1)) (sp_opx 2 (tk_K f t p1)))) c M0) := fun MX hx => by
      by_cases g : r1.1 = true
      · have ok2 := ok1 g
        have hx2 := (sp_cr_t g).1 hx
        have e3 := hx2.2.2.1
        have hlen : (c ++ r1.2.2).length ≤ r1.2.1 := by rw [List.length_append]; have := ok2.2.2; omega
        by_cases k2 : tk_K f t r1.2.1 = 60 ∨ tk_K f t r1.2.1 = 61
        · obtain ⟨s, eop, hs1⟩ : ∃ s, sp_opx 2 (tk_K f t r1.2.1) = s ∧ ((tk_K f t r1.2.1 = 60 ∧ s = 20002) ∨ (tk_K f t r1.2.1 = 61 ∧ s = 20003)) := by
            rcases k2 with k | k
            · exact ⟨20002, by rw [k]; rfl, Or.inl ⟨k, rfl⟩⟩
            · exact ⟨20003, by rw [k]; rfl, Or.inr ⟨k, rfl⟩⟩
          have hN := tk_ok f t r1.2.1 ok2.2.1
          have hN2 := hN.2 (by omega)
          have hN1 := hN.1
          have e11 := ok2.1.2 (by omega)
          have htok := sp_ctok (d := 0) hl ht ok2.2.1 hb hx2 (by omega)
          have okB := sp_pz_ok (W := tk_W f t) (Q := tk_Q f t) (tk_ok f t) n 3 d (tk_N f t r1.2.1) hN1 (by omega) (by show 16 * (t - tk_N f t r1.2.1) + (6 - 3) < n; omega)
          have hB := fun MX => h3 d (tk_N f t r1.2.1) (c ++ r1.2.2) MX hd hN1 (by omega) (by omega)
          have eres : ∀ MY, sp_cr f t l (sp_suf (sp_pr f t n 3 d (tk_N f t r1.2.1)) s) (c ++ r1.2.2) M0 MY → sp_cr f t l (sp_thn r1 (fun p1 => if sp_opx 2 (tk_K f t p1) = 0 then (true, p1, []) else sp_suf (sp_pr f t n 3 d (tk_N f t p1)) (sp_opx 2 (tk_K f t p1)))) c M0 MY := fun MY hy => sp_cr_thn g (by
            show sp_cr f t l (if sp_opx 2 (tk_K f t r1.2.1) = 0 then (true, r1.2.1, []) else sp_suf (sp_pr f t n 3 d (tk_N f t r1.2.1)) (sp_opx 2 (tk_K f t r1.2.1))) (c ++ r1.2.2) M0 MY
            rw [if_neg (by omega), eop]
            exact hy)
          rw [show sp_pz (tk_K f t) (tk_W f t) (tk_N f t) (tk_Q f t) n 3 d (tk_N f t r1.2.1) = sp_pr f t n 3 d (tk_N f t r1.2.1) from rfl] at okB
          obtain ⟨r2, hr2⟩ : ∃ r, r = sp_pr f t n 3 d (tk_N f t r1.2.1) := ⟨_, rfl⟩
          rw [← hr2] at hB okB eres
          have fin2 : ∀ MX, sp_cr f t l r2 (c ++ r1.2.2) M0 MX → mv_Ru (7 * (5 - d) + (14 - 2)) (15 + 2) 88 [mv_R 28, mv_I (d : Int), mv_I s] [] MX mv_U (sp_cr f t l (sp_suf r2 s) (c ++ r1.2.2) M0) := fun MX hx => by
            by_cases g : r2.1 = true
            · have ok3 := okB g
              have hx2 := (sp_cr_t g).1 hx
              have e7 : MX 28 7 = (l : Int) := hx2.2.1.2
              have e70 : 0 ≤ MX 28 7 := by omega
              refine mv_go' 2 (pc' := if 0 ≤ MX 28 7 then 92 else mv_bad) (ls' := [mv_R 28, mv_I (d : Int), mv_I s]) (st' := [mv_R ((MX 28 7).toNat)]) (M1 := MX) rfl ?_
              refine mv_tt' (by omega) ?_
              refine mv_go' 1 (pc' := 93) (ls' := [mv_R 28, mv_I (d : Int), mv_I s]) (st' := [mv_I s, mv_R ((MX 28 7).toNat)]) (M1 := MX) rfl ?_
              refine mv_call (st2 := []) rfl (Or.inl rfl) (sp_lyg hl e7) rfl rfl ((sp_cladd_s hl hx2 (by have := ok3.2.1; have := ok3.2.2; rw [List.length_append]; omega))) (by first | decide | omega) (fun Ma9 hm10 => ?_)
              have hy := hm10
              exact mv_ret (fun n => rfl) ((sp_cr_t (r := sp_suf r2 s) g).2 (by
                show sp_cs f t l r2.2.1 ((c ++ r1.2.2) ++ (r2.2.2 ++ [s])) M0 _
                rw [← List.append_assoc]
                exact hy))
            · have hx2 := (sp_cr_f g).1 hx
              have e7 : MX 28 7 = (l : Int) := hx2.2.1.2
              have e70 : 0 ≤ MX 28 7 := by omega
              refine mv_go' 2 (pc' := if 0 ≤ MX 28 7 then 92 else mv_bad) (ls' := [mv_R 28, mv_I (d : Int), mv_I s]) (st' := [mv_R ((MX 28 7).toNat)]) (M1 := MX) rfl ?_
              refine mv_tt' (by omega) ?_
              refine mv_go' 1 (pc' := 93) (ls' := [mv_R 28, mv_I (d : Int), mv_I s]) (st' := [mv_I s, mv_R ((MX 28 7).toNat)]) (M1 := MX) rfl ?_
              refine mv_call (st2 := []) rfl (Or.inl rfl) (sp_lyg hl e7) rfl rfl ((sp_cladd_f hl hx2)) (by first | decide | omega) (fun Ma11 hm12 => ?_)
              have hy := hm12
              exact mv_ret (fun n => rfl) ((sp_cr_f (r := sp_suf r2 s) g).2 hy)
          obtain ⟨k0, hk0⟩ : ∃ k0, k0 = tk_K f t r1.2.1 := ⟨_, rfl⟩
          rw [← hk0] at k2 e3 hs1
          rcases hs1 with ⟨hs1, hs2⟩ | ⟨hs1, hs2⟩
          · subst hs2
            refine mv_go' 2 (pc' := 46) (ls' := [mv_R 28, mv_I (d : Int), mv_U]) (st' := [mv_I (MX 28 3)]) (M1 := MX) rfl ?_
            rw [show MX 28 3 = k0 from by exact e3]
            refine mv_go' 2 (pc' := if k0 = 60 then 60 else 51) (ls' := [mv_R 28, mv_I (d : Int), mv_U]) (st' := []) (M1 := MX) rfl ?_
            refine mv_tt' (by omega) ?_
            refine mv_go' 2 (pc' := 64) (ls' := [mv_R 28, mv_I (d : Int), mv_U]) (st' := [mv_I (MX 28 3)]) (M1 := MX) rfl ?_
            rw [show MX 28 3 = k0 from by exact e3]
            refine mv_go' 2 (pc' := if k0 = 60 then 69 else 75) (ls' := [mv_R 28, mv_I (d : Int), mv_U]) (st' := []) (M1 := MX) rfl ?_
            refine mv_tt' (by omega) ?_
            refine mv_go' 4 (pc' := 80) (ls' := [mv_R 28, mv_I (d : Int), mv_I 20002]) (st' := [mv_R 28]) (M1 := MX) rfl ?_
            refine mv_call (st2 := []) rfl (Or.inl rfl) rfl rfl rfl (htok) (by first | decide | omega) (fun Ma13 hm14 => ?_)
            have hy := hm14
            refine mv_go' 2 (pc' := 85) (ls' := [mv_R 28, mv_I (d : Int), mv_I 20002]) (st' := [mv_I (d : Int), mv_R 28]) (M1 := Ma13) rfl ?_
            refine mv_call (st2 := []) rfl (Or.inl rfl) rfl rfl rfl ((hB _ hy)) (by first | decide | omega) (fun Ma15 hm16 => ?_)
            have hz := hm16
            exact (fin2 _ hz).imp (fun MY q => eres MY q)
          · subst hs2
            refine mv_go' 2 (pc' := 46) (ls' := [mv_R 28, mv_I (d : Int), mv_U]) (st' := [mv_I (MX 28 3)]) (M1 := MX) rfl ?_
            rw [show MX 28 3 = k0 from by exact e3]
            refine mv_go' 2 (pc' := if k0 = 60 then 60 else 51) (ls' := [mv_R 28, mv_I (d : Int), mv_U]) (st' := []) (M1 := MX) rfl ?_
            refine mv_ff' (by omega) ?_
            refine mv_go' 2 (pc' := 55) (ls' := [mv_R 28, mv_I (d : Int), mv_U]) (st' := [mv_I (MX 28 3)]) (M1 := MX) rfl ?_
            rw [show MX 28 3 = k0 from by exact e3]
            refine mv_go' 2 (pc' := if k0 = 61 then 60 else 96) (ls' := [mv_R 28, mv_I (d : Int), mv_U]) (st' := []) (M1 := MX) rfl ?_
            refine mv_tt' (by omega) ?_
            refine mv_go' 2 (pc' := 64) (ls' := [mv_R 28, mv_I (d : Int), mv_U]) (st' := [mv_I (MX 28 3)]) (M1 := MX) rfl ?_
            rw [show MX 28 3 = k0 from by exact e3]
            refine mv_go' 2 (pc' := if k0 = 60 then 69 else 75) (ls' := [mv_R 28, mv_I (d : Int), mv_U]) (st' := []) (M1 := MX) rfl ?_
            refine mv_ff' (by omega) ?_
            refine mv_go' 3 (pc' := 80) (ls' := [mv_R 28, mv_I (d : Int), mv_I 20003]) (st' := [mv_R 28]) (M1 := MX) rfl ?_
            refine mv_call (st2 := []) rfl (Or.inl rfl) rfl rfl rfl (htok) (by first | decide | omega) (fun Ma17 hm18 => ?_)
            have hy := hm18
            refine mv_go' 2 (pc' := 85) (ls' := [mv_R 28, mv_I (d : Int), mv_I 20003]) (st' := [mv_I (d : Int), mv_R 28]) (M1 := Ma17) rfl ?_
            refine mv_call (st2 := []) rfl (Or.inl rfl) rfl rfl rfl ((hB _ hy)) (by first | decide | omega) (fun Ma19 hm20 => ?_)
            have hz := hm20
            exact (fin2 _ hz).imp (fun MY q => eres MY q)
        · have eop : sp_opx 2 (tk_K f t r1.2.1) = 0 := by
            show (if tk_K f t r1.2.1 = 60 then (20002 : Int) else if tk_K f t r1.2.1 = 61 then 20003 else 0) = 0
            rw [if_neg (fun z => k2 (Or.inl z)), if_neg (fun z => k2 (Or.inr z))]
          have hres : sp_cr f t l (sp_thn r1 (fun p1 => if sp_opx 2 (tk_K f t p1) = 0 then (true, p1, []) else sp_suf (sp_pr f t n 3 d (tk_N f t p1)) (sp_opx 2 (tk_K f t p1)))) c M0 MX := sp_cr_thn g (by
            show sp_cr f t l (if sp_opx 2 (tk_K f t r1.2.1) = 0 then (true, r1.2.1, []) else sp_suf (sp_pr f t n 3 d (tk_N f t r1.2.1)) (sp_opx 2 (tk_K f t r1.2.1))) (c ++ r1.2.2) M0 MX
            rw [if_pos eop]
            exact (sp_cr_t (r := (true, r1.2.1, [])) rfl).2 (by rw [show (c ++ r1.2.2) ++ (true, r1.2.1, ([] : List Int)).2.2 = c ++ r1.2.2 from List.append_nil _]; exact hx2))
          obtain ⟨k0, hk0⟩ : ∃ k0, k0 = tk_K f t r1.2.1 := ⟨_, rfl⟩
          rw [← hk0] at k2 e3
          refine mv_go' 2 (pc' := 46) (ls' := [mv_R 28, mv_I (d : Int), mv_U]) (st' := [mv_I (MX 28 3)]) (M1 := MX) rfl ?_
          rw [show MX 28 3 = k0 from by exact e3]
          refine mv_go' 2 (pc' := if k0 = 60 then 60 else 51) (ls' := [mv_R 28, mv_I (d : Int), mv_U]) (st' := []) (M1 := MX) rfl ?_
          refine mv_ff' (by omega) ?_
          refine mv_go' 2 (pc' := 55) (ls' := [mv_R 28, mv_I (d : Int), mv_U]) (st' := [mv_I (MX 28 3)]) (M1 := MX) rfl ?_
          rw [show MX 28 3 = k0 from by exact e3]
          refine mv_go' 2 (pc' := if k0 = 61 then 60 else 96) (ls' := [mv_R 28, mv_I (d : Int), mv_U]) (st' := []) (M1 := MX) rfl ?_
          refine mv_ff' (by omega) ?_
          exact mv_ret (fun n => rfl) hres
      · have hx2 := (sp_cr_f g).1 hx
        have e303 := hx2.2.2.1
        refine mv_go' 2 (pc' := 46) (ls' := [mv_R 28, mv_I (d : Int), mv_U]) (st' := [mv_I (MX 28 3)]) (M1 := MX) rfl ?_
        rw [show MX 28 3 = 303 from by exact e303]
        refine mv_go' 2 (pc' := if 303 = 60 then 60 else 51) (ls' := [mv_R 28, mv_I (d : Int), mv_U]) (st' := []) (M1 := MX) rfl ?_
        refine mv_ff' (by first | decide | omega) ?_
        refine mv_go' 2 (pc' := 55) (ls' := [mv_R 28, mv_I (d : Int), mv_U]) (st' := [mv_I (MX 28 3)]) (M1 := MX) rfl ?_
        rw [show MX 28 3 = 303 from by exact e303]
        refine mv_go' 2 (pc' := if 303 = 61 then 60 else 96) (ls' := [mv_R 28, mv_I (d : Int), mv_U]) (st' := []) (M1 := MX) rfl ?_
        refine mv_ff' (by first | decide | omega) ?_
        exact mv_ret (fun n => rfl) (sp_cr_tnf g hx2)
    obtain ⟨k0, hk0⟩ : ∃ k0, k0 = tk_K f t p := ⟨_, rfl⟩
    rw [← hk0] at k1 e3
    have k1b : k0 = 261 → 5 ≤ d := fun z => by omega
    by_cases hd5 : d < 5
    · have k4 : ¬ (k0 = 261) := by omega
      refine mv_go' 2 (pc' := 4) (ls' := [mv_R 28, mv_I (d : Int), mv_U]) (st' := [mv_I (M 28 3)]) (M1 := M) rfl ?_
      rw [show M 28 3 = k0 from by exact e3]
      refine mv_go' 2 (pc' := if k0 = 261 then 10 else 37) (ls' := [mv_R 28, mv_I (d : Int), mv_U]) (st' := []) (M1 := M) rfl ?_
      refine mv_ff' (by omega) ?_
      refine mv_go' 2 (pc' := 39) (ls' := [mv_R 28, mv_I (d : Int), mv_U]) (st' := [mv_I (d : Int), mv_R 28]) (M1 := M) rfl ?_
      refine mv_call (st2 := []) rfl (Or.inl rfl) rfl rfl rfl (h1) (by first | decide | omega) (fun Ma21 hm22 => ?_)
      have hx := hm22
      exact fin _ hx
    · refine mv_go' 2 (pc' := 4) (ls' := [mv_R 28, mv_I (d : Int), mv_U]) (st' := [mv_I (M 28 3)]) (M1 := M) rfl ?_
      rw [show M 28 3 = k0 from by exact e3]
      refine mv_go' 2 (pc' := if k0 = 261 then 10 else 37) (ls' := [mv_R 28, mv_I (d : Int), mv_U]) (st' := []) (M1 := M) rfl ?_
      refine mv_sp' (fun ha23 => ?_) (fun ha23 => ?_)
      · refine mv_go' 3 (pc' := if (d : Int) < 5 then 15 else 37) (ls' := [mv_R 28, mv_I (d : Int), mv_U]) (st' := []) (M1 := M) rfl ?_
        refine mv_ff' (by omega) ?_
        refine mv_go' 2 (pc' := 39) (ls' := [mv_R 28, mv_I (d : Int), mv_U]) (st' := [mv_I (d : Int), mv_R 28]) (M1 := M) rfl ?_
        refine mv_call (st2 := []) rfl (Or.inl rfl) rfl rfl rfl (h1) (by first | decide | omega) (fun Ma24 hm25 => ?_)
        have hx := hm25
        exact fin _ hx
      · refine mv_go' 2 (pc' := 39) (ls' := [mv_R 28, mv_I (d : Int), mv_U]) (st' := [mv_I (d : Int), mv_R 28]) (M1 := M) rfl ?_
        refine mv_call (st2 := []) rfl (Or.inl rfl) rfl rfl rfl (h1) (by first | decide | omega) (fun Ma26 hm27 => ?_)
        have hx := hm27
        exact fin _ hx
/-! all forms at once -/
theorem sp_CX_all {f : Nat → Int} {t l : Nat} {M0 : mv_M} (hl : sp_ly l) (ht : t ≤ 160) (hb : ∀ j, j < t → 0 ≤ f j ∧ f j ≤ 255) : ∀ n : Nat, ((sp_CX f t l M0 n 0 ∧ sp_CX f t l M0 n 1 ∧ sp_CX f t l M0 n 2) ∧ sp_CX f t l M0 n 3 ∧ sp_CX f t l M0 n 4 ∧ sp_CX f t l M0 n 5) ∧ (sp_CL f t l M0 n 0 ∧ sp_CL f t l M0 n 1) ∧ sp_CL3 f t l M0 n ∧ sp_CL f t l M0 n 4
  | 0 => ⟨⟨⟨fun d p c M _ _ h _ _ => absurd h (by omega), fun d p c M _ _ h _ _ => absurd h (by omega), fun d p c M _ _ h _ _ => absurd h (by omega)⟩, fun d p c M _ _ h _ _ => absurd h (by omega), fun d p c M _ _ h _ _ => absurd h (by omega), fun d p c M _ _ h _ _ => absurd h (by omega)⟩,
      ⟨fun d p i c M _ _ h _ _ _ => absurd h (by omega), fun d p i c M _ _ h _ _ _ => absurd h (by omega)⟩, fun d p i c M l3 _ _ h _ _ _ _ => absurd h (by omega), fun d p i c M _ _ h _ _ _ => absurd h (by omega)⟩
  | n + 1 => by
    obtain ⟨⟨⟨a0, a1, a2⟩, a3, a4, a5⟩, ⟨b0, b1⟩, b3, b4⟩ := sp_CX_all (l := l) (M0 := M0) hl ht hb n
    exact ⟨⟨⟨sp_cX_0 hl ht a1 b0, sp_cX_1 hl ht a2 b1, sp_cX_2 hl ht hb a2 a3⟩, sp_cX_3 hl ht a4 b3, sp_cX_4 hl ht a5 b4, sp_cX_5 hl ht hb a5 a0⟩, ⟨sp_cL_0 hl ht hb a1 b0, sp_cL_1 hl ht hb a2 b1⟩, sp_cL_3 hl ht hb a4 b3, sp_cL_4 hl ht hb a5 b4⟩
