/-! the model reads a token: the call -/
theorem sp_pi_d : ∀ w : Fin 13, sp_pi w ≤ 12 ∧ (sp_pi w < 3 → tk_M (sp_rw w) = 3 ∧ sp_rw w = 256 + (sp_pi w : Int)) ∧ (3 ≤ sp_pi w ∧ sp_pi w < 9 → tk_M (sp_rw w) = 2 ∧ sp_rw w = 301 ∧ (w : Nat) = sp_pi w + 3) ∧ (sp_pi w = 12 → sp_rw w = 303 ∧ tk_M (sp_rw w) = -1) ∧ (9 ≤ sp_pi w ∧ sp_pi w < 12 → tk_M (sp_rw w) = (sp_pi w : Int) - 5 ∧ 259 ≤ sp_rw w ∧ sp_rw w ≤ 261) := by decide
theorem sp_word_b (f : Nat → Int) (q e : Nat) : sp_word f q e < 13 := by
  have := (sp_wi_b f q e 12 0 rfl).2.1
  unfold sp_word
  omega
theorem sp_mnt {M0 : mv_M} {t p d : Nat} (ht : t ≤ 160) (hp : p ≤ t) (hb : ∀ j, j < t → 0 ≤ M0 108 j ∧ M0 108 j ≤ 255) (hw : sp_at (M0 125) 0 sp_words) (h1 : M0 100 9 = (t : Int)) (h2 : M0 100 21 = (p : Int)) : mv_Ru (d + 7) 127 0 [mv_R 100, mv_U, mv_U] [] M0 mv_U (sp_nt t p M0) := by
  have hqb := tk_Q_b (M0 108) hp
  refine sp_mnl1 (d := d + 6) (M0 := M0) ht h1 (t - p) p M0 (by omega) mv_ag.rf (fun _ _ => rfl) h2 (fun M q1 q2 q3 => ?_)
  have q3' : M 100 21 = (tk_Q (M0 108) t p : Int) := q3
  clear q3
  have e1 : M 100 9 = (t : Int) := (q2 9 (by decide)).trans h1
  have e108 : M 108 = M0 108 := q1 108 (by decide)
  have e125 : M 125 = M0 125 := q1 125 (by decide)
  unfold sp_nt
  by_cases c : t ≤ tk_Q (M0 108) t p
  · obtain ⟨k1, k2⟩ := tk_end c
    rw [k1, k2]
    obtain ⟨q, hq⟩ : ∃ q, q = tk_Q (M0 108) t p := ⟨_, rfl⟩
    rw [← hq] at q3' hqb c ⊢
    refine mv_go' 3 (pc' := 57) (ls' := [mv_R 100, mv_U, mv_U]) (st' := [mv_I (M 100 21), mv_R 100]) (M1 := M) rfl ?_
    rw [show M 100 21 = (q : Int) from by exact q3']
    refine mv_go' 9 (pc' := 74) (ls' := [mv_R 100, mv_U, mv_U]) (st' := [mv_I (M 100 21)]) (M1 := (mv_st (mv_st (mv_st M 100 (mv_up (M 100) 22 (q : Int))) 100 (mv_up (mv_up (M 100) 22 (q : Int)) 23 0)) 100 (mv_up (mv_up (mv_up (M 100) 22 (q : Int)) 23 0) 24 0))) rfl ?_
    rw [show M 100 21 = (q : Int) from by exact q3']
    refine mv_go' 2 (pc' := 78) (ls' := [mv_R 100, mv_U, mv_U]) (st' := [mv_I (M 100 9), mv_I (q : Int)]) (M1 := (mv_st (mv_st (mv_st M 100 (mv_up (M 100) 22 (q : Int))) 100 (mv_up (mv_up (M 100) 22 (q : Int)) 23 0)) 100 (mv_up (mv_up (mv_up (M 100) 22 (q : Int)) 23 0) 24 0))) rfl ?_
    rw [show M 100 9 = (t : Int) from by exact e1]
    refine mv_go' 1 (pc' := if (q : Int) = (t : Int) then 81 else 82) (ls' := [mv_R 100, mv_U, mv_U]) (st' := []) (M1 := (mv_st (mv_st (mv_st M 100 (mv_up (M 100) 22 (q : Int))) 100 (mv_up (mv_up (M 100) 22 (q : Int)) 23 0)) 100 (mv_up (mv_up (mv_up (M 100) 22 (q : Int)) 23 0) 24 0))) rfl ?_
    refine mv_tt' (by omega) ?_
    refine mv_ret (fun n => rfl) ⟨?_, fun j hj => (mv_up_n _ _ hj.2.2.2).trans ((mv_up_n _ _ hj.2.2.1).trans ((mv_up_n _ _ hj.2.1).trans (q2 j hj.1))), rfl, rfl, fun _ => q3', fun z => by omega, fun z => by omega⟩
    repeat (first | exact q1 | refine mv_ag.st ?_ (by decide))
  · have hlt : tk_Q (M0 108) t p < t := by omega
    obtain ⟨x, hx⟩ : ∃ x, x = M0 108 (tk_Q (M0 108) t p) := ⟨_, rfl⟩
    have hx255 := hb _ hlt
    rw [← hx] at hx255
    have ex : M 108 (tk_Q (M0 108) t p) = x := by rw [e108, hx]
    by_cases cl : sp_isL (M0 108 (tk_Q (M0 108) t p)) = true
    · obtain ⟨k1, k2, k3⟩ := tk_let hlt cl
      rw [k1, k2, k3]
      have cl2 := sp_isL_t.1 cl
      rw [← hx] at cl2
      clear k1 k2 k3
      obtain ⟨q, hq⟩ : ∃ q, q = tk_Q (M0 108) t p := ⟨_, rfl⟩
      rw [← hq] at q3' hqb c hlt ex ⊢
      have heb := sp_skp_b sp_isL (M0 108) (t - q) q
      have hel := sp_skp_a sp_isL (M0 108) (t - q) q
      obtain ⟨e, he⟩ : ∃ e, e = sp_skp sp_isL (M0 108) (t - q) q := ⟨_, rfl⟩
      rw [← he] at heb hel ⊢
      have hpd := sp_pi_d ⟨sp_word (M0 108) q e, sp_word_b _ _ _⟩
      obtain ⟨w, hwd⟩ : ∃ w, w = sp_word (M0 108) q e := ⟨_, rfl⟩
      rw [show (((⟨sp_word (M0 108) q e, sp_word_b _ _ _⟩ : Fin 13)) : Nat) = w from hwd.symm] at hpd
      rw [← hwd]
      obtain ⟨k, hk⟩ : ∃ k, k = sp_pi w := ⟨_, rfl⟩
      rw [← hk] at hpd
      refine mv_go' 3 (pc' := 57) (ls' := [mv_R 100, mv_U, mv_U]) (st' := [mv_I (M 100 21), mv_R 100]) (M1 := M) rfl ?_
      rw [show M 100 21 = (q : Int) from by exact q3']
      refine mv_go' 9 (pc' := 74) (ls' := [mv_R 100, mv_U, mv_U]) (st' := [mv_I (M 100 21)]) (M1 := (mv_st (mv_st (mv_st M 100 (mv_up (M 100) 22 (q : Int))) 100 (mv_up (mv_up (M 100) 22 (q : Int)) 23 0)) 100 (mv_up (mv_up (mv_up (M 100) 22 (q : Int)) 23 0) 24 0))) rfl ?_
      rw [show M 100 21 = (q : Int) from by exact q3']
      refine mv_go' 2 (pc' := 78) (ls' := [mv_R 100, mv_U, mv_U]) (st' := [mv_I (M 100 9), mv_I (q : Int)]) (M1 := (mv_st (mv_st (mv_st M 100 (mv_up (M 100) 22 (q : Int))) 100 (mv_up (mv_up (M 100) 22 (q : Int)) 23 0)) 100 (mv_up (mv_up (mv_up (M 100) 22 (q : Int)) 23 0) 24 0))) rfl ?_
      rw [show M 100 9 = (t : Int) from by exact e1]
      refine mv_go' 1 (pc' := if (q : Int) = (t : Int) then 81 else 82) (ls' := [mv_R 100, mv_U, mv_U]) (st' := []) (M1 := (mv_st (mv_st (mv_st M 100 (mv_up (M 100) 22 (q : Int))) 100 (mv_up (mv_up (M 100) 22 (q : Int)) 23 0)) 100 (mv_up (mv_up (mv_up (M 100) 22 (q : Int)) 23 0) 24 0))) rfl ?_
      refine mv_ff' (by omega) ?_
      refine mv_go' 4 (pc' := 90) (ls' := [mv_R 100, mv_U, mv_U]) (st' := [mv_I (M 100 21), mv_R 108]) (M1 := (mv_st (mv_st (mv_st M 100 (mv_up (M 100) 22 (q : Int))) 100 (mv_up (mv_up (M 100) 22 (q : Int)) 23 0)) 100 (mv_up (mv_up (mv_up (M 100) 22 (q : Int)) 23 0) 24 0))) rfl ?_
      rw [show M 100 21 = (q : Int) from by exact q3']
      refine mv_go' 1 (pc' := if 0 ≤ (q : Int) ∧ (q : Int) < 160 then 91 else mv_bad) (ls' := [mv_R 100, mv_U, mv_U]) (st' := [mv_I (M 108 q)]) (M1 := (mv_st (mv_st (mv_st M 100 (mv_up (M 100) 22 (q : Int))) 100 (mv_up (mv_up (M 100) 22 (q : Int)) 23 0)) 100 (mv_up (mv_up (mv_up (M 100) 22 (q : Int)) 23 0) 24 0))) rfl ?_
      refine mv_tt' (by omega) ?_
      rw [show M 108 q = x from by exact ex]
      refine mv_go' 4 (pc' := 97) (ls' := [mv_R 100, mv_I x, mv_U]) (st' := [mv_I 122, mv_I 97, mv_I x]) (M1 := (mv_st (mv_st (mv_st M 100 (mv_up (M 100) 22 (q : Int))) 100 (mv_up (mv_up (M 100) 22 (q : Int)) 23 0)) 100 (mv_up (mv_up (mv_up (M 100) 22 (q : Int)) 23 0) 24 0))) rfl ?_
      have ha1 : (97 : Int) ≤ x ∧ x ≤ (122 : Int) := by omega
      refine mv_callP (st2 := [mv_I 1]) rfl (Or.inr rfl) rfl rfl rfl (sp_min_t ha1) (by first | decide | omega) ?_
      refine mv_go' 1 (pc' := if 1 = 0 then 217 else 103) (ls' := [mv_R 100, mv_I x, mv_U]) (st' := []) (M1 := (mv_st (mv_st (mv_st M 100 (mv_up (M 100) 22 (q : Int))) 100 (mv_up (mv_up (M 100) 22 (q : Int)) 23 0)) 100 (mv_up (mv_up (mv_up (M 100) 22 (q : Int)) 23 0) 24 0))) rfl ?_
      refine mv_ff' (by first | decide | omega) ?_
      refine sp_mnl2 (d := d + 6) (M0 := (mv_st (mv_st (mv_st M 100 (mv_up (M 100) 22 (q : Int))) 100 (mv_up (mv_up (M 100) 22 (q : Int)) 23 0)) 100 (mv_up (mv_up (mv_up (M 100) 22 (q : Int)) 23 0) 24 0))) (t := t) ht e1 (t - q) q (mv_st (mv_st (mv_st M 100 (mv_up (M 100) 22 (q : Int))) 100 (mv_up (mv_up (M 100) 22 (q : Int)) 23 0)) 100 (mv_up (mv_up (mv_up (M 100) 22 (q : Int)) 23 0) 24 0)) (by omega) mv_ag.rf (fun _ _ => rfl) q3' (fun M2 r1 r2 r3 => ?_)
      have s21 : M2 100 21 = (e : Int) := r3.trans (by rw [he, ← e108]; rfl)
      have s22 : M2 100 22 = (q : Int) := (r2 22 (by decide)).trans rfl
      have s108 : M2 108 = M0 108 := (r1 108 (by decide)).trans e108
      have hwf := sp_mwf (d := d) (M := M2) heb.1 (by omega) (by rw [r1 125 (by decide)]; show sp_at (M 125) 0 sp_words; rw [e125]; exact hw) (by rw [s108]; exact hel)
      rw [s108, ← hwd, ← hk] at hwf
      have sj : ∀ j, (j ≠ 21 ∧ j ≠ 22 ∧ j ≠ 23 ∧ j ≠ 24) → M2 100 j = M0 100 j := fun j hj => (r2 j hj.1).trans ((mv_up_n _ _ hj.2.2.2).trans ((mv_up_n _ _ hj.2.2.1).trans ((mv_up_n _ _ hj.2.1).trans (q2 j hj.1))))
      have sag : mv_ag [100] M0 M2 := q1.tr (mv_ag.tr (by repeat (first | exact mv_ag.rf | refine mv_ag.st ?_ (by decide))) r1)
      clear r1 r2 r3
      refine mv_go' 3 (pc' := 151) (ls' := [mv_R 100, mv_I x, mv_U]) (st' := [mv_I (M2 100 22), mv_R 100]) (M1 := M2) rfl ?_
      rw [show M2 100 22 = (q : Int) from by exact s22]
      refine mv_go' 2 (pc' := 155) (ls' := [mv_R 100, mv_I x, mv_U]) (st' := [mv_I (M2 100 21), mv_I (q : Int), mv_R 100]) (M1 := M2) rfl ?_
      rw [show M2 100 21 = (e : Int) from by exact s21]
      refine mv_callP (st2 := [mv_I (k : Int)]) rfl (Or.inl rfl) rfl rfl rfl (hwf) (by first | decide | omega) ?_
      refine mv_go' 5 (pc' := if (k : Int) < 3 then 165 else 169) (ls' := [mv_R 100, mv_I x, mv_I (k : Int)]) (st' := [mv_R 100]) (M1 := M2) rfl ?_
      refine mv_sp' (fun ha2 => ?_) (fun ha2 => ?_)
      · refine mv_go' 7 (pc' := if (k : Int) < 3 then 204 else 208) (ls' := [mv_R 100, mv_I x, mv_I (k : Int)]) (st' := [mv_R 100]) (M1 := (mv_st M2 100 (mv_up (M2 100) 23 3))) rfl ?_
        refine mv_tt' (by omega) ?_
        refine mv_go' 4 (pc' := 403) (ls' := [mv_R 100, mv_I x, mv_I (k : Int)]) (st' := []) (M1 := (mv_st (mv_st M2 100 (mv_up (M2 100) 23 3)) 100 (mv_up (mv_up (M2 100) 23 3) 24 (k : Int)))) rfl ?_
        refine mv_ret (fun n => rfl) ⟨?_, fun j hj => (mv_up_n _ _ hj.2.2.2).trans ((mv_up_n _ _ hj.2.2.1).trans (sj j hj)), ?_, s22, fun _ => s21, fun z => ?_, fun z => ?_⟩
        · repeat (first | exact sag | refine mv_ag.st ?_ (by decide))
        · show 3 = _
          omega
        · show (k : Int) = _
          omega
        · show (k : Int) = _
          omega
      · refine mv_go' 3 (pc' := if (k : Int) < 9 then 175 else 179) (ls' := [mv_R 100, mv_I x, mv_I (k : Int)]) (st' := [mv_R 100]) (M1 := M2) rfl ?_
        refine mv_sp' (fun ha3 => ?_) (fun ha3 => ?_)
        · refine mv_go' 7 (pc' := if (k : Int) < 3 then 204 else 208) (ls' := [mv_R 100, mv_I x, mv_I (k : Int)]) (st' := [mv_R 100]) (M1 := (mv_st M2 100 (mv_up (M2 100) 23 2))) rfl ?_
          refine mv_ff' (by omega) ?_
          refine mv_go' 5 (pc' := 403) (ls' := [mv_R 100, mv_I x, mv_I (k : Int)]) (st' := []) (M1 := (mv_st (mv_st M2 100 (mv_up (M2 100) 23 2)) 100 (mv_up (mv_up (M2 100) 23 2) 24 (mv_w ((k : Int) - 3))))) rfl ?_
          rw [show mv_w ((k : Int) - 3) = (k : Int) - 3 from mv_w_id (by omega) (by omega)]
          refine mv_ret (fun n => rfl) ⟨?_, fun j hj => (mv_up_n _ _ hj.2.2.2).trans ((mv_up_n _ _ hj.2.2.1).trans (sj j hj)), ?_, s22, fun _ => s21, fun z => ?_, fun z => ?_⟩
          · repeat (first | exact sag | refine mv_ag.st ?_ (by decide))
          · show 2 = _
            omega
          · show (k : Int) - 3 = _
            omega
          · show (k : Int) - 3 = _
            omega
        · refine mv_go' 3 (pc' := if (k : Int) = 12 then 185 else 189) (ls' := [mv_R 100, mv_I x, mv_I (k : Int)]) (st' := [mv_R 100]) (M1 := M2) rfl ?_
          refine mv_sp' (fun ha4 => ?_) (fun ha4 => ?_)
          · refine mv_go' 7 (pc' := if (k : Int) < 3 then 204 else 208) (ls' := [mv_R 100, mv_I x, mv_I (k : Int)]) (st' := [mv_R 100]) (M1 := (mv_st M2 100 (mv_up (M2 100) 23 (-1)))) rfl ?_
            refine mv_ff' (by omega) ?_
            refine mv_go' 5 (pc' := 403) (ls' := [mv_R 100, mv_I x, mv_I (k : Int)]) (st' := []) (M1 := (mv_st (mv_st M2 100 (mv_up (M2 100) 23 (-1))) 100 (mv_up (mv_up (M2 100) 23 (-1)) 24 (mv_w ((k : Int) - 3))))) rfl ?_
            rw [show mv_w ((k : Int) - 3) = (k : Int) - 3 from mv_w_id (by omega) (by omega)]
            refine mv_ret (fun n => rfl) ⟨?_, fun j hj => (mv_up_n _ _ hj.2.2.2).trans ((mv_up_n _ _ hj.2.2.1).trans (sj j hj)), ?_, s22, fun _ => s21, fun z => ?_, fun z => ?_⟩
            · repeat (first | exact sag | refine mv_ag.st ?_ (by decide))
            · show (-1) = _
              omega
            · show (k : Int) - 3 = _
              omega
            · show (k : Int) - 3 = _
              omega
          · refine mv_go' 10 (pc' := if (k : Int) < 3 then 204 else 208) (ls' := [mv_R 100, mv_I x, mv_I (k : Int)]) (st' := [mv_R 100]) (M1 := (mv_st M2 100 (mv_up (M2 100) 23 (mv_w ((mv_w (4 + (k : Int))) - 9))))) rfl ?_
            rw [show mv_w (4 + (k : Int)) = 4 + (k : Int) from mv_w_id (by omega) (by omega)]
            rw [show mv_w ((4 + (k : Int)) - 9) = (4 + (k : Int)) - 9 from mv_w_id (by omega) (by omega)]
            refine mv_ff' (by omega) ?_
            refine mv_go' 5 (pc' := 403) (ls' := [mv_R 100, mv_I x, mv_I (k : Int)]) (st' := []) (M1 := (mv_st (mv_st M2 100 (mv_up (M2 100) 23 ((4 + (k : Int)) - 9))) 100 (mv_up (mv_up (M2 100) 23 ((4 + (k : Int)) - 9)) 24 (mv_w ((k : Int) - 3))))) rfl ?_
            rw [show mv_w ((k : Int) - 3) = (k : Int) - 3 from mv_w_id (by omega) (by omega)]
            refine mv_ret (fun n => rfl) ⟨?_, fun j hj => (mv_up_n _ _ hj.2.2.2).trans ((mv_up_n _ _ hj.2.2.1).trans (sj j hj)), ?_, s22, fun _ => s21, fun z => ?_, fun z => ?_⟩
            · repeat (first | exact sag | refine mv_ag.st ?_ (by decide))
            · show (4 + (k : Int)) - 9 = _
              omega
            · show (k : Int) - 3 = _
              omega
            · show (k : Int) - 3 = _
              omega
    · have cl2 : ¬ (97 ≤ x ∧ x ≤ 122) := fun z => cl (sp_isL_t.2 (hx ▸ z))
      by_cases cd : sp_isD (M0 108 (tk_Q (M0 108) t p)) = true
      · obtain ⟨k1, k2, k3⟩ := tk_dig hlt cl cd
        rw [k1, k2, k3]
        have cd2 := sp_isD_t.1 cd
        rw [← hx] at cd2
        clear k1 k2 k3
        obtain ⟨q, hq⟩ : ∃ q, q = tk_Q (M0 108) t p := ⟨_, rfl⟩
        rw [← hq] at q3' hqb c hlt ex ⊢
        have heb := sp_skp_b sp_isD (M0 108) (t - q) q
        obtain ⟨e, he⟩ : ∃ e, e = sp_skp sp_isD (M0 108) (t - q) q := ⟨_, rfl⟩
        rw [← he] at heb ⊢
        refine mv_go' 3 (pc' := 57) (ls' := [mv_R 100, mv_U, mv_U]) (st' := [mv_I (M 100 21), mv_R 100]) (M1 := M) rfl ?_
        rw [show M 100 21 = (q : Int) from by exact q3']
        refine mv_go' 9 (pc' := 74) (ls' := [mv_R 100, mv_U, mv_U]) (st' := [mv_I (M 100 21)]) (M1 := (mv_st (mv_st (mv_st M 100 (mv_up (M 100) 22 (q : Int))) 100 (mv_up (mv_up (M 100) 22 (q : Int)) 23 0)) 100 (mv_up (mv_up (mv_up (M 100) 22 (q : Int)) 23 0) 24 0))) rfl ?_
        rw [show M 100 21 = (q : Int) from by exact q3']
        refine mv_go' 2 (pc' := 78) (ls' := [mv_R 100, mv_U, mv_U]) (st' := [mv_I (M 100 9), mv_I (q : Int)]) (M1 := (mv_st (mv_st (mv_st M 100 (mv_up (M 100) 22 (q : Int))) 100 (mv_up (mv_up (M 100) 22 (q : Int)) 23 0)) 100 (mv_up (mv_up (mv_up (M 100) 22 (q : Int)) 23 0) 24 0))) rfl ?_
        rw [show M 100 9 = (t : Int) from by exact e1]
        refine mv_go' 1 (pc' := if (q : Int) = (t : Int) then 81 else 82) (ls' := [mv_R 100, mv_U, mv_U]) (st' := []) (M1 := (mv_st (mv_st (mv_st M 100 (mv_up (M 100) 22 (q : Int))) 100 (mv_up (mv_up (M 100) 22 (q : Int)) 23 0)) 100 (mv_up (mv_up (mv_up (M 100) 22 (q : Int)) 23 0) 24 0))) rfl ?_
        refine mv_ff' (by omega) ?_
        refine mv_go' 4 (pc' := 90) (ls' := [mv_R 100, mv_U, mv_U]) (st' := [mv_I (M 100 21), mv_R 108]) (M1 := (mv_st (mv_st (mv_st M 100 (mv_up (M 100) 22 (q : Int))) 100 (mv_up (mv_up (M 100) 22 (q : Int)) 23 0)) 100 (mv_up (mv_up (mv_up (M 100) 22 (q : Int)) 23 0) 24 0))) rfl ?_
        rw [show M 100 21 = (q : Int) from by exact q3']
        refine mv_go' 1 (pc' := if 0 ≤ (q : Int) ∧ (q : Int) < 160 then 91 else mv_bad) (ls' := [mv_R 100, mv_U, mv_U]) (st' := [mv_I (M 108 q)]) (M1 := (mv_st (mv_st (mv_st M 100 (mv_up (M 100) 22 (q : Int))) 100 (mv_up (mv_up (M 100) 22 (q : Int)) 23 0)) 100 (mv_up (mv_up (mv_up (M 100) 22 (q : Int)) 23 0) 24 0))) rfl ?_
        refine mv_tt' (by omega) ?_
        rw [show M 108 q = x from by exact ex]
        refine mv_go' 4 (pc' := 97) (ls' := [mv_R 100, mv_I x, mv_U]) (st' := [mv_I 122, mv_I 97, mv_I x]) (M1 := (mv_st (mv_st (mv_st M 100 (mv_up (M 100) 22 (q : Int))) 100 (mv_up (mv_up (M 100) 22 (q : Int)) 23 0)) 100 (mv_up (mv_up (mv_up (M 100) 22 (q : Int)) 23 0) 24 0))) rfl ?_
        have ha5 : ¬ ((97 : Int) ≤ x ∧ x ≤ (122 : Int)) := by omega
        refine mv_callP (st2 := [mv_I 0]) rfl (Or.inr rfl) rfl rfl rfl (sp_min_f ha5) (by first | decide | omega) ?_
        refine mv_go' 1 (pc' := if 0 = 0 then 217 else 103) (ls' := [mv_R 100, mv_I x, mv_U]) (st' := []) (M1 := (mv_st (mv_st (mv_st M 100 (mv_up (M 100) 22 (q : Int))) 100 (mv_up (mv_up (M 100) 22 (q : Int)) 23 0)) 100 (mv_up (mv_up (mv_up (M 100) 22 (q : Int)) 23 0) 24 0))) rfl ?_
        refine mv_tt' (by first | decide | omega) ?_
        refine mv_go' 3 (pc' := 222) (ls' := [mv_R 100, mv_I x, mv_U]) (st' := [mv_I 57, mv_I 48, mv_I x]) (M1 := (mv_st (mv_st (mv_st M 100 (mv_up (M 100) 22 (q : Int))) 100 (mv_up (mv_up (M 100) 22 (q : Int)) 23 0)) 100 (mv_up (mv_up (mv_up (M 100) 22 (q : Int)) 23 0) 24 0))) rfl ?_
        have ha6 : (48 : Int) ≤ x ∧ x ≤ (57 : Int) := by omega
        refine mv_callP (st2 := [mv_I 1]) rfl (Or.inr rfl) rfl rfl rfl (sp_min_t ha6) (by first | decide | omega) ?_
        refine mv_go' 1 (pc' := if 1 = 0 then 326 else 228) (ls' := [mv_R 100, mv_I x, mv_U]) (st' := []) (M1 := (mv_st (mv_st (mv_st M 100 (mv_up (M 100) 22 (q : Int))) 100 (mv_up (mv_up (M 100) 22 (q : Int)) 23 0)) 100 (mv_up (mv_up (mv_up (M 100) 22 (q : Int)) 23 0) 24 0))) rfl ?_
        refine mv_ff' (by first | decide | omega) ?_
        refine mv_go' 2 (pc' := 230) (ls' := [mv_R 100, mv_I x, mv_I 0]) (st' := []) (M1 := (mv_st (mv_st (mv_st M 100 (mv_up (M 100) 22 (q : Int))) 100 (mv_up (mv_up (M 100) 22 (q : Int)) 23 0)) 100 (mv_up (mv_up (mv_up (M 100) 22 (q : Int)) 23 0) 24 0))) rfl ?_
        refine sp_mnl3 (d := d + 6) (M0 := (mv_st (mv_st (mv_st M 100 (mv_up (M 100) 22 (q : Int))) 100 (mv_up (mv_up (M 100) 22 (q : Int)) 23 0)) 100 (mv_up (mv_up (mv_up (M 100) 22 (q : Int)) 23 0) 24 0))) (q := q) (t := t) ht e1 (t - q) q (mv_st (mv_st (mv_st M 100 (mv_up (M 100) 22 (q : Int))) 100 (mv_up (mv_up (M 100) 22 (q : Int)) 23 0)) 100 (mv_up (mv_up (mv_up (M 100) 22 (q : Int)) 23 0) 24 0)) (by omega) (Nat.le_refl _) mv_ag.rf (fun _ _ => rfl) q3' (fun _ => by rw [Nat.sub_self]; rfl) (fun j hj => absurd hj (by omega)) (fun M2 r1 r2 r3 r4 => ?_) |> mv_eqs (by rw [Nat.sub_self]; rfl) rfl rfl
        rw [show sp_skp sp_isD ((mv_st (mv_st (mv_st M 100 (mv_up (M 100) 22 (q : Int))) 100 (mv_up (mv_up (M 100) 22 (q : Int)) 23 0)) 100 (mv_up (mv_up (mv_up (M 100) 22 (q : Int)) 23 0) 24 0)) 108) (t - q) q = e from by rw [he, ← e108]; rfl] at r3 r4 ⊢
        have s22 : M2 100 22 = (q : Int) := (r2 22 (by decide)).trans rfl
        have s24 : e - q ≤ 4 → M2 100 24 = sp_nv (M0 108) q (e - q) := fun z => (r4 z).trans (by rw [← e108]; rfl)
        have sj : ∀ j, (j ≠ 21 ∧ j ≠ 22 ∧ j ≠ 23 ∧ j ≠ 24) → M2 100 j = M0 100 j := fun j hj => (r2 j ⟨hj.1, hj.2.2.2⟩).trans ((mv_up_n _ _ hj.2.2.2).trans ((mv_up_n _ _ hj.2.2.1).trans ((mv_up_n _ _ hj.2.1).trans (q2 j hj.1))))
        have sag : mv_ag [100] M0 M2 := q1.tr (mv_ag.tr (by repeat (first | exact mv_ag.rf | refine mv_ag.st ?_ (by decide))) r1)
        clear r1 r2 r4
        obtain ⟨n, hn⟩ : ∃ n, n = e - q := ⟨_, rfl⟩
        rw [← hn] at s24 ⊢
        refine mv_go' 4 (pc' := if 4 < (n : Int) then 315 else 319) (ls' := [mv_R 100, mv_I x, mv_I (n : Int)]) (st' := [mv_R 100]) (M1 := M2) rfl ?_
        refine mv_sp' (fun ha7 => ?_) (fun ha7 => ?_)
        · refine mv_go' 4 (pc' := 403) (ls' := [mv_R 100, mv_I x, mv_I (n : Int)]) (st' := []) (M1 := (mv_st M2 100 (mv_up (M2 100) 23 (-1)))) rfl ?_
          refine mv_ret (fun n => rfl) ⟨sag.st (by decide), fun j hj => (mv_up_n _ _ hj.2.2.1).trans (sj j hj), ?_, s22, fun _ => r3, fun z => ?_, fun z => ?_⟩
          · show (-1) = _
            unfold tk_M
            repeat (first | omega | split)
          · by_cases zn : 4 < n
            · rw [if_pos zn] at z
              omega
            · exact s24 (by omega)
          · exfalso
            by_cases zn : 4 < n
            · rw [if_pos zn] at z
              omega
            · rw [if_neg zn] at z
              omega
        · refine mv_go' 3 (pc' := 403) (ls' := [mv_R 100, mv_I x, mv_I (n : Int)]) (st' := []) (M1 := (mv_st M2 100 (mv_up (M2 100) 23 1))) rfl ?_
          refine mv_ret (fun n => rfl) ⟨sag.st (by decide), fun j hj => (mv_up_n _ _ hj.2.2.1).trans (sj j hj), ?_, s22, fun _ => r3, fun z => ?_, fun z => ?_⟩
          · show 1 = _
            unfold tk_M
            repeat (first | omega | split)
          · by_cases zn : 4 < n
            · rw [if_pos zn] at z
              omega
            · exact s24 (by omega)
          · exfalso
            by_cases zn : 4 < n
            · rw [if_pos zn] at z
              omega
            · rw [if_neg zn] at z
              omega
      · have cd2 : ¬ (48 ≤ x ∧ x ≤ 57) := fun z => cd (sp_isD_t.2 (hx ▸ z))
        obtain ⟨k1, k2⟩ := tk_sig hlt cl cd
        rw [k1, k2, ← hx]
        clear k1 k2
        obtain ⟨q, hq⟩ : ∃ q, q = tk_Q (M0 108) t p := ⟨_, rfl⟩
        rw [← hq] at q3' hqb c hlt ex ⊢
        by_cases cg : sp_isG x = true
        · have hxg := sp_isG_t.1 cg
          rw [if_pos cg]
          refine mv_go' 3 (pc' := 57) (ls' := [mv_R 100, mv_U, mv_U]) (st' := [mv_I (M 100 21), mv_R 100]) (M1 := M) rfl ?_
          rw [show M 100 21 = (q : Int) from by exact q3']
          refine mv_go' 9 (pc' := 74) (ls' := [mv_R 100, mv_U, mv_U]) (st' := [mv_I (M 100 21)]) (M1 := (mv_st (mv_st (mv_st M 100 (mv_up (M 100) 22 (q : Int))) 100 (mv_up (mv_up (M 100) 22 (q : Int)) 23 0)) 100 (mv_up (mv_up (mv_up (M 100) 22 (q : Int)) 23 0) 24 0))) rfl ?_
          rw [show M 100 21 = (q : Int) from by exact q3']
          refine mv_go' 2 (pc' := 78) (ls' := [mv_R 100, mv_U, mv_U]) (st' := [mv_I (M 100 9), mv_I (q : Int)]) (M1 := (mv_st (mv_st (mv_st M 100 (mv_up (M 100) 22 (q : Int))) 100 (mv_up (mv_up (M 100) 22 (q : Int)) 23 0)) 100 (mv_up (mv_up (mv_up (M 100) 22 (q : Int)) 23 0) 24 0))) rfl ?_
          rw [show M 100 9 = (t : Int) from by exact e1]
          refine mv_go' 1 (pc' := if (q : Int) = (t : Int) then 81 else 82) (ls' := [mv_R 100, mv_U, mv_U]) (st' := []) (M1 := (mv_st (mv_st (mv_st M 100 (mv_up (M 100) 22 (q : Int))) 100 (mv_up (mv_up (M 100) 22 (q : Int)) 23 0)) 100 (mv_up (mv_up (mv_up (M 100) 22 (q : Int)) 23 0) 24 0))) rfl ?_
          refine mv_ff' (by omega) ?_
          refine mv_go' 4 (pc' := 90) (ls' := [mv_R 100, mv_U, mv_U]) (st' := [mv_I (M 100 21), mv_R 108]) (M1 := (mv_st (mv_st (mv_st M 100 (mv_up (M 100) 22 (q : Int))) 100 (mv_up (mv_up (M 100) 22 (q : Int)) 23 0)) 100 (mv_up (mv_up (mv_up (M 100) 22 (q : Int)) 23 0) 24 0))) rfl ?_
          rw [show M 100 21 = (q : Int) from by exact q3']
          refine mv_go' 1 (pc' := if 0 ≤ (q : Int) ∧ (q : Int) < 160 then 91 else mv_bad) (ls' := [mv_R 100, mv_U, mv_U]) (st' := [mv_I (M 108 q)]) (M1 := (mv_st (mv_st (mv_st M 100 (mv_up (M 100) 22 (q : Int))) 100 (mv_up (mv_up (M 100) 22 (q : Int)) 23 0)) 100 (mv_up (mv_up (mv_up (M 100) 22 (q : Int)) 23 0) 24 0))) rfl ?_
          refine mv_tt' (by omega) ?_
          rw [show M 108 q = x from by exact ex]
          refine mv_go' 4 (pc' := 97) (ls' := [mv_R 100, mv_I x, mv_U]) (st' := [mv_I 122, mv_I 97, mv_I x]) (M1 := (mv_st (mv_st (mv_st M 100 (mv_up (M 100) 22 (q : Int))) 100 (mv_up (mv_up (M 100) 22 (q : Int)) 23 0)) 100 (mv_up (mv_up (mv_up (M 100) 22 (q : Int)) 23 0) 24 0))) rfl ?_
          have ha8 : ¬ ((97 : Int) ≤ x ∧ x ≤ (122 : Int)) := by omega
          refine mv_callP (st2 := [mv_I 0]) rfl (Or.inr rfl) rfl rfl rfl (sp_min_f ha8) (by first | decide | omega) ?_
          refine mv_go' 1 (pc' := if 0 = 0 then 217 else 103) (ls' := [mv_R 100, mv_I x, mv_U]) (st' := []) (M1 := (mv_st (mv_st (mv_st M 100 (mv_up (M 100) 22 (q : Int))) 100 (mv_up (mv_up (M 100) 22 (q : Int)) 23 0)) 100 (mv_up (mv_up (mv_up (M 100) 22 (q : Int)) 23 0) 24 0))) rfl ?_
          refine mv_tt' (by first | decide | omega) ?_
          refine mv_go' 3 (pc' := 222) (ls' := [mv_R 100, mv_I x, mv_U]) (st' := [mv_I 57, mv_I 48, mv_I x]) (M1 := (mv_st (mv_st (mv_st M 100 (mv_up (M 100) 22 (q : Int))) 100 (mv_up (mv_up (M 100) 22 (q : Int)) 23 0)) 100 (mv_up (mv_up (mv_up (M 100) 22 (q : Int)) 23 0) 24 0))) rfl ?_
          have ha9 : ¬ ((48 : Int) ≤ x ∧ x ≤ (57 : Int)) := by omega
          refine mv_callP (st2 := [mv_I 0]) rfl (Or.inr rfl) rfl rfl rfl (sp_min_f ha9) (by first | decide | omega) ?_
          refine mv_go' 1 (pc' := if 0 = 0 then 326 else 228) (ls' := [mv_R 100, mv_I x, mv_U]) (st' := []) (M1 := (mv_st (mv_st (mv_st M 100 (mv_up (M 100) 22 (q : Int))) 100 (mv_up (mv_up (M 100) 22 (q : Int)) 23 0)) 100 (mv_up (mv_up (mv_up (M 100) 22 (q : Int)) 23 0) 24 0))) rfl ?_
          refine mv_tt' (by first | decide | omega) ?_
          refine mv_go' 3 (pc' := if x = 40 then 374 else 332) (ls' := [mv_R 100, mv_I x, mv_U]) (st' := []) (M1 := (mv_st (mv_st (mv_st M 100 (mv_up (M 100) 22 (q : Int))) 100 (mv_up (mv_up (M 100) 22 (q : Int)) 23 0)) 100 (mv_up (mv_up (mv_up (M 100) 22 (q : Int)) 23 0) 24 0))) rfl ?_
          refine mv_sp' (fun ha10 => ?_) (fun ha10 => ?_)
          · refine mv_go' 6 (pc' := if 1 = 0 then 389 else 385) (ls' := [mv_R 100, mv_I x, mv_I 1]) (st' := [mv_R 100]) (M1 := (mv_st (mv_st (mv_st M 100 (mv_up (M 100) 22 (q : Int))) 100 (mv_up (mv_up (M 100) 22 (q : Int)) 23 0)) 100 (mv_up (mv_up (mv_up (M 100) 22 (q : Int)) 23 0) 24 0))) rfl ?_
            refine mv_ff' (by first | decide | omega) ?_
            refine mv_go' 6 (pc' := 398) (ls' := [mv_R 100, mv_I x, mv_I 1]) (st' := [mv_I (M 100 21), mv_R 100]) (M1 := (mv_st (mv_st (mv_st (mv_st M 100 (mv_up (M 100) 22 (q : Int))) 100 (mv_up (mv_up (M 100) 22 (q : Int)) 23 0)) 100 (mv_up (mv_up (mv_up (M 100) 22 (q : Int)) 23 0) 24 0)) 100 (mv_up (mv_up (mv_up (mv_up (M 100) 22 (q : Int)) 23 0) 24 0) 23 x))) rfl ?_
            rw [show M 100 21 = (q : Int) from by exact q3']
            refine mv_go' 3 (pc' := 403) (ls' := [mv_R 100, mv_I x, mv_I 1]) (st' := []) (M1 := (mv_st (mv_st (mv_st (mv_st (mv_st M 100 (mv_up (M 100) 22 (q : Int))) 100 (mv_up (mv_up (M 100) 22 (q : Int)) 23 0)) 100 (mv_up (mv_up (mv_up (M 100) 22 (q : Int)) 23 0) 24 0)) 100 (mv_up (mv_up (mv_up (mv_up (M 100) 22 (q : Int)) 23 0) 24 0) 23 x)) 100 (mv_up (mv_up (mv_up (mv_up (mv_up (M 100) 22 (q : Int)) 23 0) 24 0) 23 x) 21 (mv_w ((q : Int) + 1))))) rfl ?_
            rw [show mv_w ((q : Int) + 1) = (q : Int) + 1 from mv_w_id (by omega) (by omega)]
            refine mv_ret (fun n => rfl) ⟨?_, fun j hj => (mv_up_n _ _ hj.1).trans ((mv_up_n _ _ hj.2.2.1).trans ((mv_up_n _ _ hj.2.2.2).trans ((mv_up_n _ _ hj.2.2.1).trans ((mv_up_n _ _ hj.2.1).trans (q2 j hj.1))))), ?_, rfl, fun _ => ?_, fun z => by omega, fun z => by omega⟩
            · repeat (first | exact q1 | refine mv_ag.st ?_ (by decide))
            · show x = _
              unfold tk_M
              repeat (first | omega | split)
            · show (q : Int) + 1 = _
              omega
          · refine mv_go' 3 (pc' := if x = 41 then 374 else 338) (ls' := [mv_R 100, mv_I x, mv_U]) (st' := []) (M1 := (mv_st (mv_st (mv_st M 100 (mv_up (M 100) 22 (q : Int))) 100 (mv_up (mv_up (M 100) 22 (q : Int)) 23 0)) 100 (mv_up (mv_up (mv_up (M 100) 22 (q : Int)) 23 0) 24 0))) rfl ?_
            refine mv_sp' (fun ha11 => ?_) (fun ha11 => ?_)
            · refine mv_go' 6 (pc' := if 1 = 0 then 389 else 385) (ls' := [mv_R 100, mv_I x, mv_I 1]) (st' := [mv_R 100]) (M1 := (mv_st (mv_st (mv_st M 100 (mv_up (M 100) 22 (q : Int))) 100 (mv_up (mv_up (M 100) 22 (q : Int)) 23 0)) 100 (mv_up (mv_up (mv_up (M 100) 22 (q : Int)) 23 0) 24 0))) rfl ?_
              refine mv_ff' (by first | decide | omega) ?_
              refine mv_go' 6 (pc' := 398) (ls' := [mv_R 100, mv_I x, mv_I 1]) (st' := [mv_I (M 100 21), mv_R 100]) (M1 := (mv_st (mv_st (mv_st (mv_st M 100 (mv_up (M 100) 22 (q : Int))) 100 (mv_up (mv_up (M 100) 22 (q : Int)) 23 0)) 100 (mv_up (mv_up (mv_up (M 100) 22 (q : Int)) 23 0) 24 0)) 100 (mv_up (mv_up (mv_up (mv_up (M 100) 22 (q : Int)) 23 0) 24 0) 23 x))) rfl ?_
              rw [show M 100 21 = (q : Int) from by exact q3']
              refine mv_go' 3 (pc' := 403) (ls' := [mv_R 100, mv_I x, mv_I 1]) (st' := []) (M1 := (mv_st (mv_st (mv_st (mv_st (mv_st M 100 (mv_up (M 100) 22 (q : Int))) 100 (mv_up (mv_up (M 100) 22 (q : Int)) 23 0)) 100 (mv_up (mv_up (mv_up (M 100) 22 (q : Int)) 23 0) 24 0)) 100 (mv_up (mv_up (mv_up (mv_up (M 100) 22 (q : Int)) 23 0) 24 0) 23 x)) 100 (mv_up (mv_up (mv_up (mv_up (mv_up (M 100) 22 (q : Int)) 23 0) 24 0) 23 x) 21 (mv_w ((q : Int) + 1))))) rfl ?_
              rw [show mv_w ((q : Int) + 1) = (q : Int) + 1 from mv_w_id (by omega) (by omega)]
              refine mv_ret (fun n => rfl) ⟨?_, fun j hj => (mv_up_n _ _ hj.1).trans ((mv_up_n _ _ hj.2.2.1).trans ((mv_up_n _ _ hj.2.2.2).trans ((mv_up_n _ _ hj.2.2.1).trans ((mv_up_n _ _ hj.2.1).trans (q2 j hj.1))))), ?_, rfl, fun _ => ?_, fun z => by omega, fun z => by omega⟩
              · repeat (first | exact q1 | refine mv_ag.st ?_ (by decide))
              · show x = _
                unfold tk_M
                repeat (first | omega | split)
              · show (q : Int) + 1 = _
                omega
            · refine mv_go' 3 (pc' := if x = 59 then 374 else 344) (ls' := [mv_R 100, mv_I x, mv_U]) (st' := []) (M1 := (mv_st (mv_st (mv_st M 100 (mv_up (M 100) 22 (q : Int))) 100 (mv_up (mv_up (M 100) 22 (q : Int)) 23 0)) 100 (mv_up (mv_up (mv_up (M 100) 22 (q : Int)) 23 0) 24 0))) rfl ?_
              refine mv_sp' (fun ha12 => ?_) (fun ha12 => ?_)
              · refine mv_go' 6 (pc' := if 1 = 0 then 389 else 385) (ls' := [mv_R 100, mv_I x, mv_I 1]) (st' := [mv_R 100]) (M1 := (mv_st (mv_st (mv_st M 100 (mv_up (M 100) 22 (q : Int))) 100 (mv_up (mv_up (M 100) 22 (q : Int)) 23 0)) 100 (mv_up (mv_up (mv_up (M 100) 22 (q : Int)) 23 0) 24 0))) rfl ?_
                refine mv_ff' (by first | decide | omega) ?_
                refine mv_go' 6 (pc' := 398) (ls' := [mv_R 100, mv_I x, mv_I 1]) (st' := [mv_I (M 100 21), mv_R 100]) (M1 := (mv_st (mv_st (mv_st (mv_st M 100 (mv_up (M 100) 22 (q : Int))) 100 (mv_up (mv_up (M 100) 22 (q : Int)) 23 0)) 100 (mv_up (mv_up (mv_up (M 100) 22 (q : Int)) 23 0) 24 0)) 100 (mv_up (mv_up (mv_up (mv_up (M 100) 22 (q : Int)) 23 0) 24 0) 23 x))) rfl ?_
                rw [show M 100 21 = (q : Int) from by exact q3']
                refine mv_go' 3 (pc' := 403) (ls' := [mv_R 100, mv_I x, mv_I 1]) (st' := []) (M1 := (mv_st (mv_st (mv_st (mv_st (mv_st M 100 (mv_up (M 100) 22 (q : Int))) 100 (mv_up (mv_up (M 100) 22 (q : Int)) 23 0)) 100 (mv_up (mv_up (mv_up (M 100) 22 (q : Int)) 23 0) 24 0)) 100 (mv_up (mv_up (mv_up (mv_up (M 100) 22 (q : Int)) 23 0) 24 0) 23 x)) 100 (mv_up (mv_up (mv_up (mv_up (mv_up (M 100) 22 (q : Int)) 23 0) 24 0) 23 x) 21 (mv_w ((q : Int) + 1))))) rfl ?_
                rw [show mv_w ((q : Int) + 1) = (q : Int) + 1 from mv_w_id (by omega) (by omega)]
                refine mv_ret (fun n => rfl) ⟨?_, fun j hj => (mv_up_n _ _ hj.1).trans ((mv_up_n _ _ hj.2.2.1).trans ((mv_up_n _ _ hj.2.2.2).trans ((mv_up_n _ _ hj.2.2.1).trans ((mv_up_n _ _ hj.2.1).trans (q2 j hj.1))))), ?_, rfl, fun _ => ?_, fun z => by omega, fun z => by omega⟩
                · repeat (first | exact q1 | refine mv_ag.st ?_ (by decide))
                · show x = _
                  unfold tk_M
                  repeat (first | omega | split)
                · show (q : Int) + 1 = _
                  omega
              · refine mv_go' 3 (pc' := if x = 43 then 374 else 350) (ls' := [mv_R 100, mv_I x, mv_U]) (st' := []) (M1 := (mv_st (mv_st (mv_st M 100 (mv_up (M 100) 22 (q : Int))) 100 (mv_up (mv_up (M 100) 22 (q : Int)) 23 0)) 100 (mv_up (mv_up (mv_up (M 100) 22 (q : Int)) 23 0) 24 0))) rfl ?_
                refine mv_sp' (fun ha13 => ?_) (fun ha13 => ?_)
                · refine mv_go' 6 (pc' := if 1 = 0 then 389 else 385) (ls' := [mv_R 100, mv_I x, mv_I 1]) (st' := [mv_R 100]) (M1 := (mv_st (mv_st (mv_st M 100 (mv_up (M 100) 22 (q : Int))) 100 (mv_up (mv_up (M 100) 22 (q : Int)) 23 0)) 100 (mv_up (mv_up (mv_up (M 100) 22 (q : Int)) 23 0) 24 0))) rfl ?_
                  refine mv_ff' (by first | decide | omega) ?_
                  refine mv_go' 6 (pc' := 398) (ls' := [mv_R 100, mv_I x, mv_I 1]) (st' := [mv_I (M 100 21), mv_R 100]) (M1 := (mv_st (mv_st (mv_st (mv_st M 100 (mv_up (M 100) 22 (q : Int))) 100 (mv_up (mv_up (M 100) 22 (q : Int)) 23 0)) 100 (mv_up (mv_up (mv_up (M 100) 22 (q : Int)) 23 0) 24 0)) 100 (mv_up (mv_up (mv_up (mv_up (M 100) 22 (q : Int)) 23 0) 24 0) 23 x))) rfl ?_
                  rw [show M 100 21 = (q : Int) from by exact q3']
                  refine mv_go' 3 (pc' := 403) (ls' := [mv_R 100, mv_I x, mv_I 1]) (st' := []) (M1 := (mv_st (mv_st (mv_st (mv_st (mv_st M 100 (mv_up (M 100) 22 (q : Int))) 100 (mv_up (mv_up (M 100) 22 (q : Int)) 23 0)) 100 (mv_up (mv_up (mv_up (M 100) 22 (q : Int)) 23 0) 24 0)) 100 (mv_up (mv_up (mv_up (mv_up (M 100) 22 (q : Int)) 23 0) 24 0) 23 x)) 100 (mv_up (mv_up (mv_up (mv_up (mv_up (M 100) 22 (q : Int)) 23 0) 24 0) 23 x) 21 (mv_w ((q : Int) + 1))))) rfl ?_
                  rw [show mv_w ((q : Int) + 1) = (q : Int) + 1 from mv_w_id (by omega) (by omega)]
                  refine mv_ret (fun n => rfl) ⟨?_, fun j hj => (mv_up_n _ _ hj.1).trans ((mv_up_n _ _ hj.2.2.1).trans ((mv_up_n _ _ hj.2.2.2).trans ((mv_up_n _ _ hj.2.2.1).trans ((mv_up_n _ _ hj.2.1).trans (q2 j hj.1))))), ?_, rfl, fun _ => ?_, fun z => by omega, fun z => by omega⟩
                  · repeat (first | exact q1 | refine mv_ag.st ?_ (by decide))
                  · show x = _
                    unfold tk_M
                    repeat (first | omega | split)
                  · show (q : Int) + 1 = _
                    omega
                · refine mv_go' 3 (pc' := if x = 45 then 374 else 356) (ls' := [mv_R 100, mv_I x, mv_U]) (st' := []) (M1 := (mv_st (mv_st (mv_st M 100 (mv_up (M 100) 22 (q : Int))) 100 (mv_up (mv_up (M 100) 22 (q : Int)) 23 0)) 100 (mv_up (mv_up (mv_up (M 100) 22 (q : Int)) 23 0) 24 0))) rfl ?_
                  refine mv_sp' (fun ha14 => ?_) (fun ha14 => ?_)
                  · refine mv_go' 6 (pc' := if 1 = 0 then 389 else 385) (ls' := [mv_R 100, mv_I x, mv_I 1]) (st' := [mv_R 100]) (M1 := (mv_st (mv_st (mv_st M 100 (mv_up (M 100) 22 (q : Int))) 100 (mv_up (mv_up (M 100) 22 (q : Int)) 23 0)) 100 (mv_up (mv_up (mv_up (M 100) 22 (q : Int)) 23 0) 24 0))) rfl ?_
                    refine mv_ff' (by first | decide | omega) ?_
                    refine mv_go' 6 (pc' := 398) (ls' := [mv_R 100, mv_I x, mv_I 1]) (st' := [mv_I (M 100 21), mv_R 100]) (M1 := (mv_st (mv_st (mv_st (mv_st M 100 (mv_up (M 100) 22 (q : Int))) 100 (mv_up (mv_up (M 100) 22 (q : Int)) 23 0)) 100 (mv_up (mv_up (mv_up (M 100) 22 (q : Int)) 23 0) 24 0)) 100 (mv_up (mv_up (mv_up (mv_up (M 100) 22 (q : Int)) 23 0) 24 0) 23 x))) rfl ?_
                    rw [show M 100 21 = (q : Int) from by exact q3']
                    refine mv_go' 3 (pc' := 403) (ls' := [mv_R 100, mv_I x, mv_I 1]) (st' := []) (M1 := (mv_st (mv_st (mv_st (mv_st (mv_st M 100 (mv_up (M 100) 22 (q : Int))) 100 (mv_up (mv_up (M 100) 22 (q : Int)) 23 0)) 100 (mv_up (mv_up (mv_up (M 100) 22 (q : Int)) 23 0) 24 0)) 100 (mv_up (mv_up (mv_up (mv_up (M 100) 22 (q : Int)) 23 0) 24 0) 23 x)) 100 (mv_up (mv_up (mv_up (mv_up (mv_up (M 100) 22 (q : Int)) 23 0) 24 0) 23 x) 21 (mv_w ((q : Int) + 1))))) rfl ?_
                    rw [show mv_w ((q : Int) + 1) = (q : Int) + 1 from mv_w_id (by omega) (by omega)]
                    refine mv_ret (fun n => rfl) ⟨?_, fun j hj => (mv_up_n _ _ hj.1).trans ((mv_up_n _ _ hj.2.2.1).trans ((mv_up_n _ _ hj.2.2.2).trans ((mv_up_n _ _ hj.2.2.1).trans ((mv_up_n _ _ hj.2.1).trans (q2 j hj.1))))), ?_, rfl, fun _ => ?_, fun z => by omega, fun z => by omega⟩
                    · repeat (first | exact q1 | refine mv_ag.st ?_ (by decide))
                    · show x = _
                      unfold tk_M
                      repeat (first | omega | split)
                    · show (q : Int) + 1 = _
                      omega
                  · refine mv_go' 3 (pc' := if x = 42 then 374 else 362) (ls' := [mv_R 100, mv_I x, mv_U]) (st' := []) (M1 := (mv_st (mv_st (mv_st M 100 (mv_up (M 100) 22 (q : Int))) 100 (mv_up (mv_up (M 100) 22 (q : Int)) 23 0)) 100 (mv_up (mv_up (mv_up (M 100) 22 (q : Int)) 23 0) 24 0))) rfl ?_
                    refine mv_sp' (fun ha15 => ?_) (fun ha15 => ?_)
                    · refine mv_go' 6 (pc' := if 1 = 0 then 389 else 385) (ls' := [mv_R 100, mv_I x, mv_I 1]) (st' := [mv_R 100]) (M1 := (mv_st (mv_st (mv_st M 100 (mv_up (M 100) 22 (q : Int))) 100 (mv_up (mv_up (M 100) 22 (q : Int)) 23 0)) 100 (mv_up (mv_up (mv_up (M 100) 22 (q : Int)) 23 0) 24 0))) rfl ?_
                      refine mv_ff' (by first | decide | omega) ?_
                      refine mv_go' 6 (pc' := 398) (ls' := [mv_R 100, mv_I x, mv_I 1]) (st' := [mv_I (M 100 21), mv_R 100]) (M1 := (mv_st (mv_st (mv_st (mv_st M 100 (mv_up (M 100) 22 (q : Int))) 100 (mv_up (mv_up (M 100) 22 (q : Int)) 23 0)) 100 (mv_up (mv_up (mv_up (M 100) 22 (q : Int)) 23 0) 24 0)) 100 (mv_up (mv_up (mv_up (mv_up (M 100) 22 (q : Int)) 23 0) 24 0) 23 x))) rfl ?_
                      rw [show M 100 21 = (q : Int) from by exact q3']
                      refine mv_go' 3 (pc' := 403) (ls' := [mv_R 100, mv_I x, mv_I 1]) (st' := []) (M1 := (mv_st (mv_st (mv_st (mv_st (mv_st M 100 (mv_up (M 100) 22 (q : Int))) 100 (mv_up (mv_up (M 100) 22 (q : Int)) 23 0)) 100 (mv_up (mv_up (mv_up (M 100) 22 (q : Int)) 23 0) 24 0)) 100 (mv_up (mv_up (mv_up (mv_up (M 100) 22 (q : Int)) 23 0) 24 0) 23 x)) 100 (mv_up (mv_up (mv_up (mv_up (mv_up (M 100) 22 (q : Int)) 23 0) 24 0) 23 x) 21 (mv_w ((q : Int) + 1))))) rfl ?_
                      rw [show mv_w ((q : Int) + 1) = (q : Int) + 1 from mv_w_id (by omega) (by omega)]
                      refine mv_ret (fun n => rfl) ⟨?_, fun j hj => (mv_up_n _ _ hj.1).trans ((mv_up_n _ _ hj.2.2.1).trans ((mv_up_n _ _ hj.2.2.2).trans ((mv_up_n _ _ hj.2.2.1).trans ((mv_up_n _ _ hj.2.1).trans (q2 j hj.1))))), ?_, rfl, fun _ => ?_, fun z => by omega, fun z => by omega⟩
                      · repeat (first | exact q1 | refine mv_ag.st ?_ (by decide))
                      · show x = _
                        unfold tk_M
                        repeat (first | omega | split)
                      · show (q : Int) + 1 = _
                        omega
                    · refine mv_go' 3 (pc' := if x = 60 then 374 else 368) (ls' := [mv_R 100, mv_I x, mv_U]) (st' := []) (M1 := (mv_st (mv_st (mv_st M 100 (mv_up (M 100) 22 (q : Int))) 100 (mv_up (mv_up (M 100) 22 (q : Int)) 23 0)) 100 (mv_up (mv_up (mv_up (M 100) 22 (q : Int)) 23 0) 24 0))) rfl ?_
                      refine mv_sp' (fun ha16 => ?_) (fun ha16 => ?_)
                      · refine mv_go' 6 (pc' := if 1 = 0 then 389 else 385) (ls' := [mv_R 100, mv_I x, mv_I 1]) (st' := [mv_R 100]) (M1 := (mv_st (mv_st (mv_st M 100 (mv_up (M 100) 22 (q : Int))) 100 (mv_up (mv_up (M 100) 22 (q : Int)) 23 0)) 100 (mv_up (mv_up (mv_up (M 100) 22 (q : Int)) 23 0) 24 0))) rfl ?_
                        refine mv_ff' (by first | decide | omega) ?_
                        refine mv_go' 6 (pc' := 398) (ls' := [mv_R 100, mv_I x, mv_I 1]) (st' := [mv_I (M 100 21), mv_R 100]) (M1 := (mv_st (mv_st (mv_st (mv_st M 100 (mv_up (M 100) 22 (q : Int))) 100 (mv_up (mv_up (M 100) 22 (q : Int)) 23 0)) 100 (mv_up (mv_up (mv_up (M 100) 22 (q : Int)) 23 0) 24 0)) 100 (mv_up (mv_up (mv_up (mv_up (M 100) 22 (q : Int)) 23 0) 24 0) 23 x))) rfl ?_
                        rw [show M 100 21 = (q : Int) from by exact q3']
                        refine mv_go' 3 (pc' := 403) (ls' := [mv_R 100, mv_I x, mv_I 1]) (st' := []) (M1 := (mv_st (mv_st (mv_st (mv_st (mv_st M 100 (mv_up (M 100) 22 (q : Int))) 100 (mv_up (mv_up (M 100) 22 (q : Int)) 23 0)) 100 (mv_up (mv_up (mv_up (M 100) 22 (q : Int)) 23 0) 24 0)) 100 (mv_up (mv_up (mv_up (mv_up (M 100) 22 (q : Int)) 23 0) 24 0) 23 x)) 100 (mv_up (mv_up (mv_up (mv_up (mv_up (M 100) 22 (q : Int)) 23 0) 24 0) 23 x) 21 (mv_w ((q : Int) + 1))))) rfl ?_
                        rw [show mv_w ((q : Int) + 1) = (q : Int) + 1 from mv_w_id (by omega) (by omega)]
                        refine mv_ret (fun n => rfl) ⟨?_, fun j hj => (mv_up_n _ _ hj.1).trans ((mv_up_n _ _ hj.2.2.1).trans ((mv_up_n _ _ hj.2.2.2).trans ((mv_up_n _ _ hj.2.2.1).trans ((mv_up_n _ _ hj.2.1).trans (q2 j hj.1))))), ?_, rfl, fun _ => ?_, fun z => by omega, fun z => by omega⟩
                        · repeat (first | exact q1 | refine mv_ag.st ?_ (by decide))
                        · show x = _
                          unfold tk_M
                          repeat (first | omega | split)
                        · show (q : Int) + 1 = _
                          omega
                      · refine mv_go' 3 (pc' := if x = 61 then 374 else 378) (ls' := [mv_R 100, mv_I x, mv_U]) (st' := []) (M1 := (mv_st (mv_st (mv_st M 100 (mv_up (M 100) 22 (q : Int))) 100 (mv_up (mv_up (M 100) 22 (q : Int)) 23 0)) 100 (mv_up (mv_up (mv_up (M 100) 22 (q : Int)) 23 0) 24 0))) rfl ?_
                        refine mv_tt' (by omega) ?_
                        refine mv_go' 6 (pc' := if 1 = 0 then 389 else 385) (ls' := [mv_R 100, mv_I x, mv_I 1]) (st' := [mv_R 100]) (M1 := (mv_st (mv_st (mv_st M 100 (mv_up (M 100) 22 (q : Int))) 100 (mv_up (mv_up (M 100) 22 (q : Int)) 23 0)) 100 (mv_up (mv_up (mv_up (M 100) 22 (q : Int)) 23 0) 24 0))) rfl ?_
                        refine mv_ff' (by first | decide | omega) ?_
                        refine mv_go' 6 (pc' := 398) (ls' := [mv_R 100, mv_I x, mv_I 1]) (st' := [mv_I (M 100 21), mv_R 100]) (M1 := (mv_st (mv_st (mv_st (mv_st M 100 (mv_up (M 100) 22 (q : Int))) 100 (mv_up (mv_up (M 100) 22 (q : Int)) 23 0)) 100 (mv_up (mv_up (mv_up (M 100) 22 (q : Int)) 23 0) 24 0)) 100 (mv_up (mv_up (mv_up (mv_up (M 100) 22 (q : Int)) 23 0) 24 0) 23 x))) rfl ?_
                        rw [show M 100 21 = (q : Int) from by exact q3']
                        refine mv_go' 3 (pc' := 403) (ls' := [mv_R 100, mv_I x, mv_I 1]) (st' := []) (M1 := (mv_st (mv_st (mv_st (mv_st (mv_st M 100 (mv_up (M 100) 22 (q : Int))) 100 (mv_up (mv_up (M 100) 22 (q : Int)) 23 0)) 100 (mv_up (mv_up (mv_up (M 100) 22 (q : Int)) 23 0) 24 0)) 100 (mv_up (mv_up (mv_up (mv_up (M 100) 22 (q : Int)) 23 0) 24 0) 23 x)) 100 (mv_up (mv_up (mv_up (mv_up (mv_up (M 100) 22 (q : Int)) 23 0) 24 0) 23 x) 21 (mv_w ((q : Int) + 1))))) rfl ?_
                        rw [show mv_w ((q : Int) + 1) = (q : Int) + 1 from mv_w_id (by omega) (by omega)]
                        refine mv_ret (fun n => rfl) ⟨?_, fun j hj => (mv_up_n _ _ hj.1).trans ((mv_up_n _ _ hj.2.2.1).trans ((mv_up_n _ _ hj.2.2.2).trans ((mv_up_n _ _ hj.2.2.1).trans ((mv_up_n _ _ hj.2.1).trans (q2 j hj.1))))), ?_, rfl, fun _ => ?_, fun z => by omega, fun z => by omega⟩
                        · repeat (first | exact q1 | refine mv_ag.st ?_ (by decide))
                        · show x = _
                          unfold tk_M
                          repeat (first | omega | split)
                        · show (q : Int) + 1 = _
                          omega
        · have hxg : ¬ (x = 40 ∨ x = 41 ∨ x = 59 ∨ x = 43 ∨ x = 45 ∨ x = 42 ∨ x = 60 ∨ x = 61) := fun z => cg (sp_isG_t.2 z)
          rw [if_neg cg]
          refine mv_go' 3 (pc' := 57) (ls' := [mv_R 100, mv_U, mv_U]) (st' := [mv_I (M 100 21), mv_R 100]) (M1 := M) rfl ?_
          rw [show M 100 21 = (q : Int) from by exact q3']
          refine mv_go' 9 (pc' := 74) (ls' := [mv_R 100, mv_U, mv_U]) (st' := [mv_I (M 100 21)]) (M1 := (mv_st (mv_st (mv_st M 100 (mv_up (M 100) 22 (q : Int))) 100 (mv_up (mv_up (M 100) 22 (q : Int)) 23 0)) 100 (mv_up (mv_up (mv_up (M 100) 22 (q : Int)) 23 0) 24 0))) rfl ?_
          rw [show M 100 21 = (q : Int) from by exact q3']
          refine mv_go' 2 (pc' := 78) (ls' := [mv_R 100, mv_U, mv_U]) (st' := [mv_I (M 100 9), mv_I (q : Int)]) (M1 := (mv_st (mv_st (mv_st M 100 (mv_up (M 100) 22 (q : Int))) 100 (mv_up (mv_up (M 100) 22 (q : Int)) 23 0)) 100 (mv_up (mv_up (mv_up (M 100) 22 (q : Int)) 23 0) 24 0))) rfl ?_
          rw [show M 100 9 = (t : Int) from by exact e1]
          refine mv_go' 1 (pc' := if (q : Int) = (t : Int) then 81 else 82) (ls' := [mv_R 100, mv_U, mv_U]) (st' := []) (M1 := (mv_st (mv_st (mv_st M 100 (mv_up (M 100) 22 (q : Int))) 100 (mv_up (mv_up (M 100) 22 (q : Int)) 23 0)) 100 (mv_up (mv_up (mv_up (M 100) 22 (q : Int)) 23 0) 24 0))) rfl ?_
          refine mv_ff' (by omega) ?_
          refine mv_go' 4 (pc' := 90) (ls' := [mv_R 100, mv_U, mv_U]) (st' := [mv_I (M 100 21), mv_R 108]) (M1 := (mv_st (mv_st (mv_st M 100 (mv_up (M 100) 22 (q : Int))) 100 (mv_up (mv_up (M 100) 22 (q : Int)) 23 0)) 100 (mv_up (mv_up (mv_up (M 100) 22 (q : Int)) 23 0) 24 0))) rfl ?_
          rw [show M 100 21 = (q : Int) from by exact q3']
          refine mv_go' 1 (pc' := if 0 ≤ (q : Int) ∧ (q : Int) < 160 then 91 else mv_bad) (ls' := [mv_R 100, mv_U, mv_U]) (st' := [mv_I (M 108 q)]) (M1 := (mv_st (mv_st (mv_st M 100 (mv_up (M 100) 22 (q : Int))) 100 (mv_up (mv_up (M 100) 22 (q : Int)) 23 0)) 100 (mv_up (mv_up (mv_up (M 100) 22 (q : Int)) 23 0) 24 0))) rfl ?_
          refine mv_tt' (by omega) ?_
          rw [show M 108 q = x from by exact ex]
          refine mv_go' 4 (pc' := 97) (ls' := [mv_R 100, mv_I x, mv_U]) (st' := [mv_I 122, mv_I 97, mv_I x]) (M1 := (mv_st (mv_st (mv_st M 100 (mv_up (M 100) 22 (q : Int))) 100 (mv_up (mv_up (M 100) 22 (q : Int)) 23 0)) 100 (mv_up (mv_up (mv_up (M 100) 22 (q : Int)) 23 0) 24 0))) rfl ?_
          have ha17 : ¬ ((97 : Int) ≤ x ∧ x ≤ (122 : Int)) := by omega
          refine mv_callP (st2 := [mv_I 0]) rfl (Or.inr rfl) rfl rfl rfl (sp_min_f ha17) (by first | decide | omega) ?_
          refine mv_go' 1 (pc' := if 0 = 0 then 217 else 103) (ls' := [mv_R 100, mv_I x, mv_U]) (st' := []) (M1 := (mv_st (mv_st (mv_st M 100 (mv_up (M 100) 22 (q : Int))) 100 (mv_up (mv_up (M 100) 22 (q : Int)) 23 0)) 100 (mv_up (mv_up (mv_up (M 100) 22 (q : Int)) 23 0) 24 0))) rfl ?_
          refine mv_tt' (by first | decide | omega) ?_
          refine mv_go' 3 (pc' := 222) (ls' := [mv_R 100, mv_I x, mv_U]) (st' := [mv_I 57, mv_I 48, mv_I x]) (M1 := (mv_st (mv_st (mv_st M 100 (mv_up (M 100) 22 (q : Int))) 100 (mv_up (mv_up (M 100) 22 (q : Int)) 23 0)) 100 (mv_up (mv_up (mv_up (M 100) 22 (q : Int)) 23 0) 24 0))) rfl ?_
          have ha18 : ¬ ((48 : Int) ≤ x ∧ x ≤ (57 : Int)) := by omega
          refine mv_callP (st2 := [mv_I 0]) rfl (Or.inr rfl) rfl rfl rfl (sp_min_f ha18) (by first | decide | omega) ?_
          refine mv_go' 1 (pc' := if 0 = 0 then 326 else 228) (ls' := [mv_R 100, mv_I x, mv_U]) (st' := []) (M1 := (mv_st (mv_st (mv_st M 100 (mv_up (M 100) 22 (q : Int))) 100 (mv_up (mv_up (M 100) 22 (q : Int)) 23 0)) 100 (mv_up (mv_up (mv_up (M 100) 22 (q : Int)) 23 0) 24 0))) rfl ?_
          refine mv_tt' (by first | decide | omega) ?_
          refine mv_go' 3 (pc' := if x = 40 then 374 else 332) (ls' := [mv_R 100, mv_I x, mv_U]) (st' := []) (M1 := (mv_st (mv_st (mv_st M 100 (mv_up (M 100) 22 (q : Int))) 100 (mv_up (mv_up (M 100) 22 (q : Int)) 23 0)) 100 (mv_up (mv_up (mv_up (M 100) 22 (q : Int)) 23 0) 24 0))) rfl ?_
          refine mv_ff' (by omega) ?_
          refine mv_go' 3 (pc' := if x = 41 then 374 else 338) (ls' := [mv_R 100, mv_I x, mv_U]) (st' := []) (M1 := (mv_st (mv_st (mv_st M 100 (mv_up (M 100) 22 (q : Int))) 100 (mv_up (mv_up (M 100) 22 (q : Int)) 23 0)) 100 (mv_up (mv_up (mv_up (M 100) 22 (q : Int)) 23 0) 24 0))) rfl ?_
          refine mv_ff' (by omega) ?_
          refine mv_go' 3 (pc' := if x = 59 then 374 else 344) (ls' := [mv_R 100, mv_I x, mv_U]) (st' := []) (M1 := (mv_st (mv_st (mv_st M 100 (mv_up (M 100) 22 (q : Int))) 100 (mv_up (mv_up (M 100) 22 (q : Int)) 23 0)) 100 (mv_up (mv_up (mv_up (M 100) 22 (q : Int)) 23 0) 24 0))) rfl ?_
          refine mv_ff' (by omega) ?_
          refine mv_go' 3 (pc' := if x = 43 then 374 else 350) (ls' := [mv_R 100, mv_I x, mv_U]) (st' := []) (M1 := (mv_st (mv_st (mv_st M 100 (mv_up (M 100) 22 (q : Int))) 100 (mv_up (mv_up (M 100) 22 (q : Int)) 23 0)) 100 (mv_up (mv_up (mv_up (M 100) 22 (q : Int)) 23 0) 24 0))) rfl ?_
          refine mv_ff' (by omega) ?_
          refine mv_go' 3 (pc' := if x = 45 then 374 else 356) (ls' := [mv_R 100, mv_I x, mv_U]) (st' := []) (M1 := (mv_st (mv_st (mv_st M 100 (mv_up (M 100) 22 (q : Int))) 100 (mv_up (mv_up (M 100) 22 (q : Int)) 23 0)) 100 (mv_up (mv_up (mv_up (M 100) 22 (q : Int)) 23 0) 24 0))) rfl ?_
          refine mv_ff' (by omega) ?_
          refine mv_go' 3 (pc' := if x = 42 then 374 else 362) (ls' := [mv_R 100, mv_I x, mv_U]) (st' := []) (M1 := (mv_st (mv_st (mv_st M 100 (mv_up (M 100) 22 (q : Int))) 100 (mv_up (mv_up (M 100) 22 (q : Int)) 23 0)) 100 (mv_up (mv_up (mv_up (M 100) 22 (q : Int)) 23 0) 24 0))) rfl ?_
          refine mv_ff' (by omega) ?_
          refine mv_go' 3 (pc' := if x = 60 then 374 else 368) (ls' := [mv_R 100, mv_I x, mv_U]) (st' := []) (M1 := (mv_st (mv_st (mv_st M 100 (mv_up (M 100) 22 (q : Int))) 100 (mv_up (mv_up (M 100) 22 (q : Int)) 23 0)) 100 (mv_up (mv_up (mv_up (M 100) 22 (q : Int)) 23 0) 24 0))) rfl ?_
          refine mv_ff' (by omega) ?_
          refine mv_go' 3 (pc' := if x = 61 then 374 else 378) (ls' := [mv_R 100, mv_I x, mv_U]) (st' := []) (M1 := (mv_st (mv_st (mv_st M 100 (mv_up (M 100) 22 (q : Int))) 100 (mv_up (mv_up (M 100) 22 (q : Int)) 23 0)) 100 (mv_up (mv_up (mv_up (M 100) 22 (q : Int)) 23 0) 24 0))) rfl ?_
          refine mv_ff' (by omega) ?_
          refine mv_go' 5 (pc' := if 0 = 0 then 389 else 385) (ls' := [mv_R 100, mv_I x, mv_I 0]) (st' := [mv_R 100]) (M1 := (mv_st (mv_st (mv_st M 100 (mv_up (M 100) 22 (q : Int))) 100 (mv_up (mv_up (M 100) 22 (q : Int)) 23 0)) 100 (mv_up (mv_up (mv_up (M 100) 22 (q : Int)) 23 0) 24 0))) rfl ?_
          refine mv_tt' (by first | decide | omega) ?_
          refine mv_go' 5 (pc' := 398) (ls' := [mv_R 100, mv_I x, mv_I 0]) (st' := [mv_I (M 100 21), mv_R 100]) (M1 := (mv_st (mv_st (mv_st (mv_st M 100 (mv_up (M 100) 22 (q : Int))) 100 (mv_up (mv_up (M 100) 22 (q : Int)) 23 0)) 100 (mv_up (mv_up (mv_up (M 100) 22 (q : Int)) 23 0) 24 0)) 100 (mv_up (mv_up (mv_up (mv_up (M 100) 22 (q : Int)) 23 0) 24 0) 23 (-1)))) rfl ?_
          rw [show M 100 21 = (q : Int) from by exact q3']
          refine mv_go' 3 (pc' := 403) (ls' := [mv_R 100, mv_I x, mv_I 0]) (st' := []) (M1 := (mv_st (mv_st (mv_st (mv_st (mv_st M 100 (mv_up (M 100) 22 (q : Int))) 100 (mv_up (mv_up (M 100) 22 (q : Int)) 23 0)) 100 (mv_up (mv_up (mv_up (M 100) 22 (q : Int)) 23 0) 24 0)) 100 (mv_up (mv_up (mv_up (mv_up (M 100) 22 (q : Int)) 23 0) 24 0) 23 (-1))) 100 (mv_up (mv_up (mv_up (mv_up (mv_up (M 100) 22 (q : Int)) 23 0) 24 0) 23 (-1)) 21 (mv_w ((q : Int) + 1))))) rfl ?_
          rw [show mv_w ((q : Int) + 1) = (q : Int) + 1 from mv_w_id (by omega) (by omega)]
          refine mv_ret (fun n => rfl) ⟨?_, fun j hj => (mv_up_n _ _ hj.1).trans ((mv_up_n _ _ hj.2.2.1).trans ((mv_up_n _ _ hj.2.2.2).trans ((mv_up_n _ _ hj.2.2.1).trans ((mv_up_n _ _ hj.2.1).trans (q2 j hj.1))))), rfl, rfl, fun z => absurd rfl z, fun z => by omega, fun z => by omega⟩
          repeat (first | exact q1 | refine mv_ag.st ?_ (by decide))
