/-! the model reads a text: the call of text -/
theorem sp_Rt_f {f : Nat → Int} {t i : Nat} (g : ¬ (sp_Rt f t i).1 = true) : sp_Rt f t (i + 1) = sp_Rt f t i := by
  show sp_thn (sp_thn (sp_thn (sp_Rt f t i) (sp_ex f t ((i + 256 : Nat) : Int))) (fun p => sp_pr f t 2600 0 0 p)) (sp_ex f t 59) = _
  rw [sp_thn_f g, sp_thn_f g, sp_thn_f g]
theorem sp_Rt_n {f : Nat → Int} {t i : Nat} (g : (sp_Rt f t i).1 = true) (k : ¬ tk_K f t (sp_Rt f t i).2.1 = ((i + 256 : Nat) : Int)) : (sp_Rt f t (i + 1)).1 = false ∧ (sp_Rt f t (i + 1)).2.1 = tk_Q f t (sp_Rt f t i).2.1 := by
  have e : sp_ex f t ((i + 256 : Nat) : Int) (sp_Rt f t i).2.1 = (false, tk_Q f t (sp_Rt f t i).2.1, []) := if_neg k
  have e2 : sp_Rt f t (i + 1) = (false, tk_Q f t (sp_Rt f t i).2.1, (sp_Rt f t i).2.2 ++ []) := by
    show sp_thn (sp_thn (sp_thn (sp_Rt f t i) (sp_ex f t ((i + 256 : Nat) : Int))) (fun p => sp_pr f t 2600 0 0 p)) (sp_ex f t 59) = _
    rw [sp_thn_t (r := sp_Rt f t i) g, e]
    rw [sp_thn_f (r := (false, tk_Q f t (sp_Rt f t i).2.1, (sp_Rt f t i).2.2 ++ [])) Bool.false_ne_true, sp_thn_f (r := (false, tk_Q f t (sp_Rt f t i).2.1, (sp_Rt f t i).2.2 ++ [])) Bool.false_ne_true]
  rw [e2]
  exact ⟨rfl, rfl⟩
def sp_rr (f : Nat → Int) (t p : Nat) : Bool × Nat × List Int := sp_thn (sp_pr f t 2600 0 0 p) (sp_ex f t 59)
theorem sp_Rt_t {f : Nat → Int} {t i : Nat} (g : (sp_Rt f t i).1 = true) (k : tk_K f t (sp_Rt f t i).2.1 = ((i + 256 : Nat) : Int)) : sp_Rt f t (i + 1) = ((sp_rr f t (tk_N f t (sp_Rt f t i).2.1)).1, (sp_rr f t (tk_N f t (sp_Rt f t i).2.1)).2.1, (sp_Rt f t i).2.2 ++ (sp_rr f t (tk_N f t (sp_Rt f t i).2.1)).2.2) := by
  have e : sp_ex f t ((i + 256 : Nat) : Int) (sp_Rt f t i).2.1 = (true, tk_N f t (sp_Rt f t i).2.1, []) := if_pos k
  show sp_thn (sp_thn (sp_thn (sp_Rt f t i) (sp_ex f t ((i + 256 : Nat) : Int))) (fun p => sp_pr f t 2600 0 0 p)) (sp_ex f t 59) = _
  rw [sp_thn_t (r := sp_Rt f t i) g, e]
  rw [sp_thn_t (r := (true, tk_N f t (sp_Rt f t i).2.1, (sp_Rt f t i).2.2 ++ [])) rfl]
  unfold sp_rr
  by_cases g2 : (sp_pr f t 2600 0 0 (tk_N f t (sp_Rt f t i).2.1)).1 = true
  · rw [sp_thn_t (r := ((sp_pr f t 2600 0 0 (tk_N f t (sp_Rt f t i).2.1)).1, (sp_pr f t 2600 0 0 (tk_N f t (sp_Rt f t i).2.1)).2.1, ((sp_Rt f t i).2.2 ++ []) ++ (sp_pr f t 2600 0 0 (tk_N f t (sp_Rt f t i).2.1)).2.2)) g2, sp_thn_t g2]
    simp [List.append_assoc]
  · rw [sp_thn_f (r := ((sp_pr f t 2600 0 0 (tk_N f t (sp_Rt f t i).2.1)).1, (sp_pr f t 2600 0 0 (tk_N f t (sp_Rt f t i).2.1)).2.1, ((sp_Rt f t i).2.2 ++ []) ++ (sp_pr f t 2600 0 0 (tk_N f t (sp_Rt f t i).2.1)).2.2)) g2, sp_thn_f g2]
    simp
/-- eRead from its start -/
theorem sp_meR {f : Nat → Int} {t n p : Nat} {k : List Int} {M : mv_M} (ht : t ≤ 160) (hn : n < 6) (hf : ∀ j, j < t → M 108 j = f j) (hb : ∀ j, j < t → 0 ≤ f j ∧ f j ≤ 255) (hw : sp_at (M 125) 0 sp_words) (h9 : M 100 9 = (t : Int)) (h12 : M 100 12 = (n : Int)) (hp : p ≤ t) (h21 : M 100 21 = (p : Int)) (h29 : M 100 29 = (k.length : Int)) (hat : sp_at (M 110) (200 * n) k) (hk : k.length ≤ p) :
    mv_Ru 8 135 0 [mv_R 100, mv_U, mv_U, mv_U] [] M (mv_I (sp_b2 (sp_E (tk_K f t) (tk_W f t) (tk_N f t) (tk_Q f t) t p true true [] k).1)) (sp_mpo n (sp_E (tk_K f t) (tk_W f t) (tk_N f t) (tk_Q f t) t p true true [] k) M) := by
  refine mv_go' 10 (pc' := 14) (ls' := [mv_R 100, mv_I 1, mv_I 1, mv_U]) (st' := []) (M1 := (mv_st (mv_st M 100 (mv_up (M 100) 27 0)) 100 (mv_up (mv_up (M 100) 27 0) 28 0))) rfl ?_
  obtain ⟨MB, hMB⟩ : ∃ MB, MB = (mv_st (mv_st M 100 (mv_up (M 100) 27 0)) 100 (mv_up (mv_up (M 100) 27 0) 28 0)) := ⟨_, rfl⟩
  have a1 : mv_ag [100] M MB := by rw [hMB]; exact mv_ag.st (mv_ag.st mv_ag.rf (by decide)) (by decide)
  have a2 : ∀ j, (j ≠ 27 ∧ j ≠ 28) → MB 100 j = M 100 j := fun j hj => by rw [hMB]; exact (mv_up_n _ _ hj.2).trans (mv_up_n _ _ hj.1)
  have a3 : MB 100 27 = 0 ∧ MB 100 28 = 0 := by rw [hMB]; exact ⟨rfl, rfl⟩
  rw [← hMB]
  clear hMB
  have hfr : sp_fr n MB MB := ⟨⟨mv_ag.rf, fun _ _ => rfl⟩, fun _ _ => rfl⟩
  have hm : sp_mhs n [] k MB MB := ⟨⟨mv_ag.rf, fun _ _ => rfl⟩, ⟨a3.1, trivial⟩, a3.2, ⟨(a2 29 (by decide)).trans h29, by rw [a1 110 (by decide)]; exact hat⟩, fun _ _ => rfl⟩
  refine (sp_me (M0 := MB) ht hn (by rw [a1 108 (by decide)]; exact hf) hb (by rw [a1 125 (by decide)]; exact hw) ((a2 9 (by decide)).trans h9) ((a2 12 (by decide)).trans h12) (t + 1 - p) p true true [] k MB mv_U hp (by omega) (by simpa using hk) rfl hfr hm ((a2 21 (by decide)).trans h21)).imp (fun M1 q => ⟨⟨⟨(a1.wd (by decide)).tr q.1.1.1, fun j hj => (q.1.1.2 j hj).trans (a2 j ⟨hj.2.2.2.2.1, hj.2.2.2.2.2.1⟩)⟩, fun j hj => (q.1.2 j hj).trans (by rw [a1 110 (by decide)])⟩, q.2⟩)
/-- the model at part i of a text -/
def sp_mpi (f : Nat → Int) (t n : Nat) (M0 : mv_M) (i : Nat) (M : mv_M) : Prop :=
  (mv_ag [100, 110, 111, 126] M0 M ∧ ∀ j, (j ≠ 21 ∧ j ≠ 22 ∧ j ≠ 23 ∧ j ≠ 24 ∧ j ≠ 27 ∧ j ≠ 28 ∧ j ≠ 29) → M 100 j = M0 100 j) ∧ ((∀ j, j < 200 * n → M 110 j = M0 110 j) ∧ ∀ j, j < 4 * n → M 111 j = M0 111 j) ∧
  ((sp_Rt f t i).1 = true → (M 100 21 = ((sp_Rt f t i).2.1 : Int) ∧ M 100 29 = ((sp_Rt f t i).2.2.length : Int)) ∧ sp_at (M 110) (200 * n) ((sp_Rt f t i).2.2.map sp_en) ∧ ∀ j, j < i → M 111 (4 * n + j) = ((sp_Rt f t j).2.2.length : Int)) ∧ (¬ (sp_Rt f t i).1 = true → M 100 22 = ((sp_Rt f t i).2.1 : Int))
theorem sp_mtp {f : Nat → Int} {t n : Nat} {M0 : mv_M} {v : mv_V} {Q : mv_M → Prop} (ht : t ≤ 160) (hn : n < 6) (hf : ∀ j, j < t → M0 108 j = f j) (hb : ∀ j, j < t → 0 ≤ f j ∧ f j ≤ 255) (hw : sp_at (M0 125) 0 sp_words) (h9 : M0 100 9 = (t : Int)) (h12 : M0 100 12 = (n : Int))
    (e : ∀ (M1 : mv_M) (x : Int), sp_mpi f t n M0 3 M1 → mv_Ru 12 136 101 [mv_R 100, mv_I (sp_b2 (sp_Rt f t 3).1), mv_I x] [] M1 v Q) :
    ∀ (r i : Nat) (M : mv_M), i + r = 3 → sp_mpi f t n M0 i M → mv_Ru 12 136 26 [mv_R 100, mv_I (sp_b2 (sp_Rt f t i).1), mv_I (i : Int)] [] M v Q := by
  intro r
  induction r with
  | zero =>
    intro i M hi h
    have hi : i = 3 := by omega
    subst hi
    have e := e M ((3 : Nat) : Int) h
    obtain ⟨g, hg⟩ : ∃ g, g = sp_b2 (sp_Rt f t 3).1 := ⟨_, rfl⟩
    rw [← hg] at e ⊢
    refine mv_go' 3 (pc' := if ((3 : Nat) : Int) < 3 then 31 else 101) (ls' := [mv_R 100, mv_I g, mv_I ((3 : Nat) : Int)]) (st' := []) (M1 := M) rfl ?_
    refine mv_ff' (by omega) ?_
    exact e
  | succ r ih =>
    intro i M hi h
    have ih := fun M1 => ih (i + 1) M1 (by omega)
    obtain ⟨⟨a1, a2⟩, ⟨a3, a4⟩, a5, a6⟩ := h
    have hok := sp_Rt_ok f ht i (by omega)
    have e12 : M 100 12 = (n : Int) := (a2 12 (by decide)).trans h12
    by_cases g : (sp_Rt f t i).1 = true
    · have hok := hok g
      obtain ⟨⟨a51, a52⟩, a53, a54⟩ := a5 g
      have e108 : M 108 = M0 108 := a1 108 (by decide)
      have e125 : M 125 = M0 125 := a1 125 (by decide)
      have hcg := tk_cg hf hok.1
      have hnt := sp_mnt (d := 0) (M0 := M) (t := t) ht hok.1 (fun j hj => by rw [e108, hf j hj]; exact hb j hj) (by rw [e125]; exact hw) ((a2 9 (by decide)).trans h9) a51
      have hN := tk_ok f t (sp_Rt f t i).2.1 hok.1
      have h40 := tk_40 (f := f) (t := t) (p := (sp_Rt f t i).2.1)
      rw [g, show sp_b2 true = 1 from rfl]
      have nt : ∀ M1, sp_nt t (sp_Rt f t i).2.1 M M1 → (mv_ag [100] M M1 ∧ ∀ j, (j ≠ 21 ∧ j ≠ 22 ∧ j ≠ 23 ∧ j ≠ 24) → M1 100 j = M 100 j) ∧ M1 100 23 = tk_M (tk_K f t (sp_Rt f t i).2.1) ∧ M1 100 22 = (tk_Q f t (sp_Rt f t i).2.1 : Int) ∧ (tk_K f t (sp_Rt f t i).2.1 ≠ 303 → M1 100 21 = (tk_N f t (sp_Rt f t i).2.1 : Int)) ∧ ((256 ≤ tk_K f t (sp_Rt f t i).2.1 ∧ tk_K f t (sp_Rt f t i).2.1 ≤ 258) → M1 100 24 = tk_K f t (sp_Rt f t i).2.1 - 256) := fun M1 q => by
        obtain ⟨q1, q2, q3, q4, q5, q6, q7⟩ := q
        rw [e108] at q3 q4 q5 q6 q7
        rw [hcg.2.1] at q3 q5 q7
        rw [hcg.1] at q4
        rw [hcg.2.2.1] at q5
        exact ⟨⟨q1, q2⟩, q3, q4, q5, q7⟩
      by_cases k : tk_K f t (sp_Rt f t i).2.1 = ((i + 256 : Nat) : Int)
      · have eR := sp_Rt_t g k
        have hsim := sp_sim_E (Q := tk_Q f t) (n := 2600) (k := (sp_Rt f t i).2.2.map sp_en) (p := tk_N f t (sp_Rt f t i).2.1) (tk_ok f t) (fun p hp z => by have := tk_W_b f hp hb z; exact ⟨this.1, this.2.1⟩) hN.1 (by omega) (r := sp_rr f t (tk_N f t (sp_Rt f t i).2.1)) rfl
        have hN2 := hN.2 (by omega)
        have tM : tk_M (tk_K f t (sp_Rt f t i).2.1) = 3 := by
          rw [k]
          unfold tk_M
          rw [if_neg (by omega), if_pos (by omega)]
        have hfin : ∀ MX MY, (mv_ag [100] M MX ∧ ∀ j, (j ≠ 21 ∧ j ≠ 22 ∧ j ≠ 23 ∧ j ≠ 24) → MX 100 j = M 100 j) → MX 100 21 = (tk_N f t (sp_Rt f t i).2.1 : Int) → MY = mv_st MX 111 (mv_up (MX 111) (4 * n + i) ((sp_Rt f t i).2.2.length : Int)) →
            mv_Ru 8 135 0 [mv_R 100, mv_U, mv_U, mv_U] [] MY (mv_I (sp_b2 (sp_Rt f t (i + 1)).1)) (sp_mpi f t n M0 (i + 1)) := fun MX MY q1 q2 q3 => by
          have y1 : mv_ag [111] MX MY := by rw [q3]; exact mv_ag.st mv_ag.rf (by decide)
          have y2 : MY 111 = mv_up (MX 111) (4 * n + i) ((sp_Rt f t i).2.2.length : Int) := by rw [q3, mv_st_s]
          have y100 : MY 100 = MX 100 := y1 100 (by decide)
          have y108 : MY 108 = M0 108 := by rw [y1 108 (by decide), q1.1 108 (by decide), e108]
          have y110 : MY 110 = M 110 := by rw [y1 110 (by decide), q1.1 110 (by decide)]
          have y125 : MY 125 = M0 125 := by rw [y1 125 (by decide), q1.1 125 (by decide), e125]
          have hR := sp_meR (M := MY) (k := (sp_Rt f t i).2.2.map sp_en) (p := tk_N f t (sp_Rt f t i).2.1) ht hn (by rw [y108]; exact hf) hb (by rw [y125]; exact hw) (by rw [y100, q1.2 9 (by decide), a2 9 (by decide)]; exact h9) (by rw [y100, q1.2 12 (by decide)]; exact e12) hN.1 (by rw [y100]; exact q2) (by rw [y100, q1.2 29 (by decide), a52, List.length_map]) (by rw [y110]; exact a53) (by rw [List.length_map]; omega)
          have fr : ∀ M1, sp_fr n MY M1 → (mv_ag [100, 110, 111, 126] M0 M1 ∧ ∀ j, (j ≠ 21 ∧ j ≠ 22 ∧ j ≠ 23 ∧ j ≠ 24 ∧ j ≠ 27 ∧ j ≠ 28 ∧ j ≠ 29) → M1 100 j = M0 100 j) ∧ ((∀ j, j < 200 * n → M1 110 j = M0 110 j) ∧ ∀ j, j < 4 * n → M1 111 j = M0 111 j) ∧ M1 111 = MY 111 := fun M1 z => by
            have z111 : M1 111 = MY 111 := z.1.1 111 (by decide)
            refine ⟨⟨?_, fun j hj => ?_⟩, ⟨fun j hj => ?_, fun j hj => ?_⟩, z111⟩
            · exact a1.tr ((q1.1.wd (by decide)).tr ((y1.wd (by decide)).tr (z.1.1.wd (by decide))))
            · rw [z.1.2 j hj, y100, q1.2 j ⟨hj.1, hj.2.1, hj.2.2.1, hj.2.2.2.1⟩]
              exact a2 j hj
            · rw [z.2 j hj, y110]
              exact a3 j hj
            · rw [z111, y2, mv_up_n _ _ (by omega), q1.1 111 (by decide)]
              exact a4 j hj
          obtain ⟨rr, hrr⟩ : ∃ rr, rr = sp_rr f t (tk_N f t (sp_Rt f t i).2.1) := ⟨_, rfl⟩
          rw [← hrr] at hsim eR
          unfold sp_mpi
          rw [eR]
          by_cases gr : rr.1 = true
          · rw [hsim.1 gr] at hR
            refine mv_Ru.val (hR.imp (fun M1 z => ?_)) (by rw [gr])
            have hfr := fr M1 z.1
            have z2 := z.2.1 rfl
            refine ⟨hfr.1, hfr.2.1, fun _ => ⟨⟨z2.1, ?_⟩, ?_, fun j hj => ?_⟩, fun c => absurd gr c⟩
            · rw [z2.2.1]
              simp
            · have z3 := z2.2.2
              rw [← List.map_append] at z3
              exact z3
            · rw [hfr.2.2, y2]
              by_cases c : j = i
              · rw [c, mv_up_s]
              · rw [mv_up_n _ _ (by omega), q1.1 111 (by decide)]
                exact a54 j (by omega)
          · rw [hsim.2 gr] at hR
            refine mv_Ru.val (hR.imp (fun M1 z => ?_)) (by rw [Bool.eq_false_iff.2 gr])
            have hfr := fr M1 z.1
            exact ⟨hfr.1, hfr.2.1, fun c => absurd c gr, fun _ => z.2.2 Bool.false_ne_true⟩
        obtain ⟨g2, hg2⟩ : ∃ g2, g2 = sp_b2 (sp_Rt f t (i + 1)).1 := ⟨_, rfl⟩
        have hg01 : 0 ≤ g2 ∧ g2 ≤ 1 := by
          rw [hg2]
          unfold sp_b2
          split <;> decide
        rw [← hg2] at ih hfin
        have tV : tk_K f t (sp_Rt f t i).2.1 - 256 = (i : Int) := by omega
        obtain ⟨q, hq⟩ : ∃ q, q = (sp_Rt f t i).2.2.length := ⟨_, rfl⟩
        rw [← hq] at a52 hfin
        refine mv_go' 3 (pc' := if (i : Int) < 3 then 31 else 101) (ls' := [mv_R 100, mv_I 1, mv_I (i : Int)]) (st' := []) (M1 := M) rfl ?_
        refine mv_tt' (by omega) ?_
        refine mv_go' 2 (pc' := if 1 = 0 then 101 else 35) (ls' := [mv_R 100, mv_I 1, mv_I (i : Int)]) (st' := []) (M1 := M) rfl ?_
        refine mv_ff' (by first | decide | omega) ?_
        refine mv_go' 1 (pc' := 36) (ls' := [mv_R 100, mv_I 1, mv_I (i : Int)]) (st' := [mv_R 100]) (M1 := M) rfl ?_
        refine mv_call (st2 := []) rfl (Or.inl rfl) rfl rfl rfl (hnt) (by first | decide | omega) (fun Ma1 hm2 => ?_)
        have hx := nt _ hm2
        have x23 := hx.2.1.trans tM
        have x24 := (hx.2.2.2.2 (by omega)).trans tV
        have x21 := hx.2.2.2.1 (by omega)
        have x12 : Ma1 100 12 = (n : Int) := (hx.1.2 12 (by decide)).trans e12
        have x29 : Ma1 100 29 = (q : Int) := (hx.1.2 29 (by decide)).trans a52
        refine mv_go' 2 (pc' := 43) (ls' := [mv_R 100, mv_I 1, mv_I (i : Int)]) (st' := [mv_I (Ma1 100 23)]) (M1 := Ma1) rfl ?_
        rw [show Ma1 100 23 = 3 from by exact x23]
        refine mv_go' 2 (pc' := if 3 = 3 then 47 else 59) (ls' := [mv_R 100, mv_I 1, mv_I (i : Int)]) (st' := []) (M1 := Ma1) rfl ?_
        refine mv_tt' (by first | decide | omega) ?_
        refine mv_go' 2 (pc' := 51) (ls' := [mv_R 100, mv_I 1, mv_I (i : Int)]) (st' := [mv_I (Ma1 100 24)]) (M1 := Ma1) rfl ?_
        rw [show Ma1 100 24 = (i : Int) from by exact x24]
        refine mv_go' 2 (pc' := if (i : Int) = (i : Int) then 55 else 59) (ls' := [mv_R 100, mv_I 1, mv_I (i : Int)]) (st' := []) (M1 := Ma1) rfl ?_
        refine mv_tt' (by first | decide | omega) ?_
        refine mv_go' 8 (pc' := 70) (ls' := [mv_R 100, mv_I 1, mv_I (i : Int)]) (st' := [mv_I (Ma1 100 12), mv_I 4, mv_R 111]) (M1 := Ma1) rfl ?_
        rw [show Ma1 100 12 = (n : Int) from by exact x12]
        refine mv_go' 5 (pc' := 77) (ls' := [mv_R 100, mv_I 1, mv_I (i : Int)]) (st' := [mv_I (Ma1 100 29), mv_I (mv_w ((mv_w (4 * (n : Int))) + (i : Int))), mv_R 111]) (M1 := Ma1) rfl ?_
        rw [show mv_w ((mv_w (4 * (n : Int))) + (i : Int)) = ((4 * n + i : Nat) : Int) from by (rw [show mv_w (4 * (n : Int)) = 4 * (n : Int) from mv_w_id (by omega) (by omega), show mv_w ((4 * (n : Int)) + (i : Int)) = (4 * (n : Int)) + (i : Int) from mv_w_id (by omega) (by omega)]) <;> omega]
        rw [show Ma1 100 29 = (q : Int) from by exact x29]
        refine mv_go' 1 (pc' := if 0 ≤ ((4 * n + i : Nat) : Int) ∧ ((4 * n + i : Nat) : Int) < 24 then 78 else mv_bad) (ls' := [mv_R 100, mv_I 1, mv_I (i : Int)]) (st' := []) (M1 := (mv_st Ma1 111 (mv_up (Ma1 111) (4 * n + i) (q : Int)))) rfl ?_
        refine mv_tt' (by omega) ?_
        refine mv_go' 2 (pc' := if 1 = 0 then 93 else 82) (ls' := [mv_R 100, mv_I 1, mv_I (i : Int)]) (st' := []) (M1 := (mv_st Ma1 111 (mv_up (Ma1 111) (4 * n + i) (q : Int)))) rfl ?_
        refine mv_ff' (by first | decide | omega) ?_
        have hfi := hfin Ma1 (mv_st Ma1 111 (mv_up (Ma1 111) (4 * n + i) (q : Int))) hx.1 x21 rfl
        refine mv_go' 1 (pc' := 83) (ls' := [mv_R 100, mv_I 1, mv_I (i : Int)]) (st' := [mv_R 100]) (M1 := (mv_st Ma1 111 (mv_up (Ma1 111) (4 * n + i) (q : Int)))) rfl ?_
        refine mv_call (st2 := [mv_I g2]) rfl (Or.inl rfl) rfl rfl rfl (hfi) (by first | decide | omega) (fun Ma3 hm4 => ?_)
        have hz := hm4
        refine mv_go' 1 (pc' := if g2 = 0 then 93 else 89) (ls' := [mv_R 100, mv_I 1, mv_I (i : Int)]) (st' := []) (M1 := Ma3) rfl ?_
        refine mv_sp' (fun ha5 => ?_) (fun ha5 => ?_)
        · refine mv_go' 4 (pc' := 26) (ls' := [mv_R 100, mv_I 0, mv_I (mv_w ((i : Int) + 1))]) (st' := []) (M1 := Ma3) rfl ?_
          rw [show mv_w ((i : Int) + 1) = (i : Int) + 1 from mv_w_id (by omega) (by omega)]
          rw [show (i : Int) + 1 = ((i + 1 : Nat) : Int) from by omega]
          refine mv_eqs (ls2 := [mv_R 100, mv_I g2, mv_I ((i + 1 : Nat) : Int)]) (by rw [show 0 = g2 from by omega]) rfl rfl ?_
          exact ih _ hz
        · refine mv_go' 5 (pc' := 26) (ls' := [mv_R 100, mv_I 1, mv_I (mv_w ((i : Int) + 1))]) (st' := []) (M1 := Ma3) rfl ?_
          rw [show mv_w ((i : Int) + 1) = (i : Int) + 1 from mv_w_id (by omega) (by omega)]
          rw [show (i : Int) + 1 = ((i + 1 : Nat) : Int) from by omega]
          refine mv_eqs (ls2 := [mv_R 100, mv_I g2, mv_I ((i + 1 : Nat) : Int)]) (by rw [show 1 = g2 from by omega]) rfl rfl ?_
          exact ih _ hz
      · have eR := sp_Rt_n g k
        have hpi : ∀ MX MY, (mv_ag [100] M MX ∧ ∀ j, (j ≠ 21 ∧ j ≠ 22 ∧ j ≠ 23 ∧ j ≠ 24) → MX 100 j = M 100 j) → MX 100 22 = (tk_Q f t (sp_Rt f t i).2.1 : Int) → MY = mv_st MX 111 (mv_up (MX 111) (4 * n + i) ((sp_Rt f t i).2.2.length : Int)) → sp_mpi f t n M0 (i + 1) MY := fun MX MY q1 q2 q3 => by
          have y1 : mv_ag [111] MX MY := by rw [q3]; exact mv_ag.st mv_ag.rf (by decide)
          have y2 : MY 111 = mv_up (MX 111) (4 * n + i) ((sp_Rt f t i).2.2.length : Int) := by rw [q3, mv_st_s]
          have y100 : MY 100 = MX 100 := y1 100 (by decide)
          refine ⟨⟨a1.tr ((q1.1.wd (by decide)).tr (y1.wd (by decide))), fun j hj => ?_⟩, ⟨fun j hj => ?_, fun j hj => ?_⟩, fun c => ?_, fun _ => ?_⟩
          · rw [y100, q1.2 j ⟨hj.1, hj.2.1, hj.2.2.1, hj.2.2.2.1⟩]
            exact a2 j hj
          · rw [y1 110 (by decide), q1.1 110 (by decide)]
            exact a3 j hj
          · rw [y2, mv_up_n _ _ (by omega), q1.1 111 (by decide)]
            exact a4 j hj
          · rw [eR.1] at c
            cases c
          · rw [y100, eR.2]
            exact q2
        have eg : sp_b2 (sp_Rt f t (i + 1)).1 = 0 := by rw [eR.1]; rfl
        rw [eg] at ih
        have tV : ¬ (tk_K f t (sp_Rt f t i).2.1 = (i : Int) + 256) := by omega
        have tM3 : tk_M (tk_K f t (sp_Rt f t i).2.1) = 3 → 256 ≤ tk_K f t (sp_Rt f t i).2.1 ∧ tk_K f t (sp_Rt f t i).2.1 ≤ 258 := fun z => by
          unfold tk_M at z
          revert z
          repeat (first | omega | split)
        obtain ⟨k0, hk0⟩ : ∃ k0, k0 = tk_K f t (sp_Rt f t i).2.1 := ⟨_, rfl⟩
        obtain ⟨mk, hmk⟩ : ∃ mk, mk = tk_M k0 := ⟨_, rfl⟩
        rw [← hk0, ← hmk] at nt tM3
        rw [← hk0] at tV
        obtain ⟨q, hq⟩ : ∃ q, q = (sp_Rt f t i).2.2.length := ⟨_, rfl⟩
        rw [← hq] at a52 hpi
        by_cases c3 : mk = 3
        · have tM3 := tM3 c3
          refine mv_go' 3 (pc' := if (i : Int) < 3 then 31 else 101) (ls' := [mv_R 100, mv_I 1, mv_I (i : Int)]) (st' := []) (M1 := M) rfl ?_
          refine mv_tt' (by omega) ?_
          refine mv_go' 2 (pc' := if 1 = 0 then 101 else 35) (ls' := [mv_R 100, mv_I 1, mv_I (i : Int)]) (st' := []) (M1 := M) rfl ?_
          refine mv_ff' (by first | decide | omega) ?_
          refine mv_go' 1 (pc' := 36) (ls' := [mv_R 100, mv_I 1, mv_I (i : Int)]) (st' := [mv_R 100]) (M1 := M) rfl ?_
          refine mv_call (st2 := []) rfl (Or.inl rfl) rfl rfl rfl (hnt) (by first | decide | omega) (fun Ma6 hm7 => ?_)
          have hx := nt _ hm7
          have x23 := hx.2.1
          have x24 := hx.2.2.2.2 tM3
          have x12 : Ma6 100 12 = (n : Int) := (hx.1.2 12 (by decide)).trans e12
          have x29 : Ma6 100 29 = (q : Int) := (hx.1.2 29 (by decide)).trans a52
          refine mv_go' 2 (pc' := 43) (ls' := [mv_R 100, mv_I 1, mv_I (i : Int)]) (st' := [mv_I (Ma6 100 23)]) (M1 := Ma6) rfl ?_
          rw [show Ma6 100 23 = mk from by exact x23]
          refine mv_go' 2 (pc' := if mk = 3 then 47 else 59) (ls' := [mv_R 100, mv_I 1, mv_I (i : Int)]) (st' := []) (M1 := Ma6) rfl ?_
          refine mv_tt' (by omega) ?_
          refine mv_go' 2 (pc' := 51) (ls' := [mv_R 100, mv_I 1, mv_I (i : Int)]) (st' := [mv_I (Ma6 100 24)]) (M1 := Ma6) rfl ?_
          rw [show Ma6 100 24 = (k0 - 256) from by exact x24]
          refine mv_go' 2 (pc' := if (k0 - 256) = (i : Int) then 55 else 59) (ls' := [mv_R 100, mv_I 1, mv_I (i : Int)]) (st' := []) (M1 := Ma6) rfl ?_
          refine mv_ff' (by omega) ?_
          refine mv_go' 7 (pc' := 70) (ls' := [mv_R 100, mv_I 0, mv_I (i : Int)]) (st' := [mv_I (Ma6 100 12), mv_I 4, mv_R 111]) (M1 := Ma6) rfl ?_
          rw [show Ma6 100 12 = (n : Int) from by exact x12]
          refine mv_go' 5 (pc' := 77) (ls' := [mv_R 100, mv_I 0, mv_I (i : Int)]) (st' := [mv_I (Ma6 100 29), mv_I (mv_w ((mv_w (4 * (n : Int))) + (i : Int))), mv_R 111]) (M1 := Ma6) rfl ?_
          rw [show mv_w ((mv_w (4 * (n : Int))) + (i : Int)) = ((4 * n + i : Nat) : Int) from by (rw [show mv_w (4 * (n : Int)) = 4 * (n : Int) from mv_w_id (by omega) (by omega), show mv_w ((4 * (n : Int)) + (i : Int)) = (4 * (n : Int)) + (i : Int) from mv_w_id (by omega) (by omega)]) <;> omega]
          rw [show Ma6 100 29 = (q : Int) from by exact x29]
          refine mv_go' 1 (pc' := if 0 ≤ ((4 * n + i : Nat) : Int) ∧ ((4 * n + i : Nat) : Int) < 24 then 78 else mv_bad) (ls' := [mv_R 100, mv_I 0, mv_I (i : Int)]) (st' := []) (M1 := (mv_st Ma6 111 (mv_up (Ma6 111) (4 * n + i) (q : Int)))) rfl ?_
          refine mv_tt' (by omega) ?_
          refine mv_go' 2 (pc' := if 0 = 0 then 93 else 82) (ls' := [mv_R 100, mv_I 0, mv_I (i : Int)]) (st' := []) (M1 := (mv_st Ma6 111 (mv_up (Ma6 111) (4 * n + i) (q : Int)))) rfl ?_
          refine mv_tt' (by first | decide | omega) ?_
          refine mv_go' 4 (pc' := 26) (ls' := [mv_R 100, mv_I 0, mv_I (mv_w ((i : Int) + 1))]) (st' := []) (M1 := (mv_st Ma6 111 (mv_up (Ma6 111) (4 * n + i) (q : Int)))) rfl ?_
          rw [show mv_w ((i : Int) + 1) = (i : Int) + 1 from mv_w_id (by omega) (by omega)]
          rw [show (i : Int) + 1 = ((i + 1 : Nat) : Int) from by omega]
          exact ih _ (hpi Ma6 _ hx.1 hx.2.2.1 rfl)
        · refine mv_go' 3 (pc' := if (i : Int) < 3 then 31 else 101) (ls' := [mv_R 100, mv_I 1, mv_I (i : Int)]) (st' := []) (M1 := M) rfl ?_
          refine mv_tt' (by omega) ?_
          refine mv_go' 2 (pc' := if 1 = 0 then 101 else 35) (ls' := [mv_R 100, mv_I 1, mv_I (i : Int)]) (st' := []) (M1 := M) rfl ?_
          refine mv_ff' (by first | decide | omega) ?_
          refine mv_go' 1 (pc' := 36) (ls' := [mv_R 100, mv_I 1, mv_I (i : Int)]) (st' := [mv_R 100]) (M1 := M) rfl ?_
          refine mv_call (st2 := []) rfl (Or.inl rfl) rfl rfl rfl (hnt) (by first | decide | omega) (fun Ma8 hm9 => ?_)
          have hx := nt _ hm9
          have x23 := hx.2.1
          have x12 : Ma8 100 12 = (n : Int) := (hx.1.2 12 (by decide)).trans e12
          have x29 : Ma8 100 29 = (q : Int) := (hx.1.2 29 (by decide)).trans a52
          refine mv_go' 2 (pc' := 43) (ls' := [mv_R 100, mv_I 1, mv_I (i : Int)]) (st' := [mv_I (Ma8 100 23)]) (M1 := Ma8) rfl ?_
          rw [show Ma8 100 23 = mk from by exact x23]
          refine mv_go' 2 (pc' := if mk = 3 then 47 else 59) (ls' := [mv_R 100, mv_I 1, mv_I (i : Int)]) (st' := []) (M1 := Ma8) rfl ?_
          refine mv_ff' (by omega) ?_
          refine mv_go' 7 (pc' := 70) (ls' := [mv_R 100, mv_I 0, mv_I (i : Int)]) (st' := [mv_I (Ma8 100 12), mv_I 4, mv_R 111]) (M1 := Ma8) rfl ?_
          rw [show Ma8 100 12 = (n : Int) from by exact x12]
          refine mv_go' 5 (pc' := 77) (ls' := [mv_R 100, mv_I 0, mv_I (i : Int)]) (st' := [mv_I (Ma8 100 29), mv_I (mv_w ((mv_w (4 * (n : Int))) + (i : Int))), mv_R 111]) (M1 := Ma8) rfl ?_
          rw [show mv_w ((mv_w (4 * (n : Int))) + (i : Int)) = ((4 * n + i : Nat) : Int) from by (rw [show mv_w (4 * (n : Int)) = 4 * (n : Int) from mv_w_id (by omega) (by omega), show mv_w ((4 * (n : Int)) + (i : Int)) = (4 * (n : Int)) + (i : Int) from mv_w_id (by omega) (by omega)]) <;> omega]
          rw [show Ma8 100 29 = (q : Int) from by exact x29]
          refine mv_go' 1 (pc' := if 0 ≤ ((4 * n + i : Nat) : Int) ∧ ((4 * n + i : Nat) : Int) < 24 then 78 else mv_bad) (ls' := [mv_R 100, mv_I 0, mv_I (i : Int)]) (st' := []) (M1 := (mv_st Ma8 111 (mv_up (Ma8 111) (4 * n + i) (q : Int)))) rfl ?_
          refine mv_tt' (by omega) ?_
          refine mv_go' 2 (pc' := if 0 = 0 then 93 else 82) (ls' := [mv_R 100, mv_I 0, mv_I (i : Int)]) (st' := []) (M1 := (mv_st Ma8 111 (mv_up (Ma8 111) (4 * n + i) (q : Int)))) rfl ?_
          refine mv_tt' (by first | decide | omega) ?_
          refine mv_go' 4 (pc' := 26) (ls' := [mv_R 100, mv_I 0, mv_I (mv_w ((i : Int) + 1))]) (st' := []) (M1 := (mv_st Ma8 111 (mv_up (Ma8 111) (4 * n + i) (q : Int)))) rfl ?_
          rw [show mv_w ((i : Int) + 1) = (i : Int) + 1 from mv_w_id (by omega) (by omega)]
          rw [show (i : Int) + 1 = ((i + 1 : Nat) : Int) from by omega]
          exact ih _ (hpi Ma8 _ hx.1 hx.2.2.1 rfl)
    · have eR : sp_Rt f t 3 = sp_Rt f t i := by
        have e1 := sp_Rt_f g
        rcases (by omega : i = 0 ∨ i = 1 ∨ i = 2) with c | c | c
        · subst c
          have g1 : ¬ (sp_Rt f t 1).1 = true := by rw [show sp_Rt f t 1 = sp_Rt f t 0 from e1]; exact g
          have e2 := sp_Rt_f g1
          have g2 : ¬ (sp_Rt f t 2).1 = true := by rw [show sp_Rt f t 2 = sp_Rt f t 1 from e2]; exact g1
          exact (sp_Rt_f g2).trans (e2.trans e1)
        · subst c
          have g2 : ¬ (sp_Rt f t 2).1 = true := by rw [show sp_Rt f t 2 = sp_Rt f t 1 from e1]; exact g
          exact (sp_Rt_f g2).trans e1
        · subst c
          exact e1
      have e := e M (i : Int) (by
        refine ⟨⟨a1, a2⟩, ⟨a3, a4⟩, ?_, ?_⟩
        · rw [eR]
          exact fun c => absurd c g
        · rw [eR]
          exact a6)
      rw [eR, Bool.eq_false_iff.2 g, show sp_b2 false = 0 from rfl] at e
      rw [Bool.eq_false_iff.2 g, show sp_b2 false = 0 from rfl]
      refine mv_go' 3 (pc' := if (i : Int) < 3 then 31 else 101) (ls' := [mv_R 100, mv_I 0, mv_I (i : Int)]) (st' := []) (M1 := M) rfl ?_
      refine mv_tt' (by omega) ?_
      refine mv_go' 2 (pc' := if 0 = 0 then 101 else 35) (ls' := [mv_R 100, mv_I 0, mv_I (i : Int)]) (st' := []) (M1 := M) rfl ?_
      refine mv_tt' (by first | decide | omega) ?_
      exact e
