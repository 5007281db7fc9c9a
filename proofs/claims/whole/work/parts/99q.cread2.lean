/-! the class reads a text: the call of read -/
theorem tk_302 {f : Nat → Int} {t p : Nat} (hp : p ≤ t) (h : tk_K f t p = 302) : tk_K f t (tk_N f t p) = 302 := by
  have hq := tk_Q_b f hp
  have c : t ≤ tk_Q f t p := by
    by_cases c : t ≤ tk_Q f t p
    · exact c
    · exfalso
      by_cases cl : sp_isL (f (tk_Q f t p)) = true
      · obtain ⟨k1, _, _⟩ := tk_let (by omega) cl
        rw [k1] at h
        unfold sp_rw at h
        revert h
        repeat (first | omega | split)
      · by_cases cd : sp_isD (f (tk_Q f t p)) = true
        · obtain ⟨k1, _, _⟩ := tk_dig (by omega) cl cd
          rw [k1] at h
          revert h
          split <;> omega
        · obtain ⟨k1, _⟩ := tk_sig (by omega) cl cd
          rw [k1] at h
          by_cases cg : sp_isG (f (tk_Q f t p)) = true
          · rw [if_pos cg] at h
            have := sp_isG_t.1 cg
            omega
          · rw [if_neg cg] at h
            omega
  have e : tk_N f t p = t := by rw [(tk_end c).2]; omega
  rw [e]
  have e2 : tk_Q f t t = t := by
    unfold tk_Q
    rw [Nat.sub_self]
    rfl
  exact (tk_end (by omega)).1
def sp_ci (f : Nat → Int) (t l : Nat) (Mb : mv_M) (i : Nat) (M : mv_M) : Prop := mv_ag [28, l, l + 1, l + 2] Mb M ∧ sp_cr f t l (sp_Rt f t i) [] M M ∧ (M 28 1 = (t : Int) ∧ M 28 7 = (l : Int)) ∧ ((sp_Rt f t i).1 = true → ∀ j, j < i → M (l + 2) j = ((sp_Rt f t (j + 1)).2.2.length : Int))
theorem sp_cr_fr {f : Nat → Int} {t l : Nat} {r : Bool × Nat × List Int} {c : List Int} {M0 M : mv_M} (h : sp_cr f t l r c M0 M) : mv_ag [28, l, l + 1] M0 M ∧ (M 28 1 = (t : Int) ∧ M 28 7 = (l : Int)) := by
  by_cases g : r.1 = true
  · have h2 := (sp_cr_t g).1 h
    exact ⟨h2.1.1, h2.2.1⟩
  · have h2 := (sp_cr_f g).1 h
    exact ⟨h2.1, h2.2.1⟩
theorem sp_cr_rb {f : Nat → Int} {t l : Nat} {r : Bool × Nat × List Int} {c : List Int} {M0 M M1 : mv_M} (hl : sp_ly l) (h : sp_cr f t l r c M0 M) (ha : mv_ag [l + 2] M M1) : sp_cr f t l r c M1 M1 := by
  have hn := sp_ly_n hl
  have e28 : M1 28 = M 28 := ha 28 (by simp; omega)
  have e29 : M1 29 = M 29 := ha 29 (by simp; omega)
  have eL : M1 l = M l := ha l (by simp)
  have eL1 : M1 (l + 1) = M (l + 1) := ha (l + 1) (by simp)
  by_cases g : r.1 = true
  · obtain ⟨⟨a1, a2⟩, a3⟩ := (sp_cr_t g).1 h
    refine (sp_cr_t g).2 ⟨⟨mv_ag.rf, e29.trans a2⟩, ?_⟩
    rw [e28, eL, eL1]
    exact a3
  · obtain ⟨a1, a3⟩ := (sp_cr_f g).1 h
    refine (sp_cr_f g).2 ⟨mv_ag.rf, ?_⟩
    rw [e28, eL]
    exact a3
theorem sp_cpart {f : Nat → Int} {t l i : Nat} {Mb M : mv_M} {v : mv_V} {Q : mv_M → Prop} (hl : sp_ly l) (ht : t ≤ 160) (hb : ∀ j, j < t → 0 ≤ f j ∧ f j ≤ 255) (hi : i < 3) (h : sp_ci f t l Mb i M) (e : ∀ M1, sp_ci f t l Mb (i + 1) M1 → mv_Ru 52 7 28 [mv_R 28, mv_R l, mv_I ((i + 1 : Nat) : Int)] [] M1 v Q) :
    mv_Ru 52 7 28 [mv_R 28, mv_R l, mv_I (i : Int)] [] M v Q := by
  have hok := sp_Rt_ok f ht i (by omega)
  have hok1 := sp_rok_ex (f := f) (s := ((i + 256 : Nat) : Int)) hok (by omega)
  have hok2 := sp_rok_E (f := f) ht hok1.1
  have hok3 := sp_rok_ex (f := f) (s := 59) hok2.1 (by decide)
  have hn := sp_ly_n hl
  have hA := sp_cexr (s := ((i + 256 : Nat) : Int)) hl ht hb h.2.1 (fun g => ⟨(hok g).1, by have := hok g; rw [List.nil_append]; omega⟩) (by omega)
  have hB := fun MX hx => sp_cEr (M0 := M) (M := MX) (c := []) (r := sp_thn (sp_Rt f t i) (sp_ex f t ((i + 256 : Nat) : Int))) hl ht hb hx (fun g => by have := hok1.1 g; rw [List.nil_append]; exact this)
  have hC := fun MX hx => sp_cexr (s := 59) (M0 := M) (M := MX) (c := []) (r := sp_thn (sp_thn (sp_Rt f t i) (sp_ex f t ((i + 256 : Nat) : Int))) (fun p => sp_pr f t 2600 0 0 p)) hl ht hb hx (fun g => by have := hok2.1 g; rw [List.nil_append]; exact ⟨this.1, by omega⟩) (by decide)
  refine mv_go' 3 (pc' := if (i : Int) < 3 then 33 else 67) (ls' := [mv_R 28, mv_R l, mv_I (i : Int)]) (st' := []) (M1 := M) rfl ?_
  refine mv_tt' (by omega) ?_
  refine mv_go' 4 (pc' := 39) (ls' := [mv_R 28, mv_R l, mv_I (i : Int)]) (st' := [mv_I (mv_w (256 + (i : Int))), mv_R 28]) (M1 := M) rfl ?_
  rw [show mv_w (256 + (i : Int)) = 256 + (i : Int) from mv_w_id (by omega) (by omega)]
  rw [show 256 + (i : Int) = ((i + 256 : Nat) : Int) from by omega]
  refine mv_call (st2 := []) rfl (Or.inl rfl) rfl rfl rfl (hA) (by first | decide | omega) (fun Ma1 hm2 => ?_)
  have ha := hm2
  refine mv_go' 2 (pc' := 44) (ls' := [mv_R 28, mv_R l, mv_I (i : Int)]) (st' := [mv_I 0, mv_R 28]) (M1 := Ma1) rfl ?_
  refine mv_call (st2 := []) rfl (Or.inl rfl) rfl rfl rfl ((hB _ ha)) (by first | decide | omega) (fun Ma3 hm4 => ?_)
  have hb2 := hm4
  refine mv_go' 2 (pc' := 50) (ls' := [mv_R 28, mv_R l, mv_I (i : Int)]) (st' := [mv_I 59, mv_R 28]) (M1 := Ma3) rfl ?_
  refine mv_call (st2 := []) rfl (Or.inl rfl) rfl rfl rfl ((hC _ hb2)) (by first | decide | omega) (fun Ma5 hm6 => ?_)
  have hc := hm6
  have hf := sp_cr_fr hc
  have e7 := hf.2.2
  have e70 : 0 ≤ Ma5 28 7 := by omega
  refine mv_go' 2 (pc' := if 0 ≤ Ma5 28 7 then 57 else mv_bad) (ls' := [mv_R 28, mv_R l, mv_I (i : Int)]) (st' := [mv_R ((Ma5 28 7).toNat)]) (M1 := Ma5) rfl ?_
  refine mv_tt' (by omega) ?_
  refine mv_go' 1 (pc' := 58) (ls' := [mv_R 28, mv_R l, mv_I (i : Int)]) (st' := [mv_I (i : Int), mv_R ((Ma5 28 7).toNat)]) (M1 := Ma5) rfl ?_
  refine mv_call (st2 := []) rfl (Or.inl rfl) (sp_lyg2 hl e7) rfl rfl ((sp_cend hl e7 hi)) (by first | decide | omega) (fun Ma7 hm8 => ?_)
  have hd := hm8
  refine mv_go' 2 (pc' := 28) (ls' := [mv_R 28, mv_R l, mv_I (mv_w ((i : Int) + 1))]) (st' := []) (M1 := Ma7) rfl ?_
  rw [show mv_w ((i : Int) + 1) = (i : Int) + 1 from mv_w_id (by omega) (by omega)]
  rw [show (i : Int) + 1 = ((i + 1 : Nat) : Int) from by omega]
  refine e _ ⟨?_, sp_cr_rb hl hc hd.1, ?_, fun g j hj => ?_⟩
  · exact h.1.tr ((hf.1.wd (by simp)).tr (hd.1.wd (by simp)))
  · rw [hd.1 28 (by simp; omega)]
    exact hf.2
  · rw [hd.2]
    by_cases q : j = i
    · rw [q, mv_up_s]
      have h4 := (sp_cr_t g).1 hc
      have h5 := h4.2.2.2.2.2.2.2.1
      rw [List.nil_append] at h5
      exact h5
    · rw [mv_up_n _ _ q, hf.1 (l + 2) (by simp; omega)]
      exact h.2.2.2 (hok1.2 (hok2.2 (hok3.2 g))) j (by omega)
theorem sp_cread0 {M : mv_M} {l d : Nat} {v : mv_V} {Q : mv_M → Prop} (hl : sp_ly l) (e : mv_Ru d 7 5 [mv_R 28, mv_R l, mv_U] [] (mv_st M 28 (mv_up (M 28) 7 (l : Int))) v Q) : mv_Ru d 7 0 [mv_R 28, mv_R l, mv_U] [] M v Q := by
  rcases hl with q | q | q | q | q | q <;> subst q
  · exact mv_go' 3 rfl e
  · exact mv_go' 3 rfl e
  · exact mv_go' 3 rfl e
  · exact mv_go' 3 rfl e
  · exact mv_go' 3 rfl e
  · exact mv_go' 3 rfl e
def sp_R4 (f : Nat → Int) (t : Nat) : Bool × Nat × List Int := sp_thn (sp_Rt f t 3) (sp_ex f t 302)
theorem sp_cread {t l : Nat} {M : mv_M} (hl : sp_ly l) (ht : t ≤ 160) (hb : ∀ j, j < t → 0 ≤ M 29 j ∧ M 29 j ≤ 255) (h1 : M 28 1 = (t : Int)) : mv_Ru 52 7 0 [mv_R 28, mv_R l, mv_U] [] M (mv_I (if (sp_R4 (M 29) t).1 = true then -1 else ((sp_R4 (M 29) t).2.1 : Int)))
    (fun M1 => mv_ag [28, l, l + 1, l + 2] M M1 ∧ M1 28 1 = 0 ∧ ((sp_R4 (M 29) t).1 = true → sp_at (M1 (l + 1)) 0 (sp_Rt (M 29) t 3).2.2 ∧ ∀ j, j < 3 → M1 (l + 2) j = ((sp_Rt (M 29) t (j + 1)).2.2.length : Int))) := by
  have hn := sp_ly_n hl
  obtain ⟨f, hf⟩ : ∃ f, f = M 29 := ⟨_, rfl⟩
  have ok3 := sp_Rt_ok f ht 3 (by omega)
  rw [← hf] at hb ⊢
  have fin : ∀ MX, sp_ci f t l M 3 MX → mv_Ru 52 7 67 [mv_R 28, mv_R l, mv_I 3] [] MX (mv_I (if (sp_R4 f t).1 = true then -1 else ((sp_R4 f t).2.1 : Int)))
      (fun M1 => mv_ag [28, l, l + 1, l + 2] M M1 ∧ M1 28 1 = 0 ∧ ((sp_R4 f t).1 = true → sp_at (M1 (l + 1)) 0 (sp_Rt f t 3).2.2 ∧ ∀ j, j < 3 → M1 (l + 2) j = ((sp_Rt f t (j + 1)).2.2.length : Int))) := fun MX hx => by
    have hC := sp_cexr (s := 302) hl ht hb hx.2.1 (fun g => by have := ok3 g; rw [List.nil_append]; exact ⟨this.1, by omega⟩) (by decide)
    rw [show sp_thn (sp_Rt f t 3) (sp_ex f t 302) = sp_R4 f t from rfl] at hC
    refine mv_go' 2 (pc' := 71) (ls' := [mv_R 28, mv_R l, mv_I 3]) (st' := [mv_I 302, mv_R 28]) (M1 := MX) rfl ?_
    refine mv_call (st2 := []) rfl (Or.inl rfl) rfl rfl rfl (hC) (by first | decide | omega) (fun Ma9 hm10 => ?_)
    have hc := hm10
    have hfr := sp_cr_fr hc
    have ev : Ma9 28 6 = if (sp_R4 f t).1 = true then -1 else ((sp_R4 f t).2.1 : Int) := by
      by_cases g : (sp_R4 f t).1 = true
      · rw [if_pos g]
        have h4 := (sp_cr_t g).1 hc
        have h5 := h4.2.2.2.2.2.2.1
        by_cases g3 : (sp_Rt f t 3).1 = true
        · by_cases k : tk_K f t (sp_Rt f t 3).2.1 = 302
          · have e : sp_R4 f t = (true, tk_N f t (sp_Rt f t 3).2.1, (sp_Rt f t 3).2.2 ++ []) := by
              unfold sp_R4
              rw [sp_thn_t g3, show sp_ex f t 302 (sp_Rt f t 3).2.1 = (true, tk_N f t (sp_Rt f t 3).2.1, []) from if_pos k]
            rw [e, tk_302 (ok3 g3).1 k, if_neg (by decide)] at h5
            exact h5
          · have e : sp_R4 f t = (false, tk_Q f t (sp_Rt f t 3).2.1, (sp_Rt f t 3).2.2 ++ []) := by
              unfold sp_R4
              rw [sp_thn_t g3, show sp_ex f t 302 (sp_Rt f t 3).2.1 = (false, tk_Q f t (sp_Rt f t 3).2.1, []) from if_neg k]
            rw [e] at g
            cases g
        · unfold sp_R4 at g
          rw [sp_thn_f g3] at g
          exact absurd g g3
      · rw [if_neg g]
        exact ((sp_cr_f g).1 hc).2.2.2.1
    refine mv_go' 5 (pc' := 83) (ls' := [mv_R 28, mv_R l, mv_I 3]) (st' := [mv_I (Ma9 28 6)]) (M1 := (mv_st Ma9 28 (mv_up (Ma9 28) 1 0))) rfl ?_
    rw [show Ma9 28 6 = (if (sp_R4 f t).1 = true then -1 else ((sp_R4 f t).2.1 : Int)) from by exact ev]
    refine mv_ret (fun n => rfl) ⟨mv_ag.st (hx.1.tr (hfr.1.wd (by simp))) (by simp), rfl, fun g => ⟨?_, fun j hj => ?_⟩⟩
    · have h4 := (sp_cr_t g).1 hc
      have h5 := h4.2.2.2.2.2.2.2.2
      by_cases g3 : (sp_Rt f t 3).1 = true
      · by_cases k : tk_K f t (sp_Rt f t 3).2.1 = 302
        · have e : (sp_R4 f t).2.2 = (sp_Rt f t 3).2.2 := by
            unfold sp_R4
            rw [sp_thn_t g3, show sp_ex f t 302 (sp_Rt f t 3).2.1 = (true, tk_N f t (sp_Rt f t 3).2.1, []) from if_pos k]
            exact List.append_nil _
          rw [List.nil_append, e] at h5
          rw [mv_st_n _ _ (by omega)]
          exact h5
        · exfalso
          have e : sp_R4 f t = (false, tk_Q f t (sp_Rt f t 3).2.1, (sp_Rt f t 3).2.2 ++ []) := by
            unfold sp_R4
            rw [sp_thn_t g3, show sp_ex f t 302 (sp_Rt f t 3).2.1 = (false, tk_Q f t (sp_Rt f t 3).2.1, []) from if_neg k]
          rw [e] at g
          cases g
      · unfold sp_R4 at g
        rw [sp_thn_f g3] at g
        exact absurd g g3
    · rw [mv_st_n _ _ (by omega), hfr.1 (l + 2) (by simp; omega)]
      refine hx.2.2.2 ?_ j hj
      by_cases g3 : (sp_Rt f t 3).1 = true
      · exact g3
      · unfold sp_R4 at g
        rw [sp_thn_f g3] at g
        exact absurd g g3
  refine sp_cread0 hl ?_
  obtain ⟨MA, hMA⟩ : ∃ MA, MA = mv_st M 28 (mv_up (M 28) 7 (l : Int)) := ⟨_, rfl⟩
  have a1 : mv_ag [28] M MA := by rw [hMA]; exact mv_ag.st mv_ag.rf (by decide)
  have a2 : MA 28 1 = (t : Int) := by rw [hMA]; exact h1
  have e7 : MA 28 7 = (l : Int) := by rw [hMA]; rfl
  have e70 : 0 ≤ MA 28 7 := by omega
  rw [← hMA]
  clear hMA
  have hclr := sp_cclr (M := MA) hl e7
  refine mv_go' 2 (pc' := if 0 ≤ MA 28 7 then 9 else mv_bad) (ls' := [mv_R 28, mv_R l, mv_U]) (st' := [mv_R ((MA 28 7).toNat)]) (M1 := MA) rfl ?_
  refine mv_tt' (by omega) ?_
  refine mv_call (st2 := []) rfl (Or.inl rfl) (sp_lyg0 hl e7) rfl rfl (hclr) (by first | decide | omega) (fun Ma11 hm12 => ?_)
  have hcl := hm12
  have b28 : Ma11 28 = MA 28 := hcl.1 28 (by simp; omega)
  have b29 : Ma11 29 = f := by rw [hcl.1 29 (by simp; omega), a1 29 (by decide), hf]
  refine mv_go' 6 (pc' := 22) (ls' := [mv_R 28, mv_R l, mv_U]) (st' := []) (M1 := (mv_st (mv_st Ma11 28 (mv_up (Ma11 28) 2 0)) 28 (mv_up (mv_up (Ma11 28) 2 0) 6 (-1)))) rfl ?_
  obtain ⟨MC, hMC⟩ : ∃ MC, MC = (mv_st (mv_st Ma11 28 (mv_up (Ma11 28) 2 0)) 28 (mv_up (mv_up (Ma11 28) 2 0) 6 (-1))) := ⟨_, rfl⟩
  have c1 : mv_ag [28] Ma11 MC := by rw [hMC]; exact mv_ag.st (mv_ag.st mv_ag.rf (by decide)) (by decide)
  have c28 : MC 28 1 = (t : Int) ∧ MC 28 7 = (l : Int) ∧ MC 28 2 = 0 ∧ MC 28 6 = -1 := by
    rw [hMC]
    refine ⟨?_, ?_, rfl, rfl⟩
    · show Ma11 28 1 = _
      rw [b28]; exact a2
    · show Ma11 28 7 = _
      rw [b28]; exact e7
  have c29 : MC 29 = f := by rw [c1 29 (by decide)]; exact b29
  rw [← hMC]
  have hrt := sp_crt (M0 := MC) (p := 0) (t := t) (d := 0) ht (Nat.zero_le _) (by rw [c29]; exact hb) c28.1 c28.2.2.1 c28.2.2.2
  refine mv_go' 1 (pc' := 23) (ls' := [mv_R 28, mv_R l, mv_U]) (st' := [mv_R 28]) (M1 := MC) rfl ?_
  refine mv_call (st2 := []) rfl (Or.inl rfl) rfl rfl rfl (hrt) (by first | decide | omega) (fun Ma13 hm14 => ?_)
  have hr := hm14
  unfold sp_rt at hr
  rw [c29] at hr
  refine mv_go' 2 (pc' := 28) (ls' := [mv_R 28, mv_R l, mv_I 0]) (st' := []) (M1 := Ma13) rfl ?_
  refine sp_cpart (Mb := M) (i := 0) hl ht hb (by decide) ⟨?_, ?_, ⟨(hr.2.1 1 (by decide)).trans c28.1, (hr.2.1 7 (by decide)).trans c28.2.1⟩, fun _ j hj => absurd hj (by omega)⟩ (fun M1 q1 => sp_cpart hl ht hb (by decide) q1 (fun M2 q2 => sp_cpart hl ht hb (by decide) q2 (fun M3 q3 => ?_)))
  · exact (a1.wd (by simp)).tr ((hcl.1.wd (by simp)).tr ((c1.wd (by simp)).tr (hr.1.wd (by simp))))
  · refine (sp_cr_t (r := (true, 0, [])) rfl).2 ⟨⟨mv_ag.rf, (hr.1 29 (by decide)).trans c29⟩, ⟨(hr.2.1 1 (by decide)).trans c28.1, (hr.2.1 7 (by decide)).trans c28.2.1⟩, hr.2.2.1, hr.2.2.2.1, hr.2.2.2.2.1, hr.2.2.2.2.2.1, hr.2.2.2.2.2.2, ?_, trivial⟩
    rw [hr.1 l (by simp; omega), c1 l (by simp; omega), hcl.2]
    rfl
  · exact mv_go' 3 rfl (mv_ff' (by decide) (fin M3 q3))
