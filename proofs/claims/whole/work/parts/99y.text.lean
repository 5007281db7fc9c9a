/-! text: the model's call -/
theorem sp_R4_t {f : Nat → Int} {t : Nat} (g : (sp_Rt f t 3).1 = true) : sp_R4 f t = if tk_K f t (sp_Rt f t 3).2.1 = 302 then (true, tk_N f t (sp_Rt f t 3).2.1, (sp_Rt f t 3).2.2 ++ []) else (false, tk_Q f t (sp_Rt f t 3).2.1, (sp_Rt f t 3).2.2 ++ []) := by
  unfold sp_R4
  rw [sp_thn_t g]
  unfold sp_ex
  split <;> rfl
theorem sp_R4_f {f : Nat → Int} {t : Nat} (g : ¬ (sp_Rt f t 3).1 = true) : sp_R4 f t = sp_Rt f t 3 := by
  unfold sp_R4
  rw [sp_thn_f g]
theorem tk_M_0 {k : Int} (h : 40 ≤ k) : tk_M k = 0 ↔ k = 302 := by
  unfold tk_M
  repeat (first | omega | split)
def sp_tv (f : Nat → Int) (t n : Nat) : Int := if (sp_R4 f t).1 = true then (n : Int) else -100 - ((sp_R4 f t).2.1 : Int)
def sp_mtq (f : Nat → Int) (t n : Nat) (M M1 : mv_M) : Prop := (mv_ag [100, 110, 111, 126] M M1 ∧ ∀ j, (j ≠ 9 ∧ j ≠ 12 ∧ j ≠ 21 ∧ j ≠ 22 ∧ j ≠ 23 ∧ j ≠ 24 ∧ j ≠ 27 ∧ j ≠ 28 ∧ j ≠ 29) → M1 100 j = M 100 j) ∧ (M1 100 9 = 0 ∧ M1 100 12 = if (sp_R4 f t).1 = true then ((n + 1 : Nat) : Int) else (n : Int)) ∧ ((∀ j, j < 200 * n → M1 110 j = M 110 j) ∧ ∀ j, j < 4 * n → M1 111 j = M 111 j) ∧
  ((sp_R4 f t).1 = true → sp_at (M1 110) (200 * n) ((sp_Rt f t 3).2.2.map sp_en) ∧ ∀ j, j < 4 → M1 111 (4 * n + j) = ((sp_Rt f t j).2.2.length : Int))
theorem sp_mtx {f : Nat → Int} {t n : Nat} {M : mv_M} (ht : t ≤ 160) (hn : n < 6) (hf : ∀ j, j < t → M 108 j = f j) (hb : ∀ j, j < t → 0 ≤ f j ∧ f j ≤ 255) (hw : sp_at (M 125) 0 sp_words) (h9 : M 100 9 = (t : Int)) (h12 : M 100 12 = (n : Int)) :
    mv_Ru 12 136 0 [mv_R 100, mv_U, mv_U] [] M (mv_I (sp_tv f t n)) (sp_mtq f t n M) := by
  have hok3 := sp_Rt_ok f ht 3 (by decide)
  refine mv_go' 2 (pc' := 4) (ls' := [mv_R 100, mv_U, mv_U]) (st' := [mv_I (M 100 12)]) (M1 := M) rfl ?_
  rw [show M 100 12 = (n : Int) from by exact h12]
  refine mv_go' 2 (pc' := if (n : Int) = 6 then 9 else 12) (ls' := [mv_R 100, mv_U, mv_U]) (st' := []) (M1 := M) rfl ?_
  refine mv_ff' (by omega) ?_
  refine mv_go' 10 (pc' := 26) (ls' := [mv_R 100, mv_I 1, mv_I 0]) (st' := []) (M1 := (mv_st (mv_st M 100 (mv_up (M 100) 21 0)) 100 (mv_up (mv_up (M 100) 21 0) 29 0))) rfl ?_
  obtain ⟨MB, hMB⟩ : ∃ MB, MB = (mv_st (mv_st M 100 (mv_up (M 100) 21 0)) 100 (mv_up (mv_up (M 100) 21 0) 29 0)) := ⟨_, rfl⟩
  have a1 : mv_ag [100] M MB := by rw [hMB]; exact mv_ag.st (mv_ag.st mv_ag.rf (by decide)) (by decide)
  have a2 : ∀ j, (j ≠ 21 ∧ j ≠ 29) → MB 100 j = M 100 j := fun j hj => by rw [hMB]; exact (mv_up_n _ _ hj.2).trans (mv_up_n _ _ hj.1)
  have a3 : MB 100 21 = 0 ∧ MB 100 29 = 0 := by rw [hMB]; exact ⟨rfl, rfl⟩
  rw [← hMB]
  clear hMB
  have h108 : ∀ j, j < t → MB 108 j = f j := by rw [a1 108 (by decide)]; exact hf
  refine sp_mtp (f := f) (t := t) (n := n) (M0 := MB) ht hn h108 hb (by rw [a1 125 (by decide)]; exact hw) ((a2 9 (by decide)).trans h9) ((a2 12 (by decide)).trans h12) (fun M1 x h => ?_) 3 0 MB rfl ⟨⟨mv_ag.rf, fun _ _ => rfl⟩, ⟨fun _ _ => rfl, fun _ _ => rfl⟩, fun _ => ⟨a3, trivial, fun j hj => absurd hj (by omega)⟩, fun c => absurd rfl c⟩
  obtain ⟨⟨b1, b2⟩, ⟨b3, b4⟩, b5, b6⟩ := h
  have c12 : M1 100 12 = (n : Int) := (b2 12 (by decide)).trans ((a2 12 (by decide)).trans h12)
  have res : ∀ (MX M2 : mv_M) (z : Int), (mv_ag [100] M1 MX ∧ ∀ j, (j ≠ 21 ∧ j ≠ 22 ∧ j ≠ 23 ∧ j ≠ 24) → MX 100 j = M1 100 j) → mv_ag [100, 111] MX M2 → (∀ j, (j ≠ 9 ∧ j ≠ 12) → M2 100 j = MX 100 j) → M2 111 = mv_up (MX 111) (4 * n + 3) (MX 100 29) → M2 100 9 = 0 → (M2 100 12 = if (sp_R4 f t).1 = true then ((n + 1 : Nat) : Int) else (n : Int)) → ((sp_R4 f t).1 = true → (sp_Rt f t 3).1 = true) → sp_mtq f t n M M2 := fun MX M2 z q1 q2 q3 q4 q5 q6 q7 => by
    refine ⟨⟨(a1.wd (by decide)).tr (b1.tr ((q1.1.wd (by decide)).tr (q2.wd (by decide)))), fun j hj => ?_⟩, ⟨q5, q6⟩, ⟨fun j hj => ?_, fun j hj => ?_⟩, fun g => ⟨?_, fun j hj => ?_⟩⟩
    · rw [q3 j ⟨hj.1, hj.2.1⟩, q1.2 j ⟨hj.2.2.1, hj.2.2.2.1, hj.2.2.2.2.1, hj.2.2.2.2.2.1⟩, b2 j ⟨hj.2.2.1, hj.2.2.2.1, hj.2.2.2.2.1, hj.2.2.2.2.2.1, hj.2.2.2.2.2.2.1, hj.2.2.2.2.2.2.2.1, hj.2.2.2.2.2.2.2.2⟩]
      exact a2 j ⟨hj.2.2.1, hj.2.2.2.2.2.2.2.2⟩
    · rw [q2 110 (by decide), q1.1 110 (by decide), b3 j hj, a1 110 (by decide)]
    · rw [q4, mv_up_n _ _ (by omega), q1.1 111 (by decide), b4 j hj, a1 111 (by decide)]
    · rw [q2 110 (by decide), q1.1 110 (by decide)]
      exact (b5 (q7 g)).2.1
    · have b5 := b5 (q7 g)
      rw [q4]
      by_cases c : j = 3
      · rw [c, mv_up_s, q1.2 29 (by decide)]
        exact b5.1.2
      · rw [mv_up_n _ _ (by omega), q1.1 111 (by decide)]
        exact b5.2.2 j (by omega)
  by_cases g : (sp_Rt f t 3).1 = true
  · have hok := hok3 g
    have c21 := (b5 g).1.1
    have e4 := sp_R4_t g
    have c108 : M1 108 = MB 108 := b1 108 (by decide)
    have hcg := tk_cg (f := M1 108) (g := f) (t := t) (p := (sp_Rt f t 3).2.1) (fun j hj => by rw [c108]; exact h108 j hj) hok.1
    have hnt := sp_mnt (d := 0) (M0 := M1) (t := t) ht hok.1 (fun j hj => by rw [c108, h108 j hj]; exact hb j hj) (by rw [b1 125 (by decide), a1 125 (by decide)]; exact hw) ((b2 9 (by decide)).trans ((a2 9 (by decide)).trans h9)) c21
    have nt : ∀ MX, sp_nt t (sp_Rt f t 3).2.1 M1 MX → (mv_ag [100] M1 MX ∧ ∀ j, (j ≠ 21 ∧ j ≠ 22 ∧ j ≠ 23 ∧ j ≠ 24) → MX 100 j = M1 100 j) ∧ MX 100 23 = tk_M (tk_K f t (sp_Rt f t 3).2.1) ∧ MX 100 22 = (tk_Q f t (sp_Rt f t 3).2.1 : Int) := fun MX q => by
      obtain ⟨q1, q2, q3, q4, q5, q6, q7⟩ := q
      rw [hcg.2.1] at q3
      rw [hcg.1] at q4
      exact ⟨⟨q1, q2⟩, q3, q4⟩
    have hM0 := tk_M_0 (tk_40 (f := f) (t := t) (p := (sp_Rt f t 3).2.1))
    have hqb := tk_Q_b f hok.1
    rw [g, show sp_b2 true = 1 from rfl]
    by_cases k : tk_K f t (sp_Rt f t 3).2.1 = 302
    · rw [if_pos k] at e4
      have m0 := hM0.2 k
      have ev : sp_tv f t n = (n : Int) := by
        unfold sp_tv
        rw [e4]
        rfl
      have eg : (sp_R4 f t).1 = true := by rw [e4]
      rw [ev]
      rw [if_pos eg] at res
      refine mv_go' 2 (pc' := if 1 = 0 then 122 else 105) (ls' := [mv_R 100, mv_I 1, mv_I x]) (st' := []) (M1 := M1) rfl ?_
      refine mv_ff' (by first | decide | omega) ?_
      refine mv_go' 1 (pc' := 106) (ls' := [mv_R 100, mv_I 1, mv_I x]) (st' := [mv_R 100]) (M1 := M1) rfl ?_
      refine mv_call (st2 := []) rfl (Or.inl rfl) rfl rfl rfl (hnt) (by first | decide | omega) (fun Ma1 hm2 => ?_)
      have hx := nt _ hm2
      have x23 := hx.2.1.trans m0
      have x12 : Ma1 100 12 = (n : Int) := (hx.1.2 12 (by decide)).trans c12
      refine mv_go' 2 (pc' := 113) (ls' := [mv_R 100, mv_I 1, mv_I x]) (st' := [mv_I (Ma1 100 23)]) (M1 := Ma1) rfl ?_
      rw [show Ma1 100 23 = 0 from by exact x23]
      refine mv_go' 1 (pc' := if 0 = 0 then 116 else 120) (ls' := [mv_R 100, mv_I 1, mv_I x]) (st' := []) (M1 := Ma1) rfl ?_
      refine mv_tt' (by first | decide | omega) ?_
      refine mv_go' 8 (pc' := 131) (ls' := [mv_R 100, mv_I 1, mv_I x]) (st' := [mv_I (Ma1 100 12), mv_I 4, mv_R 111]) (M1 := Ma1) rfl ?_
      rw [show Ma1 100 12 = (n : Int) from by exact x12]
      refine mv_go' 5 (pc' := 138) (ls' := [mv_R 100, mv_I 1, mv_I x]) (st' := [mv_I (Ma1 100 29), mv_I (mv_w ((mv_w (4 * (n : Int))) + 3)), mv_R 111]) (M1 := Ma1) rfl ?_
      rw [show mv_w ((mv_w (4 * (n : Int))) + 3) = ((4 * n + 3 : Nat) : Int) from by (rw [show mv_w (4 * (n : Int)) = 4 * (n : Int) from mv_w_id (by omega) (by omega), show mv_w ((4 * (n : Int)) + 3) = (4 * (n : Int)) + 3 from mv_w_id (by omega) (by omega)]) <;> omega]
      refine mv_go' 1 (pc' := if 0 ≤ ((4 * n + 3 : Nat) : Int) ∧ ((4 * n + 3 : Nat) : Int) < 24 then 139 else mv_bad) (ls' := [mv_R 100, mv_I 1, mv_I x]) (st' := []) (M1 := (mv_st Ma1 111 (mv_up (Ma1 111) (4 * n + 3) (Ma1 100 29)))) rfl ?_
      refine mv_tt' (by omega) ?_
      refine mv_go' 5 (pc' := if 1 = 0 then 148 else 156) (ls' := [mv_R 100, mv_I 1, mv_I x]) (st' := []) (M1 := (mv_st (mv_st Ma1 111 (mv_up (Ma1 111) (4 * n + 3) (Ma1 100 29))) 100 (mv_up (Ma1 100) 9 0))) rfl ?_
      refine mv_ff' (by first | decide | omega) ?_
      refine mv_go' 3 (pc' := 161) (ls' := [mv_R 100, mv_I 1, mv_I x]) (st' := [mv_I (Ma1 100 12), mv_R 100]) (M1 := (mv_st (mv_st Ma1 111 (mv_up (Ma1 111) (4 * n + 3) (Ma1 100 29))) 100 (mv_up (Ma1 100) 9 0))) rfl ?_
      rw [show Ma1 100 12 = (n : Int) from by exact x12]
      refine mv_go' 3 (pc' := 166) (ls' := [mv_R 100, mv_I 1, mv_I x]) (st' := []) (M1 := (mv_st (mv_st (mv_st Ma1 111 (mv_up (Ma1 111) (4 * n + 3) (Ma1 100 29))) 100 (mv_up (Ma1 100) 9 0)) 100 (mv_up (mv_up (Ma1 100) 9 0) 12 (mv_w ((n : Int) + 1))))) rfl ?_
      rw [show mv_w ((n : Int) + 1) = (n : Int) + 1 from mv_w_id (by omega) (by omega)]
      have u12 : (n : Int) + 1 = ((n + 1 : Nat) : Int) := by omega
      have hr := res Ma1 (mv_st (mv_st (mv_st Ma1 111 (mv_up (Ma1 111) (4 * n + 3) (Ma1 100 29))) 100 (mv_up (Ma1 100) 9 0)) 100 (mv_up (mv_up (Ma1 100) 9 0) 12 ((n : Int) + 1))) 0 hx.1 (by repeat (first | exact mv_ag.rf | refine mv_ag.st ?_ (by decide))) (fun j hj => (mv_up_n _ _ hj.2).trans (mv_up_n _ _ hj.1)) rfl rfl u12 (fun _ => g)
      refine mv_go' 4 (pc' := 172) (ls' := [mv_R 100, mv_I 1, mv_I x]) (st' := [mv_I (mv_w (((n : Int) + 1) - 1))]) (M1 := (mv_st (mv_st (mv_st Ma1 111 (mv_up (Ma1 111) (4 * n + 3) (Ma1 100 29))) 100 (mv_up (Ma1 100) 9 0)) 100 (mv_up (mv_up (Ma1 100) 9 0) 12 ((n : Int) + 1)))) rfl ?_
      rw [show mv_w (((n : Int) + 1) - 1) = ((n : Int) + 1) - 1 from mv_w_id (by omega) (by omega)]
      rw [show ((n : Int) + 1) - 1 = (n : Int) from by omega]
      exact mv_Ru.val (mv_ret (fun n => rfl) hr) (congrArg mv_I (by omega))
    · rw [if_neg k] at e4
      have m0 : ¬ tk_M (tk_K f t (sp_Rt f t 3).2.1) = 0 := fun z => k (hM0.1 z)
      have ev : sp_tv f t n = -100 - (tk_Q f t (sp_Rt f t 3).2.1 : Int) := by
        unfold sp_tv
        rw [e4]
        rfl
      have eg : ¬ (sp_R4 f t).1 = true := by rw [e4]; exact Bool.false_ne_true
      rw [ev]
      rw [if_neg eg] at res
      obtain ⟨mk, hmk⟩ : ∃ mk, mk = tk_M (tk_K f t (sp_Rt f t 3).2.1) := ⟨_, rfl⟩
      obtain ⟨q, hq⟩ : ∃ q, q = tk_Q f t (sp_Rt f t 3).2.1 := ⟨_, rfl⟩
      rw [← hmk] at nt m0
      rw [← hq] at nt hqb ⊢
      refine mv_go' 2 (pc' := if 1 = 0 then 122 else 105) (ls' := [mv_R 100, mv_I 1, mv_I x]) (st' := []) (M1 := M1) rfl ?_
      refine mv_ff' (by first | decide | omega) ?_
      refine mv_go' 1 (pc' := 106) (ls' := [mv_R 100, mv_I 1, mv_I x]) (st' := [mv_R 100]) (M1 := M1) rfl ?_
      refine mv_call (st2 := []) rfl (Or.inl rfl) rfl rfl rfl (hnt) (by first | decide | omega) (fun Ma3 hm4 => ?_)
      have hx := nt _ hm4
      have x23 := hx.2.1
      have x22 := hx.2.2
      have x12 : Ma3 100 12 = (n : Int) := (hx.1.2 12 (by decide)).trans c12
      refine mv_go' 2 (pc' := 113) (ls' := [mv_R 100, mv_I 1, mv_I x]) (st' := [mv_I (Ma3 100 23)]) (M1 := Ma3) rfl ?_
      rw [show Ma3 100 23 = mk from by exact x23]
      refine mv_go' 1 (pc' := if mk = 0 then 116 else 120) (ls' := [mv_R 100, mv_I 1, mv_I x]) (st' := []) (M1 := Ma3) rfl ?_
      refine mv_ff' (by omega) ?_
      refine mv_go' 7 (pc' := 131) (ls' := [mv_R 100, mv_I 0, mv_I x]) (st' := [mv_I (Ma3 100 12), mv_I 4, mv_R 111]) (M1 := Ma3) rfl ?_
      rw [show Ma3 100 12 = (n : Int) from by exact x12]
      refine mv_go' 5 (pc' := 138) (ls' := [mv_R 100, mv_I 0, mv_I x]) (st' := [mv_I (Ma3 100 29), mv_I (mv_w ((mv_w (4 * (n : Int))) + 3)), mv_R 111]) (M1 := Ma3) rfl ?_
      rw [show mv_w ((mv_w (4 * (n : Int))) + 3) = ((4 * n + 3 : Nat) : Int) from by (rw [show mv_w (4 * (n : Int)) = 4 * (n : Int) from mv_w_id (by omega) (by omega), show mv_w ((4 * (n : Int)) + 3) = (4 * (n : Int)) + 3 from mv_w_id (by omega) (by omega)]) <;> omega]
      refine mv_go' 1 (pc' := if 0 ≤ ((4 * n + 3 : Nat) : Int) ∧ ((4 * n + 3 : Nat) : Int) < 24 then 139 else mv_bad) (ls' := [mv_R 100, mv_I 0, mv_I x]) (st' := []) (M1 := (mv_st Ma3 111 (mv_up (Ma3 111) (4 * n + 3) (Ma3 100 29)))) rfl ?_
      refine mv_tt' (by omega) ?_
      refine mv_go' 3 (pc' := 144) (ls' := [mv_R 100, mv_I 0, mv_I x]) (st' := []) (M1 := (mv_st (mv_st Ma3 111 (mv_up (Ma3 111) (4 * n + 3) (Ma3 100 29))) 100 (mv_up (Ma3 100) 9 0))) rfl ?_
      have u12 : Ma3 100 12 = (n : Int) := by first | omega | exact x12
      have hr := res Ma3 (mv_st (mv_st Ma3 111 (mv_up (Ma3 111) (4 * n + 3) (Ma3 100 29))) 100 (mv_up (Ma3 100) 9 0)) 0 hx.1 (by repeat (first | exact mv_ag.rf | refine mv_ag.st ?_ (by decide))) (fun j hj => mv_up_n _ _ hj.1) rfl rfl u12 (fun _ => g)
      refine mv_go' 2 (pc' := if 0 = 0 then 148 else 156) (ls' := [mv_R 100, mv_I 0, mv_I x]) (st' := []) (M1 := (mv_st (mv_st Ma3 111 (mv_up (Ma3 111) (4 * n + 3) (Ma3 100 29))) 100 (mv_up (Ma3 100) 9 0))) rfl ?_
      refine mv_tt' (by first | decide | omega) ?_
      refine mv_go' 3 (pc' := 154) (ls' := [mv_R 100, mv_I 0, mv_I x]) (st' := [mv_I (Ma3 100 22), mv_I (-100)]) (M1 := (mv_st (mv_st Ma3 111 (mv_up (Ma3 111) (4 * n + 3) (Ma3 100 29))) 100 (mv_up (Ma3 100) 9 0))) rfl ?_
      rw [show Ma3 100 22 = (q : Int) from by exact x22]
      refine mv_go' 1 (pc' := 155) (ls' := [mv_R 100, mv_I 0, mv_I x]) (st' := [mv_I (mv_w ((-100) - (q : Int)))]) (M1 := (mv_st (mv_st Ma3 111 (mv_up (Ma3 111) (4 * n + 3) (Ma3 100 29))) 100 (mv_up (Ma3 100) 9 0))) rfl ?_
      rw [show mv_w ((-100) - (q : Int)) = (-100) - (q : Int) from mv_w_id (by omega) (by omega)]
      exact mv_Ru.val (mv_ret (fun n => rfl) hr) (congrArg mv_I (by omega))
  · have e4 := sp_R4_f g
    have c22 := b6 g
    have hb22 : (sp_Rt f t 3).2.1 ≤ 160 := sp_Rt_q f ht 3 (by decide)
    have ev : sp_tv f t n = -100 - ((sp_Rt f t 3).2.1 : Int) := by
      unfold sp_tv
      rw [e4, if_neg g]
    have eg : ¬ (sp_R4 f t).1 = true := by rw [e4]; exact g
    rw [ev, Bool.eq_false_iff.2 g, show sp_b2 false = 0 from rfl]
    rw [if_neg eg] at res
    have hr0 := fun M2 => res M1 M2 0 ⟨mv_ag.rf, fun _ _ => rfl⟩
    obtain ⟨q, hq⟩ : ∃ q, q = (sp_Rt f t 3).2.1 := ⟨_, rfl⟩
    rw [← hq] at c22 hb22 ⊢
    refine mv_go' 2 (pc' := if 0 = 0 then 122 else 105) (ls' := [mv_R 100, mv_I 0, mv_I x]) (st' := []) (M1 := M1) rfl ?_
    refine mv_tt' (by first | decide | omega) ?_
    refine mv_go' 5 (pc' := 131) (ls' := [mv_R 100, mv_I 0, mv_I x]) (st' := [mv_I (M1 100 12), mv_I 4, mv_R 111]) (M1 := M1) rfl ?_
    rw [show M1 100 12 = (n : Int) from by exact c12]
    refine mv_go' 5 (pc' := 138) (ls' := [mv_R 100, mv_I 0, mv_I x]) (st' := [mv_I (M1 100 29), mv_I (mv_w ((mv_w (4 * (n : Int))) + 3)), mv_R 111]) (M1 := M1) rfl ?_
    rw [show mv_w ((mv_w (4 * (n : Int))) + 3) = ((4 * n + 3 : Nat) : Int) from by (rw [show mv_w (4 * (n : Int)) = 4 * (n : Int) from mv_w_id (by omega) (by omega), show mv_w ((4 * (n : Int)) + 3) = (4 * (n : Int)) + 3 from mv_w_id (by omega) (by omega)]) <;> omega]
    refine mv_go' 1 (pc' := if 0 ≤ ((4 * n + 3 : Nat) : Int) ∧ ((4 * n + 3 : Nat) : Int) < 24 then 139 else mv_bad) (ls' := [mv_R 100, mv_I 0, mv_I x]) (st' := []) (M1 := (mv_st M1 111 (mv_up (M1 111) (4 * n + 3) (M1 100 29)))) rfl ?_
    refine mv_tt' (by omega) ?_
    refine mv_go' 3 (pc' := 144) (ls' := [mv_R 100, mv_I 0, mv_I x]) (st' := []) (M1 := (mv_st (mv_st M1 111 (mv_up (M1 111) (4 * n + 3) (M1 100 29))) 100 (mv_up (M1 100) 9 0))) rfl ?_
    have u12 : M1 100 12 = (n : Int) := c12
    have hr := hr0 (mv_st (mv_st M1 111 (mv_up (M1 111) (4 * n + 3) (M1 100 29))) 100 (mv_up (M1 100) 9 0)) (by repeat (first | exact mv_ag.rf | refine mv_ag.st ?_ (by decide))) (fun j hj => mv_up_n _ _ hj.1) rfl rfl u12 (fun c => absurd c eg)
    refine mv_go' 2 (pc' := if 0 = 0 then 148 else 156) (ls' := [mv_R 100, mv_I 0, mv_I x]) (st' := []) (M1 := (mv_st (mv_st M1 111 (mv_up (M1 111) (4 * n + 3) (M1 100 29))) 100 (mv_up (M1 100) 9 0))) rfl ?_
    refine mv_tt' (by first | decide | omega) ?_
    refine mv_go' 3 (pc' := 154) (ls' := [mv_R 100, mv_I 0, mv_I x]) (st' := [mv_I (M1 100 22), mv_I (-100)]) (M1 := (mv_st (mv_st M1 111 (mv_up (M1 111) (4 * n + 3) (M1 100 29))) 100 (mv_up (M1 100) 9 0))) rfl ?_
    rw [show M1 100 22 = (q : Int) from by exact c22]
    refine mv_go' 1 (pc' := 155) (ls' := [mv_R 100, mv_I 0, mv_I x]) (st' := [mv_I (mv_w ((-100) - (q : Int)))]) (M1 := (mv_st (mv_st M1 111 (mv_up (M1 111) (4 * n + 3) (M1 100 29))) 100 (mv_up (M1 100) 9 0))) rfl ?_
    rw [show mv_w ((-100) - (q : Int)) = (-100) - (q : Int) from mv_w_id (by omega) (by omega)]
    exact mv_Ru.val (mv_ret (fun n => rfl) hr) (congrArg mv_I (by omega))
