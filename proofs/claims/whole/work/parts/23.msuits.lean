/-! the model: says, asksOf, suitsOf, likesOf -/
theorem sp_msays0 {V M : mv_M} {t p i : Nat} {code : List Int} (hV : sp_m M V) (hl : V 0 11 = (t : Int)) (ht : t < 6) (hp : p < 3) (hw : sp_wf code 0) (hi : M 111 (4 * t + p) = (i : Int)) (hat : sp_at (M 110) (200 * t + i) (code.map sp_en)) (hlen : i + code.length ≤ 160) (he : M 111 (4 * t + p + 1) = ((i + code.length : Nat) : Int)) :
    mv_Ru 1 138 0 [mv_R 100, mv_I (p : Int), mv_U, mv_U, mv_U] [] M (mv_I (sp_top (sp_run (M 131) code []))) (fun M1 => mv_ag [130] M M1) := by
  have ht13 : M 100 13 = (t : Int) := (sp_m_s11 hV).trans hl
  refine mv_go' 7 (pc' := 11) (ls' := [mv_R 100, mv_I (p : Int), mv_I 0, mv_U, mv_U]) (st' := [mv_I (M 100 13), mv_I 4, mv_R 111]) (M1 := M) rfl ?_
  rw [show M 100 13 = (t : Int) from by exact ht13]
  refine mv_go' 3 (pc' := 14) (ls' := [mv_R 100, mv_I (p : Int), mv_I 0, mv_U, mv_U]) (st' := [mv_I (mv_w ((mv_w (4 * (t : Int))) + (p : Int))), mv_R 111]) (M1 := M) rfl ?_
  rw [show mv_w ((mv_w (4 * (t : Int))) + (p : Int)) = ((4 * t + p : Nat) : Int) from by (rw [show mv_w (4 * (t : Int)) = 4 * (t : Int) from mv_w_id (by omega) (by omega), show mv_w ((4 * (t : Int)) + (p : Int)) = (4 * (t : Int)) + (p : Int) from mv_w_id (by omega) (by omega)]) <;> omega]
  refine mv_go' 1 (pc' := if 0 ≤ ((4 * t + p : Nat) : Int) ∧ ((4 * t + p : Nat) : Int) < 24 then 15 else mv_bad) (ls' := [mv_R 100, mv_I (p : Int), mv_I 0, mv_U, mv_U]) (st' := [mv_I (M 111 (4 * t + p))]) (M1 := M) rfl ?_
  refine mv_tt' (by omega) ?_
  rw [show M 111 (4 * t + p) = (i : Int) from by exact hi]
  refine mv_go' 1 (pc' := 16) (ls' := [mv_R 100, mv_I (p : Int), mv_I 0, mv_I (i : Int), mv_U]) (st' := []) (M1 := M) rfl ?_
  exact sp_mval_lp ht hp code [] 0 i M mv_U ht13 rfl hw (by decide) hat hlen he trivial
def sp_mts (M : mv_M) (P : Nat → Nat → List Int) (n : Int) : Prop := ∀ t : Nat, (t : Int) < n → sp_mt t M (P t)
theorem sp_mts_ag {S : List Nat} {M M1 : mv_M} {P : Nat → Nat → List Int} {n : Int} (h : sp_mts M P n) (ha : mv_ag S M M1) (hs : 110 ∉ S ∧ 111 ∉ S) : sp_mts M1 P n := fun t ht => by
  unfold sp_mt
  rw [ha _ hs.1, ha _ hs.2]
  exact h t ht
theorem sp_mt_wf {t : Nat} {M : mv_M} {P : Nat → List Int} (h : sp_mt t M P) {p : Nat} (hp : p < 3) : sp_wf (P p) 0 := by
  match p, hp with
  | 0, _ => exact h.2.2.1.1
  | 1, _ => exact h.2.2.1.2.1
  | 2, _ => exact h.2.2.1.2.2
theorem sp_msays {V M : mv_M} {P : Nat → Nat → List Int} {n : Int} {p : Nat} (hV : sp_m M V) (ho : sp_ok V) (hl : V 0 11 < n) (hP : sp_mts M P n) (hp : p < 3) :
    mv_Ru 1 138 0 [mv_R 100, mv_I (p : Int), mv_U, mv_U, mv_U] [] M (mv_I (sp_top (sp_run (M 131) (P (V 0 11).toNat p) []))) (fun M1 => mv_ag [130] M M1) := by
  have h11 := sp_ok_s11 ho
  have e : V 0 11 = ((V 0 11).toNat : Int) := by omega
  have hq := hP (V 0 11).toNat (by omega)
  obtain ⟨⟨e0, e1, e2, e3⟩, ⟨a0, a1, a2⟩, ⟨w0, w1, w2⟩, hlen⟩ := hq
  match p, hp with
  | 0, _ => exact sp_msays0 (p := 0) (i := 0) hV e (by omega) (by decide) w0 e0 a0 (by omega) (by rw [e1]; simp)
  | 1, _ => exact sp_msays0 (p := 1) hV e (by omega) (by decide) w1 e1 a1 (by omega) e2
  | 2, _ => exact sp_msays0 (p := 2) hV e (by omega) (by decide) w2 e2 a2 (by omega) e3
/-- what stays of the model's own fields -/
theorem sp_m_ag2 {S : List Nat} {M M1 V : mv_M} (h : sp_m M V) (ha : mv_ag S M M1) (hs : 100 ∉ S ∧ 102 ∉ S ∧ 103 ∉ S ∧ 104 ∉ S ∧ 105 ∉ S ∧ 106 ∉ S) : sp_m M1 V :=
  sp_m_ag h ha (by rw [ha _ hs.1]; exact ⟨rfl, rfl, rfl, rfl⟩) hs.2
theorem sp_masks {V M : mv_M} {P : Nat → Nat → List Int} {n : Int} {p u k : Nat} {need : Int} (hV : sp_m M V) (ho : sp_ok V) (hl : V 0 11 < n) (hP : sp_mts M P n) (hp : p < 3) (hu : (u : Int) < V 0 9) (hk : k < 4) :
    mv_Ru 2 140 0 [mv_R 100, mv_I (p : Int), mv_I (u : Int), mv_I need, mv_I (k : Int)] [] M (mv_I (sp_says V P p u k need)) (fun M1 => mv_ag [130, 131] M M1) := by
  have h9 := sp_ok_s9 ho
  have h11 := sp_ok_s11 ho
  refine mv_go' 10 (pc' := 15) (ls' := [mv_R 100, mv_I (p : Int), mv_I (u : Int), mv_I need, mv_I (k : Int)]) (st' := [mv_I (mv_w ((mv_w (4 * (u : Int))) + (k : Int))), mv_R 105, mv_I 0, mv_R 131]) (M1 := M) rfl ?_
  rw [show mv_w ((mv_w (4 * (u : Int))) + (k : Int)) = ((4 * u + k : Nat) : Int) from by (rw [show mv_w (4 * (u : Int)) = 4 * (u : Int) from mv_w_id (by omega) (by omega), show mv_w ((4 * (u : Int)) + (k : Int)) = (4 * (u : Int)) + (k : Int) from mv_w_id (by omega) (by omega)]) <;> omega]
  refine mv_go' 1 (pc' := if 0 ≤ ((4 * u + k : Nat) : Int) ∧ ((4 * u + k : Nat) : Int) < 24 then 16 else mv_bad) (ls' := [mv_R 100, mv_I (p : Int), mv_I (u : Int), mv_I need, mv_I (k : Int)]) (st' := [mv_I (M 105 (4 * u + k)), mv_I 0, mv_R 131]) (M1 := M) rfl ?_
  refine mv_tt' (by first | omega | decide) ?_
  have hr1 := sp_ok_3 ho (4 * u + k) (by omega)
  rw [show M 105 (4 * u + k) = V 3 (4 * u + k) from by exact sp_m_3 hV (4 * u + k) (by omega)]
  refine mv_go' 1 (pc' := if 0 ≤ 0 ∧ 0 < 6 then 17 else mv_bad) (ls' := [mv_R 100, mv_I (p : Int), mv_I (u : Int), mv_I need, mv_I (k : Int)]) (st' := []) (M1 := (mv_st M 131 (mv_up (M 131) 0 (V 3 (4 * u + k))))) rfl ?_
  refine mv_tt' (by first | omega | decide) ?_
  refine mv_go' 5 (pc' := if 0 ≤ 1 ∧ 1 < 6 then 24 else mv_bad) (ls' := [mv_R 100, mv_I (p : Int), mv_I (u : Int), mv_I need, mv_I (k : Int)]) (st' := []) (M1 := (mv_st (mv_st M 131 (mv_up (M 131) 0 (V 3 (4 * u + k)))) 131 (mv_up (mv_up (M 131) 0 (V 3 (4 * u + k))) 1 need))) rfl ?_
  refine mv_tt' (by first | omega | decide) ?_
  refine mv_go' 5 (pc' := if 0 ≤ 2 ∧ 2 < 6 then 32 else mv_bad) (ls' := [mv_R 100, mv_I (p : Int), mv_I (u : Int), mv_I need, mv_I (k : Int)]) (st' := []) (M1 := (mv_st (mv_st (mv_st M 131 (mv_up (M 131) 0 (V 3 (4 * u + k)))) 131 (mv_up (mv_up (M 131) 0 (V 3 (4 * u + k))) 1 need)) 131 (mv_up (mv_up (mv_up (M 131) 0 (V 3 (4 * u + k))) 1 need) 2 (k : Int)))) rfl ?_
  refine mv_tt' (by first | omega | decide) ?_
  refine mv_go' 5 (pc' := 41) (ls' := [mv_R 100, mv_I (p : Int), mv_I (u : Int), mv_I need, mv_I (k : Int)]) (st' := [mv_I (M 100 7), mv_I 3, mv_R 131]) (M1 := (mv_st (mv_st (mv_st M 131 (mv_up (M 131) 0 (V 3 (4 * u + k)))) 131 (mv_up (mv_up (M 131) 0 (V 3 (4 * u + k))) 1 need)) 131 (mv_up (mv_up (mv_up (M 131) 0 (V 3 (4 * u + k))) 1 need) 2 (k : Int)))) rfl ?_
  have hr3 := sp_ok_s10 ho
  rw [show M 100 7 = V 0 10 from by exact sp_m_s10 hV]
  refine mv_go' 1 (pc' := if 0 ≤ 3 ∧ 3 < 6 then 42 else mv_bad) (ls' := [mv_R 100, mv_I (p : Int), mv_I (u : Int), mv_I need, mv_I (k : Int)]) (st' := []) (M1 := (mv_st (mv_st (mv_st (mv_st M 131 (mv_up (M 131) 0 (V 3 (4 * u + k)))) 131 (mv_up (mv_up (M 131) 0 (V 3 (4 * u + k))) 1 need)) 131 (mv_up (mv_up (mv_up (M 131) 0 (V 3 (4 * u + k))) 1 need) 2 (k : Int))) 131 (mv_up (mv_up (mv_up (mv_up (M 131) 0 (V 3 (4 * u + k))) 1 need) 2 (k : Int)) 3 (V 0 10)))) rfl ?_
  refine mv_tt' (by first | omega | decide) ?_
  refine mv_go' 5 (pc' := 49) (ls' := [mv_R 100, mv_I (p : Int), mv_I (u : Int), mv_I need, mv_I (k : Int)]) (st' := [mv_I (u : Int), mv_R 100, mv_I 4, mv_R 131]) (M1 := (mv_st (mv_st (mv_st (mv_st M 131 (mv_up (M 131) 0 (V 3 (4 * u + k)))) 131 (mv_up (mv_up (M 131) 0 (V 3 (4 * u + k))) 1 need)) 131 (mv_up (mv_up (mv_up (M 131) 0 (V 3 (4 * u + k))) 1 need) 2 (k : Int))) 131 (mv_up (mv_up (mv_up (mv_up (M 131) 0 (V 3 (4 * u + k))) 1 need) 2 (k : Int)) 3 (V 0 10)))) rfl ?_
  have ha : mv_ag [131] M (mv_st (mv_st (mv_st (mv_st M 131 (mv_up (M 131) 0 (V 3 (4 * u + k)))) 131 (mv_up (mv_up (M 131) 0 (V 3 (4 * u + k))) 1 need)) 131 (mv_up (mv_up (mv_up (M 131) 0 (V 3 (4 * u + k))) 1 need) 2 (k : Int))) 131 (mv_up (mv_up (mv_up (mv_up (M 131) 0 (V 3 (4 * u + k))) 1 need) 2 (k : Int)) 3 (V 0 10))) := by repeat (first | exact mv_ag.rf | refine mv_ag.st ?_ (by decide))
  refine mv_callP (st2 := [mv_I (sp_hired V (u : Int)), mv_I 4, mv_R 131]) rfl (Or.inl rfl) rfl rfl rfl (sp_mhired (sp_m_ag2 hV ha (by decide)) ho) (by first | decide | omega) ?_
  refine mv_go' 1 (pc' := if 0 ≤ 4 ∧ 4 < 6 then 53 else mv_bad) (ls' := [mv_R 100, mv_I (p : Int), mv_I (u : Int), mv_I need, mv_I (k : Int)]) (st' := []) (M1 := (mv_st (mv_st (mv_st (mv_st (mv_st M 131 (mv_up (M 131) 0 (V 3 (4 * u + k)))) 131 (mv_up (mv_up (M 131) 0 (V 3 (4 * u + k))) 1 need)) 131 (mv_up (mv_up (mv_up (M 131) 0 (V 3 (4 * u + k))) 1 need) 2 (k : Int))) 131 (mv_up (mv_up (mv_up (mv_up (M 131) 0 (V 3 (4 * u + k))) 1 need) 2 (k : Int)) 3 (V 0 10))) 131 (mv_up (mv_up (mv_up (mv_up (mv_up (M 131) 0 (V 3 (4 * u + k))) 1 need) 2 (k : Int)) 3 (V 0 10)) 4 (sp_hired V (u : Int))))) rfl ?_
  refine mv_tt' (by first | omega | decide) ?_
  refine mv_go' 7 (pc' := if 0 ≤ (u : Int) ∧ (u : Int) < 6 then 64 else mv_bad) (ls' := [mv_R 100, mv_I (p : Int), mv_I (u : Int), mv_I need, mv_I (k : Int)]) (st' := [mv_I (M 103 u), mv_I 5, mv_R 131]) (M1 := (mv_st (mv_st (mv_st (mv_st (mv_st M 131 (mv_up (M 131) 0 (V 3 (4 * u + k)))) 131 (mv_up (mv_up (M 131) 0 (V 3 (4 * u + k))) 1 need)) 131 (mv_up (mv_up (mv_up (M 131) 0 (V 3 (4 * u + k))) 1 need) 2 (k : Int))) 131 (mv_up (mv_up (mv_up (mv_up (M 131) 0 (V 3 (4 * u + k))) 1 need) 2 (k : Int)) 3 (V 0 10))) 131 (mv_up (mv_up (mv_up (mv_up (mv_up (M 131) 0 (V 3 (4 * u + k))) 1 need) 2 (k : Int)) 3 (V 0 10)) 4 (sp_hired V (u : Int))))) rfl ?_
  refine mv_tt' (by first | omega | decide) ?_
  have hr5 := sp_ok_5 ho u (by omega)
  rw [show M 103 u = V 5 u from by exact sp_m_5 hV u (by omega)]
  refine mv_go' 1 (pc' := if 0 ≤ 5 ∧ 5 < 6 then 65 else mv_bad) (ls' := [mv_R 100, mv_I (p : Int), mv_I (u : Int), mv_I need, mv_I (k : Int)]) (st' := []) (M1 := (mv_st (mv_st (mv_st (mv_st (mv_st (mv_st M 131 (mv_up (M 131) 0 (V 3 (4 * u + k)))) 131 (mv_up (mv_up (M 131) 0 (V 3 (4 * u + k))) 1 need)) 131 (mv_up (mv_up (mv_up (M 131) 0 (V 3 (4 * u + k))) 1 need) 2 (k : Int))) 131 (mv_up (mv_up (mv_up (mv_up (M 131) 0 (V 3 (4 * u + k))) 1 need) 2 (k : Int)) 3 (V 0 10))) 131 (mv_up (mv_up (mv_up (mv_up (mv_up (M 131) 0 (V 3 (4 * u + k))) 1 need) 2 (k : Int)) 3 (V 0 10)) 4 (sp_hired V (u : Int)))) 131 (mv_up (mv_up (mv_up (mv_up (mv_up (mv_up (M 131) 0 (V 3 (4 * u + k))) 1 need) 2 (k : Int)) 3 (V 0 10)) 4 (sp_hired V (u : Int))) 5 (V 5 u)))) rfl ?_
  refine mv_tt' (by first | omega | decide) ?_
  refine mv_go' 2 (pc' := 67) (ls' := [mv_R 100, mv_I (p : Int), mv_I (u : Int), mv_I need, mv_I (k : Int)]) (st' := [mv_I (p : Int), mv_R 100]) (M1 := (mv_st (mv_st (mv_st (mv_st (mv_st (mv_st M 131 (mv_up (M 131) 0 (V 3 (4 * u + k)))) 131 (mv_up (mv_up (M 131) 0 (V 3 (4 * u + k))) 1 need)) 131 (mv_up (mv_up (mv_up (M 131) 0 (V 3 (4 * u + k))) 1 need) 2 (k : Int))) 131 (mv_up (mv_up (mv_up (mv_up (M 131) 0 (V 3 (4 * u + k))) 1 need) 2 (k : Int)) 3 (V 0 10))) 131 (mv_up (mv_up (mv_up (mv_up (mv_up (M 131) 0 (V 3 (4 * u + k))) 1 need) 2 (k : Int)) 3 (V 0 10)) 4 (sp_hired V (u : Int)))) 131 (mv_up (mv_up (mv_up (mv_up (mv_up (mv_up (M 131) 0 (V 3 (4 * u + k))) 1 need) 2 (k : Int)) 3 (V 0 10)) 4 (sp_hired V (u : Int))) 5 (V 5 u)))) rfl ?_
  have ha : mv_ag [131] M (mv_st (mv_st (mv_st (mv_st (mv_st (mv_st M 131 (mv_up (M 131) 0 (V 3 (4 * u + k)))) 131 (mv_up (mv_up (M 131) 0 (V 3 (4 * u + k))) 1 need)) 131 (mv_up (mv_up (mv_up (M 131) 0 (V 3 (4 * u + k))) 1 need) 2 (k : Int))) 131 (mv_up (mv_up (mv_up (mv_up (M 131) 0 (V 3 (4 * u + k))) 1 need) 2 (k : Int)) 3 (V 0 10))) 131 (mv_up (mv_up (mv_up (mv_up (mv_up (M 131) 0 (V 3 (4 * u + k))) 1 need) 2 (k : Int)) 3 (V 0 10)) 4 (sp_hired V (u : Int)))) 131 (mv_up (mv_up (mv_up (mv_up (mv_up (mv_up (M 131) 0 (V 3 (4 * u + k))) 1 need) 2 (k : Int)) 3 (V 0 10)) 4 (sp_hired V (u : Int))) 5 (V 5 u))) := by repeat (first | exact mv_ag.rf | refine mv_ag.st ?_ (by decide))
  have hn : ∀ i, i < 6 → (mv_st (mv_st (mv_st (mv_st (mv_st (mv_st M 131 (mv_up (M 131) 0 (V 3 (4 * u + k)))) 131 (mv_up (mv_up (M 131) 0 (V 3 (4 * u + k))) 1 need)) 131 (mv_up (mv_up (mv_up (M 131) 0 (V 3 (4 * u + k))) 1 need) 2 (k : Int))) 131 (mv_up (mv_up (mv_up (mv_up (M 131) 0 (V 3 (4 * u + k))) 1 need) 2 (k : Int)) 3 (V 0 10))) 131 (mv_up (mv_up (mv_up (mv_up (mv_up (M 131) 0 (V 3 (4 * u + k))) 1 need) 2 (k : Int)) 3 (V 0 10)) 4 (sp_hired V (u : Int)))) 131 (mv_up (mv_up (mv_up (mv_up (mv_up (mv_up (M 131) 0 (V 3 (4 * u + k))) 1 need) 2 (k : Int)) 3 (V 0 10)) 4 (sp_hired V (u : Int))) 5 (V 5 u))) 131 i = sp_nm V u k need i := fun i hi => match i, hi with
    | 0, _ => rfl
    | 1, _ => rfl
    | 2, _ => rfl
    | 3, _ => rfl
    | 4, _ => rfl
    | 5, _ => rfl
  have hwf : sp_wf (P (V 0 11).toNat p) 0 := sp_mt_wf (hP (V 0 11).toNat (by omega)) hp
  refine mv_call (st2 := [mv_I (sp_top (sp_run (sp_nm V u k need) (P (V 0 11).toNat p) []))]) rfl (Or.inl rfl) rfl rfl rfl ((sp_msays (sp_m_ag2 hV ha (by decide)) ho hl (sp_mts_ag hP ha (by decide)) hp).val (congrArg mv_I (congrArg sp_top (sp_run_nm hn (P (V 0 11).toNat p) 0 [] hwf rfl)))) (by first | decide | omega) (fun M1 h1 => ?_)
  have h2 : mv_ag [130, 131] M M1 := (ha.wd (by decide)).tr (h1.wd (by decide))
  refine mv_go' 3 (pc' := if (p : Int) = 2 then 75 else 79) (ls' := [mv_R 100, mv_I (p : Int), mv_I (u : Int), mv_I need, mv_I (k : Int)]) (st' := [mv_I (sp_top (sp_run (sp_nm V u k need) (P (V 0 11).toNat p) []))]) (M1 := M1) rfl ?_
  refine mv_sp' (fun c => ?_) (fun c => ?_)
  · refine mv_go' 5 (pc' := if (p : Int) = 2 then 86 else 91) (ls' := [mv_R 100, mv_I (p : Int), mv_I (u : Int), mv_I need, mv_I (k : Int)]) (st' := [mv_I 0, mv_I (sp_top (sp_run (sp_nm V u k need) (P (V 0 11).toNat p) []))]) (M1 := M1) rfl ?_
    refine mv_tt' (c) ?_
    refine mv_go' 2 (pc' := 93) (ls' := [mv_R 100, mv_I (p : Int), mv_I (u : Int), mv_I need, mv_I (k : Int)]) (st' := [mv_I 9, mv_I 0, mv_I (sp_top (sp_run (sp_nm V u k need) (P (V 0 11).toNat p) []))]) (M1 := M1) rfl ?_
    refine mv_callP (st2 := [mv_I (sp_cl (sp_top (sp_run (sp_nm V u k need) (P (V 0 11).toNat p) [])) 0 9)]) rfl (Or.inr rfl) rfl rfl rfl (sp_mwithin) (by first | decide | omega) ?_
    exact mv_Ru.val (mv_ret (fun n => rfl) (h2)) (congrArg mv_I (by (have c2 : p = 2 := by omega); simp only [sp_says, if_pos c2]))
  · refine mv_go' 4 (pc' := if (p : Int) = 2 then 86 else 91) (ls' := [mv_R 100, mv_I (p : Int), mv_I (u : Int), mv_I need, mv_I (k : Int)]) (st' := [mv_I (-99), mv_I (sp_top (sp_run (sp_nm V u k need) (P (V 0 11).toNat p) []))]) (M1 := M1) rfl ?_
    refine mv_ff' (c) ?_
    refine mv_go' 1 (pc' := 93) (ls' := [mv_R 100, mv_I (p : Int), mv_I (u : Int), mv_I need, mv_I (k : Int)]) (st' := [mv_I 99, mv_I (-99), mv_I (sp_top (sp_run (sp_nm V u k need) (P (V 0 11).toNat p) []))]) (M1 := M1) rfl ?_
    refine mv_callP (st2 := [mv_I (sp_cl (sp_top (sp_run (sp_nm V u k need) (P (V 0 11).toNat p) [])) (-99) 99)]) rfl (Or.inr rfl) rfl rfl rfl (sp_mwithin) (by first | decide | omega) ?_
    exact mv_Ru.val (mv_ret (fun n => rfl) (h2)) (congrArg mv_I (by (have c2 : ¬ p = 2 := by omega); simp only [sp_says, if_neg c2]))
theorem sp_mns {V M : mv_M} {c : Nat} (hV : sp_m M V) (ho : sp_ok V) (hc : c < 6) : mv_Ru 0 121 0 [mv_R 100, mv_I (c : Int), mv_U, mv_U] [] M (mv_I (sp_ns V c)) (fun M1 => M1 = M) := by
  refine mv_go' 4 (pc' := 4) (ls' := [mv_R 100, mv_I (c : Int), mv_I 0, mv_I 0]) (st' := []) (M1 := M) rfl ?_
  refine mv_go' 3 (pc' := if 0 < 4 then 9 else 28) (ls' := [mv_R 100, mv_I (c : Int), mv_I 0, mv_I 0]) (st' := []) (M1 := M) rfl ?_
  refine mv_tt' (by decide) ?_
  refine mv_go' 8 (pc' := 19) (ls' := [mv_R 100, mv_I (c : Int), mv_I 0, mv_I 0]) (st' := [mv_I (mv_w ((mv_w (4 * (c : Int))) + 0)), mv_R 104, mv_I 0]) (M1 := M) rfl ?_
  rw [show mv_w ((mv_w (4 * (c : Int))) + 0) = ((4 * c : Nat) : Int) from by (rw [show mv_w (4 * (c : Int)) = 4 * (c : Int) from mv_w_id (by omega) (by omega), show mv_w ((4 * (c : Int)) + 0) = (4 * (c : Int)) + 0 from mv_w_id (by omega) (by omega)]) <;> omega]
  refine mv_go' 1 (pc' := if 0 ≤ ((4 * c : Nat) : Int) ∧ ((4 * c : Nat) : Int) < 24 then 20 else mv_bad) (ls' := [mv_R 100, mv_I (c : Int), mv_I 0, mv_I 0]) (st' := [mv_I (M 104 (4 * c)), mv_I 0]) (M1 := M) rfl ?_
  refine mv_tt' (by omega) ?_
  have hr7 := sp_ok_1 ho (4 * c) (by omega)
  rw [show M 104 (4 * c) = V 1 (4 * c) from by exact sp_m_1 hV (4 * c) (by omega)]
  refine mv_go' 4 (pc' := 4) (ls' := [mv_R 100, mv_I (c : Int), mv_I (mv_w (0 + (V 1 (4 * c)))), mv_I (mv_w (0 + 1))]) (st' := []) (M1 := M) rfl ?_
  rw [show mv_w (0 + 1) = 1 from by (rw [show mv_w (0 + 1) = 0 + 1 from mv_w_id (by omega) (by omega)]) <;> omega]
  rw [show mv_w (0 + (V 1 (4 * c))) = 0 + (V 1 (4 * c)) from mv_w_id (by omega) (by omega)]
  refine mv_go' 3 (pc' := if 1 < 4 then 9 else 28) (ls' := [mv_R 100, mv_I (c : Int), mv_I (0 + (V 1 (4 * c))), mv_I 1]) (st' := []) (M1 := M) rfl ?_
  refine mv_tt' (by decide) ?_
  refine mv_go' 8 (pc' := 19) (ls' := [mv_R 100, mv_I (c : Int), mv_I (0 + (V 1 (4 * c))), mv_I 1]) (st' := [mv_I (mv_w ((mv_w (4 * (c : Int))) + 1)), mv_R 104, mv_I (0 + (V 1 (4 * c)))]) (M1 := M) rfl ?_
  rw [show mv_w ((mv_w (4 * (c : Int))) + 1) = ((4 * c + 1 : Nat) : Int) from by (rw [show mv_w (4 * (c : Int)) = 4 * (c : Int) from mv_w_id (by omega) (by omega), show mv_w ((4 * (c : Int)) + 1) = (4 * (c : Int)) + 1 from mv_w_id (by omega) (by omega)]) <;> omega]
  refine mv_go' 1 (pc' := if 0 ≤ ((4 * c + 1 : Nat) : Int) ∧ ((4 * c + 1 : Nat) : Int) < 24 then 20 else mv_bad) (ls' := [mv_R 100, mv_I (c : Int), mv_I (0 + (V 1 (4 * c))), mv_I 1]) (st' := [mv_I (M 104 (4 * c + 1)), mv_I (0 + (V 1 (4 * c)))]) (M1 := M) rfl ?_
  refine mv_tt' (by omega) ?_
  have hr9 := sp_ok_1 ho (4 * c + 1) (by omega)
  rw [show M 104 (4 * c + 1) = V 1 (4 * c + 1) from by exact sp_m_1 hV (4 * c + 1) (by omega)]
  refine mv_go' 4 (pc' := 4) (ls' := [mv_R 100, mv_I (c : Int), mv_I (mv_w ((0 + (V 1 (4 * c))) + (V 1 (4 * c + 1)))), mv_I (mv_w (1 + 1))]) (st' := []) (M1 := M) rfl ?_
  rw [show mv_w (1 + 1) = 2 from by (rw [show mv_w (1 + 1) = 1 + 1 from mv_w_id (by omega) (by omega)]) <;> omega]
  rw [show mv_w ((0 + (V 1 (4 * c))) + (V 1 (4 * c + 1))) = (0 + (V 1 (4 * c))) + (V 1 (4 * c + 1)) from mv_w_id (by omega) (by omega)]
  refine mv_go' 3 (pc' := if 2 < 4 then 9 else 28) (ls' := [mv_R 100, mv_I (c : Int), mv_I ((0 + (V 1 (4 * c))) + (V 1 (4 * c + 1))), mv_I 2]) (st' := []) (M1 := M) rfl ?_
  refine mv_tt' (by decide) ?_
  refine mv_go' 8 (pc' := 19) (ls' := [mv_R 100, mv_I (c : Int), mv_I ((0 + (V 1 (4 * c))) + (V 1 (4 * c + 1))), mv_I 2]) (st' := [mv_I (mv_w ((mv_w (4 * (c : Int))) + 2)), mv_R 104, mv_I ((0 + (V 1 (4 * c))) + (V 1 (4 * c + 1)))]) (M1 := M) rfl ?_
  rw [show mv_w ((mv_w (4 * (c : Int))) + 2) = ((4 * c + 2 : Nat) : Int) from by (rw [show mv_w (4 * (c : Int)) = 4 * (c : Int) from mv_w_id (by omega) (by omega), show mv_w ((4 * (c : Int)) + 2) = (4 * (c : Int)) + 2 from mv_w_id (by omega) (by omega)]) <;> omega]
  refine mv_go' 1 (pc' := if 0 ≤ ((4 * c + 2 : Nat) : Int) ∧ ((4 * c + 2 : Nat) : Int) < 24 then 20 else mv_bad) (ls' := [mv_R 100, mv_I (c : Int), mv_I ((0 + (V 1 (4 * c))) + (V 1 (4 * c + 1))), mv_I 2]) (st' := [mv_I (M 104 (4 * c + 2)), mv_I ((0 + (V 1 (4 * c))) + (V 1 (4 * c + 1)))]) (M1 := M) rfl ?_
  refine mv_tt' (by omega) ?_
  have hr11 := sp_ok_1 ho (4 * c + 2) (by omega)
  rw [show M 104 (4 * c + 2) = V 1 (4 * c + 2) from by exact sp_m_1 hV (4 * c + 2) (by omega)]
  refine mv_go' 4 (pc' := 4) (ls' := [mv_R 100, mv_I (c : Int), mv_I (mv_w (((0 + (V 1 (4 * c))) + (V 1 (4 * c + 1))) + (V 1 (4 * c + 2)))), mv_I (mv_w (2 + 1))]) (st' := []) (M1 := M) rfl ?_
  rw [show mv_w (2 + 1) = 3 from by (rw [show mv_w (2 + 1) = 2 + 1 from mv_w_id (by omega) (by omega)]) <;> omega]
  rw [show mv_w (((0 + (V 1 (4 * c))) + (V 1 (4 * c + 1))) + (V 1 (4 * c + 2))) = ((0 + (V 1 (4 * c))) + (V 1 (4 * c + 1))) + (V 1 (4 * c + 2)) from mv_w_id (by omega) (by omega)]
  refine mv_go' 3 (pc' := if 3 < 4 then 9 else 28) (ls' := [mv_R 100, mv_I (c : Int), mv_I (((0 + (V 1 (4 * c))) + (V 1 (4 * c + 1))) + (V 1 (4 * c + 2))), mv_I 3]) (st' := []) (M1 := M) rfl ?_
  refine mv_tt' (by decide) ?_
  refine mv_go' 8 (pc' := 19) (ls' := [mv_R 100, mv_I (c : Int), mv_I (((0 + (V 1 (4 * c))) + (V 1 (4 * c + 1))) + (V 1 (4 * c + 2))), mv_I 3]) (st' := [mv_I (mv_w ((mv_w (4 * (c : Int))) + 3)), mv_R 104, mv_I (((0 + (V 1 (4 * c))) + (V 1 (4 * c + 1))) + (V 1 (4 * c + 2)))]) (M1 := M) rfl ?_
  rw [show mv_w ((mv_w (4 * (c : Int))) + 3) = ((4 * c + 3 : Nat) : Int) from by (rw [show mv_w (4 * (c : Int)) = 4 * (c : Int) from mv_w_id (by omega) (by omega), show mv_w ((4 * (c : Int)) + 3) = (4 * (c : Int)) + 3 from mv_w_id (by omega) (by omega)]) <;> omega]
  refine mv_go' 1 (pc' := if 0 ≤ ((4 * c + 3 : Nat) : Int) ∧ ((4 * c + 3 : Nat) : Int) < 24 then 20 else mv_bad) (ls' := [mv_R 100, mv_I (c : Int), mv_I (((0 + (V 1 (4 * c))) + (V 1 (4 * c + 1))) + (V 1 (4 * c + 2))), mv_I 3]) (st' := [mv_I (M 104 (4 * c + 3)), mv_I (((0 + (V 1 (4 * c))) + (V 1 (4 * c + 1))) + (V 1 (4 * c + 2)))]) (M1 := M) rfl ?_
  refine mv_tt' (by omega) ?_
  have hr13 := sp_ok_1 ho (4 * c + 3) (by omega)
  rw [show M 104 (4 * c + 3) = V 1 (4 * c + 3) from by exact sp_m_1 hV (4 * c + 3) (by omega)]
  refine mv_go' 4 (pc' := 4) (ls' := [mv_R 100, mv_I (c : Int), mv_I (mv_w ((((0 + (V 1 (4 * c))) + (V 1 (4 * c + 1))) + (V 1 (4 * c + 2))) + (V 1 (4 * c + 3)))), mv_I (mv_w (3 + 1))]) (st' := []) (M1 := M) rfl ?_
  rw [show mv_w (3 + 1) = 4 from by (rw [show mv_w (3 + 1) = 3 + 1 from mv_w_id (by omega) (by omega)]) <;> omega]
  rw [show mv_w ((((0 + (V 1 (4 * c))) + (V 1 (4 * c + 1))) + (V 1 (4 * c + 2))) + (V 1 (4 * c + 3))) = (((0 + (V 1 (4 * c))) + (V 1 (4 * c + 1))) + (V 1 (4 * c + 2))) + (V 1 (4 * c + 3)) from mv_w_id (by omega) (by omega)]
  refine mv_go' 3 (pc' := if 4 < 4 then 9 else 28) (ls' := [mv_R 100, mv_I (c : Int), mv_I ((((0 + (V 1 (4 * c))) + (V 1 (4 * c + 1))) + (V 1 (4 * c + 2))) + (V 1 (4 * c + 3))), mv_I 4]) (st' := []) (M1 := M) rfl ?_
  refine mv_ff' (by decide) ?_
  refine mv_go' 1 (pc' := 29) (ls' := [mv_R 100, mv_I (c : Int), mv_I ((((0 + (V 1 (4 * c))) + (V 1 (4 * c + 1))) + (V 1 (4 * c + 2))) + (V 1 (4 * c + 3))), mv_I 4]) (st' := [mv_I ((((0 + (V 1 (4 * c))) + (V 1 (4 * c + 1))) + (V 1 (4 * c + 2))) + (V 1 (4 * c + 3)))]) (M1 := M) rfl ?_
  exact mv_Ru.val (mv_ret (fun n => rfl) (rfl)) (congrArg mv_I (by unfold sp_ns; omega))
theorem sp_msa {V M : mv_M} {P : Nat → Nat → List Int} {n : Int} {c u k : Nat} (hV : sp_m M V) (ho : sp_ok V) (hl : V 0 11 < n) (hP : sp_mts M P n) (hc : c < 6) (hu : (u : Int) < V 0 9) (hk : k < 4) :
    mv_Ru 3 145 0 [mv_R 100, mv_I (u : Int), mv_I (V 1 (4 * c + k)), mv_I (k : Int), mv_U, mv_U] [] M (mv_I (sp_sa V P c u k)) (fun M1 => mv_ag [130, 131] M M1) := by
  have h9 := sp_ok_s9 ho
  have e4 := sp_ok_4 ho u hu
  have e5 := sp_ok_5 ho u hu
  refine mv_go' 4 (pc' := if 0 ≤ (u : Int) ∧ (u : Int) < 6 then 6 else mv_bad) (ls' := [mv_R 100, mv_I (u : Int), mv_I (V 1 (4 * c + k)), mv_I (k : Int), mv_U, mv_U]) (st' := [mv_I (M 102 u)]) (M1 := M) rfl ?_
  refine mv_tt' (by omega) ?_
  have hr15 := sp_ok_4 ho u (by omega)
  rw [show M 102 u = V 4 u from by exact sp_m_4 hV u (by omega)]
  refine mv_go' 2 (pc' := if (V 4 u) = 3 then 10 else 17) (ls' := [mv_R 100, mv_I (u : Int), mv_I (V 1 (4 * c + k)), mv_I (k : Int), mv_U, mv_U]) (st' := []) (M1 := M) rfl ?_
  by_cases hd : V 4 u = 3 ∧ k = 3
  · refine mv_tt' (hd.1) ?_
    refine mv_go' 3 (pc' := if (k : Int) = 3 then 15 else 17) (ls' := [mv_R 100, mv_I (u : Int), mv_I (V 1 (4 * c + k)), mv_I (k : Int), mv_U, mv_U]) (st' := []) (M1 := M) rfl ?_
    refine mv_tt' (by omega) ?_
    refine mv_go' 1 (pc' := 16) (ls' := [mv_R 100, mv_I (u : Int), mv_I (V 1 (4 * c + k)), mv_I (k : Int), mv_U, mv_U]) (st' := [mv_I 5]) (M1 := M) rfl ?_
    exact mv_Ru.val (mv_ret (fun n => rfl) (mv_ag.rf)) (congrArg mv_I (by simp [sp_sa, sp_sk, hd.1, hd.2]))
  · have hb := sp_says_b V P 0 u k (V 1 (4 * c + k))
    have eb := sp_half_b hb.1 hb.2
    have hg : ∀ {d : Nat} {v : mv_V} {Q : mv_M → Prop}, mv_Ru d 145 17 [mv_R 100, mv_I (u : Int), mv_I (V 1 (4 * c + k)), mv_I (k : Int), mv_U, mv_U] [] M v Q → mv_Ru d 145 (if V 4 u = 3 then 10 else 17) [mv_R 100, mv_I (u : Int), mv_I (V 1 (4 * c + k)), mv_I (k : Int), mv_U, mv_U] [] M v Q := by
      intro d v Q e
      by_cases h3 : V 4 u = 3
      · rw [if_pos h3]
        refine mv_go' 2 (pc' := 12) (ls' := [mv_R 100, mv_I (u : Int), mv_I (V 1 (4 * c + k)), mv_I (k : Int), mv_U, mv_U]) (st' := [mv_I 3, mv_I (k : Int)]) (M1 := M) rfl ?_
        refine mv_go' 1 (pc' := if (k : Int) = 3 then 15 else 17) (ls' := [mv_R 100, mv_I (u : Int), mv_I (V 1 (4 * c + k)), mv_I (k : Int), mv_U, mv_U]) (st' := []) (M1 := M) rfl ?_
        exact mv_ff' (by omega) e
      · rw [if_neg h3]; exact e
    refine hg ?_
    refine mv_go' 5 (pc' := 22) (ls' := [mv_R 100, mv_I (u : Int), mv_I (V 1 (4 * c + k)), mv_I (k : Int), mv_U, mv_U]) (st' := [mv_I (k : Int), mv_I (V 1 (4 * c + k)), mv_I (u : Int), mv_I 0, mv_R 100]) (M1 := M) rfl ?_
    refine mv_call (st2 := [mv_I (sp_says V P 0 u k (V 1 (4 * c + k)))]) rfl (Or.inl rfl) rfl rfl rfl (sp_masks (p := 0) hV ho hl hP (by decide) hu hk) (by first | decide | omega) (fun M1 h1 => ?_)
    have hV1 := sp_m_ag2 hV h1 (by decide)
    have hg2 : ∀ {d : Nat} {v : mv_V} {Q : mv_M → Prop}, mv_Ru d 145 46 [mv_R 100, mv_I (u : Int), mv_I (V 1 (4 * c + k)), mv_I (k : Int), mv_I (sp_says V P 0 u k (V 1 (4 * c + k))), mv_I (sp_sad (sp_says V P 0 u k (V 1 (4 * c + k))) (V 1 (4 * c + k)))] [] M1 v Q → mv_Ru d 145 25 [mv_R 100, mv_I (u : Int), mv_I (V 1 (4 * c + k)), mv_I (k : Int), mv_U, mv_U] [mv_I (sp_says V P 0 u k (V 1 (4 * c + k)))] M1 v Q := by
      intro d v Q e
      refine mv_go' 4 (pc' := if 6 < (V 1 (4 * c + k)) then 33 else 40) (ls' := [mv_R 100, mv_I (u : Int), mv_I (V 1 (4 * c + k)), mv_I (k : Int), mv_I (sp_says V P 0 u k (V 1 (4 * c + k))), mv_U]) (st' := []) (M1 := M1) rfl ?_
      refine mv_sp' (fun h6 => ?_) (fun h6 => ?_)
      · refine mv_go' 4 (pc' := 44) (ls' := [mv_R 100, mv_I (u : Int), mv_I (V 1 (4 * c + k)), mv_I (k : Int), mv_I (sp_says V P 0 u k (V 1 (4 * c + k))), mv_U]) (st' := [mv_I (mv_w (2 * (sp_says V P 0 u k (V 1 (4 * c + k)))))]) (M1 := M1) rfl ?_
        rw [show mv_w (2 * (sp_says V P 0 u k (V 1 (4 * c + k)))) = 2 * (sp_says V P 0 u k (V 1 (4 * c + k))) from mv_w_id (by omega) (by omega)]
        refine mv_go' 1 (pc' := 46) (ls' := [mv_R 100, mv_I (u : Int), mv_I (V 1 (4 * c + k)), mv_I (k : Int), mv_I (sp_says V P 0 u k (V 1 (4 * c + k))), mv_I (2 * (sp_says V P 0 u k (V 1 (4 * c + k))))]) (st' := []) (M1 := M1) rfl ?_
        rw [show 2 * sp_says V P 0 u k (V 1 (4 * c + k)) = sp_sad (sp_says V P 0 u k (V 1 (4 * c + k))) (V 1 (4 * c + k)) from by unfold sp_sad; rw [if_pos h6]; omega]
        exact e
      · refine mv_go' 3 (pc' := if 2 = 0 then mv_bad else 44) (ls' := [mv_R 100, mv_I (u : Int), mv_I (V 1 (4 * c + k)), mv_I (k : Int), mv_I (sp_says V P 0 u k (V 1 (4 * c + k))), mv_U]) (st' := [mv_I (mv_w ((sp_says V P 0 u k (V 1 (4 * c + k))).tdiv 2))]) (M1 := M1) rfl ?_
        refine mv_ff' (by omega) ?_
        refine mv_go' 1 (pc' := 46) (ls' := [mv_R 100, mv_I (u : Int), mv_I (V 1 (4 * c + k)), mv_I (k : Int), mv_I (sp_says V P 0 u k (V 1 (4 * c + k))), mv_I (mv_w ((sp_says V P 0 u k (V 1 (4 * c + k))).tdiv 2))]) (st' := []) (M1 := M1) rfl ?_
        rw [show mv_w ((sp_says V P 0 u k (V 1 (4 * c + k))).tdiv 2) = (sp_says V P 0 u k (V 1 (4 * c + k))).tdiv 2 from mv_w_id (by omega) (by omega)]
        rw [show (sp_says V P 0 u k (V 1 (4 * c + k))).tdiv 2 = sp_sad (sp_says V P 0 u k (V 1 (4 * c + k))) (V 1 (4 * c + k)) from by unfold sp_sad; rw [if_neg h6]]
        exact e
    refine hg2 ?_
    have es := @sp_sad_b (sp_says V P 0 u k (V 1 (4 * c + k))) (V 1 (4 * c + k)) hb.1 hb.2
    refine mv_go' 4 (pc' := if 0 ≤ (u : Int) ∧ (u : Int) < 6 then 52 else mv_bad) (ls' := [mv_R 100, mv_I (u : Int), mv_I (V 1 (4 * c + k)), mv_I (k : Int), mv_I (sp_says V P 0 u k (V 1 (4 * c + k))), mv_I (sp_sad (sp_says V P 0 u k (V 1 (4 * c + k))) (V 1 (4 * c + k)))]) (st' := [mv_I (M1 102 u)]) (M1 := M1) rfl ?_
    refine mv_tt' (by omega) ?_
    have hr17 := sp_ok_4 ho u (by omega)
    rw [show M1 102 u = V 4 u from by exact sp_m_4 hV1 u (by omega)]
    refine mv_go' 1 (pc' := mv_swg [(1, 84), (2, 105), (3, 84), (4, 108)] 137 (V 4 u)) (ls' := [mv_R 100, mv_I (u : Int), mv_I (V 1 (4 * c + k)), mv_I (k : Int), mv_I (sp_says V P 0 u k (V 1 (4 * c + k))), mv_I (sp_sad (sp_says V P 0 u k (V 1 (4 * c + k))) (V 1 (4 * c + k)))]) (st' := []) (M1 := M1) rfl ?_
    rcases (by omega : V 4 u = 0 ∨ V 4 u = 1 ∨ V 4 u = 2 ∨ V 4 u = 3 ∨ V 4 u = 4 ∨ V 4 u = 5) with e | e | e | e | e | e
    · refine mv_pcq (pc2 := 137) (by rw [e]; rfl) ?_
      refine mv_go' 1 (pc' := 139) (ls' := [mv_R 100, mv_I (u : Int), mv_I (V 1 (4 * c + k)), mv_I (k : Int), mv_I (sp_says V P 0 u k (V 1 (4 * c + k))), mv_I (sp_sad (sp_says V P 0 u k (V 1 (4 * c + k))) (V 1 (4 * c + k)))]) (st' := [mv_I (sp_says V P 0 u k (V 1 (4 * c + k)))]) (M1 := M1) rfl ?_
      exact mv_Ru.val (mv_ret (fun n => rfl) (h1)) (congrArg mv_I (by simp [sp_sa, sp_sk, e]))
    · refine mv_pcq (pc2 := 84) (by rw [e]; rfl) ?_
      refine mv_go' 2 (pc' := if (k : Int) = 0 then 88 else 102) (ls' := [mv_R 100, mv_I (u : Int), mv_I (V 1 (4 * c + k)), mv_I (k : Int), mv_I (sp_says V P 0 u k (V 1 (4 * c + k))), mv_I (sp_sad (sp_says V P 0 u k (V 1 (4 * c + k))) (V 1 (4 * c + k)))]) (st' := []) (M1 := M1) rfl ?_
      refine mv_sp' (fun k0 => ?_) (fun k0 => ?_)
      · refine mv_go' 6 (pc' := if 0 ≤ (u : Int) ∧ (u : Int) < 6 then 97 else mv_bad) (ls' := [mv_R 100, mv_I (u : Int), mv_I (V 1 (4 * c + k)), mv_I (k : Int), mv_I (sp_says V P 0 u k (V 1 (4 * c + k))), mv_I (sp_sad (sp_says V P 0 u k (V 1 (4 * c + k))) (V 1 (4 * c + k)))]) (st' := [mv_I (M1 103 u), mv_I 2, mv_I (sp_says V P 0 u k (V 1 (4 * c + k)))]) (M1 := M1) rfl ?_
        refine mv_tt' (by omega) ?_
        have hr19 := sp_ok_5 ho u (by omega)
        rw [show M1 103 u = V 5 u from by exact sp_m_5 hV1 u (by omega)]
        refine mv_go' 3 (pc' := 104) (ls' := [mv_R 100, mv_I (u : Int), mv_I (V 1 (4 * c + k)), mv_I (k : Int), mv_I (sp_says V P 0 u k (V 1 (4 * c + k))), mv_I (sp_sad (sp_says V P 0 u k (V 1 (4 * c + k))) (V 1 (4 * c + k)))]) (st' := [mv_I (mv_w ((sp_says V P 0 u k (V 1 (4 * c + k))) + (mv_w (2 * (V 5 u)))))]) (M1 := M1) rfl ?_
        rw [show mv_w (2 * (V 5 u)) = 2 * (V 5 u) from mv_w_id (by omega) (by omega)]
        rw [show mv_w ((sp_says V P 0 u k (V 1 (4 * c + k))) + (2 * (V 5 u))) = (sp_says V P 0 u k (V 1 (4 * c + k))) + (2 * (V 5 u)) from mv_w_id (by omega) (by omega)]
        exact mv_Ru.val (mv_ret (fun n => rfl) (h1)) (congrArg mv_I (by (have k1 : k = 0 := by omega); simp [sp_sa, sp_sk, e, k1]))
      · refine mv_go' 1 (pc' := 104) (ls' := [mv_R 100, mv_I (u : Int), mv_I (V 1 (4 * c + k)), mv_I (k : Int), mv_I (sp_says V P 0 u k (V 1 (4 * c + k))), mv_I (sp_sad (sp_says V P 0 u k (V 1 (4 * c + k))) (V 1 (4 * c + k)))]) (st' := [mv_I (sp_says V P 0 u k (V 1 (4 * c + k)))]) (M1 := M1) rfl ?_
        exact mv_Ru.val (mv_ret (fun n => rfl) (h1)) (congrArg mv_I (by (have k1 : ¬ k = 0 := by omega); simp [sp_sa, sp_sk, e, k1]))
    · refine mv_pcq (pc2 := 105) (by rw [e]; rfl) ?_
      refine mv_go' 1 (pc' := 107) (ls' := [mv_R 100, mv_I (u : Int), mv_I (V 1 (4 * c + k)), mv_I (k : Int), mv_I (sp_says V P 0 u k (V 1 (4 * c + k))), mv_I (sp_sad (sp_says V P 0 u k (V 1 (4 * c + k))) (V 1 (4 * c + k)))]) (st' := [mv_I (sp_sad (sp_says V P 0 u k (V 1 (4 * c + k))) (V 1 (4 * c + k)))]) (M1 := M1) rfl ?_
      exact mv_Ru.val (mv_ret (fun n => rfl) (h1)) (congrArg mv_I (by simp [sp_sa, sp_sk, e]))
    · refine mv_pcq (pc2 := 84) (by rw [e]; rfl) ?_
      have k3 : ¬ k = 3 := fun h => hd ⟨e, h⟩
      refine mv_go' 2 (pc' := if (k : Int) = 0 then 88 else 102) (ls' := [mv_R 100, mv_I (u : Int), mv_I (V 1 (4 * c + k)), mv_I (k : Int), mv_I (sp_says V P 0 u k (V 1 (4 * c + k))), mv_I (sp_sad (sp_says V P 0 u k (V 1 (4 * c + k))) (V 1 (4 * c + k)))]) (st' := []) (M1 := M1) rfl ?_
      refine mv_sp' (fun k0 => ?_) (fun k0 => ?_)
      · refine mv_go' 6 (pc' := if 0 ≤ (u : Int) ∧ (u : Int) < 6 then 97 else mv_bad) (ls' := [mv_R 100, mv_I (u : Int), mv_I (V 1 (4 * c + k)), mv_I (k : Int), mv_I (sp_says V P 0 u k (V 1 (4 * c + k))), mv_I (sp_sad (sp_says V P 0 u k (V 1 (4 * c + k))) (V 1 (4 * c + k)))]) (st' := [mv_I (M1 103 u), mv_I 2, mv_I (sp_says V P 0 u k (V 1 (4 * c + k)))]) (M1 := M1) rfl ?_
        refine mv_tt' (by omega) ?_
        have hr21 := sp_ok_5 ho u (by omega)
        rw [show M1 103 u = V 5 u from by exact sp_m_5 hV1 u (by omega)]
        refine mv_go' 3 (pc' := 104) (ls' := [mv_R 100, mv_I (u : Int), mv_I (V 1 (4 * c + k)), mv_I (k : Int), mv_I (sp_says V P 0 u k (V 1 (4 * c + k))), mv_I (sp_sad (sp_says V P 0 u k (V 1 (4 * c + k))) (V 1 (4 * c + k)))]) (st' := [mv_I (mv_w ((sp_says V P 0 u k (V 1 (4 * c + k))) + (mv_w (2 * (V 5 u)))))]) (M1 := M1) rfl ?_
        rw [show mv_w (2 * (V 5 u)) = 2 * (V 5 u) from mv_w_id (by omega) (by omega)]
        rw [show mv_w ((sp_says V P 0 u k (V 1 (4 * c + k))) + (2 * (V 5 u))) = (sp_says V P 0 u k (V 1 (4 * c + k))) + (2 * (V 5 u)) from mv_w_id (by omega) (by omega)]
        exact mv_Ru.val (mv_ret (fun n => rfl) (h1)) (congrArg mv_I (by (have k1 : k = 0 := by omega); simp [sp_sa, sp_sk, e, k1]))
      · refine mv_go' 1 (pc' := 104) (ls' := [mv_R 100, mv_I (u : Int), mv_I (V 1 (4 * c + k)), mv_I (k : Int), mv_I (sp_says V P 0 u k (V 1 (4 * c + k))), mv_I (sp_sad (sp_says V P 0 u k (V 1 (4 * c + k))) (V 1 (4 * c + k)))]) (st' := [mv_I (sp_says V P 0 u k (V 1 (4 * c + k)))]) (M1 := M1) rfl ?_
        exact mv_Ru.val (mv_ret (fun n => rfl) (h1)) (congrArg mv_I (by (have k1 : ¬ k = 0 := by omega); simp [sp_sa, sp_sk, e, k1, k3]))
    · refine mv_pcq (pc2 := 108) (by rw [e]; rfl) ?_
      refine mv_go' 7 (pc' := 117) (ls' := [mv_R 100, mv_I (u : Int), mv_I (V 1 (4 * c + k)), mv_I (k : Int), mv_I (sp_says V P 0 u k (V 1 (4 * c + k))), mv_I (sp_sad (sp_says V P 0 u k (V 1 (4 * c + k))) (V 1 (4 * c + k)))]) (st' := [mv_I (mv_w ((mv_w (4 * (u : Int))) + (k : Int))), mv_R 105]) (M1 := M1) rfl ?_
      rw [show mv_w ((mv_w (4 * (u : Int))) + (k : Int)) = ((4 * u + k : Nat) : Int) from by (rw [show mv_w (4 * (u : Int)) = 4 * (u : Int) from mv_w_id (by omega) (by omega), show mv_w ((4 * (u : Int)) + (k : Int)) = (4 * (u : Int)) + (k : Int) from mv_w_id (by omega) (by omega)]) <;> omega]
      refine mv_go' 1 (pc' := if 0 ≤ ((4 * u + k : Nat) : Int) ∧ ((4 * u + k : Nat) : Int) < 24 then 118 else mv_bad) (ls' := [mv_R 100, mv_I (u : Int), mv_I (V 1 (4 * c + k)), mv_I (k : Int), mv_I (sp_says V P 0 u k (V 1 (4 * c + k))), mv_I (sp_sad (sp_says V P 0 u k (V 1 (4 * c + k))) (V 1 (4 * c + k)))]) (st' := [mv_I (M1 105 (4 * u + k))]) (M1 := M1) rfl ?_
      refine mv_tt' (by omega) ?_
      have hr23 := sp_ok_3 ho (4 * u + k) (by omega)
      rw [show M1 105 (4 * u + k) = V 3 (4 * u + k) from by exact sp_m_3 hV1 (4 * u + k) (by omega)]
      refine mv_go' 2 (pc' := if (V 3 (4 * u + k)) = (V 1 (4 * c + k)) then 122 else 134) (ls' := [mv_R 100, mv_I (u : Int), mv_I (V 1 (4 * c + k)), mv_I (k : Int), mv_I (sp_says V P 0 u k (V 1 (4 * c + k))), mv_I (sp_sad (sp_says V P 0 u k (V 1 (4 * c + k))) (V 1 (4 * c + k)))]) (st' := []) (M1 := M1) rfl ?_
      refine mv_sp' (fun hm => ?_) (fun hm => ?_)
      · refine mv_go' 5 (pc' := if 0 ≤ (u : Int) ∧ (u : Int) < 6 then 130 else mv_bad) (ls' := [mv_R 100, mv_I (u : Int), mv_I (V 1 (4 * c + k)), mv_I (k : Int), mv_I (sp_says V P 0 u k (V 1 (4 * c + k))), mv_I (sp_sad (sp_says V P 0 u k (V 1 (4 * c + k))) (V 1 (4 * c + k)))]) (st' := [mv_I (M1 103 u), mv_I (sp_sad (sp_says V P 0 u k (V 1 (4 * c + k))) (V 1 (4 * c + k)))]) (M1 := M1) rfl ?_
        refine mv_tt' (by omega) ?_
        have hr25 := sp_ok_5 ho u (by omega)
        rw [show M1 103 u = V 5 u from by exact sp_m_5 hV1 u (by omega)]
        refine mv_go' 2 (pc' := 136) (ls' := [mv_R 100, mv_I (u : Int), mv_I (V 1 (4 * c + k)), mv_I (k : Int), mv_I (sp_says V P 0 u k (V 1 (4 * c + k))), mv_I (sp_sad (sp_says V P 0 u k (V 1 (4 * c + k))) (V 1 (4 * c + k)))]) (st' := [mv_I (mv_w ((sp_sad (sp_says V P 0 u k (V 1 (4 * c + k))) (V 1 (4 * c + k))) + (V 5 u)))]) (M1 := M1) rfl ?_
        rw [show mv_w ((sp_sad (sp_says V P 0 u k (V 1 (4 * c + k))) (V 1 (4 * c + k))) + (V 5 u)) = (sp_sad (sp_says V P 0 u k (V 1 (4 * c + k))) (V 1 (4 * c + k))) + (V 5 u) from mv_w_id (by omega) (by omega)]
        exact mv_Ru.val (mv_ret (fun n => rfl) (h1)) (congrArg mv_I (by simp [sp_sa, sp_sk, e, hm]))
      · refine mv_go' 1 (pc' := 136) (ls' := [mv_R 100, mv_I (u : Int), mv_I (V 1 (4 * c + k)), mv_I (k : Int), mv_I (sp_says V P 0 u k (V 1 (4 * c + k))), mv_I (sp_sad (sp_says V P 0 u k (V 1 (4 * c + k))) (V 1 (4 * c + k)))]) (st' := [mv_I (sp_sad (sp_says V P 0 u k (V 1 (4 * c + k))) (V 1 (4 * c + k)))]) (M1 := M1) rfl ?_
        exact mv_Ru.val (mv_ret (fun n => rfl) (h1)) (congrArg mv_I (by simp [sp_sa, sp_sk, e, hm]))
    · refine mv_pcq (pc2 := 137) (by rw [e]; rfl) ?_
      refine mv_go' 1 (pc' := 139) (ls' := [mv_R 100, mv_I (u : Int), mv_I (V 1 (4 * c + k)), mv_I (k : Int), mv_I (sp_says V P 0 u k (V 1 (4 * c + k))), mv_I (sp_sad (sp_says V P 0 u k (V 1 (4 * c + k))) (V 1 (4 * c + k)))]) (st' := [mv_I (sp_says V P 0 u k (V 1 (4 * c + k)))]) (M1 := M1) rfl ?_
      exact mv_Ru.val (mv_ret (fun n => rfl) (h1)) (congrArg mv_I (by simp [sp_sa, sp_sk, e]))
