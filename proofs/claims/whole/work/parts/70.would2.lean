/-! would: the call -/
def sp_frl (V : mv_M) (P : Nat → Nat → List Int) (c : Nat) : Nat → Nat → Int
  | 0, _ => -1
  | r + 1, u => if (V 2 c ≠ (u : Int) ∧ sp_s1 V P c < sp_suits V P c u) ∧ sp_wt V P c u = 1 then (u : Int) else sp_frl V P c r (u + 1)
theorem sp_frl_b (V : mv_M) (P : Nat → Nat → List Int) (c : Nat) : ∀ r u : Nat, -1 ≤ sp_frl V P c r u
  | 0, _ => by simp [sp_frl]
  | r + 1, u => by
    simp only [sp_frl]
    split
    · omega
    · exact sp_frl_b V P c r (u + 1)
def sp_frv (V : mv_M) (P : Nat → Nat → List Int) (c : Nat) : Int := sp_frl V P c (V 0 9).toNat 0
def sp_wov (V : mv_M) (P : Nat → Nat → List Int) (w : Int) : Nat → Nat → Int
  | 0, _ => -1
  | r + 1, c => if sp_frv V P c = -1 then sp_wov V P w r (c + 1) else if w = 0 then (c : Int) else sp_frv V P c
theorem sp_cfrl {V M0 : mv_M} {P : Nat → Nat → List Int} {n : Int} {c : Nat} (hc : sp_c 30 M0 V) (ho : sp_ok V) (hl : V 0 11 < n) (hn : n ≤ 6) (hP : sp_cts M0 P n) (hcc : (c : Int) < V 0 8) :
    ∀ (r u : Nat) (M : mv_M), (u : Int) + r = V 0 9 → mv_ag [36, 37] M0 M → mv_Ru 9 101 32 [mv_R 0, mv_I (c : Int), mv_I (V 2 c), mv_I (sp_s1 V P c), mv_I (u : Int)] [] M (mv_I (sp_frl V P c r u)) (fun M1 => mv_ag [36, 37] M0 M1) := by
  have h8 := sp_ok_s8 ho
  have h9 := sp_ok_s9 ho
  intro r
  induction r with
  | zero =>
    intro u M hk hag
    have e9 : M 30 9 = (u : Int) := by rw [hag 30 (by decide), sp_c_s9 hc]; omega
    refine mv_go' 4 (pc' := 41) (ls' := [mv_R 0, mv_I (c : Int), mv_I (V 2 c), mv_I (sp_s1 V P c), mv_I (u : Int)]) (st' := [mv_I (M 30 9), mv_I (u : Int)]) (M1 := M) rfl ?_
    rw [show M 30 9 = (u : Int) from by exact e9]
    refine mv_go' 1 (pc' := if (u : Int) < (u : Int) then 44 else 83) (ls' := [mv_R 0, mv_I (c : Int), mv_I (V 2 c), mv_I (sp_s1 V P c), mv_I (u : Int)]) (st' := []) (M1 := M) rfl ?_
    refine mv_ff' (by omega) ?_
    refine mv_go' 1 (pc' := 84) (ls' := [mv_R 0, mv_I (c : Int), mv_I (V 2 c), mv_I (sp_s1 V P c), mv_I (u : Int)]) (st' := [mv_I (-1)]) (M1 := M) rfl ?_
    exact mv_ret (fun n => rfl) hag
  | succ r ih =>
    intro u M hk hag
    have e9 : M 30 9 = V 0 9 := by rw [hag 30 (by decide), sp_c_s9 hc]
    have hwb := sp_wt_b V P c u
    refine mv_go' 4 (pc' := 41) (ls' := [mv_R 0, mv_I (c : Int), mv_I (V 2 c), mv_I (sp_s1 V P c), mv_I (u : Int)]) (st' := [mv_I (M 30 9), mv_I (u : Int)]) (M1 := M) rfl ?_
    rw [show M 30 9 = V 0 9 from by exact e9]
    refine mv_go' 1 (pc' := if (u : Int) < (V 0 9) then 44 else 83) (ls' := [mv_R 0, mv_I (c : Int), mv_I (V 2 c), mv_I (sp_s1 V P c), mv_I (u : Int)]) (st' := []) (M1 := M) rfl ?_
    refine mv_tt' (by omega) ?_
    refine mv_go' 3 (pc' := if (u : Int) = (V 2 c) then 77 else 50) (ls' := [mv_R 0, mv_I (c : Int), mv_I (V 2 c), mv_I (sp_s1 V P c), mv_I (u : Int)]) (st' := []) (M1 := M) rfl ?_
    refine mv_sp' (fun ha1 => ?_) (fun ha1 => ?_)
    · refine mv_go' 2 (pc' := 32) (ls' := [mv_R 0, mv_I (c : Int), mv_I (V 2 c), mv_I (sp_s1 V P c), mv_I (mv_w ((u : Int) + 1))]) (st' := []) (M1 := M) rfl ?_
      rw [show mv_w ((u : Int) + 1) = (u : Int) + 1 from mv_w_id (by omega) (by omega)]
      rw [show (u : Int) + 1 = ((u + 1 : Nat) : Int) from by omega]
      have hag3 : mv_ag [36, 37] M0 M := by first | exact hag2.tr hx3 | exact hag2 | exact hag
      exact (ih (u + 1) _ (by omega) hag3).val (by rw [sp_frl, if_neg (by omega)])
    · refine mv_go' 4 (pc' := 57) (ls' := [mv_R 0, mv_I (c : Int), mv_I (V 2 c), mv_I (sp_s1 V P c), mv_I (u : Int)]) (st' := [mv_I (u : Int), mv_I (c : Int), mv_R 30]) (M1 := M) rfl ?_
      refine mv_call (st2 := [mv_I (sp_suits V P c u)]) rfl (Or.inl rfl) rfl rfl rfl (sp_csuits_30 (c := c) (u := u) (sp_c_ag hc hag (by decide)) ho hl hn (sp_cts_ag hP hag hn (fun i h1 h2 => by simp only [List.mem_cons, List.not_mem_nil, or_false]; omega)) (by omega) (by omega)) (by first | decide | omega) (fun Ma2 hm3 => ?_)
      have hx := hm3
      have hag2 := hag.tr hx
      refine mv_go' 2 (pc' := if (sp_s1 V P c) < (sp_suits V P c u) then 64 else 77) (ls' := [mv_R 0, mv_I (c : Int), mv_I (V 2 c), mv_I (sp_s1 V P c), mv_I (u : Int)]) (st' := []) (M1 := Ma2) rfl ?_
      refine mv_sp' (fun ha4 => ?_) (fun ha4 => ?_)
      · refine mv_go' 3 (pc' := 68) (ls' := [mv_R 0, mv_I (c : Int), mv_I (V 2 c), mv_I (sp_s1 V P c), mv_I (u : Int)]) (st' := [mv_I (c : Int), mv_I (u : Int), mv_R 0]) (M1 := Ma2) rfl ?_
        refine mv_call (st2 := [mv_I (sp_wt V P c u)]) rfl (Or.inl rfl) rfl rfl rfl (sp_cwt (c := c) (u := u) (sp_c_ag hc hag2 (by decide)) ho hl hn (sp_cts_ag hP hag2 hn (fun i h1 h2 => by simp only [List.mem_cons, List.not_mem_nil, or_false]; omega)) (by omega) (by omega)) (by first | decide | omega) (fun Ma5 hm6 => ?_)
        have hx3 := hm6
        refine mv_go' 1 (pc' := if (sp_wt V P c u) = 0 then 77 else 74) (ls' := [mv_R 0, mv_I (c : Int), mv_I (V 2 c), mv_I (sp_s1 V P c), mv_I (u : Int)]) (st' := []) (M1 := Ma5) rfl ?_
        refine mv_sp' (fun ha7 => ?_) (fun ha7 => ?_)
        · refine mv_go' 2 (pc' := 32) (ls' := [mv_R 0, mv_I (c : Int), mv_I (V 2 c), mv_I (sp_s1 V P c), mv_I (mv_w ((u : Int) + 1))]) (st' := []) (M1 := Ma5) rfl ?_
          rw [show mv_w ((u : Int) + 1) = (u : Int) + 1 from mv_w_id (by omega) (by omega)]
          rw [show (u : Int) + 1 = ((u + 1 : Nat) : Int) from by omega]
          have hag3 : mv_ag [36, 37] M0 Ma5 := by first | exact hag2.tr hx3 | exact hag2 | exact hag
          exact (ih (u + 1) _ (by omega) hag3).val (by rw [sp_frl, if_neg (by omega)])
        · refine mv_go' 1 (pc' := 76) (ls' := [mv_R 0, mv_I (c : Int), mv_I (V 2 c), mv_I (sp_s1 V P c), mv_I (u : Int)]) (st' := [mv_I (u : Int)]) (M1 := Ma5) rfl ?_
          exact mv_Ru.val (mv_ret (fun n => rfl) (hag2.tr hx3)) (congrArg mv_I (by rw [sp_frl, if_pos (by omega)]))
      · refine mv_go' 2 (pc' := 32) (ls' := [mv_R 0, mv_I (c : Int), mv_I (V 2 c), mv_I (sp_s1 V P c), mv_I (mv_w ((u : Int) + 1))]) (st' := []) (M1 := Ma2) rfl ?_
        rw [show mv_w ((u : Int) + 1) = (u : Int) + 1 from mv_w_id (by omega) (by omega)]
        rw [show (u : Int) + 1 = ((u + 1 : Nat) : Int) from by omega]
        have hag3 : mv_ag [36, 37] M0 Ma2 := by first | exact hag2.tr hx3 | exact hag2 | exact hag
        exact (ih (u + 1) _ (by omega) hag3).val (by rw [sp_frl, if_neg (by omega)])
theorem sp_cfr {V M : mv_M} {P : Nat → Nat → List Int} {n : Int} {c : Nat} (hc : sp_c 30 M V) (ho : sp_ok V) (hl : V 0 11 < n) (hn : n ≤ 6) (hP : sp_cts M P n) (hcc : (c : Int) < V 0 8) :
    mv_Ru 9 101 0 [mv_R 0, mv_I (c : Int), mv_U, mv_U, mv_U] [] M (mv_I (sp_frv V P c)) (fun M1 => mv_ag [36, 37] M M1) := by
  have h8 := sp_ok_s8 ho
  have h9 := sp_ok_s9 ho
  have h2 := sp_ok_2 ho c hcc
  have e2 : M 32 c = V 2 c := sp_c_2 hc c hcc
  by_cases q : V 2 c = -1
  · have es : sp_s1 V P c = 0 := if_pos q
    refine mv_go' 5 (pc' := if 0 ≤ (c : Int) ∧ (c : Int) < 6 then 9 else mv_bad) (ls' := [mv_R 0, mv_I (c : Int), mv_U, mv_U, mv_U]) (st' := [mv_I (M 32 c)]) (M1 := M) rfl ?_
    refine mv_tt' (by omega) ?_
    rw [show M 32 c = V 2 c from by exact e2]
    refine mv_go' 4 (pc' := if (V 2 c) = (-1) then 15 else 19) (ls' := [mv_R 0, mv_I (c : Int), mv_I (V 2 c), mv_U, mv_U]) (st' := []) (M1 := M) rfl ?_
    refine mv_tt' (by omega) ?_
    refine mv_go' 5 (pc' := 32) (ls' := [mv_R 0, mv_I (c : Int), mv_I (V 2 c), mv_I 0, mv_I 0]) (st' := []) (M1 := M) rfl ?_
    refine mv_eqs (ls2 := [mv_R 0, mv_I (c : Int), mv_I (V 2 c), mv_I (sp_s1 V P c), mv_I ((0 : Nat) : Int)]) (by rw [es]; rfl) rfl rfl ?_
    exact sp_cfrl hc ho hl hn hP hcc (V 0 9).toNat 0 M (by omega) mv_ag.rf
  · obtain ⟨u, hu⟩ : ∃ u : Nat, V 2 c = (u : Int) := ⟨(V 2 c).toNat, by omega⟩
    have es : sp_s1 V P c = sp_suits V P c u := by unfold sp_s1; rw [if_neg q, hu]; rfl
    refine mv_go' 5 (pc' := if 0 ≤ (c : Int) ∧ (c : Int) < 6 then 9 else mv_bad) (ls' := [mv_R 0, mv_I (c : Int), mv_U, mv_U, mv_U]) (st' := [mv_I (M 32 c)]) (M1 := M) rfl ?_
    refine mv_tt' (by omega) ?_
    rw [show M 32 c = (u : Int) from by rw [e2]; exact hu]
    refine mv_go' 4 (pc' := if (u : Int) = (-1) then 15 else 19) (ls' := [mv_R 0, mv_I (c : Int), mv_I (u : Int), mv_U, mv_U]) (st' := []) (M1 := M) rfl ?_
    refine mv_ff' (by omega) ?_
    refine mv_go' 4 (pc' := 25) (ls' := [mv_R 0, mv_I (c : Int), mv_I (u : Int), mv_U, mv_U]) (st' := [mv_I (u : Int), mv_I (c : Int), mv_R 30]) (M1 := M) rfl ?_
    refine mv_call (st2 := [mv_I (sp_suits V P c u)]) rfl (Or.inl rfl) rfl rfl rfl (sp_csuits_30 (c := c) (u := u) hc ho hl hn hP (by omega) (by omega)) (by first | decide | omega) (fun Ma8 hm9 => ?_)
    have hx := hm9
    refine mv_go' 3 (pc' := 32) (ls' := [mv_R 0, mv_I (c : Int), mv_I (u : Int), mv_I (sp_suits V P c u), mv_I 0]) (st' := []) (M1 := Ma8) rfl ?_
    rw [← es, ← hu]
    exact (sp_cfrl (M0 := Ma8) (sp_c_ag hc hx (by decide)) ho hl hn (sp_cts_ag hP hx hn (fun i h1 h2 => by simp only [List.mem_cons, List.not_mem_nil, or_false]; omega)) hcc (V 0 9).toNat 0 Ma8 (by omega) mv_ag.rf).imp (fun M2 q => hx.tr q)
theorem sp_cwo {V M0 : mv_M} {P : Nat → Nat → List Int} {n w : Int} (hc : sp_c 30 M0 V) (ho : sp_ok V) (hl : V 0 11 < n) (hn : n ≤ 6) (hP : sp_cts M0 P n) :
    ∀ (r c : Nat) (M : mv_M) (l3 : mv_V), (c : Int) + r = V 0 8 → mv_ag [36, 37] M0 M → mv_isL l3 = false → mv_Ru 19 77 12 [mv_R 0, mv_I w, mv_I (c : Int), l3] [] M (mv_I (sp_wov V P w r c)) (fun M1 => mv_ag [36, 37] M0 M1) := by
  have h8 := sp_ok_s8 ho
  intro r
  induction r with
  | zero =>
    intro c M l3 hk hag h3
    have e8 : M 30 8 = (c : Int) := by rw [hag 30 (by decide), sp_c_s8 hc]; omega
    refine mv_go' 4 (pc' := 20) (ls' := [mv_R 0, mv_I w, mv_I (c : Int), l3]) (st' := [mv_I (M 30 8), mv_I (c : Int)]) (M1 := M) rfl ?_
    rw [show M 30 8 = (c : Int) from by exact e8]
    refine mv_go' 1 (pc' := if (c : Int) < (c : Int) then 23 else 50) (ls' := [mv_R 0, mv_I w, mv_I (c : Int), l3]) (st' := []) (M1 := M) rfl ?_
    refine mv_ff' (by omega) ?_
    refine mv_go' 1 (pc' := 51) (ls' := [mv_R 0, mv_I w, mv_I (c : Int), l3]) (st' := [mv_I (-1)]) (M1 := M) rfl ?_
    exact mv_ret (fun n => rfl) hag
  | succ r ih =>
    intro c M l3 hk hag h3
    have e8 : M 30 8 = V 0 8 := by rw [hag 30 (by decide), sp_c_s8 hc]
    refine mv_go' 4 (pc' := 20) (ls' := [mv_R 0, mv_I w, mv_I (c : Int), l3]) (st' := [mv_I (M 30 8), mv_I (c : Int)]) (M1 := M) rfl ?_
    rw [show M 30 8 = V 0 8 from by exact e8]
    refine mv_go' 1 (pc' := if (c : Int) < (V 0 8) then 23 else 50) (ls' := [mv_R 0, mv_I w, mv_I (c : Int), l3]) (st' := []) (M1 := M) rfl ?_
    refine mv_tt' (by omega) ?_
    refine mv_go' 2 (pc' := 25) (ls' := [mv_R 0, mv_I w, mv_I (c : Int), l3]) (st' := [mv_I (c : Int), mv_R 0]) (M1 := M) rfl ?_
    refine mv_call (st2 := [mv_I (sp_frv V P c)]) rfl (Or.inl rfl) rfl rfl rfl (sp_cfr (c := c) (sp_c_ag hc hag (by decide)) ho hl hn (sp_cts_ag hP hag hn (fun i h1 h2 => by simp only [List.mem_cons, List.not_mem_nil, or_false]; omega)) (by omega)) (by first | decide | omega) (fun Ma10 hm11 => ?_)
    have hx := hm11
    refine mv_go' 4 (pc' := if (sp_frv V P c) = (-1) then 44 else 34) (ls' := [mv_R 0, mv_I w, mv_I (c : Int), mv_I (sp_frv V P c)]) (st' := []) (M1 := Ma10) rfl ?_
    refine mv_sp' (fun ha12 => ?_) (fun ha12 => ?_)
    · refine mv_go' 2 (pc' := 12) (ls' := [mv_R 0, mv_I w, mv_I (mv_w ((c : Int) + 1)), mv_I (sp_frv V P c)]) (st' := []) (M1 := Ma10) rfl ?_
      rw [show mv_w ((c : Int) + 1) = (c : Int) + 1 from mv_w_id (by omega) (by omega)]
      rw [show (c : Int) + 1 = ((c + 1 : Nat) : Int) from by omega]
      exact (ih (c + 1) _ _ (by omega) (hag.tr hx) rfl).val (by rw [sp_wov, if_pos (by omega)])
    · refine mv_go' 2 (pc' := if w = 0 then 38 else 42) (ls' := [mv_R 0, mv_I w, mv_I (c : Int), mv_I (sp_frv V P c)]) (st' := []) (M1 := Ma10) rfl ?_
      refine mv_sp' (fun ha13 => ?_) (fun ha13 => ?_)
      · refine mv_go' 2 (pc' := 43) (ls' := [mv_R 0, mv_I w, mv_I (c : Int), mv_I (sp_frv V P c)]) (st' := [mv_I (c : Int)]) (M1 := Ma10) rfl ?_
        exact mv_Ru.val (mv_ret (fun n => rfl) (hag.tr hx)) (congrArg mv_I (by rw [sp_wov, if_neg (by omega)]; first | rw [if_pos (by assumption)] | rw [if_neg (by assumption)]))
      · refine mv_go' 1 (pc' := 43) (ls' := [mv_R 0, mv_I w, mv_I (c : Int), mv_I (sp_frv V P c)]) (st' := [mv_I (sp_frv V P c)]) (M1 := Ma10) rfl ?_
        exact mv_Ru.val (mv_ret (fun n => rfl) (hag.tr hx)) (congrArg mv_I (by rw [sp_wov, if_neg (by omega)]; first | rw [if_pos (by assumption)] | rw [if_neg (by assumption)]))
theorem sp_mfrl {V M0 : mv_M} {P : Nat → Nat → List Int} {n w : Int} {c : Nat} {v : mv_V} {Q : mv_M → Prop} (hQ : ∀ M1, mv_ag [130, 131] M0 M1 → Q M1) (hm : sp_m M0 V) (ho : sp_ok V) (hl : V 0 11 < n) (hP : sp_mts M0 P n) (hcc : (c : Int) < V 0 8) :
    ∀ (r u : Nat) (M : mv_M) (l5 : mv_V), (u : Int) + r = V 0 9 → mv_ag [130, 131] M0 M → mv_isL l5 = false → (sp_frl V P c r u ≠ -1 → mv_I (if w = 0 then (c : Int) else sp_frl V P c r u) = v) →
      (sp_frl V P c r u = -1 → ∀ (M2 : mv_M) (u2 : Int) (l5 : mv_V), mv_ag [130, 131] M0 M2 → mv_isL l5 = false → mv_Ru 19 166 126 [mv_R 100, mv_I w, mv_I (c : Int), mv_I (sp_s1 V P c), mv_I u2, l5] [] M2 v Q) →
      mv_Ru 19 166 56 [mv_R 100, mv_I w, mv_I (c : Int), mv_I (sp_s1 V P c), mv_I (u : Int), l5] [] M v Q := by
  have h8 := sp_ok_s8 ho
  have h9 := sp_ok_s9 ho
  intro r
  induction r with
  | zero =>
    intro u M l5 hk hag h5 hv e
    have e9 : M 100 1 = (u : Int) := by rw [hag 100 (by decide), sp_m_s9 hm]; omega
    refine mv_go' 3 (pc' := 62) (ls' := [mv_R 100, mv_I w, mv_I (c : Int), mv_I (sp_s1 V P c), mv_I (u : Int), l5]) (st' := [mv_I (M 100 1), mv_I (u : Int)]) (M1 := M) rfl ?_
    rw [show M 100 1 = (u : Int) from by exact e9]
    refine mv_go' 1 (pc' := if (u : Int) < (u : Int) then 65 else 126) (ls' := [mv_R 100, mv_I w, mv_I (c : Int), mv_I (sp_s1 V P c), mv_I (u : Int), l5]) (st' := []) (M1 := M) rfl ?_
    refine mv_ff' (by omega) ?_
    exact e rfl M _ l5 hag h5
  | succ r ih =>
    intro u M l5 hk hag h5 hv e
    have e9 : M 100 1 = V 0 9 := by rw [hag 100 (by decide), sp_m_s9 hm]
    have e2 : M 106 c = V 2 c := by rw [hag 106 (by decide)]; exact sp_m_2 hm c hcc
    have hwb := sp_wt_b V P c u
    refine mv_go' 3 (pc' := 62) (ls' := [mv_R 100, mv_I w, mv_I (c : Int), mv_I (sp_s1 V P c), mv_I (u : Int), l5]) (st' := [mv_I (M 100 1), mv_I (u : Int)]) (M1 := M) rfl ?_
    rw [show M 100 1 = V 0 9 from by exact e9]
    refine mv_go' 1 (pc' := if (u : Int) < (V 0 9) then 65 else 126) (ls' := [mv_R 100, mv_I w, mv_I (c : Int), mv_I (sp_s1 V P c), mv_I (u : Int), l5]) (st' := []) (M1 := M) rfl ?_
    refine mv_tt' (by omega) ?_
    refine mv_go' 4 (pc' := if 0 ≤ (c : Int) ∧ (c : Int) < 6 then 71 else mv_bad) (ls' := [mv_R 100, mv_I w, mv_I (c : Int), mv_I (sp_s1 V P c), mv_I (u : Int), l5]) (st' := [mv_I (M 106 c)]) (M1 := M) rfl ?_
    refine mv_tt' (by omega) ?_
    rw [show M 106 c = V 2 c from by exact e2]
    refine mv_go' 2 (pc' := if (V 2 c) = (u : Int) then 91 else 76) (ls' := [mv_R 100, mv_I w, mv_I (c : Int), mv_I (sp_s1 V P c), mv_I (u : Int), l5]) (st' := []) (M1 := M) rfl ?_
    refine mv_sp' (fun ha14 => ?_) (fun ha14 => ?_)
    · refine mv_go' 4 (pc' := if 0 = 0 then 120 else 99) (ls' := [mv_R 100, mv_I w, mv_I (c : Int), mv_I (sp_s1 V P c), mv_I (u : Int), mv_I 0]) (st' := []) (M1 := M) rfl ?_
      refine mv_tt' (by first | decide | omega) ?_
      refine mv_go' 2 (pc' := 56) (ls' := [mv_R 100, mv_I w, mv_I (c : Int), mv_I (sp_s1 V P c), mv_I (mv_w ((u : Int) + 1)), mv_I 0]) (st' := []) (M1 := M) rfl ?_
      rw [show mv_w ((u : Int) + 1) = (u : Int) + 1 from mv_w_id (by omega) (by omega)]
      rw [show (u : Int) + 1 = ((u + 1 : Nat) : Int) from by omega]
      have hag3 : mv_ag [130, 131] M0 M := by first | exact hag2.tr hx3 | exact hag2 | exact hag
      have ef : sp_frl V P c (r + 1) u = sp_frl V P c r (u + 1) := by rw [sp_frl, if_neg (by omega)]
      rw [ef] at hv e
      exact ih (u + 1) _ _ (by omega) hag3 rfl hv e
    · refine mv_go' 3 (pc' := 80) (ls' := [mv_R 100, mv_I w, mv_I (c : Int), mv_I (sp_s1 V P c), mv_I (u : Int), l5]) (st' := [mv_I (u : Int), mv_I (c : Int), mv_R 100]) (M1 := M) rfl ?_
      refine mv_call (st2 := [mv_I (sp_suits V P c u)]) rfl (Or.inl rfl) rfl rfl rfl (sp_msuits (c := c) (u := u) (sp_m_ag2 hm hag (by decide)) ho hl (sp_mts_ag hP hag (by decide)) (by omega) (by omega)) (by first | decide | omega) (fun Ma15 hm16 => ?_)
      have hx := hm16
      have hag2 := hag.tr hx
      refine mv_go' 2 (pc' := if (sp_s1 V P c) < (sp_suits V P c u) then 87 else 91) (ls' := [mv_R 100, mv_I w, mv_I (c : Int), mv_I (sp_s1 V P c), mv_I (u : Int), l5]) (st' := []) (M1 := Ma15) rfl ?_
      refine mv_sp' (fun ha17 => ?_) (fun ha17 => ?_)
      · refine mv_go' 5 (pc' := if 1 = 0 then 120 else 99) (ls' := [mv_R 100, mv_I w, mv_I (c : Int), mv_I (sp_s1 V P c), mv_I (u : Int), mv_I 1]) (st' := []) (M1 := Ma15) rfl ?_
        refine mv_ff' (by first | decide | omega) ?_
        refine mv_go' 3 (pc' := 103) (ls' := [mv_R 100, mv_I w, mv_I (c : Int), mv_I (sp_s1 V P c), mv_I (u : Int), mv_I 1]) (st' := [mv_I (u : Int), mv_I (c : Int), mv_R 100]) (M1 := Ma15) rfl ?_
        refine mv_call (st2 := [mv_I (sp_wt V P c u)]) rfl (Or.inl rfl) rfl rfl rfl (sp_mwt (c := c) (u := u) (sp_m_ag2 hm hag2 (by decide)) ho hl (sp_mts_ag hP hag2 (by decide)) (by omega) (by omega)) (by first | decide | omega) (fun Ma18 hm19 => ?_)
        have hx3 := hm19
        refine mv_go' 1 (pc' := if (sp_wt V P c u) = 0 then 120 else 109) (ls' := [mv_R 100, mv_I w, mv_I (c : Int), mv_I (sp_s1 V P c), mv_I (u : Int), mv_I 1]) (st' := []) (M1 := Ma18) rfl ?_
        refine mv_sp' (fun ha20 => ?_) (fun ha20 => ?_)
        · refine mv_go' 2 (pc' := 56) (ls' := [mv_R 100, mv_I w, mv_I (c : Int), mv_I (sp_s1 V P c), mv_I (mv_w ((u : Int) + 1)), mv_I 1]) (st' := []) (M1 := Ma18) rfl ?_
          rw [show mv_w ((u : Int) + 1) = (u : Int) + 1 from mv_w_id (by omega) (by omega)]
          rw [show (u : Int) + 1 = ((u + 1 : Nat) : Int) from by omega]
          have hag3 : mv_ag [130, 131] M0 Ma18 := by first | exact hag2.tr hx3 | exact hag2 | exact hag
          have ef : sp_frl V P c (r + 1) u = sp_frl V P c r (u + 1) := by rw [sp_frl, if_neg (by omega)]
          rw [ef] at hv e
          exact ih (u + 1) _ _ (by omega) hag3 rfl hv e
        · refine mv_go' 2 (pc' := if w = 0 then 113 else 117) (ls' := [mv_R 100, mv_I w, mv_I (c : Int), mv_I (sp_s1 V P c), mv_I (u : Int), mv_I 1]) (st' := []) (M1 := Ma18) rfl ?_
          refine mv_sp' (fun ha21 => ?_) (fun ha21 => ?_)
          · refine mv_go' 2 (pc' := 119) (ls' := [mv_R 100, mv_I w, mv_I (c : Int), mv_I (sp_s1 V P c), mv_I (u : Int), mv_I 1]) (st' := [mv_I (c : Int)]) (M1 := Ma18) rfl ?_
            have ef : sp_frl V P c (r + 1) u = (u : Int) := by rw [sp_frl, if_pos (by omega)]
            rw [ef] at hv
            exact mv_Ru.val (mv_ret (fun n => rfl) (hQ _ (hag2.tr hx3))) (by rw [← hv (by omega)]; first | rw [if_pos (by assumption)] | rw [if_neg (by assumption)])
          · refine mv_go' 1 (pc' := 119) (ls' := [mv_R 100, mv_I w, mv_I (c : Int), mv_I (sp_s1 V P c), mv_I (u : Int), mv_I 1]) (st' := [mv_I (u : Int)]) (M1 := Ma18) rfl ?_
            have ef : sp_frl V P c (r + 1) u = (u : Int) := by rw [sp_frl, if_pos (by omega)]
            rw [ef] at hv
            exact mv_Ru.val (mv_ret (fun n => rfl) (hQ _ (hag2.tr hx3))) (by rw [← hv (by omega)]; first | rw [if_pos (by assumption)] | rw [if_neg (by assumption)])
      · refine mv_go' 4 (pc' := if 0 = 0 then 120 else 99) (ls' := [mv_R 100, mv_I w, mv_I (c : Int), mv_I (sp_s1 V P c), mv_I (u : Int), mv_I 0]) (st' := []) (M1 := Ma15) rfl ?_
        refine mv_tt' (by first | decide | omega) ?_
        refine mv_go' 2 (pc' := 56) (ls' := [mv_R 100, mv_I w, mv_I (c : Int), mv_I (sp_s1 V P c), mv_I (mv_w ((u : Int) + 1)), mv_I 0]) (st' := []) (M1 := Ma15) rfl ?_
        rw [show mv_w ((u : Int) + 1) = (u : Int) + 1 from mv_w_id (by omega) (by omega)]
        rw [show (u : Int) + 1 = ((u + 1 : Nat) : Int) from by omega]
        have hag3 : mv_ag [130, 131] M0 Ma15 := by first | exact hag2.tr hx3 | exact hag2 | exact hag
        have ef : sp_frl V P c (r + 1) u = sp_frl V P c r (u + 1) := by rw [sp_frl, if_neg (by omega)]
        rw [ef] at hv e
        exact ih (u + 1) _ _ (by omega) hag3 rfl hv e
theorem sp_mwo {V M0 : mv_M} {P : Nat → Nat → List Int} {n w : Int} (hm : sp_m M0 V) (ho : sp_ok V) (hl : V 0 11 < n) (hP : sp_mts M0 P n) :
    ∀ (r c : Nat) (M : mv_M) (l3 l4 l5 : mv_V), (c : Int) + r = V 0 8 → mv_ag [130, 131] M0 M → mv_isL l3 = false → mv_isL l4 = false → mv_isL l5 = false → mv_Ru 19 166 14 [mv_R 100, mv_I w, mv_I (c : Int), l3, l4, l5] [] M (mv_I (sp_wov V P w r c)) (fun M1 => mv_ag [130, 131] M0 M1) := by
  have h8 := sp_ok_s8 ho
  have h9 := sp_ok_s9 ho
  intro r
  induction r with
  | zero =>
    intro c M l3 l4 l5 hk hag h3 h4 h5
    have e8 : M 100 0 = (c : Int) := by rw [hag 100 (by decide), sp_m_s8 hm]; omega
    refine mv_go' 3 (pc' := 19) (ls' := [mv_R 100, mv_I w, mv_I (c : Int), l3, l4, l5]) (st' := [mv_I (M 100 0), mv_I (c : Int)]) (M1 := M) rfl ?_
    rw [show M 100 0 = (c : Int) from by exact e8]
    refine mv_go' 1 (pc' := if (c : Int) < (c : Int) then 22 else 132) (ls' := [mv_R 100, mv_I w, mv_I (c : Int), l3, l4, l5]) (st' := []) (M1 := M) rfl ?_
    refine mv_ff' (by omega) ?_
    refine mv_go' 1 (pc' := 133) (ls' := [mv_R 100, mv_I w, mv_I (c : Int), l3, l4, l5]) (st' := [mv_I (-1)]) (M1 := M) rfl ?_
    exact mv_ret (fun n => rfl) hag
  | succ r ih =>
    intro c M l3 l4 l5 hk hag h3 h4 h5
    have e8 : M 100 0 = V 0 8 := by rw [hag 100 (by decide), sp_m_s8 hm]
    have h2 := sp_ok_2 ho c (by omega)
    have e2 : M 106 c = V 2 c := by rw [hag 106 (by decide)]; exact sp_m_2 hm c (by omega)
    by_cases q : V 2 c = -1
    · have es : sp_s1 V P c = 0 := if_pos q
      refine mv_go' 3 (pc' := 19) (ls' := [mv_R 100, mv_I w, mv_I (c : Int), l3, l4, l5]) (st' := [mv_I (M 100 0), mv_I (c : Int)]) (M1 := M) rfl ?_
      rw [show M 100 0 = V 0 8 from by exact e8]
      refine mv_go' 1 (pc' := if (c : Int) < (V 0 8) then 22 else 132) (ls' := [mv_R 100, mv_I w, mv_I (c : Int), l3, l4, l5]) (st' := []) (M1 := M) rfl ?_
      refine mv_tt' (by omega) ?_
      refine mv_go' 4 (pc' := if 0 ≤ (c : Int) ∧ (c : Int) < 6 then 28 else mv_bad) (ls' := [mv_R 100, mv_I w, mv_I (c : Int), l3, l4, l5]) (st' := [mv_I (M 106 c)]) (M1 := M) rfl ?_
      refine mv_tt' (by omega) ?_
      rw [show M 106 c = V 2 c from by exact e2]
      refine mv_go' 2 (pc' := if (V 2 c) = (-1) then 32 else 36) (ls' := [mv_R 100, mv_I w, mv_I (c : Int), l3, l4, l5]) (st' := []) (M1 := M) rfl ?_
      refine mv_tt' (by omega) ?_
      refine mv_go' 5 (pc' := 56) (ls' := [mv_R 100, mv_I w, mv_I (c : Int), mv_I 0, mv_I 0, l5]) (st' := []) (M1 := M) rfl ?_
      have hag2 : mv_ag [130, 131] M0 M := by first | exact hag.tr hx | exact hag
      refine mv_eqs (ls2 := [mv_R 100, mv_I w, mv_I (c : Int), mv_I (sp_s1 V P c), mv_I ((0 : Nat) : Int), l5]) (by rw [es]; rfl) rfl rfl ?_
      refine sp_mfrl (c := c) (w := w) (M0 := M) (v := mv_I (sp_wov V P w (r + 1) c)) (fun M1 q => hag2.tr q) (sp_m_ag2 hm hag2 (by decide)) ho hl (sp_mts_ag hP hag2 (by decide)) (by omega) (V 0 9).toNat 0 M _ (by omega) mv_ag.rf h5 (fun q => by rw [sp_wov, if_neg (show ¬ (sp_frv V P c = -1) from q)]; rfl) (fun q M2 u2 l5 hy h5 => ?_)
      rw [sp_wov, if_pos (show sp_frv V P c = -1 from q)]
      refine mv_go' 2 (pc' := 14) (ls' := [mv_R 100, mv_I w, mv_I (mv_w ((c : Int) + 1)), mv_I (sp_s1 V P c), mv_I u2, l5]) (st' := []) (M1 := M2) rfl ?_
      rw [show mv_w ((c : Int) + 1) = (c : Int) + 1 from mv_w_id (by omega) (by omega)]
      rw [show (c : Int) + 1 = ((c + 1 : Nat) : Int) from by omega]
      exact ih (c + 1) M2 _ _ _ (by omega) (hag2.tr hy) rfl rfl h5
    · obtain ⟨u, hu⟩ : ∃ u : Nat, V 2 c = (u : Int) := ⟨(V 2 c).toNat, by omega⟩
      have es : sp_s1 V P c = sp_suits V P c u := by unfold sp_s1; rw [if_neg q, hu]; rfl
      refine mv_go' 3 (pc' := 19) (ls' := [mv_R 100, mv_I w, mv_I (c : Int), l3, l4, l5]) (st' := [mv_I (M 100 0), mv_I (c : Int)]) (M1 := M) rfl ?_
      rw [show M 100 0 = V 0 8 from by exact e8]
      refine mv_go' 1 (pc' := if (c : Int) < (V 0 8) then 22 else 132) (ls' := [mv_R 100, mv_I w, mv_I (c : Int), l3, l4, l5]) (st' := []) (M1 := M) rfl ?_
      refine mv_tt' (by omega) ?_
      refine mv_go' 4 (pc' := if 0 ≤ (c : Int) ∧ (c : Int) < 6 then 28 else mv_bad) (ls' := [mv_R 100, mv_I w, mv_I (c : Int), l3, l4, l5]) (st' := [mv_I (M 106 c)]) (M1 := M) rfl ?_
      refine mv_tt' (by omega) ?_
      rw [show M 106 c = (u : Int) from by rw [e2]; exact hu]
      refine mv_go' 2 (pc' := if (u : Int) = (-1) then 32 else 36) (ls' := [mv_R 100, mv_I w, mv_I (c : Int), l3, l4, l5]) (st' := []) (M1 := M) rfl ?_
      refine mv_ff' (by omega) ?_
      refine mv_go' 6 (pc' := if 0 ≤ (c : Int) ∧ (c : Int) < 6 then 44 else mv_bad) (ls' := [mv_R 100, mv_I w, mv_I (c : Int), l3, l4, l5]) (st' := [mv_I (M 106 c), mv_I (c : Int), mv_R 100]) (M1 := M) rfl ?_
      refine mv_tt' (by omega) ?_
      rw [show M 106 c = (u : Int) from by rw [e2]; exact hu]
      refine mv_go' 2 (pc' := 46) (ls' := [mv_R 100, mv_I w, mv_I (c : Int), l3, l4, l5]) (st' := [mv_I 5, mv_I 0, mv_I (u : Int), mv_I (c : Int), mv_R 100]) (M1 := M) rfl ?_
      refine mv_callP (st2 := [mv_I (u : Int), mv_I (c : Int), mv_R 100]) rfl (Or.inr rfl) rfl rfl rfl ((mv_Ru.val sp_mwithin (congrArg mv_I (sp_cl_id (by omega) (by omega))))) (by first | decide | omega) ?_
      refine mv_call (st2 := [mv_I (sp_suits V P c u)]) rfl (Or.inl rfl) rfl rfl rfl (sp_msuits (c := c) (u := u) (sp_m_ag2 hm hag (by decide)) ho hl (sp_mts_ag hP hag (by decide)) (by omega) (by omega)) (by first | decide | omega) (fun Ma22 hm23 => ?_)
      have hx := hm23
      refine mv_go' 3 (pc' := 56) (ls' := [mv_R 100, mv_I w, mv_I (c : Int), mv_I (sp_suits V P c u), mv_I 0, l5]) (st' := []) (M1 := Ma22) rfl ?_
      have hag2 : mv_ag [130, 131] M0 Ma22 := by first | exact hag.tr hx | exact hag
      refine mv_eqs (ls2 := [mv_R 100, mv_I w, mv_I (c : Int), mv_I (sp_s1 V P c), mv_I ((0 : Nat) : Int), l5]) (by rw [es]; rfl) rfl rfl ?_
      refine sp_mfrl (c := c) (w := w) (M0 := Ma22) (v := mv_I (sp_wov V P w (r + 1) c)) (fun M1 q => hag2.tr q) (sp_m_ag2 hm hag2 (by decide)) ho hl (sp_mts_ag hP hag2 (by decide)) (by omega) (V 0 9).toNat 0 Ma22 _ (by omega) mv_ag.rf h5 (fun q => by rw [sp_wov, if_neg (show ¬ (sp_frv V P c = -1) from q)]; rfl) (fun q M2 u2 l5 hy h5 => ?_)
      rw [sp_wov, if_pos (show sp_frv V P c = -1 from q)]
      refine mv_go' 2 (pc' := 14) (ls' := [mv_R 100, mv_I w, mv_I (mv_w ((c : Int) + 1)), mv_I (sp_s1 V P c), mv_I u2, l5]) (st' := []) (M1 := M2) rfl ?_
      rw [show mv_w ((c : Int) + 1) = (c : Int) + 1 from mv_w_id (by omega) (by omega)]
      rw [show (c : Int) + 1 = ((c + 1 : Nat) : Int) from by omega]
      exact ih (c + 1) M2 _ _ _ (by omega) (hag2.tr hy) rfl rfl h5
theorem sp_k16 (w : Int) : sp_call 77 166 [mv_I w] [mv_I w] := by
  refine sp_mkW (lc := [mv_R 0, mv_I w, mv_U, mv_U]) (lm := [mv_R 100, mv_I w, mv_U, mv_U, mv_U, mv_U]) rfl rfl (fun M hI => ?_)
  have hI2 := hI
  obtain ⟨V, P, n, B, K, t, h⟩ := hI2
  have h' := h
  obtain ⟨⟨hc, hm, ho⟩, ⟨hy, hl, hn1, hn⟩, ⟨hct, hmt, _⟩, _⟩ := h'
  have h8 := sp_ok_s8 ho
  refine mv_goW 1 (pc' := 1) (ls' := [mv_R 0, mv_I w, mv_U, mv_U]) (st' := [mv_I w]) (M1 := M) rfl ?_
  by_cases ha24 : w = 0 ∨ w = 1
  · refine mv_callPW (st2 := [mv_I 1]) rfl (Or.inr rfl) rfl rfl rfl (sp_eith_t ha24) (by first | decide | omega) ?_
    refine mv_goW 1 (pc' := if 1 = 0 then 7 else 10) (ls' := [mv_R 0, mv_I w, mv_U, mv_U]) (st' := []) (M1 := M) rfl ?_
    refine mv_ffW (by first | decide | omega) ?_
    refine mv_goW 2 (pc' := 12) (ls' := [mv_R 0, mv_I w, mv_I 0, mv_U]) (st' := []) (M1 := M) rfl ?_
    refine ⟨_, (sp_cwo hc ho hl hn hct (V 0 8).toNat 0 M mv_U (by omega) mv_ag.rf rfl).imp (fun M1 hx => ⟨_, rfl, ?_⟩) |>.up (by decide)⟩
    have hm := sp_m_ag2 hm hx (by decide)
    have hmt := sp_mts_ag hmt hx (by decide)
    refine mv_goW 3 (pc' := 3) (ls' := [mv_R 100, mv_I w, mv_U, mv_U, mv_U, mv_U]) (st' := [mv_I 1, mv_I 0, mv_I w]) (M1 := M1) rfl ?_
    have ha25 : (0 : Int) ≤ w ∧ w ≤ (1 : Int) := by omega
    refine mv_callPW (st2 := [mv_I 1]) rfl (Or.inr rfl) rfl rfl rfl (sp_min_t ha25) (by first | decide | omega) ?_
    refine mv_goW 1 (pc' := if 1 = 0 then 9 else 12) (ls' := [mv_R 100, mv_I w, mv_U, mv_U, mv_U, mv_U]) (st' := []) (M1 := M1) rfl ?_
    refine mv_ffW (by first | decide | omega) ?_
    refine mv_goW 2 (pc' := 14) (ls' := [mv_R 100, mv_I w, mv_I 0, mv_U, mv_U, mv_U]) (st' := []) (M1 := M1) rfl ?_
    exact ⟨_, (sp_mwo hm ho hl hmt (V 0 8).toNat 0 M1 mv_U mv_U mv_U (by omega) mv_ag.rf rfl rfl rfl).imp (fun M2 hy => ⟨rfl, V, P, n, B, K, t, sp_R_a1 (sp_R_a1 h hx (by decide) (by decide)) hy (by decide) (by decide)⟩) |>.up (by decide)⟩
  · refine mv_callPW (st2 := [mv_I 0]) rfl (Or.inr rfl) rfl rfl rfl (sp_eith_f ha24) (by first | decide | omega) ?_
    refine mv_goW 1 (pc' := if 0 = 0 then 7 else 10) (ls' := [mv_R 0, mv_I w, mv_U, mv_U]) (st' := []) (M1 := M) rfl ?_
    refine mv_ttW (by first | decide | omega) ?_
    refine mv_goW 1 (pc' := 9) (ls' := [mv_R 0, mv_I w, mv_U, mv_U]) (st' := [mv_I (-2)]) (M1 := M) rfl ?_
    refine mv_retW (fun n => rfl) ⟨_, rfl, ?_⟩
    refine mv_goW 3 (pc' := 3) (ls' := [mv_R 100, mv_I w, mv_U, mv_U, mv_U, mv_U]) (st' := [mv_I 1, mv_I 0, mv_I w]) (M1 := M) rfl ?_
    have ha26 : ¬ ((0 : Int) ≤ w ∧ w ≤ (1 : Int)) := by omega
    refine mv_callPW (st2 := [mv_I 0]) rfl (Or.inr rfl) rfl rfl rfl (sp_min_f ha26) (by first | decide | omega) ?_
    refine mv_goW 1 (pc' := if 0 = 0 then 9 else 12) (ls' := [mv_R 100, mv_I w, mv_U, mv_U, mv_U, mv_U]) (st' := []) (M1 := M) rfl ?_
    refine mv_ttW (by first | decide | omega) ?_
    refine mv_goW 1 (pc' := 11) (ls' := [mv_R 100, mv_I w, mv_U, mv_U, mv_U, mv_U]) (st' := [mv_I (-2)]) (M1 := M) rfl ?_
    exact mv_retW (fun n => rfl) ⟨congrArg mv_I (by first | with_reducible rfl | omega), hI⟩
