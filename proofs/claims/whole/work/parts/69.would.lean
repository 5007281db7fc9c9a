/-! would -/
def sp_wxf (V : mv_M) (P : Nat → Nat → List Int) (c u : Nat) : Nat → Nat → Int
  | 0, _ => 0
  | r + 1, d => if V 2 d = (u : Int) ∧ sp_likes V P d u < sp_likes V P c u then 1 else sp_wxf V P c u r (d + 1)
theorem sp_wxf_b (V : mv_M) (P : Nat → Nat → List Int) (c u : Nat) : ∀ r d : Nat, sp_wxf V P c u r d = 0 ∨ sp_wxf V P c u r d = 1
  | 0, _ => Or.inl rfl
  | r + 1, d => by
    simp only [sp_wxf]
    split
    · exact Or.inr rfl
    · exact sp_wxf_b V P c u r (d + 1)
def sp_wt (V : mv_M) (P : Nat → Nat → List Int) (c u : Nat) : Int := if sp_hired V u < sp_room V u then 1 else if sp_room V u = 0 then 0 else sp_wxf V P c u (V 0 8).toNat 0
theorem sp_wt_b (V : mv_M) (P : Nat → Nat → List Int) (c u : Nat) : sp_wt V P c u = 0 ∨ sp_wt V P c u = 1 := by
  unfold sp_wt
  split
  · exact Or.inr rfl
  · split
    · exact Or.inl rfl
    · exact sp_wxf_b V P c u _ 0
theorem sp_cwx {V M0 : mv_M} {P : Nat → Nat → List Int} {n rm : Int} {c u : Nat} (hc : sp_c 30 M0 V) (ho : sp_ok V) (hl : V 0 11 < n) (hn : n ≤ 6) (hP : sp_cts M0 P n) (hu : (u : Int) < V 0 9) :
    ∀ (r d : Nat) (M : mv_M), (d : Int) + r = V 0 8 → mv_ag [36, 37] M0 M → mv_Ru 6 102 43 [mv_R 0, mv_I (u : Int), mv_I (c : Int), mv_I rm, mv_I (sp_likes V P c u), mv_I (d : Int)] [] M (mv_I (sp_wxf V P c u r d)) (fun M1 => mv_ag [36, 37] M0 M1) := by
  have h8 := sp_ok_s8 ho
  intro r
  induction r with
  | zero =>
    intro d M hk hag
    have e8 : M 30 8 = (d : Int) := by rw [hag 30 (by decide), sp_c_s8 hc]; omega
    refine mv_go' 4 (pc' := 52) (ls' := [mv_R 0, mv_I (u : Int), mv_I (c : Int), mv_I rm, mv_I (sp_likes V P c u), mv_I (d : Int)]) (st' := [mv_I (M 30 8), mv_I (d : Int)]) (M1 := M) rfl ?_
    rw [show M 30 8 = (d : Int) from by exact e8]
    refine mv_go' 1 (pc' := if (d : Int) < (d : Int) then 55 else 92) (ls' := [mv_R 0, mv_I (u : Int), mv_I (c : Int), mv_I rm, mv_I (sp_likes V P c u), mv_I (d : Int)]) (st' := []) (M1 := M) rfl ?_
    refine mv_ff' (by omega) ?_
    refine mv_go' 1 (pc' := 93) (ls' := [mv_R 0, mv_I (u : Int), mv_I (c : Int), mv_I rm, mv_I (sp_likes V P c u), mv_I (d : Int)]) (st' := [mv_I 0]) (M1 := M) rfl ?_
    exact mv_ret (fun n => rfl) hag
  | succ r ih =>
    intro d M hk hag
    have e8 : M 30 8 = V 0 8 := by rw [hag 30 (by decide), sp_c_s8 hc]
    have e2 : M 32 d = V 2 d := by rw [hag 32 (by decide)]; exact sp_c_2 hc d (by omega)
    refine mv_go' 4 (pc' := 52) (ls' := [mv_R 0, mv_I (u : Int), mv_I (c : Int), mv_I rm, mv_I (sp_likes V P c u), mv_I (d : Int)]) (st' := [mv_I (M 30 8), mv_I (d : Int)]) (M1 := M) rfl ?_
    rw [show M 30 8 = V 0 8 from by exact e8]
    refine mv_go' 1 (pc' := if (d : Int) < (V 0 8) then 55 else 92) (ls' := [mv_R 0, mv_I (u : Int), mv_I (c : Int), mv_I rm, mv_I (sp_likes V P c u), mv_I (d : Int)]) (st' := []) (M1 := M) rfl ?_
    refine mv_tt' (by omega) ?_
    refine mv_go' 5 (pc' := if 0 ≤ (d : Int) ∧ (d : Int) < 6 then 65 else mv_bad) (ls' := [mv_R 0, mv_I (u : Int), mv_I (c : Int), mv_I rm, mv_I (sp_likes V P c u), mv_I (d : Int)]) (st' := [mv_I (M 32 d)]) (M1 := M) rfl ?_
    refine mv_tt' (by omega) ?_
    rw [show M 32 d = V 2 d from by exact e2]
    refine mv_go' 2 (pc' := if (V 2 d) = (u : Int) then 69 else 86) (ls' := [mv_R 0, mv_I (u : Int), mv_I (c : Int), mv_I rm, mv_I (sp_likes V P c u), mv_I (d : Int)]) (st' := []) (M1 := M) rfl ?_
    refine mv_sp' (fun ha1 => ?_) (fun ha1 => ?_)
    · refine mv_go' 5 (pc' := 78) (ls' := [mv_R 0, mv_I (u : Int), mv_I (c : Int), mv_I rm, mv_I (sp_likes V P c u), mv_I (d : Int)]) (st' := [mv_I (u : Int), mv_I (d : Int), mv_R 30, mv_I (sp_likes V P c u)]) (M1 := M) rfl ?_
      refine mv_call (st2 := [mv_I (sp_likes V P d u), mv_I (sp_likes V P c u)]) rfl (Or.inl rfl) rfl rfl rfl (sp_clikes_30 (c := d) (u := u) (sp_c_ag hc hag (by decide)) ho hl hn (sp_cts_ag hP hag hn (fun i h1 h2 => by simp only [List.mem_cons, List.not_mem_nil, or_false]; omega)) (by omega) hu) (by first | decide | omega) (fun Ma2 hm3 => ?_)
      have hx := hm3
      refine mv_go' 1 (pc' := if (sp_likes V P d u) < (sp_likes V P c u) then 84 else 86) (ls' := [mv_R 0, mv_I (u : Int), mv_I (c : Int), mv_I rm, mv_I (sp_likes V P c u), mv_I (d : Int)]) (st' := []) (M1 := Ma2) rfl ?_
      refine mv_sp' (fun ha4 => ?_) (fun ha4 => ?_)
      · refine mv_go' 1 (pc' := 85) (ls' := [mv_R 0, mv_I (u : Int), mv_I (c : Int), mv_I rm, mv_I (sp_likes V P c u), mv_I (d : Int)]) (st' := [mv_I 1]) (M1 := Ma2) rfl ?_
        exact mv_Ru.val (mv_ret (fun n => rfl) (hag.tr hx)) (congrArg mv_I (by rw [sp_wxf, if_pos (by omega)]))
      · refine mv_go' 2 (pc' := 43) (ls' := [mv_R 0, mv_I (u : Int), mv_I (c : Int), mv_I rm, mv_I (sp_likes V P c u), mv_I (mv_w ((d : Int) + 1))]) (st' := []) (M1 := Ma2) rfl ?_
        rw [show mv_w ((d : Int) + 1) = (d : Int) + 1 from mv_w_id (by omega) (by omega)]
        rw [show (d : Int) + 1 = ((d + 1 : Nat) : Int) from by omega]
        have hx2 : mv_ag [36, 37] M Ma2 := by first | exact hx | exact mv_ag.rf
        exact (ih (d + 1) _ (by omega) (hag.tr hx2)).val (by rw [sp_wxf, if_neg (by omega)])
    · refine mv_go' 2 (pc' := 43) (ls' := [mv_R 0, mv_I (u : Int), mv_I (c : Int), mv_I rm, mv_I (sp_likes V P c u), mv_I (mv_w ((d : Int) + 1))]) (st' := []) (M1 := M) rfl ?_
      rw [show mv_w ((d : Int) + 1) = (d : Int) + 1 from mv_w_id (by omega) (by omega)]
      rw [show (d : Int) + 1 = ((d + 1 : Nat) : Int) from by omega]
      have hx2 : mv_ag [36, 37] M M := by first | exact hx | exact mv_ag.rf
      exact (ih (d + 1) _ (by omega) (hag.tr hx2)).val (by rw [sp_wxf, if_neg (by omega)])
theorem sp_cwt {V M : mv_M} {P : Nat → Nat → List Int} {n : Int} {c u : Nat} (hc : sp_c 30 M V) (ho : sp_ok V) (hl : V 0 11 < n) (hn : n ≤ 6) (hP : sp_cts M P n) (hcc : (c : Int) < V 0 8) (hu : (u : Int) < V 0 9) :
    mv_Ru 7 102 0 [mv_R 0, mv_I (u : Int), mv_I (c : Int), mv_U, mv_U, mv_U] [] M (mv_I (sp_wt V P c u)) (fun M1 => mv_ag [36, 37] M M1) := by
  have h8 := sp_ok_s8 ho
  have hrb := sp_room_b ho hu
  refine mv_go' 3 (pc' := 5) (ls' := [mv_R 0, mv_I (u : Int), mv_I (c : Int), mv_U, mv_U, mv_U]) (st' := [mv_I (u : Int), mv_R 30]) (M1 := M) rfl ?_
  refine mv_callP (st2 := [mv_I (sp_room V u)]) rfl (Or.inl rfl) rfl rfl rfl (sp_croom hc ho hu) (by first | decide | omega) ?_
  refine mv_go' 4 (pc' := 14) (ls' := [mv_R 0, mv_I (u : Int), mv_I (c : Int), mv_I (sp_room V u), mv_U, mv_U]) (st' := [mv_I (u : Int), mv_R 30]) (M1 := M) rfl ?_
  refine mv_callP (st2 := [mv_I (sp_hired V (u : Int))]) rfl (Or.inl rfl) rfl rfl rfl (sp_hired_30 hc ho) (by first | decide | omega) ?_
  refine mv_go' 2 (pc' := if (sp_hired V (u : Int)) < (sp_room V u) then 21 else 23) (ls' := [mv_R 0, mv_I (u : Int), mv_I (c : Int), mv_I (sp_room V u), mv_U, mv_U]) (st' := []) (M1 := M) rfl ?_
  refine mv_sp' (fun ha5 => ?_) (fun ha5 => ?_)
  · refine mv_go' 1 (pc' := 22) (ls' := [mv_R 0, mv_I (u : Int), mv_I (c : Int), mv_I (sp_room V u), mv_U, mv_U]) (st' := [mv_I 1]) (M1 := M) rfl ?_
    exact mv_Ru.val (mv_ret (fun n => rfl) mv_ag.rf) (congrArg mv_I (by unfold sp_wt; first | rw [if_pos (by omega)] | rw [if_neg (by omega), if_pos (by omega)]))
  · refine mv_go' 2 (pc' := if (sp_room V u) = 0 then 27 else 29) (ls' := [mv_R 0, mv_I (u : Int), mv_I (c : Int), mv_I (sp_room V u), mv_U, mv_U]) (st' := []) (M1 := M) rfl ?_
    refine mv_sp' (fun ha6 => ?_) (fun ha6 => ?_)
    · refine mv_go' 1 (pc' := 28) (ls' := [mv_R 0, mv_I (u : Int), mv_I (c : Int), mv_I (sp_room V u), mv_U, mv_U]) (st' := [mv_I 0]) (M1 := M) rfl ?_
      exact mv_Ru.val (mv_ret (fun n => rfl) mv_ag.rf) (congrArg mv_I (by unfold sp_wt; first | rw [if_pos (by omega)] | rw [if_neg (by omega), if_pos (by omega)]))
    · refine mv_go' 4 (pc' := 35) (ls' := [mv_R 0, mv_I (u : Int), mv_I (c : Int), mv_I (sp_room V u), mv_U, mv_U]) (st' := [mv_I (u : Int), mv_I (c : Int), mv_R 30]) (M1 := M) rfl ?_
      refine mv_call (st2 := [mv_I (sp_likes V P c u)]) rfl (Or.inl rfl) rfl rfl rfl (sp_clikes_30 (c := c) (u := u) hc ho hl hn hP (by omega) hu) (by first | decide | omega) (fun Ma7 hm8 => ?_)
      have hx := hm8
      refine mv_go' 3 (pc' := 43) (ls' := [mv_R 0, mv_I (u : Int), mv_I (c : Int), mv_I (sp_room V u), mv_I (sp_likes V P c u), mv_I 0]) (st' := []) (M1 := Ma7) rfl ?_
      have e : sp_wt V P c u = sp_wxf V P c u (V 0 8).toNat 0 := (if_neg (by omega)).trans (if_neg (by omega))
      rw [e]
      refine ((sp_cwx (c := c) (rm := sp_room V u) (M0 := Ma7) (sp_c_ag hc hx (by decide)) ho hl hn (sp_cts_ag hP hx hn (fun i h1 h2 => by simp only [List.mem_cons, List.not_mem_nil, or_false]; omega)) hu (V 0 8).toNat 0 Ma7 (by omega) mv_ag.rf).imp (fun M2 q => hx.tr q)).up (by decide)
theorem sp_mwx1 {V M0 : mv_M} {P : Nat → Nat → List Int} {n : Int} {c u : Nat} (hm : sp_m M0 V) (ho : sp_ok V) (hl : V 0 11 < n) (hP : sp_mts M0 P n) (hu : (u : Int) < V 0 9) :
    ∀ (r d : Nat) (M : mv_M), (d : Int) + r = V 0 8 → mv_ag [130, 131] M0 M → mv_Ru 6 165 39 [mv_R 100, mv_I (c : Int), mv_I (u : Int), mv_I (sp_likes V P c u), mv_I 1, mv_I (d : Int)] [] M (mv_I 1) (fun M1 => mv_ag [130, 131] M0 M1) := by
  have h8 := sp_ok_s8 ho
  intro r
  induction r with
  | zero =>
    intro d M hk hag
    have e8 : M 100 0 = (d : Int) := by rw [hag 100 (by decide), sp_m_s8 hm]; omega
    refine mv_go' 3 (pc' := 45) (ls' := [mv_R 100, mv_I (c : Int), mv_I (u : Int), mv_I (sp_likes V P c u), mv_I 1, mv_I (d : Int)]) (st' := [mv_I (M 100 0), mv_I (d : Int)]) (M1 := M) rfl ?_
    rw [show M 100 0 = (d : Int) from by exact e8]
    refine mv_go' 1 (pc' := if (d : Int) < (d : Int) then 48 else 86) (ls' := [mv_R 100, mv_I (c : Int), mv_I (u : Int), mv_I (sp_likes V P c u), mv_I 1, mv_I (d : Int)]) (st' := []) (M1 := M) rfl ?_
    refine mv_ff' (by omega) ?_
    refine mv_go' 1 (pc' := 88) (ls' := [mv_R 100, mv_I (c : Int), mv_I (u : Int), mv_I (sp_likes V P c u), mv_I 1, mv_I (d : Int)]) (st' := [mv_I 1]) (M1 := M) rfl ?_
    exact mv_ret (fun n => rfl) hag
  | succ r ih =>
    intro d M hk hag
    have e8 : M 100 0 = V 0 8 := by rw [hag 100 (by decide), sp_m_s8 hm]
    have e2 : M 106 d = V 2 d := by rw [hag 106 (by decide)]; exact sp_m_2 hm d (by omega)
    refine mv_go' 3 (pc' := 45) (ls' := [mv_R 100, mv_I (c : Int), mv_I (u : Int), mv_I (sp_likes V P c u), mv_I 1, mv_I (d : Int)]) (st' := [mv_I (M 100 0), mv_I (d : Int)]) (M1 := M) rfl ?_
    rw [show M 100 0 = V 0 8 from by exact e8]
    refine mv_go' 1 (pc' := if (d : Int) < (V 0 8) then 48 else 86) (ls' := [mv_R 100, mv_I (c : Int), mv_I (u : Int), mv_I (sp_likes V P c u), mv_I 1, mv_I (d : Int)]) (st' := []) (M1 := M) rfl ?_
    refine mv_tt' (by omega) ?_
    refine mv_go' 4 (pc' := if 0 ≤ (d : Int) ∧ (d : Int) < 6 then 55 else mv_bad) (ls' := [mv_R 100, mv_I (c : Int), mv_I (u : Int), mv_I (sp_likes V P c u), mv_I 1, mv_I (d : Int)]) (st' := [mv_I (M 106 d)]) (M1 := M) rfl ?_
    refine mv_tt' (by omega) ?_
    rw [show M 106 d = V 2 d from by exact e2]
    refine mv_go' 2 (pc' := if (V 2 d) = (u : Int) then 59 else 80) (ls' := [mv_R 100, mv_I (c : Int), mv_I (u : Int), mv_I (sp_likes V P c u), mv_I 1, mv_I (d : Int)]) (st' := []) (M1 := M) rfl ?_
    refine mv_sp' (fun ha9 => ?_) (fun ha9 => ?_)
    · refine mv_go' 5 (pc' := 66) (ls' := [mv_R 100, mv_I (c : Int), mv_I (u : Int), mv_I (sp_likes V P c u), mv_I 1, mv_I (d : Int)]) (st' := [mv_I (u : Int), mv_I (d : Int), mv_R 100, mv_I (sp_likes V P c u), mv_I 1]) (M1 := M) rfl ?_
      refine mv_call (st2 := [mv_I (sp_likes V P d u), mv_I (sp_likes V P c u), mv_I 1]) rfl (Or.inl rfl) rfl rfl rfl (sp_mlikes (c := d) (u := u) (sp_m_ag2 hm hag (by decide)) ho hl (sp_mts_ag hP hag (by decide)) (by omega) hu) (by first | decide | omega) (fun Ma10 hm11 => ?_)
      have hx := hm11
      refine mv_go' 1 (pc' := if (sp_likes V P d u) < (sp_likes V P c u) then 72 else 76) (ls' := [mv_R 100, mv_I (c : Int), mv_I (u : Int), mv_I (sp_likes V P c u), mv_I 1, mv_I (d : Int)]) (st' := [mv_I 1]) (M1 := Ma10) rfl ?_
      refine mv_sp' (fun ha12 => ?_) (fun ha12 => ?_)
      · refine mv_go' 4 (pc' := 80) (ls' := [mv_R 100, mv_I (c : Int), mv_I (u : Int), mv_I (sp_likes V P c u), mv_I (mv_or 1 1), mv_I (d : Int)]) (st' := []) (M1 := Ma10) rfl ?_
        rw [show mv_or 1 1 = 1 from by decide]
        refine mv_go' 2 (pc' := 39) (ls' := [mv_R 100, mv_I (c : Int), mv_I (u : Int), mv_I (sp_likes V P c u), mv_I 1, mv_I (mv_w ((d : Int) + 1))]) (st' := []) (M1 := Ma10) rfl ?_
        rw [show mv_w ((d : Int) + 1) = (d : Int) + 1 from mv_w_id (by omega) (by omega)]
        rw [show (d : Int) + 1 = ((d + 1 : Nat) : Int) from by omega]
        have hx2 : mv_ag [130, 131] M Ma10 := by first | exact hx | exact mv_ag.rf
        exact ih (d + 1) _ (by omega) (hag.tr hx2)
      · refine mv_go' 3 (pc' := 80) (ls' := [mv_R 100, mv_I (c : Int), mv_I (u : Int), mv_I (sp_likes V P c u), mv_I (mv_or 1 0), mv_I (d : Int)]) (st' := []) (M1 := Ma10) rfl ?_
        rw [show mv_or 1 0 = 1 from by decide]
        refine mv_go' 2 (pc' := 39) (ls' := [mv_R 100, mv_I (c : Int), mv_I (u : Int), mv_I (sp_likes V P c u), mv_I 1, mv_I (mv_w ((d : Int) + 1))]) (st' := []) (M1 := Ma10) rfl ?_
        rw [show mv_w ((d : Int) + 1) = (d : Int) + 1 from mv_w_id (by omega) (by omega)]
        rw [show (d : Int) + 1 = ((d + 1 : Nat) : Int) from by omega]
        have hx2 : mv_ag [130, 131] M Ma10 := by first | exact hx | exact mv_ag.rf
        exact ih (d + 1) _ (by omega) (hag.tr hx2)
    · refine mv_go' 2 (pc' := 39) (ls' := [mv_R 100, mv_I (c : Int), mv_I (u : Int), mv_I (sp_likes V P c u), mv_I 1, mv_I (mv_w ((d : Int) + 1))]) (st' := []) (M1 := M) rfl ?_
      rw [show mv_w ((d : Int) + 1) = (d : Int) + 1 from mv_w_id (by omega) (by omega)]
      rw [show (d : Int) + 1 = ((d + 1 : Nat) : Int) from by omega]
      have hx2 : mv_ag [130, 131] M M := by first | exact hx | exact mv_ag.rf
      exact ih (d + 1) _ (by omega) (hag.tr hx2)
theorem sp_mwx0 {V M0 : mv_M} {P : Nat → Nat → List Int} {n : Int} {c u : Nat} (hm : sp_m M0 V) (ho : sp_ok V) (hl : V 0 11 < n) (hP : sp_mts M0 P n) (hu : (u : Int) < V 0 9) :
    ∀ (r d : Nat) (M : mv_M), (d : Int) + r = V 0 8 → mv_ag [130, 131] M0 M → mv_Ru 6 165 39 [mv_R 100, mv_I (c : Int), mv_I (u : Int), mv_I (sp_likes V P c u), mv_I 0, mv_I (d : Int)] [] M (mv_I (sp_wxf V P c u r d)) (fun M1 => mv_ag [130, 131] M0 M1) := by
  have h8 := sp_ok_s8 ho
  intro r
  induction r with
  | zero =>
    intro d M hk hag
    have e8 : M 100 0 = (d : Int) := by rw [hag 100 (by decide), sp_m_s8 hm]; omega
    refine mv_go' 3 (pc' := 45) (ls' := [mv_R 100, mv_I (c : Int), mv_I (u : Int), mv_I (sp_likes V P c u), mv_I 0, mv_I (d : Int)]) (st' := [mv_I (M 100 0), mv_I (d : Int)]) (M1 := M) rfl ?_
    rw [show M 100 0 = (d : Int) from by exact e8]
    refine mv_go' 1 (pc' := if (d : Int) < (d : Int) then 48 else 86) (ls' := [mv_R 100, mv_I (c : Int), mv_I (u : Int), mv_I (sp_likes V P c u), mv_I 0, mv_I (d : Int)]) (st' := []) (M1 := M) rfl ?_
    refine mv_ff' (by omega) ?_
    refine mv_go' 1 (pc' := 88) (ls' := [mv_R 100, mv_I (c : Int), mv_I (u : Int), mv_I (sp_likes V P c u), mv_I 0, mv_I (d : Int)]) (st' := [mv_I 0]) (M1 := M) rfl ?_
    exact mv_ret (fun n => rfl) hag
  | succ r ih =>
    intro d M hk hag
    have e8 : M 100 0 = V 0 8 := by rw [hag 100 (by decide), sp_m_s8 hm]
    have e2 : M 106 d = V 2 d := by rw [hag 106 (by decide)]; exact sp_m_2 hm d (by omega)
    refine mv_go' 3 (pc' := 45) (ls' := [mv_R 100, mv_I (c : Int), mv_I (u : Int), mv_I (sp_likes V P c u), mv_I 0, mv_I (d : Int)]) (st' := [mv_I (M 100 0), mv_I (d : Int)]) (M1 := M) rfl ?_
    rw [show M 100 0 = V 0 8 from by exact e8]
    refine mv_go' 1 (pc' := if (d : Int) < (V 0 8) then 48 else 86) (ls' := [mv_R 100, mv_I (c : Int), mv_I (u : Int), mv_I (sp_likes V P c u), mv_I 0, mv_I (d : Int)]) (st' := []) (M1 := M) rfl ?_
    refine mv_tt' (by omega) ?_
    refine mv_go' 4 (pc' := if 0 ≤ (d : Int) ∧ (d : Int) < 6 then 55 else mv_bad) (ls' := [mv_R 100, mv_I (c : Int), mv_I (u : Int), mv_I (sp_likes V P c u), mv_I 0, mv_I (d : Int)]) (st' := [mv_I (M 106 d)]) (M1 := M) rfl ?_
    refine mv_tt' (by omega) ?_
    rw [show M 106 d = V 2 d from by exact e2]
    refine mv_go' 2 (pc' := if (V 2 d) = (u : Int) then 59 else 80) (ls' := [mv_R 100, mv_I (c : Int), mv_I (u : Int), mv_I (sp_likes V P c u), mv_I 0, mv_I (d : Int)]) (st' := []) (M1 := M) rfl ?_
    refine mv_sp' (fun ha13 => ?_) (fun ha13 => ?_)
    · refine mv_go' 5 (pc' := 66) (ls' := [mv_R 100, mv_I (c : Int), mv_I (u : Int), mv_I (sp_likes V P c u), mv_I 0, mv_I (d : Int)]) (st' := [mv_I (u : Int), mv_I (d : Int), mv_R 100, mv_I (sp_likes V P c u), mv_I 0]) (M1 := M) rfl ?_
      refine mv_call (st2 := [mv_I (sp_likes V P d u), mv_I (sp_likes V P c u), mv_I 0]) rfl (Or.inl rfl) rfl rfl rfl (sp_mlikes (c := d) (u := u) (sp_m_ag2 hm hag (by decide)) ho hl (sp_mts_ag hP hag (by decide)) (by omega) hu) (by first | decide | omega) (fun Ma14 hm15 => ?_)
      have hx := hm15
      refine mv_go' 1 (pc' := if (sp_likes V P d u) < (sp_likes V P c u) then 72 else 76) (ls' := [mv_R 100, mv_I (c : Int), mv_I (u : Int), mv_I (sp_likes V P c u), mv_I 0, mv_I (d : Int)]) (st' := [mv_I 0]) (M1 := Ma14) rfl ?_
      refine mv_sp' (fun ha16 => ?_) (fun ha16 => ?_)
      · refine mv_go' 4 (pc' := 80) (ls' := [mv_R 100, mv_I (c : Int), mv_I (u : Int), mv_I (sp_likes V P c u), mv_I (mv_or 0 1), mv_I (d : Int)]) (st' := []) (M1 := Ma14) rfl ?_
        rw [show mv_or 0 1 = 1 from by decide]
        refine mv_go' 2 (pc' := 39) (ls' := [mv_R 100, mv_I (c : Int), mv_I (u : Int), mv_I (sp_likes V P c u), mv_I 1, mv_I (mv_w ((d : Int) + 1))]) (st' := []) (M1 := Ma14) rfl ?_
        rw [show mv_w ((d : Int) + 1) = (d : Int) + 1 from mv_w_id (by omega) (by omega)]
        rw [show (d : Int) + 1 = ((d + 1 : Nat) : Int) from by omega]
        exact (sp_mwx1 hm ho hl hP hu r (d + 1) _ (by omega) (hag.tr hx)).val (congrArg mv_I (by rw [sp_wxf, if_pos (by omega)]))
      · refine mv_go' 3 (pc' := 80) (ls' := [mv_R 100, mv_I (c : Int), mv_I (u : Int), mv_I (sp_likes V P c u), mv_I (mv_or 0 0), mv_I (d : Int)]) (st' := []) (M1 := Ma14) rfl ?_
        rw [show mv_or 0 0 = 0 from by decide]
        refine mv_go' 2 (pc' := 39) (ls' := [mv_R 100, mv_I (c : Int), mv_I (u : Int), mv_I (sp_likes V P c u), mv_I 0, mv_I (mv_w ((d : Int) + 1))]) (st' := []) (M1 := Ma14) rfl ?_
        rw [show mv_w ((d : Int) + 1) = (d : Int) + 1 from mv_w_id (by omega) (by omega)]
        rw [show (d : Int) + 1 = ((d + 1 : Nat) : Int) from by omega]
        exact (ih (d + 1) _ (by omega) (hag.tr hx)).val (congrArg mv_I (by rw [sp_wxf, if_neg (by omega)]))
    · refine mv_go' 2 (pc' := 39) (ls' := [mv_R 100, mv_I (c : Int), mv_I (u : Int), mv_I (sp_likes V P c u), mv_I 0, mv_I (mv_w ((d : Int) + 1))]) (st' := []) (M1 := M) rfl ?_
      rw [show mv_w ((d : Int) + 1) = (d : Int) + 1 from mv_w_id (by omega) (by omega)]
      rw [show (d : Int) + 1 = ((d + 1 : Nat) : Int) from by omega]
      exact (ih (d + 1) _ (by omega) hag).val (congrArg mv_I (by rw [sp_wxf, if_neg (by omega)]))
theorem sp_mwt {V M : mv_M} {P : Nat → Nat → List Int} {n : Int} {c u : Nat} (hm : sp_m M V) (ho : sp_ok V) (hl : V 0 11 < n) (hP : sp_mts M P n) (hcc : (c : Int) < V 0 8) (hu : (u : Int) < V 0 9) :
    mv_Ru 7 165 0 [mv_R 100, mv_I (c : Int), mv_I (u : Int), mv_U, mv_U, mv_U] [] M (mv_I (sp_wt V P c u)) (fun M1 => mv_ag [130, 131] M M1) := by
  have h8 := sp_ok_s8 ho
  have hrb := sp_room_b ho hu
  refine mv_go' 2 (pc' := 2) (ls' := [mv_R 100, mv_I (c : Int), mv_I (u : Int), mv_U, mv_U, mv_U]) (st' := [mv_I (u : Int), mv_R 100]) (M1 := M) rfl ?_
  refine mv_callP (st2 := [mv_I (sp_hired V (u : Int))]) rfl (Or.inl rfl) rfl rfl rfl (sp_mhired hm ho) (by first | decide | omega) ?_
  refine mv_go' 2 (pc' := 7) (ls' := [mv_R 100, mv_I (c : Int), mv_I (u : Int), mv_U, mv_U, mv_U]) (st' := [mv_I (u : Int), mv_R 100, mv_I (sp_hired V (u : Int))]) (M1 := M) rfl ?_
  refine mv_callP (st2 := [mv_I (sp_room V u), mv_I (sp_hired V (u : Int))]) rfl (Or.inl rfl) rfl rfl rfl (sp_mroom hm ho hu) (by first | decide | omega) ?_
  refine mv_go' 1 (pc' := if (sp_hired V (u : Int)) < (sp_room V u) then 13 else 15) (ls' := [mv_R 100, mv_I (c : Int), mv_I (u : Int), mv_U, mv_U, mv_U]) (st' := []) (M1 := M) rfl ?_
  refine mv_sp' (fun ha17 => ?_) (fun ha17 => ?_)
  · refine mv_go' 1 (pc' := 14) (ls' := [mv_R 100, mv_I (c : Int), mv_I (u : Int), mv_U, mv_U, mv_U]) (st' := [mv_I 1]) (M1 := M) rfl ?_
    exact mv_Ru.val (mv_ret (fun n => rfl) mv_ag.rf) (congrArg mv_I (by unfold sp_wt; first | rw [if_pos (by omega)] | rw [if_neg (by omega), if_pos (by omega)]))
  · refine mv_go' 2 (pc' := 17) (ls' := [mv_R 100, mv_I (c : Int), mv_I (u : Int), mv_U, mv_U, mv_U]) (st' := [mv_I (u : Int), mv_R 100]) (M1 := M) rfl ?_
    refine mv_callP (st2 := [mv_I (sp_room V u)]) rfl (Or.inl rfl) rfl rfl rfl (sp_mroom hm ho hu) (by first | decide | omega) ?_
    refine mv_go' 2 (pc' := if (sp_room V u) < 1 then 24 else 26) (ls' := [mv_R 100, mv_I (c : Int), mv_I (u : Int), mv_U, mv_U, mv_U]) (st' := []) (M1 := M) rfl ?_
    refine mv_sp' (fun ha18 => ?_) (fun ha18 => ?_)
    · refine mv_go' 1 (pc' := 25) (ls' := [mv_R 100, mv_I (c : Int), mv_I (u : Int), mv_U, mv_U, mv_U]) (st' := [mv_I 0]) (M1 := M) rfl ?_
      exact mv_Ru.val (mv_ret (fun n => rfl) mv_ag.rf) (congrArg mv_I (by unfold sp_wt; first | rw [if_pos (by omega)] | rw [if_neg (by omega), if_pos (by omega)]))
    · refine mv_go' 3 (pc' := 29) (ls' := [mv_R 100, mv_I (c : Int), mv_I (u : Int), mv_U, mv_U, mv_U]) (st' := [mv_I (u : Int), mv_I (c : Int), mv_R 100]) (M1 := M) rfl ?_
      refine mv_call (st2 := [mv_I (sp_likes V P c u)]) rfl (Or.inl rfl) rfl rfl rfl (sp_mlikes (c := c) (u := u) hm ho hl hP (by omega) hu) (by first | decide | omega) (fun Ma19 hm20 => ?_)
      have hx := hm20
      refine mv_go' 5 (pc' := 39) (ls' := [mv_R 100, mv_I (c : Int), mv_I (u : Int), mv_I (sp_likes V P c u), mv_I 0, mv_I 0]) (st' := []) (M1 := Ma19) rfl ?_
      have e : sp_wt V P c u = sp_wxf V P c u (V 0 8).toNat 0 := (if_neg (by omega)).trans (if_neg (by omega))
      rw [e]
      refine ((sp_mwx0 (c := c) (M0 := Ma19) (sp_m_ag2 hm hx (by decide)) ho hl (sp_mts_ag hP hx (by decide)) hu (V 0 8).toNat 0 Ma19 (by omega) mv_ag.rf).imp (fun M2 q => hx.tr q)).up (by decide)
