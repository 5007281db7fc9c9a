/-! a sheet tells suits: the first that is otherwise -/
def sp_ul (s g : Nat → Int) : Nat → Nat → Int
  | 0, _ => -1
  | r + 1, c => if s c = g c then sp_ul s g r (c + 1) else (c : Int)
theorem sp_cfol_30_0 {V M0 : mv_M} {P : Nat → Nat → List Int} {n : Int} {u z : Nat} {g : Nat → Int} (hc : sp_c 30 M0 V) (ho : sp_ok V) (hl : V 0 11 < n) (hn : n ≤ 6) (hP : sp_cts M0 P n) (hu : (u : Int) < V 0 9) (hz : M0 71 2 = (z : Int)) (hz8 : (z : Int) ≤ V 0 8) (hg : ∀ j, j < z → M0 72 j = g j) :
    ∀ (r c : Nat) (M : mv_M), c + r = z → mv_ag [36, 37] M0 M → mv_Ru 7 100 8 [mv_R 30, mv_R 71, mv_I (u : Int), mv_I (c : Int)] [] M (mv_I (sp_ul (fun c => sp_suits V P c u) g r c)) (fun M1 => mv_ag [36, 37] M0 M1) := by
  have h8 := sp_ok_s8 ho
  intro r
  induction r with
  | zero =>
    intro c M hk hag
    have hk : c = z := by omega
    subst hk
    have hz2 : M 71 2 = (c : Int) := by rw [hag _ (by decide)]; exact hz
    refine mv_go' 3 (pc' := 13) (ls' := [mv_R 30, mv_R 71, mv_I (u : Int), mv_I (c : Int)]) (st' := [mv_I (M 71 2), mv_I (c : Int)]) (M1 := M) rfl ?_
    rw [show M 71 2 = (c : Int) from by exact hz2]
    refine mv_go' 1 (pc' := if (c : Int) < (c : Int) then 16 else 47) (ls' := [mv_R 30, mv_R 71, mv_I (u : Int), mv_I (c : Int)]) (st' := []) (M1 := M) rfl ?_
    refine mv_ff' (by omega) ?_
    refine mv_go' 1 (pc' := 48) (ls' := [mv_R 30, mv_R 71, mv_I (u : Int), mv_I (c : Int)]) (st' := [mv_I (-1)]) (M1 := M) rfl ?_
    exact mv_ret (fun n => rfl) hag
  | succ r ih =>
    intro c M hk hag
    have hz2 : M 71 2 = (z : Int) := by rw [hag _ (by decide)]; exact hz
    have h82 : M 30 8 = V 0 8 := by rw [hag _ (by decide)]; exact sp_c_s8 hc
    refine mv_go' 3 (pc' := 13) (ls' := [mv_R 30, mv_R 71, mv_I (u : Int), mv_I (c : Int)]) (st' := [mv_I (M 71 2), mv_I (c : Int)]) (M1 := M) rfl ?_
    rw [show M 71 2 = (z : Int) from by exact hz2]
    refine mv_go' 1 (pc' := if (c : Int) < (z : Int) then 16 else 47) (ls' := [mv_R 30, mv_R 71, mv_I (u : Int), mv_I (c : Int)]) (st' := []) (M1 := M) rfl ?_
    refine mv_tt' (by omega) ?_
    refine mv_go' 3 (pc' := 21) (ls' := [mv_R 30, mv_R 71, mv_I (u : Int), mv_I (c : Int)]) (st' := [mv_I (M 30 8), mv_I (c : Int)]) (M1 := M) rfl ?_
    rw [show M 30 8 = V 0 8 from by exact h82]
    refine mv_go' 1 (pc' := if (c : Int) < (V 0 8) then 24 else 47) (ls' := [mv_R 30, mv_R 71, mv_I (u : Int), mv_I (c : Int)]) (st' := []) (M1 := M) rfl ?_
    refine mv_tt' (by omega) ?_
    refine mv_go' 3 (pc' := 27) (ls' := [mv_R 30, mv_R 71, mv_I (u : Int), mv_I (c : Int)]) (st' := [mv_I (u : Int), mv_I (c : Int), mv_R 30]) (M1 := M) rfl ?_
    refine mv_call (st2 := [mv_I (sp_suits V P c u)]) rfl (Or.inl rfl) rfl rfl rfl (sp_csuits_30 (c := c) (u := u) (sp_c_ag hc hag (by decide)) ho hl hn (sp_cts_ag hP hag hn (fun i h1 h2 => by simp only [List.mem_cons, List.not_mem_nil, or_false]; omega)) (by omega) hu) (by first | decide | omega) (fun Ma1 hm2 => ?_)
    have hx := hm2
    have hg1 : Ma1 72 c = g c := by rw [hx _ (by decide), hag _ (by decide)]; exact hg c (by omega)
    refine mv_go' 4 (pc' := if 0 ≤ (c : Int) ∧ (c : Int) < 40 then 36 else mv_bad) (ls' := [mv_R 30, mv_R 71, mv_I (u : Int), mv_I (c : Int)]) (st' := [mv_I (Ma1 72 c), mv_I (sp_suits V P c u)]) (M1 := Ma1) rfl ?_
    refine mv_tt' (by omega) ?_
    rw [show Ma1 72 c = g c from by exact hg1]
    refine mv_go' 1 (pc' := if (sp_suits V P c u) = (g c) then 41 else 39) (ls' := [mv_R 30, mv_R 71, mv_I (u : Int), mv_I (c : Int)]) (st' := []) (M1 := Ma1) rfl ?_
    refine mv_sp' (fun ha3 => ?_) (fun ha3 => ?_)
    · refine mv_go' 2 (pc' := 8) (ls' := [mv_R 30, mv_R 71, mv_I (u : Int), mv_I (mv_w ((c : Int) + 1))]) (st' := []) (M1 := Ma1) rfl ?_
      rw [show mv_w ((c : Int) + 1) = (c : Int) + 1 from mv_w_id (by omega) (by omega)]
      rw [show (c : Int) + 1 = ((c + 1 : Nat) : Int) from by omega]
      rw [sp_ul, if_pos (by omega)]
      exact ih (c + 1) _ (by omega) (hag.tr hx)
    · refine mv_go' 1 (pc' := 40) (ls' := [mv_R 30, mv_R 71, mv_I (u : Int), mv_I (c : Int)]) (st' := [mv_I (c : Int)]) (M1 := Ma1) rfl ?_
      exact mv_Ru.val (mv_ret (fun n => rfl) (hag.tr hx)) (congrArg mv_I (by rw [sp_ul, if_neg (by omega)]))
theorem sp_cfo_30_0 {V M0 : mv_M} {P : Nat → Nat → List Int} {n : Int} {u z : Nat} {g : Nat → Int} (hc : sp_c 30 M0 V) (ho : sp_ok V) (hl : V 0 11 < n) (hn : n ≤ 6) (hP : sp_cts M0 P n) (hu : (u : Int) < V 0 9) (hz : M0 71 2 = (z : Int)) (hz8 : (z : Int) ≤ V 0 8) (hg : ∀ j, j < z → M0 72 j = g j) :
    mv_Ru 7 100 0 [mv_R 30, mv_R 71, mv_I (u : Int), mv_U] [] M0 (mv_I (sp_ul (fun c => sp_suits V P c u) g z 0)) (fun M1 => mv_ag [36, 37] M0 M1) := by
  refine mv_go' 4 (pc' := 8) (ls' := [mv_R 30, mv_R 71, mv_I (u : Int), mv_I 0]) (st' := []) (M1 := M0) rfl ?_
  exact sp_cfol_30_0 hc ho hl hn hP hu hz hz8 hg z 0 M0 (by omega) mv_ag.rf
theorem sp_cfol_30_1 {V M0 : mv_M} {P : Nat → Nat → List Int} {n : Int} {u z : Nat} {g : Nat → Int} (hc : sp_c 30 M0 V) (ho : sp_ok V) (hl : V 0 11 < n) (hn : n ≤ 6) (hP : sp_cts M0 P n) (hu : (u : Int) < V 0 9) (hz : M0 73 2 = (z : Int)) (hz8 : (z : Int) ≤ V 0 8) (hg : ∀ j, j < z → M0 74 j = g j) :
    ∀ (r c : Nat) (M : mv_M), c + r = z → mv_ag [36, 37] M0 M → mv_Ru 7 100 8 [mv_R 30, mv_R 73, mv_I (u : Int), mv_I (c : Int)] [] M (mv_I (sp_ul (fun c => sp_suits V P c u) g r c)) (fun M1 => mv_ag [36, 37] M0 M1) := by
  have h8 := sp_ok_s8 ho
  intro r
  induction r with
  | zero =>
    intro c M hk hag
    have hk : c = z := by omega
    subst hk
    have hz2 : M 73 2 = (c : Int) := by rw [hag _ (by decide)]; exact hz
    refine mv_go' 3 (pc' := 13) (ls' := [mv_R 30, mv_R 73, mv_I (u : Int), mv_I (c : Int)]) (st' := [mv_I (M 73 2), mv_I (c : Int)]) (M1 := M) rfl ?_
    rw [show M 73 2 = (c : Int) from by exact hz2]
    refine mv_go' 1 (pc' := if (c : Int) < (c : Int) then 16 else 47) (ls' := [mv_R 30, mv_R 73, mv_I (u : Int), mv_I (c : Int)]) (st' := []) (M1 := M) rfl ?_
    refine mv_ff' (by omega) ?_
    refine mv_go' 1 (pc' := 48) (ls' := [mv_R 30, mv_R 73, mv_I (u : Int), mv_I (c : Int)]) (st' := [mv_I (-1)]) (M1 := M) rfl ?_
    exact mv_ret (fun n => rfl) hag
  | succ r ih =>
    intro c M hk hag
    have hz2 : M 73 2 = (z : Int) := by rw [hag _ (by decide)]; exact hz
    have h82 : M 30 8 = V 0 8 := by rw [hag _ (by decide)]; exact sp_c_s8 hc
    refine mv_go' 3 (pc' := 13) (ls' := [mv_R 30, mv_R 73, mv_I (u : Int), mv_I (c : Int)]) (st' := [mv_I (M 73 2), mv_I (c : Int)]) (M1 := M) rfl ?_
    rw [show M 73 2 = (z : Int) from by exact hz2]
    refine mv_go' 1 (pc' := if (c : Int) < (z : Int) then 16 else 47) (ls' := [mv_R 30, mv_R 73, mv_I (u : Int), mv_I (c : Int)]) (st' := []) (M1 := M) rfl ?_
    refine mv_tt' (by omega) ?_
    refine mv_go' 3 (pc' := 21) (ls' := [mv_R 30, mv_R 73, mv_I (u : Int), mv_I (c : Int)]) (st' := [mv_I (M 30 8), mv_I (c : Int)]) (M1 := M) rfl ?_
    rw [show M 30 8 = V 0 8 from by exact h82]
    refine mv_go' 1 (pc' := if (c : Int) < (V 0 8) then 24 else 47) (ls' := [mv_R 30, mv_R 73, mv_I (u : Int), mv_I (c : Int)]) (st' := []) (M1 := M) rfl ?_
    refine mv_tt' (by omega) ?_
    refine mv_go' 3 (pc' := 27) (ls' := [mv_R 30, mv_R 73, mv_I (u : Int), mv_I (c : Int)]) (st' := [mv_I (u : Int), mv_I (c : Int), mv_R 30]) (M1 := M) rfl ?_
    refine mv_call (st2 := [mv_I (sp_suits V P c u)]) rfl (Or.inl rfl) rfl rfl rfl (sp_csuits_30 (c := c) (u := u) (sp_c_ag hc hag (by decide)) ho hl hn (sp_cts_ag hP hag hn (fun i h1 h2 => by simp only [List.mem_cons, List.not_mem_nil, or_false]; omega)) (by omega) hu) (by first | decide | omega) (fun Ma4 hm5 => ?_)
    have hx := hm5
    have hg1 : Ma4 74 c = g c := by rw [hx _ (by decide), hag _ (by decide)]; exact hg c (by omega)
    refine mv_go' 4 (pc' := if 0 ≤ (c : Int) ∧ (c : Int) < 40 then 36 else mv_bad) (ls' := [mv_R 30, mv_R 73, mv_I (u : Int), mv_I (c : Int)]) (st' := [mv_I (Ma4 74 c), mv_I (sp_suits V P c u)]) (M1 := Ma4) rfl ?_
    refine mv_tt' (by omega) ?_
    rw [show Ma4 74 c = g c from by exact hg1]
    refine mv_go' 1 (pc' := if (sp_suits V P c u) = (g c) then 41 else 39) (ls' := [mv_R 30, mv_R 73, mv_I (u : Int), mv_I (c : Int)]) (st' := []) (M1 := Ma4) rfl ?_
    refine mv_sp' (fun ha6 => ?_) (fun ha6 => ?_)
    · refine mv_go' 2 (pc' := 8) (ls' := [mv_R 30, mv_R 73, mv_I (u : Int), mv_I (mv_w ((c : Int) + 1))]) (st' := []) (M1 := Ma4) rfl ?_
      rw [show mv_w ((c : Int) + 1) = (c : Int) + 1 from mv_w_id (by omega) (by omega)]
      rw [show (c : Int) + 1 = ((c + 1 : Nat) : Int) from by omega]
      rw [sp_ul, if_pos (by omega)]
      exact ih (c + 1) _ (by omega) (hag.tr hx)
    · refine mv_go' 1 (pc' := 40) (ls' := [mv_R 30, mv_R 73, mv_I (u : Int), mv_I (c : Int)]) (st' := [mv_I (c : Int)]) (M1 := Ma4) rfl ?_
      exact mv_Ru.val (mv_ret (fun n => rfl) (hag.tr hx)) (congrArg mv_I (by rw [sp_ul, if_neg (by omega)]))
theorem sp_cfo_30_1 {V M0 : mv_M} {P : Nat → Nat → List Int} {n : Int} {u z : Nat} {g : Nat → Int} (hc : sp_c 30 M0 V) (ho : sp_ok V) (hl : V 0 11 < n) (hn : n ≤ 6) (hP : sp_cts M0 P n) (hu : (u : Int) < V 0 9) (hz : M0 73 2 = (z : Int)) (hz8 : (z : Int) ≤ V 0 8) (hg : ∀ j, j < z → M0 74 j = g j) :
    mv_Ru 7 100 0 [mv_R 30, mv_R 73, mv_I (u : Int), mv_U] [] M0 (mv_I (sp_ul (fun c => sp_suits V P c u) g z 0)) (fun M1 => mv_ag [36, 37] M0 M1) := by
  refine mv_go' 4 (pc' := 8) (ls' := [mv_R 30, mv_R 73, mv_I (u : Int), mv_I 0]) (st' := []) (M1 := M0) rfl ?_
  exact sp_cfol_30_1 hc ho hl hn hP hu hz hz8 hg z 0 M0 (by omega) mv_ag.rf
theorem sp_cfol_30_2 {V M0 : mv_M} {P : Nat → Nat → List Int} {n : Int} {u z : Nat} {g : Nat → Int} (hc : sp_c 30 M0 V) (ho : sp_ok V) (hl : V 0 11 < n) (hn : n ≤ 6) (hP : sp_cts M0 P n) (hu : (u : Int) < V 0 9) (hz : M0 75 2 = (z : Int)) (hz8 : (z : Int) ≤ V 0 8) (hg : ∀ j, j < z → M0 76 j = g j) :
    ∀ (r c : Nat) (M : mv_M), c + r = z → mv_ag [36, 37] M0 M → mv_Ru 7 100 8 [mv_R 30, mv_R 75, mv_I (u : Int), mv_I (c : Int)] [] M (mv_I (sp_ul (fun c => sp_suits V P c u) g r c)) (fun M1 => mv_ag [36, 37] M0 M1) := by
  have h8 := sp_ok_s8 ho
  intro r
  induction r with
  | zero =>
    intro c M hk hag
    have hk : c = z := by omega
    subst hk
    have hz2 : M 75 2 = (c : Int) := by rw [hag _ (by decide)]; exact hz
    refine mv_go' 3 (pc' := 13) (ls' := [mv_R 30, mv_R 75, mv_I (u : Int), mv_I (c : Int)]) (st' := [mv_I (M 75 2), mv_I (c : Int)]) (M1 := M) rfl ?_
    rw [show M 75 2 = (c : Int) from by exact hz2]
    refine mv_go' 1 (pc' := if (c : Int) < (c : Int) then 16 else 47) (ls' := [mv_R 30, mv_R 75, mv_I (u : Int), mv_I (c : Int)]) (st' := []) (M1 := M) rfl ?_
    refine mv_ff' (by omega) ?_
    refine mv_go' 1 (pc' := 48) (ls' := [mv_R 30, mv_R 75, mv_I (u : Int), mv_I (c : Int)]) (st' := [mv_I (-1)]) (M1 := M) rfl ?_
    exact mv_ret (fun n => rfl) hag
  | succ r ih =>
    intro c M hk hag
    have hz2 : M 75 2 = (z : Int) := by rw [hag _ (by decide)]; exact hz
    have h82 : M 30 8 = V 0 8 := by rw [hag _ (by decide)]; exact sp_c_s8 hc
    refine mv_go' 3 (pc' := 13) (ls' := [mv_R 30, mv_R 75, mv_I (u : Int), mv_I (c : Int)]) (st' := [mv_I (M 75 2), mv_I (c : Int)]) (M1 := M) rfl ?_
    rw [show M 75 2 = (z : Int) from by exact hz2]
    refine mv_go' 1 (pc' := if (c : Int) < (z : Int) then 16 else 47) (ls' := [mv_R 30, mv_R 75, mv_I (u : Int), mv_I (c : Int)]) (st' := []) (M1 := M) rfl ?_
    refine mv_tt' (by omega) ?_
    refine mv_go' 3 (pc' := 21) (ls' := [mv_R 30, mv_R 75, mv_I (u : Int), mv_I (c : Int)]) (st' := [mv_I (M 30 8), mv_I (c : Int)]) (M1 := M) rfl ?_
    rw [show M 30 8 = V 0 8 from by exact h82]
    refine mv_go' 1 (pc' := if (c : Int) < (V 0 8) then 24 else 47) (ls' := [mv_R 30, mv_R 75, mv_I (u : Int), mv_I (c : Int)]) (st' := []) (M1 := M) rfl ?_
    refine mv_tt' (by omega) ?_
    refine mv_go' 3 (pc' := 27) (ls' := [mv_R 30, mv_R 75, mv_I (u : Int), mv_I (c : Int)]) (st' := [mv_I (u : Int), mv_I (c : Int), mv_R 30]) (M1 := M) rfl ?_
    refine mv_call (st2 := [mv_I (sp_suits V P c u)]) rfl (Or.inl rfl) rfl rfl rfl (sp_csuits_30 (c := c) (u := u) (sp_c_ag hc hag (by decide)) ho hl hn (sp_cts_ag hP hag hn (fun i h1 h2 => by simp only [List.mem_cons, List.not_mem_nil, or_false]; omega)) (by omega) hu) (by first | decide | omega) (fun Ma7 hm8 => ?_)
    have hx := hm8
    have hg1 : Ma7 76 c = g c := by rw [hx _ (by decide), hag _ (by decide)]; exact hg c (by omega)
    refine mv_go' 4 (pc' := if 0 ≤ (c : Int) ∧ (c : Int) < 40 then 36 else mv_bad) (ls' := [mv_R 30, mv_R 75, mv_I (u : Int), mv_I (c : Int)]) (st' := [mv_I (Ma7 76 c), mv_I (sp_suits V P c u)]) (M1 := Ma7) rfl ?_
    refine mv_tt' (by omega) ?_
    rw [show Ma7 76 c = g c from by exact hg1]
    refine mv_go' 1 (pc' := if (sp_suits V P c u) = (g c) then 41 else 39) (ls' := [mv_R 30, mv_R 75, mv_I (u : Int), mv_I (c : Int)]) (st' := []) (M1 := Ma7) rfl ?_
    refine mv_sp' (fun ha9 => ?_) (fun ha9 => ?_)
    · refine mv_go' 2 (pc' := 8) (ls' := [mv_R 30, mv_R 75, mv_I (u : Int), mv_I (mv_w ((c : Int) + 1))]) (st' := []) (M1 := Ma7) rfl ?_
      rw [show mv_w ((c : Int) + 1) = (c : Int) + 1 from mv_w_id (by omega) (by omega)]
      rw [show (c : Int) + 1 = ((c + 1 : Nat) : Int) from by omega]
      rw [sp_ul, if_pos (by omega)]
      exact ih (c + 1) _ (by omega) (hag.tr hx)
    · refine mv_go' 1 (pc' := 40) (ls' := [mv_R 30, mv_R 75, mv_I (u : Int), mv_I (c : Int)]) (st' := [mv_I (c : Int)]) (M1 := Ma7) rfl ?_
      exact mv_Ru.val (mv_ret (fun n => rfl) (hag.tr hx)) (congrArg mv_I (by rw [sp_ul, if_neg (by omega)]))
theorem sp_cfo_30_2 {V M0 : mv_M} {P : Nat → Nat → List Int} {n : Int} {u z : Nat} {g : Nat → Int} (hc : sp_c 30 M0 V) (ho : sp_ok V) (hl : V 0 11 < n) (hn : n ≤ 6) (hP : sp_cts M0 P n) (hu : (u : Int) < V 0 9) (hz : M0 75 2 = (z : Int)) (hz8 : (z : Int) ≤ V 0 8) (hg : ∀ j, j < z → M0 76 j = g j) :
    mv_Ru 7 100 0 [mv_R 30, mv_R 75, mv_I (u : Int), mv_U] [] M0 (mv_I (sp_ul (fun c => sp_suits V P c u) g z 0)) (fun M1 => mv_ag [36, 37] M0 M1) := by
  refine mv_go' 4 (pc' := 8) (ls' := [mv_R 30, mv_R 75, mv_I (u : Int), mv_I 0]) (st' := []) (M1 := M0) rfl ?_
  exact sp_cfol_30_2 hc ho hl hn hP hu hz hz8 hg z 0 M0 (by omega) mv_ag.rf
theorem sp_cfol_30_3 {V M0 : mv_M} {P : Nat → Nat → List Int} {n : Int} {u z : Nat} {g : Nat → Int} (hc : sp_c 30 M0 V) (ho : sp_ok V) (hl : V 0 11 < n) (hn : n ≤ 6) (hP : sp_cts M0 P n) (hu : (u : Int) < V 0 9) (hz : M0 77 2 = (z : Int)) (hz8 : (z : Int) ≤ V 0 8) (hg : ∀ j, j < z → M0 78 j = g j) :
    ∀ (r c : Nat) (M : mv_M), c + r = z → mv_ag [36, 37] M0 M → mv_Ru 7 100 8 [mv_R 30, mv_R 77, mv_I (u : Int), mv_I (c : Int)] [] M (mv_I (sp_ul (fun c => sp_suits V P c u) g r c)) (fun M1 => mv_ag [36, 37] M0 M1) := by
  have h8 := sp_ok_s8 ho
  intro r
  induction r with
  | zero =>
    intro c M hk hag
    have hk : c = z := by omega
    subst hk
    have hz2 : M 77 2 = (c : Int) := by rw [hag _ (by decide)]; exact hz
    refine mv_go' 3 (pc' := 13) (ls' := [mv_R 30, mv_R 77, mv_I (u : Int), mv_I (c : Int)]) (st' := [mv_I (M 77 2), mv_I (c : Int)]) (M1 := M) rfl ?_
    rw [show M 77 2 = (c : Int) from by exact hz2]
    refine mv_go' 1 (pc' := if (c : Int) < (c : Int) then 16 else 47) (ls' := [mv_R 30, mv_R 77, mv_I (u : Int), mv_I (c : Int)]) (st' := []) (M1 := M) rfl ?_
    refine mv_ff' (by omega) ?_
    refine mv_go' 1 (pc' := 48) (ls' := [mv_R 30, mv_R 77, mv_I (u : Int), mv_I (c : Int)]) (st' := [mv_I (-1)]) (M1 := M) rfl ?_
    exact mv_ret (fun n => rfl) hag
  | succ r ih =>
    intro c M hk hag
    have hz2 : M 77 2 = (z : Int) := by rw [hag _ (by decide)]; exact hz
    have h82 : M 30 8 = V 0 8 := by rw [hag _ (by decide)]; exact sp_c_s8 hc
    refine mv_go' 3 (pc' := 13) (ls' := [mv_R 30, mv_R 77, mv_I (u : Int), mv_I (c : Int)]) (st' := [mv_I (M 77 2), mv_I (c : Int)]) (M1 := M) rfl ?_
    rw [show M 77 2 = (z : Int) from by exact hz2]
    refine mv_go' 1 (pc' := if (c : Int) < (z : Int) then 16 else 47) (ls' := [mv_R 30, mv_R 77, mv_I (u : Int), mv_I (c : Int)]) (st' := []) (M1 := M) rfl ?_
    refine mv_tt' (by omega) ?_
    refine mv_go' 3 (pc' := 21) (ls' := [mv_R 30, mv_R 77, mv_I (u : Int), mv_I (c : Int)]) (st' := [mv_I (M 30 8), mv_I (c : Int)]) (M1 := M) rfl ?_
    rw [show M 30 8 = V 0 8 from by exact h82]
    refine mv_go' 1 (pc' := if (c : Int) < (V 0 8) then 24 else 47) (ls' := [mv_R 30, mv_R 77, mv_I (u : Int), mv_I (c : Int)]) (st' := []) (M1 := M) rfl ?_
    refine mv_tt' (by omega) ?_
    refine mv_go' 3 (pc' := 27) (ls' := [mv_R 30, mv_R 77, mv_I (u : Int), mv_I (c : Int)]) (st' := [mv_I (u : Int), mv_I (c : Int), mv_R 30]) (M1 := M) rfl ?_
    refine mv_call (st2 := [mv_I (sp_suits V P c u)]) rfl (Or.inl rfl) rfl rfl rfl (sp_csuits_30 (c := c) (u := u) (sp_c_ag hc hag (by decide)) ho hl hn (sp_cts_ag hP hag hn (fun i h1 h2 => by simp only [List.mem_cons, List.not_mem_nil, or_false]; omega)) (by omega) hu) (by first | decide | omega) (fun Ma10 hm11 => ?_)
    have hx := hm11
    have hg1 : Ma10 78 c = g c := by rw [hx _ (by decide), hag _ (by decide)]; exact hg c (by omega)
    refine mv_go' 4 (pc' := if 0 ≤ (c : Int) ∧ (c : Int) < 40 then 36 else mv_bad) (ls' := [mv_R 30, mv_R 77, mv_I (u : Int), mv_I (c : Int)]) (st' := [mv_I (Ma10 78 c), mv_I (sp_suits V P c u)]) (M1 := Ma10) rfl ?_
    refine mv_tt' (by omega) ?_
    rw [show Ma10 78 c = g c from by exact hg1]
    refine mv_go' 1 (pc' := if (sp_suits V P c u) = (g c) then 41 else 39) (ls' := [mv_R 30, mv_R 77, mv_I (u : Int), mv_I (c : Int)]) (st' := []) (M1 := Ma10) rfl ?_
    refine mv_sp' (fun ha12 => ?_) (fun ha12 => ?_)
    · refine mv_go' 2 (pc' := 8) (ls' := [mv_R 30, mv_R 77, mv_I (u : Int), mv_I (mv_w ((c : Int) + 1))]) (st' := []) (M1 := Ma10) rfl ?_
      rw [show mv_w ((c : Int) + 1) = (c : Int) + 1 from mv_w_id (by omega) (by omega)]
      rw [show (c : Int) + 1 = ((c + 1 : Nat) : Int) from by omega]
      rw [sp_ul, if_pos (by omega)]
      exact ih (c + 1) _ (by omega) (hag.tr hx)
    · refine mv_go' 1 (pc' := 40) (ls' := [mv_R 30, mv_R 77, mv_I (u : Int), mv_I (c : Int)]) (st' := [mv_I (c : Int)]) (M1 := Ma10) rfl ?_
      exact mv_Ru.val (mv_ret (fun n => rfl) (hag.tr hx)) (congrArg mv_I (by rw [sp_ul, if_neg (by omega)]))
theorem sp_cfo_30_3 {V M0 : mv_M} {P : Nat → Nat → List Int} {n : Int} {u z : Nat} {g : Nat → Int} (hc : sp_c 30 M0 V) (ho : sp_ok V) (hl : V 0 11 < n) (hn : n ≤ 6) (hP : sp_cts M0 P n) (hu : (u : Int) < V 0 9) (hz : M0 77 2 = (z : Int)) (hz8 : (z : Int) ≤ V 0 8) (hg : ∀ j, j < z → M0 78 j = g j) :
    mv_Ru 7 100 0 [mv_R 30, mv_R 77, mv_I (u : Int), mv_U] [] M0 (mv_I (sp_ul (fun c => sp_suits V P c u) g z 0)) (fun M1 => mv_ag [36, 37] M0 M1) := by
  refine mv_go' 4 (pc' := 8) (ls' := [mv_R 30, mv_R 77, mv_I (u : Int), mv_I 0]) (st' := []) (M1 := M0) rfl ?_
  exact sp_cfol_30_3 hc ho hl hn hP hu hz hz8 hg z 0 M0 (by omega) mv_ag.rf
theorem sp_cfol_50_0 {V M0 : mv_M} {P : Nat → Nat → List Int} {n : Int} {u z : Nat} {g : Nat → Int} (hc : sp_c 50 M0 V) (ho : sp_ok V) (hl : V 0 11 < n) (hn : n ≤ 6) (hP : sp_cts M0 P n) (hu : (u : Int) < V 0 9) (hz : M0 71 2 = (z : Int)) (hz8 : (z : Int) ≤ V 0 8) (hg : ∀ j, j < z → M0 72 j = g j) :
    ∀ (r c : Nat) (M : mv_M), c + r = z → mv_ag [56, 57] M0 M → mv_Ru 7 100 8 [mv_R 50, mv_R 71, mv_I (u : Int), mv_I (c : Int)] [] M (mv_I (sp_ul (fun c => sp_suits V P c u) g r c)) (fun M1 => mv_ag [56, 57] M0 M1) := by
  have h8 := sp_ok_s8 ho
  intro r
  induction r with
  | zero =>
    intro c M hk hag
    have hk : c = z := by omega
    subst hk
    have hz2 : M 71 2 = (c : Int) := by rw [hag _ (by decide)]; exact hz
    refine mv_go' 3 (pc' := 13) (ls' := [mv_R 50, mv_R 71, mv_I (u : Int), mv_I (c : Int)]) (st' := [mv_I (M 71 2), mv_I (c : Int)]) (M1 := M) rfl ?_
    rw [show M 71 2 = (c : Int) from by exact hz2]
    refine mv_go' 1 (pc' := if (c : Int) < (c : Int) then 16 else 47) (ls' := [mv_R 50, mv_R 71, mv_I (u : Int), mv_I (c : Int)]) (st' := []) (M1 := M) rfl ?_
    refine mv_ff' (by omega) ?_
    refine mv_go' 1 (pc' := 48) (ls' := [mv_R 50, mv_R 71, mv_I (u : Int), mv_I (c : Int)]) (st' := [mv_I (-1)]) (M1 := M) rfl ?_
    exact mv_ret (fun n => rfl) hag
  | succ r ih =>
    intro c M hk hag
    have hz2 : M 71 2 = (z : Int) := by rw [hag _ (by decide)]; exact hz
    have h82 : M 50 8 = V 0 8 := by rw [hag _ (by decide)]; exact sp_c_s8 hc
    refine mv_go' 3 (pc' := 13) (ls' := [mv_R 50, mv_R 71, mv_I (u : Int), mv_I (c : Int)]) (st' := [mv_I (M 71 2), mv_I (c : Int)]) (M1 := M) rfl ?_
    rw [show M 71 2 = (z : Int) from by exact hz2]
    refine mv_go' 1 (pc' := if (c : Int) < (z : Int) then 16 else 47) (ls' := [mv_R 50, mv_R 71, mv_I (u : Int), mv_I (c : Int)]) (st' := []) (M1 := M) rfl ?_
    refine mv_tt' (by omega) ?_
    refine mv_go' 3 (pc' := 21) (ls' := [mv_R 50, mv_R 71, mv_I (u : Int), mv_I (c : Int)]) (st' := [mv_I (M 50 8), mv_I (c : Int)]) (M1 := M) rfl ?_
    rw [show M 50 8 = V 0 8 from by exact h82]
    refine mv_go' 1 (pc' := if (c : Int) < (V 0 8) then 24 else 47) (ls' := [mv_R 50, mv_R 71, mv_I (u : Int), mv_I (c : Int)]) (st' := []) (M1 := M) rfl ?_
    refine mv_tt' (by omega) ?_
    refine mv_go' 3 (pc' := 27) (ls' := [mv_R 50, mv_R 71, mv_I (u : Int), mv_I (c : Int)]) (st' := [mv_I (u : Int), mv_I (c : Int), mv_R 50]) (M1 := M) rfl ?_
    refine mv_call (st2 := [mv_I (sp_suits V P c u)]) rfl (Or.inl rfl) rfl rfl rfl (sp_csuits_50 (c := c) (u := u) (sp_c_ag hc hag (by decide)) ho hl hn (sp_cts_ag hP hag hn (fun i h1 h2 => by simp only [List.mem_cons, List.not_mem_nil, or_false]; omega)) (by omega) hu) (by first | decide | omega) (fun Ma13 hm14 => ?_)
    have hx := hm14
    have hg1 : Ma13 72 c = g c := by rw [hx _ (by decide), hag _ (by decide)]; exact hg c (by omega)
    refine mv_go' 4 (pc' := if 0 ≤ (c : Int) ∧ (c : Int) < 40 then 36 else mv_bad) (ls' := [mv_R 50, mv_R 71, mv_I (u : Int), mv_I (c : Int)]) (st' := [mv_I (Ma13 72 c), mv_I (sp_suits V P c u)]) (M1 := Ma13) rfl ?_
    refine mv_tt' (by omega) ?_
    rw [show Ma13 72 c = g c from by exact hg1]
    refine mv_go' 1 (pc' := if (sp_suits V P c u) = (g c) then 41 else 39) (ls' := [mv_R 50, mv_R 71, mv_I (u : Int), mv_I (c : Int)]) (st' := []) (M1 := Ma13) rfl ?_
    refine mv_sp' (fun ha15 => ?_) (fun ha15 => ?_)
    · refine mv_go' 2 (pc' := 8) (ls' := [mv_R 50, mv_R 71, mv_I (u : Int), mv_I (mv_w ((c : Int) + 1))]) (st' := []) (M1 := Ma13) rfl ?_
      rw [show mv_w ((c : Int) + 1) = (c : Int) + 1 from mv_w_id (by omega) (by omega)]
      rw [show (c : Int) + 1 = ((c + 1 : Nat) : Int) from by omega]
      rw [sp_ul, if_pos (by omega)]
      exact ih (c + 1) _ (by omega) (hag.tr hx)
    · refine mv_go' 1 (pc' := 40) (ls' := [mv_R 50, mv_R 71, mv_I (u : Int), mv_I (c : Int)]) (st' := [mv_I (c : Int)]) (M1 := Ma13) rfl ?_
      exact mv_Ru.val (mv_ret (fun n => rfl) (hag.tr hx)) (congrArg mv_I (by rw [sp_ul, if_neg (by omega)]))
theorem sp_cfo_50_0 {V M0 : mv_M} {P : Nat → Nat → List Int} {n : Int} {u z : Nat} {g : Nat → Int} (hc : sp_c 50 M0 V) (ho : sp_ok V) (hl : V 0 11 < n) (hn : n ≤ 6) (hP : sp_cts M0 P n) (hu : (u : Int) < V 0 9) (hz : M0 71 2 = (z : Int)) (hz8 : (z : Int) ≤ V 0 8) (hg : ∀ j, j < z → M0 72 j = g j) :
    mv_Ru 7 100 0 [mv_R 50, mv_R 71, mv_I (u : Int), mv_U] [] M0 (mv_I (sp_ul (fun c => sp_suits V P c u) g z 0)) (fun M1 => mv_ag [56, 57] M0 M1) := by
  refine mv_go' 4 (pc' := 8) (ls' := [mv_R 50, mv_R 71, mv_I (u : Int), mv_I 0]) (st' := []) (M1 := M0) rfl ?_
  exact sp_cfol_50_0 hc ho hl hn hP hu hz hz8 hg z 0 M0 (by omega) mv_ag.rf
theorem sp_cfol_50_1 {V M0 : mv_M} {P : Nat → Nat → List Int} {n : Int} {u z : Nat} {g : Nat → Int} (hc : sp_c 50 M0 V) (ho : sp_ok V) (hl : V 0 11 < n) (hn : n ≤ 6) (hP : sp_cts M0 P n) (hu : (u : Int) < V 0 9) (hz : M0 73 2 = (z : Int)) (hz8 : (z : Int) ≤ V 0 8) (hg : ∀ j, j < z → M0 74 j = g j) :
    ∀ (r c : Nat) (M : mv_M), c + r = z → mv_ag [56, 57] M0 M → mv_Ru 7 100 8 [mv_R 50, mv_R 73, mv_I (u : Int), mv_I (c : Int)] [] M (mv_I (sp_ul (fun c => sp_suits V P c u) g r c)) (fun M1 => mv_ag [56, 57] M0 M1) := by
  have h8 := sp_ok_s8 ho
  intro r
  induction r with
  | zero =>
    intro c M hk hag
    have hk : c = z := by omega
    subst hk
    have hz2 : M 73 2 = (c : Int) := by rw [hag _ (by decide)]; exact hz
    refine mv_go' 3 (pc' := 13) (ls' := [mv_R 50, mv_R 73, mv_I (u : Int), mv_I (c : Int)]) (st' := [mv_I (M 73 2), mv_I (c : Int)]) (M1 := M) rfl ?_
    rw [show M 73 2 = (c : Int) from by exact hz2]
    refine mv_go' 1 (pc' := if (c : Int) < (c : Int) then 16 else 47) (ls' := [mv_R 50, mv_R 73, mv_I (u : Int), mv_I (c : Int)]) (st' := []) (M1 := M) rfl ?_
    refine mv_ff' (by omega) ?_
    refine mv_go' 1 (pc' := 48) (ls' := [mv_R 50, mv_R 73, mv_I (u : Int), mv_I (c : Int)]) (st' := [mv_I (-1)]) (M1 := M) rfl ?_
    exact mv_ret (fun n => rfl) hag
  | succ r ih =>
    intro c M hk hag
    have hz2 : M 73 2 = (z : Int) := by rw [hag _ (by decide)]; exact hz
    have h82 : M 50 8 = V 0 8 := by rw [hag _ (by decide)]; exact sp_c_s8 hc
    refine mv_go' 3 (pc' := 13) (ls' := [mv_R 50, mv_R 73, mv_I (u : Int), mv_I (c : Int)]) (st' := [mv_I (M 73 2), mv_I (c : Int)]) (M1 := M) rfl ?_
    rw [show M 73 2 = (z : Int) from by exact hz2]
    refine mv_go' 1 (pc' := if (c : Int) < (z : Int) then 16 else 47) (ls' := [mv_R 50, mv_R 73, mv_I (u : Int), mv_I (c : Int)]) (st' := []) (M1 := M) rfl ?_
    refine mv_tt' (by omega) ?_
    refine mv_go' 3 (pc' := 21) (ls' := [mv_R 50, mv_R 73, mv_I (u : Int), mv_I (c : Int)]) (st' := [mv_I (M 50 8), mv_I (c : Int)]) (M1 := M) rfl ?_
    rw [show M 50 8 = V 0 8 from by exact h82]
    refine mv_go' 1 (pc' := if (c : Int) < (V 0 8) then 24 else 47) (ls' := [mv_R 50, mv_R 73, mv_I (u : Int), mv_I (c : Int)]) (st' := []) (M1 := M) rfl ?_
    refine mv_tt' (by omega) ?_
    refine mv_go' 3 (pc' := 27) (ls' := [mv_R 50, mv_R 73, mv_I (u : Int), mv_I (c : Int)]) (st' := [mv_I (u : Int), mv_I (c : Int), mv_R 50]) (M1 := M) rfl ?_
    refine mv_call (st2 := [mv_I (sp_suits V P c u)]) rfl (Or.inl rfl) rfl rfl rfl (sp_csuits_50 (c := c) (u := u) (sp_c_ag hc hag (by decide)) ho hl hn (sp_cts_ag hP hag hn (fun i h1 h2 => by simp only [List.mem_cons, List.not_mem_nil, or_false]; omega)) (by omega) hu) (by first | decide | omega) (fun Ma16 hm17 => ?_)
    have hx := hm17
    have hg1 : Ma16 74 c = g c := by rw [hx _ (by decide), hag _ (by decide)]; exact hg c (by omega)
    refine mv_go' 4 (pc' := if 0 ≤ (c : Int) ∧ (c : Int) < 40 then 36 else mv_bad) (ls' := [mv_R 50, mv_R 73, mv_I (u : Int), mv_I (c : Int)]) (st' := [mv_I (Ma16 74 c), mv_I (sp_suits V P c u)]) (M1 := Ma16) rfl ?_
    refine mv_tt' (by omega) ?_
    rw [show Ma16 74 c = g c from by exact hg1]
    refine mv_go' 1 (pc' := if (sp_suits V P c u) = (g c) then 41 else 39) (ls' := [mv_R 50, mv_R 73, mv_I (u : Int), mv_I (c : Int)]) (st' := []) (M1 := Ma16) rfl ?_
    refine mv_sp' (fun ha18 => ?_) (fun ha18 => ?_)
    · refine mv_go' 2 (pc' := 8) (ls' := [mv_R 50, mv_R 73, mv_I (u : Int), mv_I (mv_w ((c : Int) + 1))]) (st' := []) (M1 := Ma16) rfl ?_
      rw [show mv_w ((c : Int) + 1) = (c : Int) + 1 from mv_w_id (by omega) (by omega)]
      rw [show (c : Int) + 1 = ((c + 1 : Nat) : Int) from by omega]
      rw [sp_ul, if_pos (by omega)]
      exact ih (c + 1) _ (by omega) (hag.tr hx)
    · refine mv_go' 1 (pc' := 40) (ls' := [mv_R 50, mv_R 73, mv_I (u : Int), mv_I (c : Int)]) (st' := [mv_I (c : Int)]) (M1 := Ma16) rfl ?_
      exact mv_Ru.val (mv_ret (fun n => rfl) (hag.tr hx)) (congrArg mv_I (by rw [sp_ul, if_neg (by omega)]))
theorem sp_cfo_50_1 {V M0 : mv_M} {P : Nat → Nat → List Int} {n : Int} {u z : Nat} {g : Nat → Int} (hc : sp_c 50 M0 V) (ho : sp_ok V) (hl : V 0 11 < n) (hn : n ≤ 6) (hP : sp_cts M0 P n) (hu : (u : Int) < V 0 9) (hz : M0 73 2 = (z : Int)) (hz8 : (z : Int) ≤ V 0 8) (hg : ∀ j, j < z → M0 74 j = g j) :
    mv_Ru 7 100 0 [mv_R 50, mv_R 73, mv_I (u : Int), mv_U] [] M0 (mv_I (sp_ul (fun c => sp_suits V P c u) g z 0)) (fun M1 => mv_ag [56, 57] M0 M1) := by
  refine mv_go' 4 (pc' := 8) (ls' := [mv_R 50, mv_R 73, mv_I (u : Int), mv_I 0]) (st' := []) (M1 := M0) rfl ?_
  exact sp_cfol_50_1 hc ho hl hn hP hu hz hz8 hg z 0 M0 (by omega) mv_ag.rf
theorem sp_cfol_50_2 {V M0 : mv_M} {P : Nat → Nat → List Int} {n : Int} {u z : Nat} {g : Nat → Int} (hc : sp_c 50 M0 V) (ho : sp_ok V) (hl : V 0 11 < n) (hn : n ≤ 6) (hP : sp_cts M0 P n) (hu : (u : Int) < V 0 9) (hz : M0 75 2 = (z : Int)) (hz8 : (z : Int) ≤ V 0 8) (hg : ∀ j, j < z → M0 76 j = g j) :
    ∀ (r c : Nat) (M : mv_M), c + r = z → mv_ag [56, 57] M0 M → mv_Ru 7 100 8 [mv_R 50, mv_R 75, mv_I (u : Int), mv_I (c : Int)] [] M (mv_I (sp_ul (fun c => sp_suits V P c u) g r c)) (fun M1 => mv_ag [56, 57] M0 M1) := by
  have h8 := sp_ok_s8 ho
  intro r
  induction r with
  | zero =>
    intro c M hk hag
    have hk : c = z := by omega
    subst hk
    have hz2 : M 75 2 = (c : Int) := by rw [hag _ (by decide)]; exact hz
    refine mv_go' 3 (pc' := 13) (ls' := [mv_R 50, mv_R 75, mv_I (u : Int), mv_I (c : Int)]) (st' := [mv_I (M 75 2), mv_I (c : Int)]) (M1 := M) rfl ?_
    rw [show M 75 2 = (c : Int) from by exact hz2]
    refine mv_go' 1 (pc' := if (c : Int) < (c : Int) then 16 else 47) (ls' := [mv_R 50, mv_R 75, mv_I (u : Int), mv_I (c : Int)]) (st' := []) (M1 := M) rfl ?_
    refine mv_ff' (by omega) ?_
    refine mv_go' 1 (pc' := 48) (ls' := [mv_R 50, mv_R 75, mv_I (u : Int), mv_I (c : Int)]) (st' := [mv_I (-1)]) (M1 := M) rfl ?_
    exact mv_ret (fun n => rfl) hag
  | succ r ih =>
    intro c M hk hag
    have hz2 : M 75 2 = (z : Int) := by rw [hag _ (by decide)]; exact hz
    have h82 : M 50 8 = V 0 8 := by rw [hag _ (by decide)]; exact sp_c_s8 hc
    refine mv_go' 3 (pc' := 13) (ls' := [mv_R 50, mv_R 75, mv_I (u : Int), mv_I (c : Int)]) (st' := [mv_I (M 75 2), mv_I (c : Int)]) (M1 := M) rfl ?_
    rw [show M 75 2 = (z : Int) from by exact hz2]
    refine mv_go' 1 (pc' := if (c : Int) < (z : Int) then 16 else 47) (ls' := [mv_R 50, mv_R 75, mv_I (u : Int), mv_I (c : Int)]) (st' := []) (M1 := M) rfl ?_
    refine mv_tt' (by omega) ?_
    refine mv_go' 3 (pc' := 21) (ls' := [mv_R 50, mv_R 75, mv_I (u : Int), mv_I (c : Int)]) (st' := [mv_I (M 50 8), mv_I (c : Int)]) (M1 := M) rfl ?_
    rw [show M 50 8 = V 0 8 from by exact h82]
    refine mv_go' 1 (pc' := if (c : Int) < (V 0 8) then 24 else 47) (ls' := [mv_R 50, mv_R 75, mv_I (u : Int), mv_I (c : Int)]) (st' := []) (M1 := M) rfl ?_
    refine mv_tt' (by omega) ?_
    refine mv_go' 3 (pc' := 27) (ls' := [mv_R 50, mv_R 75, mv_I (u : Int), mv_I (c : Int)]) (st' := [mv_I (u : Int), mv_I (c : Int), mv_R 50]) (M1 := M) rfl ?_
    refine mv_call (st2 := [mv_I (sp_suits V P c u)]) rfl (Or.inl rfl) rfl rfl rfl (sp_csuits_50 (c := c) (u := u) (sp_c_ag hc hag (by decide)) ho hl hn (sp_cts_ag hP hag hn (fun i h1 h2 => by simp only [List.mem_cons, List.not_mem_nil, or_false]; omega)) (by omega) hu) (by first | decide | omega) (fun Ma19 hm20 => ?_)
    have hx := hm20
    have hg1 : Ma19 76 c = g c := by rw [hx _ (by decide), hag _ (by decide)]; exact hg c (by omega)
    refine mv_go' 4 (pc' := if 0 ≤ (c : Int) ∧ (c : Int) < 40 then 36 else mv_bad) (ls' := [mv_R 50, mv_R 75, mv_I (u : Int), mv_I (c : Int)]) (st' := [mv_I (Ma19 76 c), mv_I (sp_suits V P c u)]) (M1 := Ma19) rfl ?_
    refine mv_tt' (by omega) ?_
    rw [show Ma19 76 c = g c from by exact hg1]
    refine mv_go' 1 (pc' := if (sp_suits V P c u) = (g c) then 41 else 39) (ls' := [mv_R 50, mv_R 75, mv_I (u : Int), mv_I (c : Int)]) (st' := []) (M1 := Ma19) rfl ?_
    refine mv_sp' (fun ha21 => ?_) (fun ha21 => ?_)
    · refine mv_go' 2 (pc' := 8) (ls' := [mv_R 50, mv_R 75, mv_I (u : Int), mv_I (mv_w ((c : Int) + 1))]) (st' := []) (M1 := Ma19) rfl ?_
      rw [show mv_w ((c : Int) + 1) = (c : Int) + 1 from mv_w_id (by omega) (by omega)]
      rw [show (c : Int) + 1 = ((c + 1 : Nat) : Int) from by omega]
      rw [sp_ul, if_pos (by omega)]
      exact ih (c + 1) _ (by omega) (hag.tr hx)
    · refine mv_go' 1 (pc' := 40) (ls' := [mv_R 50, mv_R 75, mv_I (u : Int), mv_I (c : Int)]) (st' := [mv_I (c : Int)]) (M1 := Ma19) rfl ?_
      exact mv_Ru.val (mv_ret (fun n => rfl) (hag.tr hx)) (congrArg mv_I (by rw [sp_ul, if_neg (by omega)]))
theorem sp_cfo_50_2 {V M0 : mv_M} {P : Nat → Nat → List Int} {n : Int} {u z : Nat} {g : Nat → Int} (hc : sp_c 50 M0 V) (ho : sp_ok V) (hl : V 0 11 < n) (hn : n ≤ 6) (hP : sp_cts M0 P n) (hu : (u : Int) < V 0 9) (hz : M0 75 2 = (z : Int)) (hz8 : (z : Int) ≤ V 0 8) (hg : ∀ j, j < z → M0 76 j = g j) :
    mv_Ru 7 100 0 [mv_R 50, mv_R 75, mv_I (u : Int), mv_U] [] M0 (mv_I (sp_ul (fun c => sp_suits V P c u) g z 0)) (fun M1 => mv_ag [56, 57] M0 M1) := by
  refine mv_go' 4 (pc' := 8) (ls' := [mv_R 50, mv_R 75, mv_I (u : Int), mv_I 0]) (st' := []) (M1 := M0) rfl ?_
  exact sp_cfol_50_2 hc ho hl hn hP hu hz hz8 hg z 0 M0 (by omega) mv_ag.rf
theorem sp_cfol_50_3 {V M0 : mv_M} {P : Nat → Nat → List Int} {n : Int} {u z : Nat} {g : Nat → Int} (hc : sp_c 50 M0 V) (ho : sp_ok V) (hl : V 0 11 < n) (hn : n ≤ 6) (hP : sp_cts M0 P n) (hu : (u : Int) < V 0 9) (hz : M0 77 2 = (z : Int)) (hz8 : (z : Int) ≤ V 0 8) (hg : ∀ j, j < z → M0 78 j = g j) :
    ∀ (r c : Nat) (M : mv_M), c + r = z → mv_ag [56, 57] M0 M → mv_Ru 7 100 8 [mv_R 50, mv_R 77, mv_I (u : Int), mv_I (c : Int)] [] M (mv_I (sp_ul (fun c => sp_suits V P c u) g r c)) (fun M1 => mv_ag [56, 57] M0 M1) := by
  have h8 := sp_ok_s8 ho
  intro r
  induction r with
  | zero =>
    intro c M hk hag
    have hk : c = z := by omega
    subst hk
    have hz2 : M 77 2 = (c : Int) := by rw [hag _ (by decide)]; exact hz
    refine mv_go' 3 (pc' := 13) (ls' := [mv_R 50, mv_R 77, mv_I (u : Int), mv_I (c : Int)]) (st' := [mv_I (M 77 2), mv_I (c : Int)]) (M1 := M) rfl ?_
    rw [show M 77 2 = (c : Int) from by exact hz2]
    refine mv_go' 1 (pc' := if (c : Int) < (c : Int) then 16 else 47) (ls' := [mv_R 50, mv_R 77, mv_I (u : Int), mv_I (c : Int)]) (st' := []) (M1 := M) rfl ?_
    refine mv_ff' (by omega) ?_
    refine mv_go' 1 (pc' := 48) (ls' := [mv_R 50, mv_R 77, mv_I (u : Int), mv_I (c : Int)]) (st' := [mv_I (-1)]) (M1 := M) rfl ?_
    exact mv_ret (fun n => rfl) hag
  | succ r ih =>
    intro c M hk hag
    have hz2 : M 77 2 = (z : Int) := by rw [hag _ (by decide)]; exact hz
    have h82 : M 50 8 = V 0 8 := by rw [hag _ (by decide)]; exact sp_c_s8 hc
    refine mv_go' 3 (pc' := 13) (ls' := [mv_R 50, mv_R 77, mv_I (u : Int), mv_I (c : Int)]) (st' := [mv_I (M 77 2), mv_I (c : Int)]) (M1 := M) rfl ?_
    rw [show M 77 2 = (z : Int) from by exact hz2]
    refine mv_go' 1 (pc' := if (c : Int) < (z : Int) then 16 else 47) (ls' := [mv_R 50, mv_R 77, mv_I (u : Int), mv_I (c : Int)]) (st' := []) (M1 := M) rfl ?_
    refine mv_tt' (by omega) ?_
    refine mv_go' 3 (pc' := 21) (ls' := [mv_R 50, mv_R 77, mv_I (u : Int), mv_I (c : Int)]) (st' := [mv_I (M 50 8), mv_I (c : Int)]) (M1 := M) rfl ?_
    rw [show M 50 8 = V 0 8 from by exact h82]
    refine mv_go' 1 (pc' := if (c : Int) < (V 0 8) then 24 else 47) (ls' := [mv_R 50, mv_R 77, mv_I (u : Int), mv_I (c : Int)]) (st' := []) (M1 := M) rfl ?_
    refine mv_tt' (by omega) ?_
    refine mv_go' 3 (pc' := 27) (ls' := [mv_R 50, mv_R 77, mv_I (u : Int), mv_I (c : Int)]) (st' := [mv_I (u : Int), mv_I (c : Int), mv_R 50]) (M1 := M) rfl ?_
    refine mv_call (st2 := [mv_I (sp_suits V P c u)]) rfl (Or.inl rfl) rfl rfl rfl (sp_csuits_50 (c := c) (u := u) (sp_c_ag hc hag (by decide)) ho hl hn (sp_cts_ag hP hag hn (fun i h1 h2 => by simp only [List.mem_cons, List.not_mem_nil, or_false]; omega)) (by omega) hu) (by first | decide | omega) (fun Ma22 hm23 => ?_)
    have hx := hm23
    have hg1 : Ma22 78 c = g c := by rw [hx _ (by decide), hag _ (by decide)]; exact hg c (by omega)
    refine mv_go' 4 (pc' := if 0 ≤ (c : Int) ∧ (c : Int) < 40 then 36 else mv_bad) (ls' := [mv_R 50, mv_R 77, mv_I (u : Int), mv_I (c : Int)]) (st' := [mv_I (Ma22 78 c), mv_I (sp_suits V P c u)]) (M1 := Ma22) rfl ?_
    refine mv_tt' (by omega) ?_
    rw [show Ma22 78 c = g c from by exact hg1]
    refine mv_go' 1 (pc' := if (sp_suits V P c u) = (g c) then 41 else 39) (ls' := [mv_R 50, mv_R 77, mv_I (u : Int), mv_I (c : Int)]) (st' := []) (M1 := Ma22) rfl ?_
    refine mv_sp' (fun ha24 => ?_) (fun ha24 => ?_)
    · refine mv_go' 2 (pc' := 8) (ls' := [mv_R 50, mv_R 77, mv_I (u : Int), mv_I (mv_w ((c : Int) + 1))]) (st' := []) (M1 := Ma22) rfl ?_
      rw [show mv_w ((c : Int) + 1) = (c : Int) + 1 from mv_w_id (by omega) (by omega)]
      rw [show (c : Int) + 1 = ((c + 1 : Nat) : Int) from by omega]
      rw [sp_ul, if_pos (by omega)]
      exact ih (c + 1) _ (by omega) (hag.tr hx)
    · refine mv_go' 1 (pc' := 40) (ls' := [mv_R 50, mv_R 77, mv_I (u : Int), mv_I (c : Int)]) (st' := [mv_I (c : Int)]) (M1 := Ma22) rfl ?_
      exact mv_Ru.val (mv_ret (fun n => rfl) (hag.tr hx)) (congrArg mv_I (by rw [sp_ul, if_neg (by omega)]))
theorem sp_cfo_50_3 {V M0 : mv_M} {P : Nat → Nat → List Int} {n : Int} {u z : Nat} {g : Nat → Int} (hc : sp_c 50 M0 V) (ho : sp_ok V) (hl : V 0 11 < n) (hn : n ≤ 6) (hP : sp_cts M0 P n) (hu : (u : Int) < V 0 9) (hz : M0 77 2 = (z : Int)) (hz8 : (z : Int) ≤ V 0 8) (hg : ∀ j, j < z → M0 78 j = g j) :
    mv_Ru 7 100 0 [mv_R 50, mv_R 77, mv_I (u : Int), mv_U] [] M0 (mv_I (sp_ul (fun c => sp_suits V P c u) g z 0)) (fun M1 => mv_ag [56, 57] M0 M1) := by
  refine mv_go' 4 (pc' := 8) (ls' := [mv_R 50, mv_R 77, mv_I (u : Int), mv_I 0]) (st' := []) (M1 := M0) rfl ?_
  exact sp_cfol_50_3 hc ho hl hn hP hu hz hz8 hg z 0 M0 (by omega) mv_ag.rf
theorem sp_mull {V M0 : mv_M} {P : Nat → Nat → List Int} {n : Int} {S u z : Nat} {g : Nat → Int} (hS : S < 4) (hm : sp_m M0 V) (ho : sp_ok V) (hl : V 0 11 < n) (hP : sp_mts M0 P n) (hu : (u : Int) < V 0 9) (hz : M0 118 S = (z : Int)) (hz8 : (z : Int) ≤ V 0 8) (hg : ∀ j, j < z → M0 119 (40 * S + j) = g j) :
    ∀ (r c : Nat) (M : mv_M), c + r = z → mv_ag [130, 131] M0 M → mv_Ru 7 173 2 [mv_R 100, mv_I (S : Int), mv_I (u : Int), mv_I (c : Int)] [] M (mv_I (sp_ul (fun c => sp_suits V P c u) g r c)) (fun M1 => mv_ag [130, 131] M0 M1) := by
  have h8 := sp_ok_s8 ho
  intro r
  induction r with
  | zero =>
    intro c M hk hag
    have hk : c = z := by omega
    subst hk
    have hz2 : M 118 S = (c : Int) := by rw [hag _ (by decide)]; exact hz
    refine mv_go' 5 (pc' := if 0 ≤ (S : Int) ∧ (S : Int) < 4 then 9 else mv_bad) (ls' := [mv_R 100, mv_I (S : Int), mv_I (u : Int), mv_I (c : Int)]) (st' := [mv_I (M 118 S), mv_I (c : Int)]) (M1 := M) rfl ?_
    refine mv_tt' (by omega) ?_
    rw [show M 118 S = (c : Int) from by exact hz2]
    refine mv_go' 1 (pc' := if (c : Int) < (c : Int) then 12 else 40) (ls' := [mv_R 100, mv_I (S : Int), mv_I (u : Int), mv_I (c : Int)]) (st' := []) (M1 := M) rfl ?_
    refine mv_ff' (by omega) ?_
    refine mv_go' 1 (pc' := 41) (ls' := [mv_R 100, mv_I (S : Int), mv_I (u : Int), mv_I (c : Int)]) (st' := [mv_I (-1)]) (M1 := M) rfl ?_
    exact mv_ret (fun n => rfl) hag
  | succ r ih =>
    intro c M hk hag
    have hz2 : M 118 S = (z : Int) := by rw [hag _ (by decide)]; exact hz
    have hg1 : M 119 (40 * S + c) = g c := by rw [hag _ (by decide)]; exact hg c (by omega)
    refine mv_go' 5 (pc' := if 0 ≤ (S : Int) ∧ (S : Int) < 4 then 9 else mv_bad) (ls' := [mv_R 100, mv_I (S : Int), mv_I (u : Int), mv_I (c : Int)]) (st' := [mv_I (M 118 S), mv_I (c : Int)]) (M1 := M) rfl ?_
    refine mv_tt' (by omega) ?_
    rw [show M 118 S = (z : Int) from by exact hz2]
    refine mv_go' 1 (pc' := if (c : Int) < (z : Int) then 12 else 40) (ls' := [mv_R 100, mv_I (S : Int), mv_I (u : Int), mv_I (c : Int)]) (st' := []) (M1 := M) rfl ?_
    refine mv_tt' (by omega) ?_
    refine mv_go' 7 (pc' := 22) (ls' := [mv_R 100, mv_I (S : Int), mv_I (u : Int), mv_I (c : Int)]) (st' := [mv_I (mv_w ((mv_w (40 * (S : Int))) + (c : Int))), mv_R 119]) (M1 := M) rfl ?_
    rw [show mv_w ((mv_w (40 * (S : Int))) + (c : Int)) = ((40 * S + c : Nat) : Int) from by (rw [show mv_w (40 * (S : Int)) = 40 * (S : Int) from mv_w_id (by omega) (by omega), show mv_w ((40 * (S : Int)) + (c : Int)) = (40 * (S : Int)) + (c : Int) from mv_w_id (by omega) (by omega)]) <;> omega]
    refine mv_go' 1 (pc' := if 0 ≤ ((40 * S + c : Nat) : Int) ∧ ((40 * S + c : Nat) : Int) < 160 then 23 else mv_bad) (ls' := [mv_R 100, mv_I (S : Int), mv_I (u : Int), mv_I (c : Int)]) (st' := [mv_I (M 119 (40 * S + c))]) (M1 := M) rfl ?_
    refine mv_tt' (by omega) ?_
    rw [show M 119 (40 * S + c) = g c from by exact hg1]
    refine mv_go' 3 (pc' := 26) (ls' := [mv_R 100, mv_I (S : Int), mv_I (u : Int), mv_I (c : Int)]) (st' := [mv_I (u : Int), mv_I (c : Int), mv_R 100, mv_I (g c)]) (M1 := M) rfl ?_
    refine mv_call (st2 := [mv_I (sp_suits V P c u), mv_I (g c)]) rfl (Or.inl rfl) rfl rfl rfl (sp_msuits (c := c) (u := u) (sp_m_ag2 hm hag (by decide)) ho hl (sp_mts_ag hP hag (by decide)) (by omega) hu) (by first | decide | omega) (fun Ma25 hm26 => ?_)
    have hx := hm26
    refine mv_go' 1 (pc' := if (g c) = (sp_suits V P c u) then 34 else 32) (ls' := [mv_R 100, mv_I (S : Int), mv_I (u : Int), mv_I (c : Int)]) (st' := []) (M1 := Ma25) rfl ?_
    refine mv_sp' (fun ha27 => ?_) (fun ha27 => ?_)
    · refine mv_go' 2 (pc' := 2) (ls' := [mv_R 100, mv_I (S : Int), mv_I (u : Int), mv_I (mv_w ((c : Int) + 1))]) (st' := []) (M1 := Ma25) rfl ?_
      rw [show mv_w ((c : Int) + 1) = (c : Int) + 1 from mv_w_id (by omega) (by omega)]
      rw [show (c : Int) + 1 = ((c + 1 : Nat) : Int) from by omega]
      rw [sp_ul, if_pos (by omega)]
      exact ih (c + 1) _ (by omega) (hag.tr hx)
    · refine mv_go' 1 (pc' := 33) (ls' := [mv_R 100, mv_I (S : Int), mv_I (u : Int), mv_I (c : Int)]) (st' := [mv_I (c : Int)]) (M1 := Ma25) rfl ?_
      exact mv_Ru.val (mv_ret (fun n => rfl) (hag.tr hx)) (congrArg mv_I (by rw [sp_ul, if_neg (by omega)]))
theorem sp_mul {V M0 : mv_M} {P : Nat → Nat → List Int} {n : Int} {S u z : Nat} {g : Nat → Int} (hS : S < 4) (hm : sp_m M0 V) (ho : sp_ok V) (hl : V 0 11 < n) (hP : sp_mts M0 P n) (hu : (u : Int) < V 0 9) (hz : M0 118 S = (z : Int)) (hz8 : (z : Int) ≤ V 0 8) (hg : ∀ j, j < z → M0 119 (40 * S + j) = g j) :
    mv_Ru 7 173 0 [mv_R 100, mv_I (S : Int), mv_I (u : Int), mv_U] [] M0 (mv_I (sp_ul (fun c => sp_suits V P c u) g z 0)) (fun M1 => mv_ag [130, 131] M0 M1) := by
  refine mv_go' 2 (pc' := 2) (ls' := [mv_R 100, mv_I (S : Int), mv_I (u : Int), mv_I 0]) (st' := []) (M1 := M0) rfl ?_
  exact sp_mull hS hm ho hl hP hu hz hz8 hg z 0 M0 (by omega) mv_ag.rf
