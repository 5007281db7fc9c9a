/-! film -/
def sp_fl (V : mv_M) (P : Nat → Nat → List Int) (u j : Nat) : Int := if (j : Int) < V 0 8 then sp_suits V P j u else 0
theorem sp_cfilm_0 {V M0 : mv_M} {P : Nat → Nat → List Int} {n : Int} {u d : Nat} {Q : mv_V → mv_M → Prop} (hc : sp_c 30 M0 V) (ho : sp_ok V) (hl : V 0 11 < n) (hn : n ≤ 6) (hP : sp_cts M0 P n) (hu : (u : Int) < V 0 9) (hs : M0 71 1 = 2)
    (hQ : ∀ M2, mv_ag [36, 37, 72] M0 M2 → (∀ j, j < 40 → M2 72 j = sp_fl V P u j) → mv_W (d + 8) 87 76 [mv_R 0, mv_I 0, mv_I (u : Int), mv_R 71, mv_I (V 0 8)] [] M2 Q) :
    ∀ (r c : Nat) (M : mv_M), (c : Int) + r = V 0 8 → mv_ag [36, 37, 72] M0 M → (∀ j, j < 40 → M 72 j = if j < c then sp_suits V P j u else 0) → mv_W (d + 8) 87 42 [mv_R 0, mv_I 0, mv_I (u : Int), mv_R 71, mv_I (c : Int)] [] M Q := by
  have h8 := sp_ok_s8 ho
  intro r
  induction r with
  | zero =>
    intro c M hk hag hf
    have e : V 0 8 = (c : Int) := by omega
    have h82 : M 30 8 = (c : Int) := by rw [hag _ (by decide), sp_c_s8 hc, e]
    have hq := hQ M hag (fun j hj => by
      rw [hf j hj]
      unfold sp_fl
      rw [e]
      by_cases q : j < c
      · rw [if_pos q, if_pos (by omega)]
      · rw [if_neg q, if_neg (by omega)])
    rw [e] at hq
    refine mv_goW 4 (pc' := 51) (ls' := [mv_R 0, mv_I 0, mv_I (u : Int), mv_R 71, mv_I (c : Int)]) (st' := [mv_I (M 30 8), mv_I (c : Int)]) (M1 := M) rfl ?_
    rw [show M 30 8 = (c : Int) from by exact h82]
    refine mv_goW 1 (pc' := if (c : Int) < (c : Int) then 54 else 76) (ls' := [mv_R 0, mv_I 0, mv_I (u : Int), mv_R 71, mv_I (c : Int)]) (st' := []) (M1 := M) rfl ?_
    refine mv_ffW (by omega) ?_
    exact hq
  | succ r ih =>
    intro c M hk hag hf
    have h82 : M 30 8 = V 0 8 := by rw [hag _ (by decide), sp_c_s8 hc]
    refine mv_goW 4 (pc' := 51) (ls' := [mv_R 0, mv_I 0, mv_I (u : Int), mv_R 71, mv_I (c : Int)]) (st' := [mv_I (M 30 8), mv_I (c : Int)]) (M1 := M) rfl ?_
    rw [show M 30 8 = V 0 8 from by exact h82]
    refine mv_goW 1 (pc' := if (c : Int) < (V 0 8) then 54 else 76) (ls' := [mv_R 0, mv_I 0, mv_I (u : Int), mv_R 71, mv_I (c : Int)]) (st' := []) (M1 := M) rfl ?_
    refine mv_ttW (by omega) ?_
    refine mv_goW 6 (pc' := 64) (ls' := [mv_R 0, mv_I 0, mv_I (u : Int), mv_R 71, mv_I (c : Int)]) (st' := [mv_I (u : Int), mv_I (c : Int), mv_R 30, mv_I (c : Int), mv_R 71]) (M1 := M) rfl ?_
    refine mv_callW (st2 := [mv_I (sp_suits V P c u), mv_I (c : Int), mv_R 71]) rfl (Or.inl rfl) rfl rfl rfl (sp_csuits_30 (c := c) (u := u) (sp_c_ag hc hag (by decide)) ho hl hn (sp_cts_ag hP hag hn (fun i h1 h2 => by simp only [List.mem_cons, List.not_mem_nil, or_false]; omega)) (by omega) hu) (by first | decide | omega) (fun Ma1 hm2 => ?_)
    have hx := hm2
    refine mv_callW (st2 := []) rfl (Or.inl rfl) rfl rfl rfl (sp_write_0 (i := c) (s := 2) (by rw [hx 71 (by decide), hag 71 (by decide)]; exact hs) (by omega)) (by first | decide | omega) (fun Ma3 hm4 => ?_)
    have hw := hm4
    refine mv_goW 2 (pc' := 42) (ls' := [mv_R 0, mv_I 0, mv_I (u : Int), mv_R 71, mv_I (mv_w ((c : Int) + 1))]) (st' := []) (M1 := Ma3) rfl ?_
    rw [show mv_w ((c : Int) + 1) = (c : Int) + 1 from mv_w_id (by omega) (by omega)]
    rw [show (c : Int) + 1 = ((c + 1 : Nat) : Int) from by omega]
    have ec : sp_cut 2 (sp_suits V P c u) = sp_suits V P c u := (if_neg (by decide)).trans (if_neg (by decide))
    rw [ec] at hw
    subst hw
    refine ih (c + 1) _ (by omega) ((hag.tr (hx.wd (by decide))).st (by decide)) (fun j hj => ?_)
    show mv_up (_ : Nat → Int) c (sp_suits V P c u) j = _
    by_cases q : j = c
    · rw [q, mv_up_s, if_pos (by omega)]
    · rw [mv_up_n _ _ q, hx 72 (by decide), hf j hj]
      by_cases q2 : j < c
      · rw [if_pos q2, if_pos (by omega)]
      · rw [if_neg q2, if_neg (by omega)]
theorem sp_cfilm_1 {V M0 : mv_M} {P : Nat → Nat → List Int} {n : Int} {u d : Nat} {Q : mv_V → mv_M → Prop} (hc : sp_c 30 M0 V) (ho : sp_ok V) (hl : V 0 11 < n) (hn : n ≤ 6) (hP : sp_cts M0 P n) (hu : (u : Int) < V 0 9) (hs : M0 73 1 = 2)
    (hQ : ∀ M2, mv_ag [36, 37, 74] M0 M2 → (∀ j, j < 40 → M2 74 j = sp_fl V P u j) → mv_W (d + 8) 87 76 [mv_R 0, mv_I 1, mv_I (u : Int), mv_R 73, mv_I (V 0 8)] [] M2 Q) :
    ∀ (r c : Nat) (M : mv_M), (c : Int) + r = V 0 8 → mv_ag [36, 37, 74] M0 M → (∀ j, j < 40 → M 74 j = if j < c then sp_suits V P j u else 0) → mv_W (d + 8) 87 42 [mv_R 0, mv_I 1, mv_I (u : Int), mv_R 73, mv_I (c : Int)] [] M Q := by
  have h8 := sp_ok_s8 ho
  intro r
  induction r with
  | zero =>
    intro c M hk hag hf
    have e : V 0 8 = (c : Int) := by omega
    have h82 : M 30 8 = (c : Int) := by rw [hag _ (by decide), sp_c_s8 hc, e]
    have hq := hQ M hag (fun j hj => by
      rw [hf j hj]
      unfold sp_fl
      rw [e]
      by_cases q : j < c
      · rw [if_pos q, if_pos (by omega)]
      · rw [if_neg q, if_neg (by omega)])
    rw [e] at hq
    refine mv_goW 4 (pc' := 51) (ls' := [mv_R 0, mv_I 1, mv_I (u : Int), mv_R 73, mv_I (c : Int)]) (st' := [mv_I (M 30 8), mv_I (c : Int)]) (M1 := M) rfl ?_
    rw [show M 30 8 = (c : Int) from by exact h82]
    refine mv_goW 1 (pc' := if (c : Int) < (c : Int) then 54 else 76) (ls' := [mv_R 0, mv_I 1, mv_I (u : Int), mv_R 73, mv_I (c : Int)]) (st' := []) (M1 := M) rfl ?_
    refine mv_ffW (by omega) ?_
    exact hq
  | succ r ih =>
    intro c M hk hag hf
    have h82 : M 30 8 = V 0 8 := by rw [hag _ (by decide), sp_c_s8 hc]
    refine mv_goW 4 (pc' := 51) (ls' := [mv_R 0, mv_I 1, mv_I (u : Int), mv_R 73, mv_I (c : Int)]) (st' := [mv_I (M 30 8), mv_I (c : Int)]) (M1 := M) rfl ?_
    rw [show M 30 8 = V 0 8 from by exact h82]
    refine mv_goW 1 (pc' := if (c : Int) < (V 0 8) then 54 else 76) (ls' := [mv_R 0, mv_I 1, mv_I (u : Int), mv_R 73, mv_I (c : Int)]) (st' := []) (M1 := M) rfl ?_
    refine mv_ttW (by omega) ?_
    refine mv_goW 6 (pc' := 64) (ls' := [mv_R 0, mv_I 1, mv_I (u : Int), mv_R 73, mv_I (c : Int)]) (st' := [mv_I (u : Int), mv_I (c : Int), mv_R 30, mv_I (c : Int), mv_R 73]) (M1 := M) rfl ?_
    refine mv_callW (st2 := [mv_I (sp_suits V P c u), mv_I (c : Int), mv_R 73]) rfl (Or.inl rfl) rfl rfl rfl (sp_csuits_30 (c := c) (u := u) (sp_c_ag hc hag (by decide)) ho hl hn (sp_cts_ag hP hag hn (fun i h1 h2 => by simp only [List.mem_cons, List.not_mem_nil, or_false]; omega)) (by omega) hu) (by first | decide | omega) (fun Ma5 hm6 => ?_)
    have hx := hm6
    refine mv_callW (st2 := []) rfl (Or.inl rfl) rfl rfl rfl (sp_write_1 (i := c) (s := 2) (by rw [hx 73 (by decide), hag 73 (by decide)]; exact hs) (by omega)) (by first | decide | omega) (fun Ma7 hm8 => ?_)
    have hw := hm8
    refine mv_goW 2 (pc' := 42) (ls' := [mv_R 0, mv_I 1, mv_I (u : Int), mv_R 73, mv_I (mv_w ((c : Int) + 1))]) (st' := []) (M1 := Ma7) rfl ?_
    rw [show mv_w ((c : Int) + 1) = (c : Int) + 1 from mv_w_id (by omega) (by omega)]
    rw [show (c : Int) + 1 = ((c + 1 : Nat) : Int) from by omega]
    have ec : sp_cut 2 (sp_suits V P c u) = sp_suits V P c u := (if_neg (by decide)).trans (if_neg (by decide))
    rw [ec] at hw
    subst hw
    refine ih (c + 1) _ (by omega) ((hag.tr (hx.wd (by decide))).st (by decide)) (fun j hj => ?_)
    show mv_up (_ : Nat → Int) c (sp_suits V P c u) j = _
    by_cases q : j = c
    · rw [q, mv_up_s, if_pos (by omega)]
    · rw [mv_up_n _ _ q, hx 74 (by decide), hf j hj]
      by_cases q2 : j < c
      · rw [if_pos q2, if_pos (by omega)]
      · rw [if_neg q2, if_neg (by omega)]
theorem sp_cfilm_2 {V M0 : mv_M} {P : Nat → Nat → List Int} {n : Int} {u d : Nat} {Q : mv_V → mv_M → Prop} (hc : sp_c 30 M0 V) (ho : sp_ok V) (hl : V 0 11 < n) (hn : n ≤ 6) (hP : sp_cts M0 P n) (hu : (u : Int) < V 0 9) (hs : M0 75 1 = 2)
    (hQ : ∀ M2, mv_ag [36, 37, 76] M0 M2 → (∀ j, j < 40 → M2 76 j = sp_fl V P u j) → mv_W (d + 8) 87 76 [mv_R 0, mv_I 2, mv_I (u : Int), mv_R 75, mv_I (V 0 8)] [] M2 Q) :
    ∀ (r c : Nat) (M : mv_M), (c : Int) + r = V 0 8 → mv_ag [36, 37, 76] M0 M → (∀ j, j < 40 → M 76 j = if j < c then sp_suits V P j u else 0) → mv_W (d + 8) 87 42 [mv_R 0, mv_I 2, mv_I (u : Int), mv_R 75, mv_I (c : Int)] [] M Q := by
  have h8 := sp_ok_s8 ho
  intro r
  induction r with
  | zero =>
    intro c M hk hag hf
    have e : V 0 8 = (c : Int) := by omega
    have h82 : M 30 8 = (c : Int) := by rw [hag _ (by decide), sp_c_s8 hc, e]
    have hq := hQ M hag (fun j hj => by
      rw [hf j hj]
      unfold sp_fl
      rw [e]
      by_cases q : j < c
      · rw [if_pos q, if_pos (by omega)]
      · rw [if_neg q, if_neg (by omega)])
    rw [e] at hq
    refine mv_goW 4 (pc' := 51) (ls' := [mv_R 0, mv_I 2, mv_I (u : Int), mv_R 75, mv_I (c : Int)]) (st' := [mv_I (M 30 8), mv_I (c : Int)]) (M1 := M) rfl ?_
    rw [show M 30 8 = (c : Int) from by exact h82]
    refine mv_goW 1 (pc' := if (c : Int) < (c : Int) then 54 else 76) (ls' := [mv_R 0, mv_I 2, mv_I (u : Int), mv_R 75, mv_I (c : Int)]) (st' := []) (M1 := M) rfl ?_
    refine mv_ffW (by omega) ?_
    exact hq
  | succ r ih =>
    intro c M hk hag hf
    have h82 : M 30 8 = V 0 8 := by rw [hag _ (by decide), sp_c_s8 hc]
    refine mv_goW 4 (pc' := 51) (ls' := [mv_R 0, mv_I 2, mv_I (u : Int), mv_R 75, mv_I (c : Int)]) (st' := [mv_I (M 30 8), mv_I (c : Int)]) (M1 := M) rfl ?_
    rw [show M 30 8 = V 0 8 from by exact h82]
    refine mv_goW 1 (pc' := if (c : Int) < (V 0 8) then 54 else 76) (ls' := [mv_R 0, mv_I 2, mv_I (u : Int), mv_R 75, mv_I (c : Int)]) (st' := []) (M1 := M) rfl ?_
    refine mv_ttW (by omega) ?_
    refine mv_goW 6 (pc' := 64) (ls' := [mv_R 0, mv_I 2, mv_I (u : Int), mv_R 75, mv_I (c : Int)]) (st' := [mv_I (u : Int), mv_I (c : Int), mv_R 30, mv_I (c : Int), mv_R 75]) (M1 := M) rfl ?_
    refine mv_callW (st2 := [mv_I (sp_suits V P c u), mv_I (c : Int), mv_R 75]) rfl (Or.inl rfl) rfl rfl rfl (sp_csuits_30 (c := c) (u := u) (sp_c_ag hc hag (by decide)) ho hl hn (sp_cts_ag hP hag hn (fun i h1 h2 => by simp only [List.mem_cons, List.not_mem_nil, or_false]; omega)) (by omega) hu) (by first | decide | omega) (fun Ma9 hm10 => ?_)
    have hx := hm10
    refine mv_callW (st2 := []) rfl (Or.inl rfl) rfl rfl rfl (sp_write_2 (i := c) (s := 2) (by rw [hx 75 (by decide), hag 75 (by decide)]; exact hs) (by omega)) (by first | decide | omega) (fun Ma11 hm12 => ?_)
    have hw := hm12
    refine mv_goW 2 (pc' := 42) (ls' := [mv_R 0, mv_I 2, mv_I (u : Int), mv_R 75, mv_I (mv_w ((c : Int) + 1))]) (st' := []) (M1 := Ma11) rfl ?_
    rw [show mv_w ((c : Int) + 1) = (c : Int) + 1 from mv_w_id (by omega) (by omega)]
    rw [show (c : Int) + 1 = ((c + 1 : Nat) : Int) from by omega]
    have ec : sp_cut 2 (sp_suits V P c u) = sp_suits V P c u := (if_neg (by decide)).trans (if_neg (by decide))
    rw [ec] at hw
    subst hw
    refine ih (c + 1) _ (by omega) ((hag.tr (hx.wd (by decide))).st (by decide)) (fun j hj => ?_)
    show mv_up (_ : Nat → Int) c (sp_suits V P c u) j = _
    by_cases q : j = c
    · rw [q, mv_up_s, if_pos (by omega)]
    · rw [mv_up_n _ _ q, hx 76 (by decide), hf j hj]
      by_cases q2 : j < c
      · rw [if_pos q2, if_pos (by omega)]
      · rw [if_neg q2, if_neg (by omega)]
theorem sp_cfilm_3 {V M0 : mv_M} {P : Nat → Nat → List Int} {n : Int} {u d : Nat} {Q : mv_V → mv_M → Prop} (hc : sp_c 30 M0 V) (ho : sp_ok V) (hl : V 0 11 < n) (hn : n ≤ 6) (hP : sp_cts M0 P n) (hu : (u : Int) < V 0 9) (hs : M0 77 1 = 2)
    (hQ : ∀ M2, mv_ag [36, 37, 78] M0 M2 → (∀ j, j < 40 → M2 78 j = sp_fl V P u j) → mv_W (d + 8) 87 76 [mv_R 0, mv_I 3, mv_I (u : Int), mv_R 77, mv_I (V 0 8)] [] M2 Q) :
    ∀ (r c : Nat) (M : mv_M), (c : Int) + r = V 0 8 → mv_ag [36, 37, 78] M0 M → (∀ j, j < 40 → M 78 j = if j < c then sp_suits V P j u else 0) → mv_W (d + 8) 87 42 [mv_R 0, mv_I 3, mv_I (u : Int), mv_R 77, mv_I (c : Int)] [] M Q := by
  have h8 := sp_ok_s8 ho
  intro r
  induction r with
  | zero =>
    intro c M hk hag hf
    have e : V 0 8 = (c : Int) := by omega
    have h82 : M 30 8 = (c : Int) := by rw [hag _ (by decide), sp_c_s8 hc, e]
    have hq := hQ M hag (fun j hj => by
      rw [hf j hj]
      unfold sp_fl
      rw [e]
      by_cases q : j < c
      · rw [if_pos q, if_pos (by omega)]
      · rw [if_neg q, if_neg (by omega)])
    rw [e] at hq
    refine mv_goW 4 (pc' := 51) (ls' := [mv_R 0, mv_I 3, mv_I (u : Int), mv_R 77, mv_I (c : Int)]) (st' := [mv_I (M 30 8), mv_I (c : Int)]) (M1 := M) rfl ?_
    rw [show M 30 8 = (c : Int) from by exact h82]
    refine mv_goW 1 (pc' := if (c : Int) < (c : Int) then 54 else 76) (ls' := [mv_R 0, mv_I 3, mv_I (u : Int), mv_R 77, mv_I (c : Int)]) (st' := []) (M1 := M) rfl ?_
    refine mv_ffW (by omega) ?_
    exact hq
  | succ r ih =>
    intro c M hk hag hf
    have h82 : M 30 8 = V 0 8 := by rw [hag _ (by decide), sp_c_s8 hc]
    refine mv_goW 4 (pc' := 51) (ls' := [mv_R 0, mv_I 3, mv_I (u : Int), mv_R 77, mv_I (c : Int)]) (st' := [mv_I (M 30 8), mv_I (c : Int)]) (M1 := M) rfl ?_
    rw [show M 30 8 = V 0 8 from by exact h82]
    refine mv_goW 1 (pc' := if (c : Int) < (V 0 8) then 54 else 76) (ls' := [mv_R 0, mv_I 3, mv_I (u : Int), mv_R 77, mv_I (c : Int)]) (st' := []) (M1 := M) rfl ?_
    refine mv_ttW (by omega) ?_
    refine mv_goW 6 (pc' := 64) (ls' := [mv_R 0, mv_I 3, mv_I (u : Int), mv_R 77, mv_I (c : Int)]) (st' := [mv_I (u : Int), mv_I (c : Int), mv_R 30, mv_I (c : Int), mv_R 77]) (M1 := M) rfl ?_
    refine mv_callW (st2 := [mv_I (sp_suits V P c u), mv_I (c : Int), mv_R 77]) rfl (Or.inl rfl) rfl rfl rfl (sp_csuits_30 (c := c) (u := u) (sp_c_ag hc hag (by decide)) ho hl hn (sp_cts_ag hP hag hn (fun i h1 h2 => by simp only [List.mem_cons, List.not_mem_nil, or_false]; omega)) (by omega) hu) (by first | decide | omega) (fun Ma13 hm14 => ?_)
    have hx := hm14
    refine mv_callW (st2 := []) rfl (Or.inl rfl) rfl rfl rfl (sp_write_3 (i := c) (s := 2) (by rw [hx 77 (by decide), hag 77 (by decide)]; exact hs) (by omega)) (by first | decide | omega) (fun Ma15 hm16 => ?_)
    have hw := hm16
    refine mv_goW 2 (pc' := 42) (ls' := [mv_R 0, mv_I 3, mv_I (u : Int), mv_R 77, mv_I (mv_w ((c : Int) + 1))]) (st' := []) (M1 := Ma15) rfl ?_
    rw [show mv_w ((c : Int) + 1) = (c : Int) + 1 from mv_w_id (by omega) (by omega)]
    rw [show (c : Int) + 1 = ((c + 1 : Nat) : Int) from by omega]
    have ec : sp_cut 2 (sp_suits V P c u) = sp_suits V P c u := (if_neg (by decide)).trans (if_neg (by decide))
    rw [ec] at hw
    subst hw
    refine ih (c + 1) _ (by omega) ((hag.tr (hx.wd (by decide))).st (by decide)) (fun j hj => ?_)
    show mv_up (_ : Nat → Int) c (sp_suits V P c u) j = _
    by_cases q : j = c
    · rw [q, mv_up_s, if_pos (by omega)]
    · rw [mv_up_n _ _ q, hx 78 (by decide), hf j hj]
      by_cases q2 : j < c
      · rw [if_pos q2, if_pos (by omega)]
      · rw [if_neg q2, if_neg (by omega)]
theorem sp_mfilm {V M0 : mv_M} {P : Nat → Nat → List Int} {n : Int} {S u d : Nat} {Q : mv_V → mv_M → Prop} (hS : S < 4) (hm : sp_m M0 V) (ho : sp_ok V) (hl : V 0 11 < n) (hP : sp_mts M0 P n) (hu : (u : Int) < V 0 9)
    (hQ : ∀ M2, mv_ag [119, 130, 131] M0 M2 → (∀ j, j < 40 → M2 119 (40 * S + j) = sp_fl V P u j) → (∀ j, (j < 40 * S ∨ 40 * S + 40 ≤ j) → M2 119 j = M0 119 j) → mv_W (d + 8) 180 88 [mv_R 100, mv_I (S : Int), mv_I (u : Int), mv_I 40] [] M2 Q) :
    ∀ (r k : Nat) (M : mv_M), k + r = 40 → mv_ag [119, 130, 131] M0 M → (∀ j, j < k → M 119 (40 * S + j) = sp_fl V P u j) → (∀ j, (j < 40 * S ∨ 40 * S + 40 ≤ j) → M 119 j = M0 119 j) → mv_W (d + 8) 180 42 [mv_R 100, mv_I (S : Int), mv_I (u : Int), mv_I (k : Int)] [] M Q := by
  have h8 := sp_ok_s8 ho
  intro r
  induction r with
  | zero =>
    intro k M hk hag hf ho2
    have hk : k = 40 := by omega
    subst hk
    refine mv_goW 3 (pc' := if ((40 : Nat) : Int) < 40 then 48 else 88) (ls' := [mv_R 100, mv_I (S : Int), mv_I (u : Int), mv_I ((40 : Nat) : Int)]) (st' := []) (M1 := M) rfl ?_
    refine mv_ffW (by decide) ?_
    exact hQ M hag hf ho2
  | succ r ih =>
    intro k M hk hag hf ho2
    have h82 : M 100 0 = V 0 8 := by rw [hag _ (by decide), sp_m_s8 hm]
    refine mv_goW 3 (pc' := if (k : Int) < 40 then 48 else 88) (ls' := [mv_R 100, mv_I (S : Int), mv_I (u : Int), mv_I (k : Int)]) (st' := []) (M1 := M) rfl ?_
    refine mv_ttW (by omega) ?_
    refine mv_goW 10 (pc' := 63) (ls' := [mv_R 100, mv_I (S : Int), mv_I (u : Int), mv_I (k : Int)]) (st' := [mv_I (M 100 0), mv_I (k : Int), mv_I (mv_w ((mv_w (40 * (S : Int))) + (k : Int))), mv_R 119]) (M1 := M) rfl ?_
    rw [show M 100 0 = V 0 8 from by exact h82]
    refine mv_goW 1 (pc' := if (k : Int) < (V 0 8) then 66 else 80) (ls' := [mv_R 100, mv_I (S : Int), mv_I (u : Int), mv_I (k : Int)]) (st' := [mv_I (mv_w ((mv_w (40 * (S : Int))) + (k : Int))), mv_R 119]) (M1 := M) rfl ?_
    rw [show mv_w (40 * (S : Int)) = 40 * (S : Int) from mv_w_id (by omega) (by omega)]
    rw [show mv_w ((40 * (S : Int)) + (k : Int)) = (40 * (S : Int)) + (k : Int) from mv_w_id (by omega) (by omega)]
    rw [show (40 * (S : Int)) + (k : Int) = ((40 * S + k : Nat) : Int) from by omega]
    refine mv_spW (fun ha17 => ?_) (fun ha17 => ?_)
    · refine mv_goW 4 (pc' := 70) (ls' := [mv_R 100, mv_I (S : Int), mv_I (u : Int), mv_I (k : Int)]) (st' := [mv_I 5, mv_I 0, mv_I (k : Int), mv_R 100, mv_I ((40 * S + k : Nat) : Int), mv_R 119]) (M1 := M) rfl ?_
      refine mv_callPW (st2 := [mv_I (k : Int), mv_R 100, mv_I ((40 * S + k : Nat) : Int), mv_R 119]) rfl (Or.inr rfl) rfl rfl rfl ((mv_Ru.val sp_mwithin (congrArg mv_I (sp_cl_id (by omega) (by omega))))) (by first | decide | omega) ?_
      refine mv_goW 1 (pc' := 74) (ls' := [mv_R 100, mv_I (S : Int), mv_I (u : Int), mv_I (k : Int)]) (st' := [mv_I (u : Int), mv_I (k : Int), mv_R 100, mv_I ((40 * S + k : Nat) : Int), mv_R 119]) (M1 := M) rfl ?_
      refine mv_callW (st2 := [mv_I (sp_suits V P k u), mv_I ((40 * S + k : Nat) : Int), mv_R 119]) rfl (Or.inl rfl) rfl rfl rfl (sp_msuits (c := k) (u := u) (sp_m_ag2 hm hag (by decide)) ho hl (sp_mts_ag hP hag (by decide)) (by omega) hu) (by first | decide | omega) (fun Ma18 hm19 => ?_)
      have hx := hm19
      refine mv_goW 2 (pc' := if 0 ≤ ((40 * S + k : Nat) : Int) ∧ ((40 * S + k : Nat) : Int) < 160 then 82 else mv_bad) (ls' := [mv_R 100, mv_I (S : Int), mv_I (u : Int), mv_I (k : Int)]) (st' := []) (M1 := (mv_st Ma18 119 (mv_up (Ma18 119) (40 * S + k) (sp_suits V P k u)))) rfl ?_
      refine mv_ttW (by omega) ?_
      refine mv_goW 2 (pc' := 42) (ls' := [mv_R 100, mv_I (S : Int), mv_I (u : Int), mv_I (mv_w ((k : Int) + 1))]) (st' := []) (M1 := (mv_st Ma18 119 (mv_up (Ma18 119) (40 * S + k) (sp_suits V P k u)))) rfl ?_
      rw [show mv_w ((k : Int) + 1) = (k : Int) + 1 from mv_w_id (by omega) (by omega)]
      rw [show (k : Int) + 1 = ((k + 1 : Nat) : Int) from by omega]
      have hx2 : mv_ag [130, 131] M Ma18 := by first | exact hx | exact mv_ag.rf
      refine ih (k + 1) _ (by omega) ((hag.tr (hx2.wd (by decide))).st (by decide)) (fun j hj => ?_) (fun j hj => ?_)
      · show mv_up (_ : Nat → Int) _ _ (40 * S + j) = _
        by_cases q : j = k
        · unfold mv_up sp_fl
          rw [q, if_pos (by omega)]
          split <;> first | rfl | omega
        · rw [mv_up_n _ _ (by omega), hx2 119 (by decide), hf j (by omega)]
      · show mv_up (_ : Nat → Int) _ _ j = _
        rw [mv_up_n _ _ (by omega), hx2 119 (by decide)]
        exact ho2 j hj
    · refine mv_goW 2 (pc' := if 0 ≤ ((40 * S + k : Nat) : Int) ∧ ((40 * S + k : Nat) : Int) < 160 then 82 else mv_bad) (ls' := [mv_R 100, mv_I (S : Int), mv_I (u : Int), mv_I (k : Int)]) (st' := []) (M1 := (mv_st M 119 (mv_up (M 119) (40 * S + k) 0))) rfl ?_
      refine mv_ttW (by omega) ?_
      refine mv_goW 2 (pc' := 42) (ls' := [mv_R 100, mv_I (S : Int), mv_I (u : Int), mv_I (mv_w ((k : Int) + 1))]) (st' := []) (M1 := (mv_st M 119 (mv_up (M 119) (40 * S + k) 0))) rfl ?_
      rw [show mv_w ((k : Int) + 1) = (k : Int) + 1 from mv_w_id (by omega) (by omega)]
      rw [show (k : Int) + 1 = ((k + 1 : Nat) : Int) from by omega]
      have hx2 : mv_ag [130, 131] M M := by first | exact hx | exact mv_ag.rf
      refine ih (k + 1) _ (by omega) ((hag.tr (hx2.wd (by decide))).st (by decide)) (fun j hj => ?_) (fun j hj => ?_)
      · show mv_up (_ : Nat → Int) _ _ (40 * S + j) = _
        by_cases q : j = k
        · unfold mv_up sp_fl
          rw [q, if_pos (by omega)]
          split <;> first | rfl | omega
        · rw [mv_up_n _ _ (by omega), hx2 119 (by decide), hf j (by omega)]
      · show mv_up (_ : Nat → Int) _ _ j = _
        rw [mv_up_n _ _ (by omega), hx2 119 (by decide)]
        exact ho2 j hj
theorem sp_film_end {S : Nat} {V : mv_M} {P : Nat → Nat → List Int} {n : Int} {B : mv_M} {K : Int} {t u : Nat} {M Ma M1 M3 : mv_M} (hS : S < 4) (h : sp_R V P n B K t M)
    (hx : mv_ag [71 + 2 * S, 72 + 2 * S] M Ma ∧ Ma (71 + 2 * S) = mv_up (mv_up (M (71 + 2 * S)) 1 2) 2 (V 0 8) ∧ ∀ j, j < 40 → Ma (72 + 2 * S) j = 0)
    (hw1 : mv_ag [36, 37, 72 + 2 * S] Ma M1) (hw2 : ∀ j, j < 40 → M1 (72 + 2 * S) j = sp_fl V P u j)
    (hy1 : mv_ag [119, 130, 131] (mv_st (mv_st M1 117 (mv_up (M1 117) S 2)) 118 (mv_up (M1 118) S (V 0 8))) M3) (hy2 : ∀ j, j < 40 → M3 119 (40 * S + j) = sp_fl V P u j)
    (hy3 : ∀ j, (j < 40 * S ∨ 40 * S + 40 ≤ j) → M3 119 j = (mv_st (mv_st M1 117 (mv_up (M1 117) S 2)) 118 (mv_up (M1 118) S (V 0 8))) 119 j) : sp_Inv M3 := by
  have h8 := sp_ok_s8 h.1.2.2
  obtain ⟨x1, x2, x3⟩ := hx
  have ea : ∀ i, i ≠ 71 + 2 * S → i ≠ 72 + 2 * S → Ma i = M i := fun i a b => x1 i (by simp only [List.mem_cons, List.not_mem_nil, or_false]; omega)
  have e1 : ∀ i, i ≠ 36 → i ≠ 37 → i ≠ 72 + 2 * S → M1 i = Ma i := fun i a b c => hw1 i (by simp only [List.mem_cons, List.not_mem_nil, or_false]; omega)
  have e3 : ∀ i, i ≠ 117 → i ≠ 118 → i ≠ 119 → i ≠ 130 → i ≠ 131 → M3 i = M1 i := fun i a b c d e => by rw [hy1 i (by simp only [List.mem_cons, List.not_mem_nil, or_false]; omega), mv_st_n _ _ b, mv_st_n _ _ a]
  have e117 : M3 117 = mv_up (M1 117) S 2 := by rw [hy1 117 (by decide)]; rfl
  have e118 : M3 118 = mv_up (M1 118) S (V 0 8) := by rw [hy1 118 (by decide)]; rfl
  have hMX : sp_R V P n B K t (mv_st (mv_st (mv_st (mv_st M 36 (M3 36)) 37 (M3 37)) 130 (M3 130)) 131 (M3 131)) :=
    sp_R_a1 (S := [36, 37, 130, 131]) h ((((mv_ag.st mv_ag.rf (by decide)).st (by decide)).st (by decide)).st (by decide)) (by decide) (by decide)
  refine ⟨V, P, n, B, K, t, sp_R_sh hS hMX (fun i hi => ?_) (fun s hs hn => ?_) ?_⟩
  · by_cases q1 : i = 131
    · rw [q1, mv_st_s]
    · rw [mv_st_n _ _ q1]
      by_cases q2 : i = 130
      · rw [q2, mv_st_s]
      · rw [mv_st_n _ _ q2]
        by_cases q3 : i = 37
        · rw [q3, mv_st_s]
        · rw [mv_st_n _ _ q3]
          by_cases q4 : i = 36
          · rw [q4, mv_st_s]
          · rw [mv_st_n _ _ q4, e3 i (by omega) (by omega) (by omega) q2 q1, e1 i q4 q3 (by omega), ea i (by omega) (by omega)]
  · have f1 : ∀ i, i ≠ 36 → i ≠ 37 → i ≠ 130 → i ≠ 131 → (mv_st (mv_st (mv_st (mv_st M 36 (M3 36)) 37 (M3 37)) 130 (M3 130)) 131 (M3 131)) i = M i := fun i a b c d => by rw [mv_st_n _ _ d, mv_st_n _ _ c, mv_st_n _ _ b, mv_st_n _ _ a]
    rw [f1 (71 + 2 * s) (by omega) (by omega) (by omega) (by omega), f1 (72 + 2 * s) (by omega) (by omega) (by omega) (by omega), f1 117 (by omega) (by omega) (by omega) (by omega), f1 118 (by omega) (by omega) (by omega) (by omega), f1 119 (by omega) (by omega) (by omega) (by omega)]
    rw [e3 (71 + 2 * s) (by omega) (by omega) (by omega) (by omega) (by omega), e1 (71 + 2 * s) (by omega) (by omega) (by omega), ea (71 + 2 * s) (by omega) (by omega)]
    rw [e3 (72 + 2 * s) (by omega) (by omega) (by omega) (by omega) (by omega), e1 (72 + 2 * s) (by omega) (by omega) (by omega), ea (72 + 2 * s) (by omega) (by omega)]
    rw [e117, e118, mv_up_n _ _ hn, mv_up_n _ _ hn, e1 117 (by omega) (by omega) (by omega), e1 118 (by omega) (by omega) (by omega), ea 117 (by omega) (by omega), ea 118 (by omega) (by omega)]
    refine ⟨⟨rfl, rfl⟩, ⟨rfl, rfl⟩, fun j hj => ?_⟩
    rw [hy3 _ (by omega)]
    show M1 119 _ = _
    rw [e1 119 (by omega) (by omega) (by omega), ea 119 (by omega) (by omega)]
  · rw [e3 (71 + 2 * S) (by omega) (by omega) (by omega) (by omega) (by omega), e1 (71 + 2 * S) (by omega) (by omega) (by omega), x2, e3 (72 + 2 * S) (by omega) (by omega) (by omega) (by omega) (by omega), e117, e118, mv_up_s, mv_up_s, mv_up_s, mv_up_n _ _ (by decide), mv_up_s]
    exact ⟨⟨rfl, by decide, by decide⟩, ⟨rfl, by omega, by omega⟩, fun j hj => by rw [hw2 j hj, hy2 j hj]⟩
theorem sp_k26_0 (a : Int) : sp_call 87 180 [mv_I 0, mv_I a] [mv_I 0, mv_I a] := by
  refine sp_mkW (lc := [mv_R 0, mv_I 0, mv_I a, mv_U, mv_U]) (lm := [mv_R 100, mv_I 0, mv_I a, mv_U]) rfl rfl (fun M hI => ?_)
  have hI2 := hI
  obtain ⟨V, P, n, B, K, t, h⟩ := hI2
  have h' := h
  obtain ⟨⟨hc, hm, ho⟩, ⟨hy, hl, hn1, hn⟩, ⟨hct, hmt, _⟩, _⟩ := h'
  have h8 := sp_ok_s8 ho
  have h9 := sp_ok_s9 ho
  by_cases h0 : 0 ≤ a
  · obtain ⟨u, rfl⟩ : ∃ x : Nat, a = (x : Int) := ⟨a.toNat, by omega⟩
    refine mv_goW 2 (pc' := 2) (ls' := [mv_R 0, mv_I 0, mv_I (u : Int), mv_U, mv_U]) (st' := [mv_I 0, mv_R 0]) (M1 := M) rfl ?_
    refine mv_callPW (st2 := [mv_R 71]) rfl (Or.inl rfl) rfl rfl rfl (sp_sheetAt_0) (by first | decide | omega) ?_
    refine mv_goW 6 (pc' := 18) (ls' := [mv_R 0, mv_I 0, mv_I (u : Int), mv_R 71, mv_U]) (st' := [mv_I (u : Int), mv_R 30]) (M1 := M) rfl ?_
    by_cases ha20 : 0 ≤ (u : Int) ∧ (u : Int) < V 0 9
    · refine mv_callPW (st2 := [mv_I 1]) rfl (Or.inl rfl) rfl rfl rfl (sp_cisUncle_t_30 hc ho ha20) (by first | decide | omega) ?_
      refine mv_goW 1 (pc' := if 1 = 0 then 24 else 27) (ls' := [mv_R 0, mv_I 0, mv_I (u : Int), mv_R 71, mv_U]) (st' := []) (M1 := M) rfl ?_
      refine mv_ffW (by first | decide | omega) ?_
      refine mv_goW 5 (pc' := 36) (ls' := [mv_R 0, mv_I 0, mv_I (u : Int), mv_R 71, mv_U]) (st' := [mv_I (M 30 8), mv_I 2, mv_R 71]) (M1 := M) rfl ?_
      have hr1 := sp_ok_s8 ho
      rw [show M 30 8 = V 0 8 from by exact sp_c_s8 hc]
      refine mv_callW (st2 := []) rfl (Or.inl rfl) rfl rfl rfl (sp_shb_0) (by first | decide | omega) (fun Ma21 hm22 => ?_)
      have hx := hm22
      refine mv_goW 2 (pc' := 42) (ls' := [mv_R 0, mv_I 0, mv_I (u : Int), mv_R 71, mv_I 0]) (st' := []) (M1 := Ma21) rfl ?_
      have huv : (u : Int) < V 0 9 := by omega
      refine sp_cfilm_0 (d := 12) (V := V) (M0 := Ma21) (sp_c_ag hc hx.1 (by decide)) ho hl hn (sp_cts_ag hct hx.1 hn (fun i h1 h2 => by simp only [List.mem_cons, List.not_mem_nil, or_false]; omega)) huv (by rw [hx.2.1]; rfl) (fun M1 hw1 hw2 => ?_) (V 0 8).toNat 0 Ma21 (by omega) mv_ag.rf (fun j hj => by rw [if_neg (by omega)]; exact hx.2.2 j hj)
      have hag1 : mv_ag [36, 37, 71, 72] M M1 := (hx.1.wd (by decide)).tr (hw1.wd (by decide))
      have hm := sp_m_ag2 hm hag1 (by decide)
      have hmt := sp_mts_ag hmt hag1 (by decide)
      have h308 : M1 30 8 = V 0 8 := by rw [hag1 30 (by decide)]; exact sp_c_s8 hc
      refine mv_goW 3 (pc' := 83) (ls' := [mv_R 0, mv_I 0, mv_I (u : Int), mv_R 71, mv_I (V 0 8)]) (st' := [mv_I (M1 30 8)]) (M1 := M1) rfl ?_
      rw [show M1 30 8 = V 0 8 from by exact h308]
      refine mv_retW (fun n => rfl) ⟨_, rfl, ?_⟩
      refine mv_goW 3 (pc' := 3) (ls' := [mv_R 100, mv_I 0, mv_I (u : Int), mv_U]) (st' := [mv_I 3, mv_I 0, mv_I 0]) (M1 := M1) rfl ?_
      have ha23 : (0 : Int) ≤ (0 : Int) ∧ (0 : Int) ≤ (3 : Int) := by omega
      refine mv_callPW (st2 := [mv_I 1]) rfl (Or.inr rfl) rfl rfl rfl (sp_min_t ha23) (by first | decide | omega) ?_
      refine mv_goW 1 (pc' := if 1 = 0 then 9 else 12) (ls' := [mv_R 100, mv_I 0, mv_I (u : Int), mv_U]) (st' := []) (M1 := M1) rfl ?_
      refine mv_ffW (by first | decide | omega) ?_
      refine mv_goW 2 (pc' := 14) (ls' := [mv_R 100, mv_I 0, mv_I (u : Int), mv_U]) (st' := [mv_I (u : Int), mv_R 100]) (M1 := M1) rfl ?_
      have ha24 : 0 ≤ (u : Int) ∧ (u : Int) < V 0 9 := by omega
      refine mv_callPW (st2 := [mv_I 1]) rfl (Or.inl rfl) rfl rfl rfl (sp_misUncle_t hm ho ha24) (by first | decide | omega) ?_
      refine mv_goW 1 (pc' := if 1 = 0 then 20 else 23) (ls' := [mv_R 100, mv_I 0, mv_I (u : Int), mv_U]) (st' := []) (M1 := M1) rfl ?_
      refine mv_ffW (by first | decide | omega) ?_
      refine mv_goW 5 (pc' := if 0 ≤ 0 ∧ 0 < 4 then 30 else mv_bad) (ls' := [mv_R 100, mv_I 0, mv_I (u : Int), mv_U]) (st' := []) (M1 := (mv_st M1 117 (mv_up (M1 117) 0 2))) rfl ?_
      refine mv_ttW (by omega) ?_
      refine mv_goW 5 (pc' := 39) (ls' := [mv_R 100, mv_I 0, mv_I (u : Int), mv_U]) (st' := [mv_I (M1 100 0), mv_I 0, mv_R 118]) (M1 := (mv_st M1 117 (mv_up (M1 117) 0 2))) rfl ?_
      have hr3 := sp_ok_s8 ho
      rw [show M1 100 0 = V 0 8 from by exact sp_m_s8 hm]
      refine mv_goW 1 (pc' := if 0 ≤ 0 ∧ 0 < 4 then 40 else mv_bad) (ls' := [mv_R 100, mv_I 0, mv_I (u : Int), mv_U]) (st' := []) (M1 := (mv_st (mv_st M1 117 (mv_up (M1 117) 0 2)) 118 (mv_up (M1 118) 0 (V 0 8)))) rfl ?_
      refine mv_ttW (by omega) ?_
      refine mv_goW 2 (pc' := 42) (ls' := [mv_R 100, mv_I 0, mv_I (u : Int), mv_I 0]) (st' := []) (M1 := (mv_st (mv_st M1 117 (mv_up (M1 117) 0 2)) 118 (mv_up (M1 118) 0 (V 0 8)))) rfl ?_
      have hmX : sp_m (mv_st (mv_st M1 117 (mv_up (M1 117) 0 2)) 118 (mv_up (M1 118) 0 (V 0 8))) V := hm
      have hmtX : sp_mts (mv_st (mv_st M1 117 (mv_up (M1 117) 0 2)) 118 (mv_up (M1 118) 0 (V 0 8))) P n := hmt
      refine sp_mfilm (d := 12) (S := 0) (V := V) (M0 := (mv_st (mv_st M1 117 (mv_up (M1 117) 0 2)) 118 (mv_up (M1 118) 0 (V 0 8)))) (by decide) hmX ho hl hmtX huv (fun M3 hy1 hy2 hy3 => ?_) 40 0 (mv_st (mv_st M1 117 (mv_up (M1 117) 0 2)) 118 (mv_up (M1 118) 0 (V 0 8))) (by omega) mv_ag.rf (fun j hj => absurd hj (by omega)) (fun _ _ => rfl)
      have h8M : M3 100 0 = V 0 8 := by rw [hy1 100 (by decide)]; exact sp_m_s8 hmX
      refine mv_goW 2 (pc' := 92) (ls' := [mv_R 100, mv_I 0, mv_I (u : Int), mv_I 40]) (st' := [mv_I (M3 100 0)]) (M1 := M3) rfl ?_
      rw [show M3 100 0 = V 0 8 from by exact h8M]
      exact mv_retW (fun n => rfl) ⟨congrArg mv_I (by first | with_reducible rfl | omega), sp_film_end (S := 0) (by decide) h hx hw1 hw2 hy1 hy2 hy3⟩
    · refine mv_callPW (st2 := [mv_I 0]) rfl (Or.inl rfl) rfl rfl rfl (sp_cisUncle_f_30 hc ho ha20) (by first | decide | omega) ?_
      refine mv_goW 1 (pc' := if 0 = 0 then 24 else 27) (ls' := [mv_R 0, mv_I 0, mv_I (u : Int), mv_R 71, mv_U]) (st' := []) (M1 := M) rfl ?_
      refine mv_ttW (by first | decide | omega) ?_
      refine mv_goW 1 (pc' := 26) (ls' := [mv_R 0, mv_I 0, mv_I (u : Int), mv_R 71, mv_U]) (st' := [mv_I (-5)]) (M1 := M) rfl ?_
      refine mv_retW (fun n => rfl) ⟨_, rfl, ?_⟩
      refine mv_goW 3 (pc' := 3) (ls' := [mv_R 100, mv_I 0, mv_I (u : Int), mv_U]) (st' := [mv_I 3, mv_I 0, mv_I 0]) (M1 := M) rfl ?_
      have ha25 : (0 : Int) ≤ (0 : Int) ∧ (0 : Int) ≤ (3 : Int) := by omega
      refine mv_callPW (st2 := [mv_I 1]) rfl (Or.inr rfl) rfl rfl rfl (sp_min_t ha25) (by first | decide | omega) ?_
      refine mv_goW 1 (pc' := if 1 = 0 then 9 else 12) (ls' := [mv_R 100, mv_I 0, mv_I (u : Int), mv_U]) (st' := []) (M1 := M) rfl ?_
      refine mv_ffW (by first | decide | omega) ?_
      refine mv_goW 2 (pc' := 14) (ls' := [mv_R 100, mv_I 0, mv_I (u : Int), mv_U]) (st' := [mv_I (u : Int), mv_R 100]) (M1 := M) rfl ?_
      have ha26 : ¬ (0 ≤ (u : Int) ∧ (u : Int) < V 0 9) := by omega
      refine mv_callPW (st2 := [mv_I 0]) rfl (Or.inl rfl) rfl rfl rfl (sp_misUncle_f hm ho ha26) (by first | decide | omega) ?_
      refine mv_goW 1 (pc' := if 0 = 0 then 20 else 23) (ls' := [mv_R 100, mv_I 0, mv_I (u : Int), mv_U]) (st' := []) (M1 := M) rfl ?_
      refine mv_ttW (by first | decide | omega) ?_
      refine mv_goW 1 (pc' := 22) (ls' := [mv_R 100, mv_I 0, mv_I (u : Int), mv_U]) (st' := [mv_I (-5)]) (M1 := M) rfl ?_
      exact mv_retW (fun n => rfl) ⟨congrArg mv_I (by first | with_reducible rfl | omega), hI⟩
  · refine mv_goW 2 (pc' := 2) (ls' := [mv_R 0, mv_I 0, mv_I a, mv_U, mv_U]) (st' := [mv_I 0, mv_R 0]) (M1 := M) rfl ?_
    refine mv_callPW (st2 := [mv_R 71]) rfl (Or.inl rfl) rfl rfl rfl (sp_sheetAt_0) (by first | decide | omega) ?_
    refine mv_goW 6 (pc' := 18) (ls' := [mv_R 0, mv_I 0, mv_I a, mv_R 71, mv_U]) (st' := [mv_I a, mv_R 30]) (M1 := M) rfl ?_
    have ha27 : ¬ (0 ≤ a ∧ a < V 0 9) := by omega
    refine mv_callPW (st2 := [mv_I 0]) rfl (Or.inl rfl) rfl rfl rfl (sp_cisUncle_f_30 hc ho ha27) (by first | decide | omega) ?_
    refine mv_goW 1 (pc' := if 0 = 0 then 24 else 27) (ls' := [mv_R 0, mv_I 0, mv_I a, mv_R 71, mv_U]) (st' := []) (M1 := M) rfl ?_
    refine mv_ttW (by first | decide | omega) ?_
    refine mv_goW 1 (pc' := 26) (ls' := [mv_R 0, mv_I 0, mv_I a, mv_R 71, mv_U]) (st' := [mv_I (-5)]) (M1 := M) rfl ?_
    refine mv_retW (fun n => rfl) ⟨_, rfl, ?_⟩
    refine mv_goW 3 (pc' := 3) (ls' := [mv_R 100, mv_I 0, mv_I a, mv_U]) (st' := [mv_I 3, mv_I 0, mv_I 0]) (M1 := M) rfl ?_
    have ha28 : (0 : Int) ≤ (0 : Int) ∧ (0 : Int) ≤ (3 : Int) := by omega
    refine mv_callPW (st2 := [mv_I 1]) rfl (Or.inr rfl) rfl rfl rfl (sp_min_t ha28) (by first | decide | omega) ?_
    refine mv_goW 1 (pc' := if 1 = 0 then 9 else 12) (ls' := [mv_R 100, mv_I 0, mv_I a, mv_U]) (st' := []) (M1 := M) rfl ?_
    refine mv_ffW (by first | decide | omega) ?_
    refine mv_goW 2 (pc' := 14) (ls' := [mv_R 100, mv_I 0, mv_I a, mv_U]) (st' := [mv_I a, mv_R 100]) (M1 := M) rfl ?_
    have ha29 : ¬ (0 ≤ a ∧ a < V 0 9) := by omega
    refine mv_callPW (st2 := [mv_I 0]) rfl (Or.inl rfl) rfl rfl rfl (sp_misUncle_f hm ho ha29) (by first | decide | omega) ?_
    refine mv_goW 1 (pc' := if 0 = 0 then 20 else 23) (ls' := [mv_R 100, mv_I 0, mv_I a, mv_U]) (st' := []) (M1 := M) rfl ?_
    refine mv_ttW (by first | decide | omega) ?_
    refine mv_goW 1 (pc' := 22) (ls' := [mv_R 100, mv_I 0, mv_I a, mv_U]) (st' := [mv_I (-5)]) (M1 := M) rfl ?_
    exact mv_retW (fun n => rfl) ⟨congrArg mv_I (by first | with_reducible rfl | omega), hI⟩
theorem sp_k26_1 (a : Int) : sp_call 87 180 [mv_I 1, mv_I a] [mv_I 1, mv_I a] := by
  refine sp_mkW (lc := [mv_R 0, mv_I 1, mv_I a, mv_U, mv_U]) (lm := [mv_R 100, mv_I 1, mv_I a, mv_U]) rfl rfl (fun M hI => ?_)
  have hI2 := hI
  obtain ⟨V, P, n, B, K, t, h⟩ := hI2
  have h' := h
  obtain ⟨⟨hc, hm, ho⟩, ⟨hy, hl, hn1, hn⟩, ⟨hct, hmt, _⟩, _⟩ := h'
  have h8 := sp_ok_s8 ho
  have h9 := sp_ok_s9 ho
  by_cases h0 : 0 ≤ a
  · obtain ⟨u, rfl⟩ : ∃ x : Nat, a = (x : Int) := ⟨a.toNat, by omega⟩
    refine mv_goW 2 (pc' := 2) (ls' := [mv_R 0, mv_I 1, mv_I (u : Int), mv_U, mv_U]) (st' := [mv_I 1, mv_R 0]) (M1 := M) rfl ?_
    refine mv_callPW (st2 := [mv_R 73]) rfl (Or.inl rfl) rfl rfl rfl (sp_sheetAt_1) (by first | decide | omega) ?_
    refine mv_goW 6 (pc' := 18) (ls' := [mv_R 0, mv_I 1, mv_I (u : Int), mv_R 73, mv_U]) (st' := [mv_I (u : Int), mv_R 30]) (M1 := M) rfl ?_
    by_cases ha30 : 0 ≤ (u : Int) ∧ (u : Int) < V 0 9
    · refine mv_callPW (st2 := [mv_I 1]) rfl (Or.inl rfl) rfl rfl rfl (sp_cisUncle_t_30 hc ho ha30) (by first | decide | omega) ?_
      refine mv_goW 1 (pc' := if 1 = 0 then 24 else 27) (ls' := [mv_R 0, mv_I 1, mv_I (u : Int), mv_R 73, mv_U]) (st' := []) (M1 := M) rfl ?_
      refine mv_ffW (by first | decide | omega) ?_
      refine mv_goW 5 (pc' := 36) (ls' := [mv_R 0, mv_I 1, mv_I (u : Int), mv_R 73, mv_U]) (st' := [mv_I (M 30 8), mv_I 2, mv_R 73]) (M1 := M) rfl ?_
      have hr5 := sp_ok_s8 ho
      rw [show M 30 8 = V 0 8 from by exact sp_c_s8 hc]
      refine mv_callW (st2 := []) rfl (Or.inl rfl) rfl rfl rfl (sp_shb_1) (by first | decide | omega) (fun Ma31 hm32 => ?_)
      have hx := hm32
      refine mv_goW 2 (pc' := 42) (ls' := [mv_R 0, mv_I 1, mv_I (u : Int), mv_R 73, mv_I 0]) (st' := []) (M1 := Ma31) rfl ?_
      have huv : (u : Int) < V 0 9 := by omega
      refine sp_cfilm_1 (d := 12) (V := V) (M0 := Ma31) (sp_c_ag hc hx.1 (by decide)) ho hl hn (sp_cts_ag hct hx.1 hn (fun i h1 h2 => by simp only [List.mem_cons, List.not_mem_nil, or_false]; omega)) huv (by rw [hx.2.1]; rfl) (fun M1 hw1 hw2 => ?_) (V 0 8).toNat 0 Ma31 (by omega) mv_ag.rf (fun j hj => by rw [if_neg (by omega)]; exact hx.2.2 j hj)
      have hag1 : mv_ag [36, 37, 73, 74] M M1 := (hx.1.wd (by decide)).tr (hw1.wd (by decide))
      have hm := sp_m_ag2 hm hag1 (by decide)
      have hmt := sp_mts_ag hmt hag1 (by decide)
      have h308 : M1 30 8 = V 0 8 := by rw [hag1 30 (by decide)]; exact sp_c_s8 hc
      refine mv_goW 3 (pc' := 83) (ls' := [mv_R 0, mv_I 1, mv_I (u : Int), mv_R 73, mv_I (V 0 8)]) (st' := [mv_I (M1 30 8)]) (M1 := M1) rfl ?_
      rw [show M1 30 8 = V 0 8 from by exact h308]
      refine mv_retW (fun n => rfl) ⟨_, rfl, ?_⟩
      refine mv_goW 3 (pc' := 3) (ls' := [mv_R 100, mv_I 1, mv_I (u : Int), mv_U]) (st' := [mv_I 3, mv_I 0, mv_I 1]) (M1 := M1) rfl ?_
      have ha33 : (0 : Int) ≤ (1 : Int) ∧ (1 : Int) ≤ (3 : Int) := by omega
      refine mv_callPW (st2 := [mv_I 1]) rfl (Or.inr rfl) rfl rfl rfl (sp_min_t ha33) (by first | decide | omega) ?_
      refine mv_goW 1 (pc' := if 1 = 0 then 9 else 12) (ls' := [mv_R 100, mv_I 1, mv_I (u : Int), mv_U]) (st' := []) (M1 := M1) rfl ?_
      refine mv_ffW (by first | decide | omega) ?_
      refine mv_goW 2 (pc' := 14) (ls' := [mv_R 100, mv_I 1, mv_I (u : Int), mv_U]) (st' := [mv_I (u : Int), mv_R 100]) (M1 := M1) rfl ?_
      have ha34 : 0 ≤ (u : Int) ∧ (u : Int) < V 0 9 := by omega
      refine mv_callPW (st2 := [mv_I 1]) rfl (Or.inl rfl) rfl rfl rfl (sp_misUncle_t hm ho ha34) (by first | decide | omega) ?_
      refine mv_goW 1 (pc' := if 1 = 0 then 20 else 23) (ls' := [mv_R 100, mv_I 1, mv_I (u : Int), mv_U]) (st' := []) (M1 := M1) rfl ?_
      refine mv_ffW (by first | decide | omega) ?_
      refine mv_goW 5 (pc' := if 0 ≤ 1 ∧ 1 < 4 then 30 else mv_bad) (ls' := [mv_R 100, mv_I 1, mv_I (u : Int), mv_U]) (st' := []) (M1 := (mv_st M1 117 (mv_up (M1 117) 1 2))) rfl ?_
      refine mv_ttW (by omega) ?_
      refine mv_goW 5 (pc' := 39) (ls' := [mv_R 100, mv_I 1, mv_I (u : Int), mv_U]) (st' := [mv_I (M1 100 0), mv_I 1, mv_R 118]) (M1 := (mv_st M1 117 (mv_up (M1 117) 1 2))) rfl ?_
      have hr7 := sp_ok_s8 ho
      rw [show M1 100 0 = V 0 8 from by exact sp_m_s8 hm]
      refine mv_goW 1 (pc' := if 0 ≤ 1 ∧ 1 < 4 then 40 else mv_bad) (ls' := [mv_R 100, mv_I 1, mv_I (u : Int), mv_U]) (st' := []) (M1 := (mv_st (mv_st M1 117 (mv_up (M1 117) 1 2)) 118 (mv_up (M1 118) 1 (V 0 8)))) rfl ?_
      refine mv_ttW (by omega) ?_
      refine mv_goW 2 (pc' := 42) (ls' := [mv_R 100, mv_I 1, mv_I (u : Int), mv_I 0]) (st' := []) (M1 := (mv_st (mv_st M1 117 (mv_up (M1 117) 1 2)) 118 (mv_up (M1 118) 1 (V 0 8)))) rfl ?_
      have hmX : sp_m (mv_st (mv_st M1 117 (mv_up (M1 117) 1 2)) 118 (mv_up (M1 118) 1 (V 0 8))) V := hm
      have hmtX : sp_mts (mv_st (mv_st M1 117 (mv_up (M1 117) 1 2)) 118 (mv_up (M1 118) 1 (V 0 8))) P n := hmt
      refine sp_mfilm (d := 12) (S := 1) (V := V) (M0 := (mv_st (mv_st M1 117 (mv_up (M1 117) 1 2)) 118 (mv_up (M1 118) 1 (V 0 8)))) (by decide) hmX ho hl hmtX huv (fun M3 hy1 hy2 hy3 => ?_) 40 0 (mv_st (mv_st M1 117 (mv_up (M1 117) 1 2)) 118 (mv_up (M1 118) 1 (V 0 8))) (by omega) mv_ag.rf (fun j hj => absurd hj (by omega)) (fun _ _ => rfl)
      have h8M : M3 100 0 = V 0 8 := by rw [hy1 100 (by decide)]; exact sp_m_s8 hmX
      refine mv_goW 2 (pc' := 92) (ls' := [mv_R 100, mv_I 1, mv_I (u : Int), mv_I 40]) (st' := [mv_I (M3 100 0)]) (M1 := M3) rfl ?_
      rw [show M3 100 0 = V 0 8 from by exact h8M]
      exact mv_retW (fun n => rfl) ⟨congrArg mv_I (by first | with_reducible rfl | omega), sp_film_end (S := 1) (by decide) h hx hw1 hw2 hy1 hy2 hy3⟩
    · refine mv_callPW (st2 := [mv_I 0]) rfl (Or.inl rfl) rfl rfl rfl (sp_cisUncle_f_30 hc ho ha30) (by first | decide | omega) ?_
      refine mv_goW 1 (pc' := if 0 = 0 then 24 else 27) (ls' := [mv_R 0, mv_I 1, mv_I (u : Int), mv_R 73, mv_U]) (st' := []) (M1 := M) rfl ?_
      refine mv_ttW (by first | decide | omega) ?_
      refine mv_goW 1 (pc' := 26) (ls' := [mv_R 0, mv_I 1, mv_I (u : Int), mv_R 73, mv_U]) (st' := [mv_I (-5)]) (M1 := M) rfl ?_
      refine mv_retW (fun n => rfl) ⟨_, rfl, ?_⟩
      refine mv_goW 3 (pc' := 3) (ls' := [mv_R 100, mv_I 1, mv_I (u : Int), mv_U]) (st' := [mv_I 3, mv_I 0, mv_I 1]) (M1 := M) rfl ?_
      have ha35 : (0 : Int) ≤ (1 : Int) ∧ (1 : Int) ≤ (3 : Int) := by omega
      refine mv_callPW (st2 := [mv_I 1]) rfl (Or.inr rfl) rfl rfl rfl (sp_min_t ha35) (by first | decide | omega) ?_
      refine mv_goW 1 (pc' := if 1 = 0 then 9 else 12) (ls' := [mv_R 100, mv_I 1, mv_I (u : Int), mv_U]) (st' := []) (M1 := M) rfl ?_
      refine mv_ffW (by first | decide | omega) ?_
      refine mv_goW 2 (pc' := 14) (ls' := [mv_R 100, mv_I 1, mv_I (u : Int), mv_U]) (st' := [mv_I (u : Int), mv_R 100]) (M1 := M) rfl ?_
      have ha36 : ¬ (0 ≤ (u : Int) ∧ (u : Int) < V 0 9) := by omega
      refine mv_callPW (st2 := [mv_I 0]) rfl (Or.inl rfl) rfl rfl rfl (sp_misUncle_f hm ho ha36) (by first | decide | omega) ?_
      refine mv_goW 1 (pc' := if 0 = 0 then 20 else 23) (ls' := [mv_R 100, mv_I 1, mv_I (u : Int), mv_U]) (st' := []) (M1 := M) rfl ?_
      refine mv_ttW (by first | decide | omega) ?_
      refine mv_goW 1 (pc' := 22) (ls' := [mv_R 100, mv_I 1, mv_I (u : Int), mv_U]) (st' := [mv_I (-5)]) (M1 := M) rfl ?_
      exact mv_retW (fun n => rfl) ⟨congrArg mv_I (by first | with_reducible rfl | omega), hI⟩
  · refine mv_goW 2 (pc' := 2) (ls' := [mv_R 0, mv_I 1, mv_I a, mv_U, mv_U]) (st' := [mv_I 1, mv_R 0]) (M1 := M) rfl ?_
    refine mv_callPW (st2 := [mv_R 73]) rfl (Or.inl rfl) rfl rfl rfl (sp_sheetAt_1) (by first | decide | omega) ?_
    refine mv_goW 6 (pc' := 18) (ls' := [mv_R 0, mv_I 1, mv_I a, mv_R 73, mv_U]) (st' := [mv_I a, mv_R 30]) (M1 := M) rfl ?_
    have ha37 : ¬ (0 ≤ a ∧ a < V 0 9) := by omega
    refine mv_callPW (st2 := [mv_I 0]) rfl (Or.inl rfl) rfl rfl rfl (sp_cisUncle_f_30 hc ho ha37) (by first | decide | omega) ?_
    refine mv_goW 1 (pc' := if 0 = 0 then 24 else 27) (ls' := [mv_R 0, mv_I 1, mv_I a, mv_R 73, mv_U]) (st' := []) (M1 := M) rfl ?_
    refine mv_ttW (by first | decide | omega) ?_
    refine mv_goW 1 (pc' := 26) (ls' := [mv_R 0, mv_I 1, mv_I a, mv_R 73, mv_U]) (st' := [mv_I (-5)]) (M1 := M) rfl ?_
    refine mv_retW (fun n => rfl) ⟨_, rfl, ?_⟩
    refine mv_goW 3 (pc' := 3) (ls' := [mv_R 100, mv_I 1, mv_I a, mv_U]) (st' := [mv_I 3, mv_I 0, mv_I 1]) (M1 := M) rfl ?_
    have ha38 : (0 : Int) ≤ (1 : Int) ∧ (1 : Int) ≤ (3 : Int) := by omega
    refine mv_callPW (st2 := [mv_I 1]) rfl (Or.inr rfl) rfl rfl rfl (sp_min_t ha38) (by first | decide | omega) ?_
    refine mv_goW 1 (pc' := if 1 = 0 then 9 else 12) (ls' := [mv_R 100, mv_I 1, mv_I a, mv_U]) (st' := []) (M1 := M) rfl ?_
    refine mv_ffW (by first | decide | omega) ?_
    refine mv_goW 2 (pc' := 14) (ls' := [mv_R 100, mv_I 1, mv_I a, mv_U]) (st' := [mv_I a, mv_R 100]) (M1 := M) rfl ?_
    have ha39 : ¬ (0 ≤ a ∧ a < V 0 9) := by omega
    refine mv_callPW (st2 := [mv_I 0]) rfl (Or.inl rfl) rfl rfl rfl (sp_misUncle_f hm ho ha39) (by first | decide | omega) ?_
    refine mv_goW 1 (pc' := if 0 = 0 then 20 else 23) (ls' := [mv_R 100, mv_I 1, mv_I a, mv_U]) (st' := []) (M1 := M) rfl ?_
    refine mv_ttW (by first | decide | omega) ?_
    refine mv_goW 1 (pc' := 22) (ls' := [mv_R 100, mv_I 1, mv_I a, mv_U]) (st' := [mv_I (-5)]) (M1 := M) rfl ?_
    exact mv_retW (fun n => rfl) ⟨congrArg mv_I (by first | with_reducible rfl | omega), hI⟩
theorem sp_k26_2 (a : Int) : sp_call 87 180 [mv_I 2, mv_I a] [mv_I 2, mv_I a] := by
  refine sp_mkW (lc := [mv_R 0, mv_I 2, mv_I a, mv_U, mv_U]) (lm := [mv_R 100, mv_I 2, mv_I a, mv_U]) rfl rfl (fun M hI => ?_)
  have hI2 := hI
  obtain ⟨V, P, n, B, K, t, h⟩ := hI2
  have h' := h
  obtain ⟨⟨hc, hm, ho⟩, ⟨hy, hl, hn1, hn⟩, ⟨hct, hmt, _⟩, _⟩ := h'
  have h8 := sp_ok_s8 ho
  have h9 := sp_ok_s9 ho
  by_cases h0 : 0 ≤ a
  · obtain ⟨u, rfl⟩ : ∃ x : Nat, a = (x : Int) := ⟨a.toNat, by omega⟩
    refine mv_goW 2 (pc' := 2) (ls' := [mv_R 0, mv_I 2, mv_I (u : Int), mv_U, mv_U]) (st' := [mv_I 2, mv_R 0]) (M1 := M) rfl ?_
    refine mv_callPW (st2 := [mv_R 75]) rfl (Or.inl rfl) rfl rfl rfl (sp_sheetAt_2) (by first | decide | omega) ?_
    refine mv_goW 6 (pc' := 18) (ls' := [mv_R 0, mv_I 2, mv_I (u : Int), mv_R 75, mv_U]) (st' := [mv_I (u : Int), mv_R 30]) (M1 := M) rfl ?_
    by_cases ha40 : 0 ≤ (u : Int) ∧ (u : Int) < V 0 9
    · refine mv_callPW (st2 := [mv_I 1]) rfl (Or.inl rfl) rfl rfl rfl (sp_cisUncle_t_30 hc ho ha40) (by first | decide | omega) ?_
      refine mv_goW 1 (pc' := if 1 = 0 then 24 else 27) (ls' := [mv_R 0, mv_I 2, mv_I (u : Int), mv_R 75, mv_U]) (st' := []) (M1 := M) rfl ?_
      refine mv_ffW (by first | decide | omega) ?_
      refine mv_goW 5 (pc' := 36) (ls' := [mv_R 0, mv_I 2, mv_I (u : Int), mv_R 75, mv_U]) (st' := [mv_I (M 30 8), mv_I 2, mv_R 75]) (M1 := M) rfl ?_
      have hr9 := sp_ok_s8 ho
      rw [show M 30 8 = V 0 8 from by exact sp_c_s8 hc]
      refine mv_callW (st2 := []) rfl (Or.inl rfl) rfl rfl rfl (sp_shb_2) (by first | decide | omega) (fun Ma41 hm42 => ?_)
      have hx := hm42
      refine mv_goW 2 (pc' := 42) (ls' := [mv_R 0, mv_I 2, mv_I (u : Int), mv_R 75, mv_I 0]) (st' := []) (M1 := Ma41) rfl ?_
      have huv : (u : Int) < V 0 9 := by omega
      refine sp_cfilm_2 (d := 12) (V := V) (M0 := Ma41) (sp_c_ag hc hx.1 (by decide)) ho hl hn (sp_cts_ag hct hx.1 hn (fun i h1 h2 => by simp only [List.mem_cons, List.not_mem_nil, or_false]; omega)) huv (by rw [hx.2.1]; rfl) (fun M1 hw1 hw2 => ?_) (V 0 8).toNat 0 Ma41 (by omega) mv_ag.rf (fun j hj => by rw [if_neg (by omega)]; exact hx.2.2 j hj)
      have hag1 : mv_ag [36, 37, 75, 76] M M1 := (hx.1.wd (by decide)).tr (hw1.wd (by decide))
      have hm := sp_m_ag2 hm hag1 (by decide)
      have hmt := sp_mts_ag hmt hag1 (by decide)
      have h308 : M1 30 8 = V 0 8 := by rw [hag1 30 (by decide)]; exact sp_c_s8 hc
      refine mv_goW 3 (pc' := 83) (ls' := [mv_R 0, mv_I 2, mv_I (u : Int), mv_R 75, mv_I (V 0 8)]) (st' := [mv_I (M1 30 8)]) (M1 := M1) rfl ?_
      rw [show M1 30 8 = V 0 8 from by exact h308]
      refine mv_retW (fun n => rfl) ⟨_, rfl, ?_⟩
      refine mv_goW 3 (pc' := 3) (ls' := [mv_R 100, mv_I 2, mv_I (u : Int), mv_U]) (st' := [mv_I 3, mv_I 0, mv_I 2]) (M1 := M1) rfl ?_
      have ha43 : (0 : Int) ≤ (2 : Int) ∧ (2 : Int) ≤ (3 : Int) := by omega
      refine mv_callPW (st2 := [mv_I 1]) rfl (Or.inr rfl) rfl rfl rfl (sp_min_t ha43) (by first | decide | omega) ?_
      refine mv_goW 1 (pc' := if 1 = 0 then 9 else 12) (ls' := [mv_R 100, mv_I 2, mv_I (u : Int), mv_U]) (st' := []) (M1 := M1) rfl ?_
      refine mv_ffW (by first | decide | omega) ?_
      refine mv_goW 2 (pc' := 14) (ls' := [mv_R 100, mv_I 2, mv_I (u : Int), mv_U]) (st' := [mv_I (u : Int), mv_R 100]) (M1 := M1) rfl ?_
      have ha44 : 0 ≤ (u : Int) ∧ (u : Int) < V 0 9 := by omega
      refine mv_callPW (st2 := [mv_I 1]) rfl (Or.inl rfl) rfl rfl rfl (sp_misUncle_t hm ho ha44) (by first | decide | omega) ?_
      refine mv_goW 1 (pc' := if 1 = 0 then 20 else 23) (ls' := [mv_R 100, mv_I 2, mv_I (u : Int), mv_U]) (st' := []) (M1 := M1) rfl ?_
      refine mv_ffW (by first | decide | omega) ?_
      refine mv_goW 5 (pc' := if 0 ≤ 2 ∧ 2 < 4 then 30 else mv_bad) (ls' := [mv_R 100, mv_I 2, mv_I (u : Int), mv_U]) (st' := []) (M1 := (mv_st M1 117 (mv_up (M1 117) 2 2))) rfl ?_
      refine mv_ttW (by omega) ?_
      refine mv_goW 5 (pc' := 39) (ls' := [mv_R 100, mv_I 2, mv_I (u : Int), mv_U]) (st' := [mv_I (M1 100 0), mv_I 2, mv_R 118]) (M1 := (mv_st M1 117 (mv_up (M1 117) 2 2))) rfl ?_
      have hr11 := sp_ok_s8 ho
      rw [show M1 100 0 = V 0 8 from by exact sp_m_s8 hm]
      refine mv_goW 1 (pc' := if 0 ≤ 2 ∧ 2 < 4 then 40 else mv_bad) (ls' := [mv_R 100, mv_I 2, mv_I (u : Int), mv_U]) (st' := []) (M1 := (mv_st (mv_st M1 117 (mv_up (M1 117) 2 2)) 118 (mv_up (M1 118) 2 (V 0 8)))) rfl ?_
      refine mv_ttW (by omega) ?_
      refine mv_goW 2 (pc' := 42) (ls' := [mv_R 100, mv_I 2, mv_I (u : Int), mv_I 0]) (st' := []) (M1 := (mv_st (mv_st M1 117 (mv_up (M1 117) 2 2)) 118 (mv_up (M1 118) 2 (V 0 8)))) rfl ?_
      have hmX : sp_m (mv_st (mv_st M1 117 (mv_up (M1 117) 2 2)) 118 (mv_up (M1 118) 2 (V 0 8))) V := hm
      have hmtX : sp_mts (mv_st (mv_st M1 117 (mv_up (M1 117) 2 2)) 118 (mv_up (M1 118) 2 (V 0 8))) P n := hmt
      refine sp_mfilm (d := 12) (S := 2) (V := V) (M0 := (mv_st (mv_st M1 117 (mv_up (M1 117) 2 2)) 118 (mv_up (M1 118) 2 (V 0 8)))) (by decide) hmX ho hl hmtX huv (fun M3 hy1 hy2 hy3 => ?_) 40 0 (mv_st (mv_st M1 117 (mv_up (M1 117) 2 2)) 118 (mv_up (M1 118) 2 (V 0 8))) (by omega) mv_ag.rf (fun j hj => absurd hj (by omega)) (fun _ _ => rfl)
      have h8M : M3 100 0 = V 0 8 := by rw [hy1 100 (by decide)]; exact sp_m_s8 hmX
      refine mv_goW 2 (pc' := 92) (ls' := [mv_R 100, mv_I 2, mv_I (u : Int), mv_I 40]) (st' := [mv_I (M3 100 0)]) (M1 := M3) rfl ?_
      rw [show M3 100 0 = V 0 8 from by exact h8M]
      exact mv_retW (fun n => rfl) ⟨congrArg mv_I (by first | with_reducible rfl | omega), sp_film_end (S := 2) (by decide) h hx hw1 hw2 hy1 hy2 hy3⟩
    · refine mv_callPW (st2 := [mv_I 0]) rfl (Or.inl rfl) rfl rfl rfl (sp_cisUncle_f_30 hc ho ha40) (by first | decide | omega) ?_
      refine mv_goW 1 (pc' := if 0 = 0 then 24 else 27) (ls' := [mv_R 0, mv_I 2, mv_I (u : Int), mv_R 75, mv_U]) (st' := []) (M1 := M) rfl ?_
      refine mv_ttW (by first | decide | omega) ?_
      refine mv_goW 1 (pc' := 26) (ls' := [mv_R 0, mv_I 2, mv_I (u : Int), mv_R 75, mv_U]) (st' := [mv_I (-5)]) (M1 := M) rfl ?_
      refine mv_retW (fun n => rfl) ⟨_, rfl, ?_⟩
      refine mv_goW 3 (pc' := 3) (ls' := [mv_R 100, mv_I 2, mv_I (u : Int), mv_U]) (st' := [mv_I 3, mv_I 0, mv_I 2]) (M1 := M) rfl ?_
      have ha45 : (0 : Int) ≤ (2 : Int) ∧ (2 : Int) ≤ (3 : Int) := by omega
      refine mv_callPW (st2 := [mv_I 1]) rfl (Or.inr rfl) rfl rfl rfl (sp_min_t ha45) (by first | decide | omega) ?_
      refine mv_goW 1 (pc' := if 1 = 0 then 9 else 12) (ls' := [mv_R 100, mv_I 2, mv_I (u : Int), mv_U]) (st' := []) (M1 := M) rfl ?_
      refine mv_ffW (by first | decide | omega) ?_
      refine mv_goW 2 (pc' := 14) (ls' := [mv_R 100, mv_I 2, mv_I (u : Int), mv_U]) (st' := [mv_I (u : Int), mv_R 100]) (M1 := M) rfl ?_
      have ha46 : ¬ (0 ≤ (u : Int) ∧ (u : Int) < V 0 9) := by omega
      refine mv_callPW (st2 := [mv_I 0]) rfl (Or.inl rfl) rfl rfl rfl (sp_misUncle_f hm ho ha46) (by first | decide | omega) ?_
      refine mv_goW 1 (pc' := if 0 = 0 then 20 else 23) (ls' := [mv_R 100, mv_I 2, mv_I (u : Int), mv_U]) (st' := []) (M1 := M) rfl ?_
      refine mv_ttW (by first | decide | omega) ?_
      refine mv_goW 1 (pc' := 22) (ls' := [mv_R 100, mv_I 2, mv_I (u : Int), mv_U]) (st' := [mv_I (-5)]) (M1 := M) rfl ?_
      exact mv_retW (fun n => rfl) ⟨congrArg mv_I (by first | with_reducible rfl | omega), hI⟩
  · refine mv_goW 2 (pc' := 2) (ls' := [mv_R 0, mv_I 2, mv_I a, mv_U, mv_U]) (st' := [mv_I 2, mv_R 0]) (M1 := M) rfl ?_
    refine mv_callPW (st2 := [mv_R 75]) rfl (Or.inl rfl) rfl rfl rfl (sp_sheetAt_2) (by first | decide | omega) ?_
    refine mv_goW 6 (pc' := 18) (ls' := [mv_R 0, mv_I 2, mv_I a, mv_R 75, mv_U]) (st' := [mv_I a, mv_R 30]) (M1 := M) rfl ?_
    have ha47 : ¬ (0 ≤ a ∧ a < V 0 9) := by omega
    refine mv_callPW (st2 := [mv_I 0]) rfl (Or.inl rfl) rfl rfl rfl (sp_cisUncle_f_30 hc ho ha47) (by first | decide | omega) ?_
    refine mv_goW 1 (pc' := if 0 = 0 then 24 else 27) (ls' := [mv_R 0, mv_I 2, mv_I a, mv_R 75, mv_U]) (st' := []) (M1 := M) rfl ?_
    refine mv_ttW (by first | decide | omega) ?_
    refine mv_goW 1 (pc' := 26) (ls' := [mv_R 0, mv_I 2, mv_I a, mv_R 75, mv_U]) (st' := [mv_I (-5)]) (M1 := M) rfl ?_
    refine mv_retW (fun n => rfl) ⟨_, rfl, ?_⟩
    refine mv_goW 3 (pc' := 3) (ls' := [mv_R 100, mv_I 2, mv_I a, mv_U]) (st' := [mv_I 3, mv_I 0, mv_I 2]) (M1 := M) rfl ?_
    have ha48 : (0 : Int) ≤ (2 : Int) ∧ (2 : Int) ≤ (3 : Int) := by omega
    refine mv_callPW (st2 := [mv_I 1]) rfl (Or.inr rfl) rfl rfl rfl (sp_min_t ha48) (by first | decide | omega) ?_
    refine mv_goW 1 (pc' := if 1 = 0 then 9 else 12) (ls' := [mv_R 100, mv_I 2, mv_I a, mv_U]) (st' := []) (M1 := M) rfl ?_
    refine mv_ffW (by first | decide | omega) ?_
    refine mv_goW 2 (pc' := 14) (ls' := [mv_R 100, mv_I 2, mv_I a, mv_U]) (st' := [mv_I a, mv_R 100]) (M1 := M) rfl ?_
    have ha49 : ¬ (0 ≤ a ∧ a < V 0 9) := by omega
    refine mv_callPW (st2 := [mv_I 0]) rfl (Or.inl rfl) rfl rfl rfl (sp_misUncle_f hm ho ha49) (by first | decide | omega) ?_
    refine mv_goW 1 (pc' := if 0 = 0 then 20 else 23) (ls' := [mv_R 100, mv_I 2, mv_I a, mv_U]) (st' := []) (M1 := M) rfl ?_
    refine mv_ttW (by first | decide | omega) ?_
    refine mv_goW 1 (pc' := 22) (ls' := [mv_R 100, mv_I 2, mv_I a, mv_U]) (st' := [mv_I (-5)]) (M1 := M) rfl ?_
    exact mv_retW (fun n => rfl) ⟨congrArg mv_I (by first | with_reducible rfl | omega), hI⟩
theorem sp_k26_3 (a : Int) : sp_call 87 180 [mv_I 3, mv_I a] [mv_I 3, mv_I a] := by
  refine sp_mkW (lc := [mv_R 0, mv_I 3, mv_I a, mv_U, mv_U]) (lm := [mv_R 100, mv_I 3, mv_I a, mv_U]) rfl rfl (fun M hI => ?_)
  have hI2 := hI
  obtain ⟨V, P, n, B, K, t, h⟩ := hI2
  have h' := h
  obtain ⟨⟨hc, hm, ho⟩, ⟨hy, hl, hn1, hn⟩, ⟨hct, hmt, _⟩, _⟩ := h'
  have h8 := sp_ok_s8 ho
  have h9 := sp_ok_s9 ho
  by_cases h0 : 0 ≤ a
  · obtain ⟨u, rfl⟩ : ∃ x : Nat, a = (x : Int) := ⟨a.toNat, by omega⟩
    refine mv_goW 2 (pc' := 2) (ls' := [mv_R 0, mv_I 3, mv_I (u : Int), mv_U, mv_U]) (st' := [mv_I 3, mv_R 0]) (M1 := M) rfl ?_
    refine mv_callPW (st2 := [mv_R 77]) rfl (Or.inl rfl) rfl rfl rfl (sp_sheetAt_3) (by first | decide | omega) ?_
    refine mv_goW 6 (pc' := 18) (ls' := [mv_R 0, mv_I 3, mv_I (u : Int), mv_R 77, mv_U]) (st' := [mv_I (u : Int), mv_R 30]) (M1 := M) rfl ?_
    by_cases ha50 : 0 ≤ (u : Int) ∧ (u : Int) < V 0 9
    · refine mv_callPW (st2 := [mv_I 1]) rfl (Or.inl rfl) rfl rfl rfl (sp_cisUncle_t_30 hc ho ha50) (by first | decide | omega) ?_
      refine mv_goW 1 (pc' := if 1 = 0 then 24 else 27) (ls' := [mv_R 0, mv_I 3, mv_I (u : Int), mv_R 77, mv_U]) (st' := []) (M1 := M) rfl ?_
      refine mv_ffW (by first | decide | omega) ?_
      refine mv_goW 5 (pc' := 36) (ls' := [mv_R 0, mv_I 3, mv_I (u : Int), mv_R 77, mv_U]) (st' := [mv_I (M 30 8), mv_I 2, mv_R 77]) (M1 := M) rfl ?_
      have hr13 := sp_ok_s8 ho
      rw [show M 30 8 = V 0 8 from by exact sp_c_s8 hc]
      refine mv_callW (st2 := []) rfl (Or.inl rfl) rfl rfl rfl (sp_shb_3) (by first | decide | omega) (fun Ma51 hm52 => ?_)
      have hx := hm52
      refine mv_goW 2 (pc' := 42) (ls' := [mv_R 0, mv_I 3, mv_I (u : Int), mv_R 77, mv_I 0]) (st' := []) (M1 := Ma51) rfl ?_
      have huv : (u : Int) < V 0 9 := by omega
      refine sp_cfilm_3 (d := 12) (V := V) (M0 := Ma51) (sp_c_ag hc hx.1 (by decide)) ho hl hn (sp_cts_ag hct hx.1 hn (fun i h1 h2 => by simp only [List.mem_cons, List.not_mem_nil, or_false]; omega)) huv (by rw [hx.2.1]; rfl) (fun M1 hw1 hw2 => ?_) (V 0 8).toNat 0 Ma51 (by omega) mv_ag.rf (fun j hj => by rw [if_neg (by omega)]; exact hx.2.2 j hj)
      have hag1 : mv_ag [36, 37, 77, 78] M M1 := (hx.1.wd (by decide)).tr (hw1.wd (by decide))
      have hm := sp_m_ag2 hm hag1 (by decide)
      have hmt := sp_mts_ag hmt hag1 (by decide)
      have h308 : M1 30 8 = V 0 8 := by rw [hag1 30 (by decide)]; exact sp_c_s8 hc
      refine mv_goW 3 (pc' := 83) (ls' := [mv_R 0, mv_I 3, mv_I (u : Int), mv_R 77, mv_I (V 0 8)]) (st' := [mv_I (M1 30 8)]) (M1 := M1) rfl ?_
      rw [show M1 30 8 = V 0 8 from by exact h308]
      refine mv_retW (fun n => rfl) ⟨_, rfl, ?_⟩
      refine mv_goW 3 (pc' := 3) (ls' := [mv_R 100, mv_I 3, mv_I (u : Int), mv_U]) (st' := [mv_I 3, mv_I 0, mv_I 3]) (M1 := M1) rfl ?_
      have ha53 : (0 : Int) ≤ (3 : Int) ∧ (3 : Int) ≤ (3 : Int) := by omega
      refine mv_callPW (st2 := [mv_I 1]) rfl (Or.inr rfl) rfl rfl rfl (sp_min_t ha53) (by first | decide | omega) ?_
      refine mv_goW 1 (pc' := if 1 = 0 then 9 else 12) (ls' := [mv_R 100, mv_I 3, mv_I (u : Int), mv_U]) (st' := []) (M1 := M1) rfl ?_
      refine mv_ffW (by first | decide | omega) ?_
      refine mv_goW 2 (pc' := 14) (ls' := [mv_R 100, mv_I 3, mv_I (u : Int), mv_U]) (st' := [mv_I (u : Int), mv_R 100]) (M1 := M1) rfl ?_
      have ha54 : 0 ≤ (u : Int) ∧ (u : Int) < V 0 9 := by omega
      refine mv_callPW (st2 := [mv_I 1]) rfl (Or.inl rfl) rfl rfl rfl (sp_misUncle_t hm ho ha54) (by first | decide | omega) ?_
      refine mv_goW 1 (pc' := if 1 = 0 then 20 else 23) (ls' := [mv_R 100, mv_I 3, mv_I (u : Int), mv_U]) (st' := []) (M1 := M1) rfl ?_
      refine mv_ffW (by first | decide | omega) ?_
      refine mv_goW 5 (pc' := if 0 ≤ 3 ∧ 3 < 4 then 30 else mv_bad) (ls' := [mv_R 100, mv_I 3, mv_I (u : Int), mv_U]) (st' := []) (M1 := (mv_st M1 117 (mv_up (M1 117) 3 2))) rfl ?_
      refine mv_ttW (by omega) ?_
      refine mv_goW 5 (pc' := 39) (ls' := [mv_R 100, mv_I 3, mv_I (u : Int), mv_U]) (st' := [mv_I (M1 100 0), mv_I 3, mv_R 118]) (M1 := (mv_st M1 117 (mv_up (M1 117) 3 2))) rfl ?_
      have hr15 := sp_ok_s8 ho
      rw [show M1 100 0 = V 0 8 from by exact sp_m_s8 hm]
      refine mv_goW 1 (pc' := if 0 ≤ 3 ∧ 3 < 4 then 40 else mv_bad) (ls' := [mv_R 100, mv_I 3, mv_I (u : Int), mv_U]) (st' := []) (M1 := (mv_st (mv_st M1 117 (mv_up (M1 117) 3 2)) 118 (mv_up (M1 118) 3 (V 0 8)))) rfl ?_
      refine mv_ttW (by omega) ?_
      refine mv_goW 2 (pc' := 42) (ls' := [mv_R 100, mv_I 3, mv_I (u : Int), mv_I 0]) (st' := []) (M1 := (mv_st (mv_st M1 117 (mv_up (M1 117) 3 2)) 118 (mv_up (M1 118) 3 (V 0 8)))) rfl ?_
      have hmX : sp_m (mv_st (mv_st M1 117 (mv_up (M1 117) 3 2)) 118 (mv_up (M1 118) 3 (V 0 8))) V := hm
      have hmtX : sp_mts (mv_st (mv_st M1 117 (mv_up (M1 117) 3 2)) 118 (mv_up (M1 118) 3 (V 0 8))) P n := hmt
      refine sp_mfilm (d := 12) (S := 3) (V := V) (M0 := (mv_st (mv_st M1 117 (mv_up (M1 117) 3 2)) 118 (mv_up (M1 118) 3 (V 0 8)))) (by decide) hmX ho hl hmtX huv (fun M3 hy1 hy2 hy3 => ?_) 40 0 (mv_st (mv_st M1 117 (mv_up (M1 117) 3 2)) 118 (mv_up (M1 118) 3 (V 0 8))) (by omega) mv_ag.rf (fun j hj => absurd hj (by omega)) (fun _ _ => rfl)
      have h8M : M3 100 0 = V 0 8 := by rw [hy1 100 (by decide)]; exact sp_m_s8 hmX
      refine mv_goW 2 (pc' := 92) (ls' := [mv_R 100, mv_I 3, mv_I (u : Int), mv_I 40]) (st' := [mv_I (M3 100 0)]) (M1 := M3) rfl ?_
      rw [show M3 100 0 = V 0 8 from by exact h8M]
      exact mv_retW (fun n => rfl) ⟨congrArg mv_I (by first | with_reducible rfl | omega), sp_film_end (S := 3) (by decide) h hx hw1 hw2 hy1 hy2 hy3⟩
    · refine mv_callPW (st2 := [mv_I 0]) rfl (Or.inl rfl) rfl rfl rfl (sp_cisUncle_f_30 hc ho ha50) (by first | decide | omega) ?_
      refine mv_goW 1 (pc' := if 0 = 0 then 24 else 27) (ls' := [mv_R 0, mv_I 3, mv_I (u : Int), mv_R 77, mv_U]) (st' := []) (M1 := M) rfl ?_
      refine mv_ttW (by first | decide | omega) ?_
      refine mv_goW 1 (pc' := 26) (ls' := [mv_R 0, mv_I 3, mv_I (u : Int), mv_R 77, mv_U]) (st' := [mv_I (-5)]) (M1 := M) rfl ?_
      refine mv_retW (fun n => rfl) ⟨_, rfl, ?_⟩
      refine mv_goW 3 (pc' := 3) (ls' := [mv_R 100, mv_I 3, mv_I (u : Int), mv_U]) (st' := [mv_I 3, mv_I 0, mv_I 3]) (M1 := M) rfl ?_
      have ha55 : (0 : Int) ≤ (3 : Int) ∧ (3 : Int) ≤ (3 : Int) := by omega
      refine mv_callPW (st2 := [mv_I 1]) rfl (Or.inr rfl) rfl rfl rfl (sp_min_t ha55) (by first | decide | omega) ?_
      refine mv_goW 1 (pc' := if 1 = 0 then 9 else 12) (ls' := [mv_R 100, mv_I 3, mv_I (u : Int), mv_U]) (st' := []) (M1 := M) rfl ?_
      refine mv_ffW (by first | decide | omega) ?_
      refine mv_goW 2 (pc' := 14) (ls' := [mv_R 100, mv_I 3, mv_I (u : Int), mv_U]) (st' := [mv_I (u : Int), mv_R 100]) (M1 := M) rfl ?_
      have ha56 : ¬ (0 ≤ (u : Int) ∧ (u : Int) < V 0 9) := by omega
      refine mv_callPW (st2 := [mv_I 0]) rfl (Or.inl rfl) rfl rfl rfl (sp_misUncle_f hm ho ha56) (by first | decide | omega) ?_
      refine mv_goW 1 (pc' := if 0 = 0 then 20 else 23) (ls' := [mv_R 100, mv_I 3, mv_I (u : Int), mv_U]) (st' := []) (M1 := M) rfl ?_
      refine mv_ttW (by first | decide | omega) ?_
      refine mv_goW 1 (pc' := 22) (ls' := [mv_R 100, mv_I 3, mv_I (u : Int), mv_U]) (st' := [mv_I (-5)]) (M1 := M) rfl ?_
      exact mv_retW (fun n => rfl) ⟨congrArg mv_I (by first | with_reducible rfl | omega), hI⟩
  · refine mv_goW 2 (pc' := 2) (ls' := [mv_R 0, mv_I 3, mv_I a, mv_U, mv_U]) (st' := [mv_I 3, mv_R 0]) (M1 := M) rfl ?_
    refine mv_callPW (st2 := [mv_R 77]) rfl (Or.inl rfl) rfl rfl rfl (sp_sheetAt_3) (by first | decide | omega) ?_
    refine mv_goW 6 (pc' := 18) (ls' := [mv_R 0, mv_I 3, mv_I a, mv_R 77, mv_U]) (st' := [mv_I a, mv_R 30]) (M1 := M) rfl ?_
    have ha57 : ¬ (0 ≤ a ∧ a < V 0 9) := by omega
    refine mv_callPW (st2 := [mv_I 0]) rfl (Or.inl rfl) rfl rfl rfl (sp_cisUncle_f_30 hc ho ha57) (by first | decide | omega) ?_
    refine mv_goW 1 (pc' := if 0 = 0 then 24 else 27) (ls' := [mv_R 0, mv_I 3, mv_I a, mv_R 77, mv_U]) (st' := []) (M1 := M) rfl ?_
    refine mv_ttW (by first | decide | omega) ?_
    refine mv_goW 1 (pc' := 26) (ls' := [mv_R 0, mv_I 3, mv_I a, mv_R 77, mv_U]) (st' := [mv_I (-5)]) (M1 := M) rfl ?_
    refine mv_retW (fun n => rfl) ⟨_, rfl, ?_⟩
    refine mv_goW 3 (pc' := 3) (ls' := [mv_R 100, mv_I 3, mv_I a, mv_U]) (st' := [mv_I 3, mv_I 0, mv_I 3]) (M1 := M) rfl ?_
    have ha58 : (0 : Int) ≤ (3 : Int) ∧ (3 : Int) ≤ (3 : Int) := by omega
    refine mv_callPW (st2 := [mv_I 1]) rfl (Or.inr rfl) rfl rfl rfl (sp_min_t ha58) (by first | decide | omega) ?_
    refine mv_goW 1 (pc' := if 1 = 0 then 9 else 12) (ls' := [mv_R 100, mv_I 3, mv_I a, mv_U]) (st' := []) (M1 := M) rfl ?_
    refine mv_ffW (by first | decide | omega) ?_
    refine mv_goW 2 (pc' := 14) (ls' := [mv_R 100, mv_I 3, mv_I a, mv_U]) (st' := [mv_I a, mv_R 100]) (M1 := M) rfl ?_
    have ha59 : ¬ (0 ≤ a ∧ a < V 0 9) := by omega
    refine mv_callPW (st2 := [mv_I 0]) rfl (Or.inl rfl) rfl rfl rfl (sp_misUncle_f hm ho ha59) (by first | decide | omega) ?_
    refine mv_goW 1 (pc' := if 0 = 0 then 20 else 23) (ls' := [mv_R 100, mv_I 3, mv_I a, mv_U]) (st' := []) (M1 := M) rfl ?_
    refine mv_ttW (by first | decide | omega) ?_
    refine mv_goW 1 (pc' := 22) (ls' := [mv_R 100, mv_I 3, mv_I a, mv_U]) (st' := [mv_I (-5)]) (M1 := M) rfl ?_
    exact mv_retW (fun n => rfl) ⟨congrArg mv_I (by first | with_reducible rfl | omega), hI⟩
theorem sp_k26_n (s a : Int) (hs : ¬ (0 ≤ s ∧ s ≤ 3)) : sp_call 87 180 [mv_I s, mv_I a] [mv_I s, mv_I a] := by
  refine sp_mkW (lc := [mv_R 0, mv_I s, mv_I a, mv_U, mv_U]) (lm := [mv_R 100, mv_I s, mv_I a, mv_U]) rfl rfl (fun M hI => ?_)
  refine mv_goW 2 (pc' := 2) (ls' := [mv_R 0, mv_I s, mv_I a, mv_U, mv_U]) (st' := [mv_I s, mv_R 0]) (M1 := M) rfl ?_
  refine mv_callPW (st2 := [mv_N]) rfl (Or.inl rfl) rfl rfl rfl (sp_sheetAt_n hs) (by first | decide | omega) ?_
  refine mv_goW 4 (pc' := 12) (ls' := [mv_R 0, mv_I s, mv_I a, mv_N, mv_U]) (st' := [mv_I (-2)]) (M1 := M) rfl ?_
  refine mv_retW (fun n => rfl) ⟨_, rfl, ?_⟩
  refine mv_goW 3 (pc' := 3) (ls' := [mv_R 100, mv_I s, mv_I a, mv_U]) (st' := [mv_I 3, mv_I 0, mv_I s]) (M1 := M) rfl ?_
  have ha60 : ¬ ((0 : Int) ≤ s ∧ s ≤ (3 : Int)) := by omega
  refine mv_callPW (st2 := [mv_I 0]) rfl (Or.inr rfl) rfl rfl rfl (sp_min_f ha60) (by first | decide | omega) ?_
  refine mv_goW 1 (pc' := if 0 = 0 then 9 else 12) (ls' := [mv_R 100, mv_I s, mv_I a, mv_U]) (st' := []) (M1 := M) rfl ?_
  refine mv_ttW (by first | decide | omega) ?_
  refine mv_goW 1 (pc' := 11) (ls' := [mv_R 100, mv_I s, mv_I a, mv_U]) (st' := [mv_I (-2)]) (M1 := M) rfl ?_
  exact mv_retW (fun n => rfl) ⟨congrArg mv_I (by first | with_reducible rfl | omega), hI⟩
theorem sp_k26 (s a : Int) : sp_call 87 180 [mv_I s, mv_I a] [mv_I s, mv_I a] :=
  sp_s4 (Q := fun s => sp_call 87 180 [mv_I s, mv_I a] [mv_I s, mv_I a]) (sp_k26_0 a) (sp_k26_1 a) (sp_k26_2 a) (sp_k26_3 a) (sp_k26_n s a)
