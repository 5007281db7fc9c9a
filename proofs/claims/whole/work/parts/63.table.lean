/-! who suits whom, as a table -/
def sp_tb (V : mv_M) (P : Nat → Nat → List Int) (M : mv_M) : Prop := (M 60 8 = V 0 8 ∧ M 60 9 = V 0 9) ∧ (∀ u : Nat, (u : Int) < V 0 9 → M 63 u = sp_room V u) ∧ ∀ c u : Nat, (c : Int) < V 0 8 → (u : Int) < V 0 9 → M 61 (6 * c + u) = sp_suits V P c u
def sp_tmm (V : mv_M) (P : Nat → Nat → List Int) (M : mv_M) : Prop := (∀ u : Nat, (u : Int) < V 0 9 → M 134 u = sp_room V u) ∧ ∀ c u : Nat, (c : Int) < V 0 8 → (u : Int) < V 0 9 → M 133 (6 * c + u) = sp_suits V P c u
/-- rows of the table, as far as they are read: uncles below k, and of uncle k the children below c -/
def sp_tp1 (V : mv_M) (P : Nat → Nat → List Int) (rr rs : Nat) (k c : Nat) (M : mv_M) : Prop := (∀ u : Nat, u < k → M rr u = sp_room V u) ∧ (∀ x u : Nat, (x : Int) < V 0 8 → u < k → M rs (6 * x + u) = sp_suits V P x u) ∧ ∀ x : Nat, x < c → M rs (6 * x + k) = sp_suits V P x k
theorem sp_tp1_s {V : mv_M} {P : Nat → Nat → List Int} {rr rs k c : Nat} {M M1 : mv_M} (h : sp_tp1 V P rr rs k c M) (hk : k < 6) (h9 : (k : Int) < V 0 9) (h8 : V 0 8 ≤ 6) (hc : (c : Int) < V 0 8) (e1 : M1 rr = M rr) (e2 : M1 rs = mv_up (M rs) (6 * c + k) (sp_suits V P c k)) : sp_tp1 V P rr rs k (c + 1) M1 := by
  obtain ⟨a, b, d⟩ := h
  refine ⟨fun u hu => by rw [e1]; exact a u hu, fun x u hx hu => ?_, fun x hx => ?_⟩
  · rw [e2, mv_up_n _ _ (by omega)]; exact b x u hx hu
  · rw [e2]
    by_cases q : x = c
    · rw [q, mv_up_s]
    · rw [mv_up_n _ _ (by omega)]; exact d x (by omega)
theorem sp_tp1_e {V : mv_M} {P : Nat → Nat → List Int} {rr rs k c : Nat} {M : mv_M} (h : sp_tp1 V P rr rs k c M) (hc : (c : Int) = V 0 8) (hr : M rr k = sp_room V k) : sp_tp1 V P rr rs (k + 1) 0 M := by
  obtain ⟨a, b, d⟩ := h
  refine ⟨fun u hu => ?_, fun x u hx hu => ?_, fun x hx => absurd hx (by omega)⟩
  · by_cases q : u = k
    · rw [q]; exact hr
    · exact a u (by omega)
  · by_cases q : u = k
    · rw [q]; exact d x (by omega)
    · exact b x u hx (by omega)
theorem sp_crs1 {V M0 : mv_M} {P : Nat → Nat → List Int} {n : Int} {u d : Nat} {Q : mv_M → Prop} (hc : sp_c 30 M0 V) (ho : sp_ok V) (hl : V 0 11 < n) (hn : n ≤ 6) (hP : sp_cts M0 P n) (hu9 : (u : Int) < V 0 9) :
    ∀ (r c : Nat) (M : mv_M), (c : Int) + r = V 0 8 → mv_ag [36, 37, 60, 61, 63] M0 M → (M 60 8 = V 0 8 ∧ M 60 9 = V 0 9) → M 63 u = sp_room V u → sp_tp1 V P 63 61 u c M →
      (∀ (c : Nat) (M2 : mv_M), mv_ag [36, 37, 60, 61, 63] M0 M2 → (M2 60 8 = V 0 8 ∧ M2 60 9 = V 0 9) → sp_tp1 V P 63 61 (u + 1) 0 M2 → mv_Ru (d + 5) 27 70 [mv_R 60, mv_R 30, mv_I (u : Int), mv_I (c : Int)] [] M2 mv_U Q) → mv_Ru (d + 5) 27 39 [mv_R 60, mv_R 30, mv_I (u : Int), mv_I (c : Int)] [] M mv_U Q := by
  have h8 := sp_ok_s8 ho
  have h9 := sp_ok_s9 ho
  intro r
  induction r with
  | zero =>
    intro c M hk hag h60 hr ht e
    have e8 : M 60 8 = (c : Int) := by rw [h60.1]; omega
    refine mv_go' 3 (pc' := 44) (ls' := [mv_R 60, mv_R 30, mv_I (u : Int), mv_I (c : Int)]) (st' := [mv_I (M 60 8), mv_I (c : Int)]) (M1 := M) rfl ?_
    rw [show M 60 8 = (c : Int) from by exact e8]
    refine mv_go' 1 (pc' := if (c : Int) < (c : Int) then 47 else 70) (ls' := [mv_R 60, mv_R 30, mv_I (u : Int), mv_I (c : Int)]) (st' := []) (M1 := M) rfl ?_
    refine mv_ff' (by omega) ?_
    exact e c M hag h60 (sp_tp1_e ht (by omega) hr)
  | succ r ih =>
    intro c M hk hag h60 hr ht e
    refine mv_go' 3 (pc' := 44) (ls' := [mv_R 60, mv_R 30, mv_I (u : Int), mv_I (c : Int)]) (st' := [mv_I (M 60 8), mv_I (c : Int)]) (M1 := M) rfl ?_
    rw [show M 60 8 = V 0 8 from by exact h60.1]
    refine mv_go' 1 (pc' := if (c : Int) < (V 0 8) then 47 else 70) (ls' := [mv_R 60, mv_R 30, mv_I (u : Int), mv_I (c : Int)]) (st' := []) (M1 := M) rfl ?_
    refine mv_tt' (by omega) ?_
    refine mv_go' 10 (pc' := 60) (ls' := [mv_R 60, mv_R 30, mv_I (u : Int), mv_I (c : Int)]) (st' := [mv_I (u : Int), mv_I (c : Int), mv_R 30, mv_I (mv_w ((mv_w ((c : Int) * 6)) + (u : Int))), mv_R 61]) (M1 := M) rfl ?_
    rw [show mv_w ((c : Int) * 6) = (c : Int) * 6 from mv_w_id (by omega) (by omega)]
    rw [show mv_w (((c : Int) * 6) + (u : Int)) = ((c : Int) * 6) + (u : Int) from mv_w_id (by omega) (by omega)]
    rw [show ((c : Int) * 6) + (u : Int) = ((6 * c + u : Nat) : Int) from by omega]
    refine mv_call (st2 := [mv_I (sp_suits V P c u), mv_I ((6 * c + u : Nat) : Int), mv_R 61]) rfl (Or.inl rfl) rfl rfl rfl (sp_csuits_30 (c := c) (u := u) (sp_c_ag hc hag (by decide)) ho hl hn (sp_cts_ag hP hag hn (fun i h1 h2 => by simp only [List.mem_cons, List.not_mem_nil, or_false]; omega)) (by omega) (by omega)) (by first | decide | omega) (fun Ma1 hm2 => ?_)
    have hx := hm2
    refine mv_go' 1 (pc' := if 0 ≤ ((6 * c + u : Nat) : Int) ∧ ((6 * c + u : Nat) : Int) < 36 then 64 else mv_bad) (ls' := [mv_R 60, mv_R 30, mv_I (u : Int), mv_I (c : Int)]) (st' := []) (M1 := (mv_st Ma1 61 (mv_up (Ma1 61) (6 * c + u) (sp_suits V P c u)))) rfl ?_
    refine mv_tt' (by omega) ?_
    refine mv_go' 2 (pc' := 39) (ls' := [mv_R 60, mv_R 30, mv_I (u : Int), mv_I (mv_w ((c : Int) + 1))]) (st' := []) (M1 := (mv_st Ma1 61 (mv_up (Ma1 61) (6 * c + u) (sp_suits V P c u)))) rfl ?_
    rw [show mv_w ((c : Int) + 1) = (c : Int) + 1 from mv_w_id (by omega) (by omega)]
    rw [show (c : Int) + 1 = ((c + 1 : Nat) : Int) from by omega]
    refine ih (c + 1) _ (by omega) ((hag.tr (hx.wd (by decide))).st (by decide)) ?_ ?_ (sp_tp1_s ht (by omega) hu9 h8.2 (by omega) (by show Ma1 63 = _; rw [hx 63 (by decide)]) (by show mv_up (Ma1 61) (6 * c + u) _ = _; rw [hx 61 (by decide)])) ?_
    · show Ma1 60 8 = _ ∧ Ma1 60 9 = _
      rw [hx 60 (by decide)]; exact h60
    · show Ma1 63 u = _
      rw [hx 63 (by decide)]; exact hr
    · exact e
theorem sp_crs2 {V M0 : mv_M} {P : Nat → Nat → List Int} {n : Int} {d : Nat} (hc : sp_c 30 M0 V) (ho : sp_ok V) (hl : V 0 11 < n) (hn : n ≤ 6) (hP : sp_cts M0 P n) :
    ∀ (r u : Nat) (M : mv_M) (l3 : mv_V), (u : Int) + r = V 0 9 → mv_ag [36, 37, 60, 61, 63] M0 M → (M 60 8 = V 0 8 ∧ M 60 9 = V 0 9) → sp_tp1 V P 63 61 u 0 M → mv_isL l3 = false → mv_Ru (d + 5) 27 18 [mv_R 60, mv_R 30, mv_I (u : Int), l3] [] M mv_U (fun M1 => mv_ag [36, 37, 60, 61, 63] M0 M1 ∧ sp_tb V P M1) := by
  have h8 := sp_ok_s8 ho
  have h9 := sp_ok_s9 ho
  intro r
  induction r with
  | zero =>
    intro u M l3 hk hag h60 ht h3
    have e9 : M 60 9 = (u : Int) := by rw [h60.2]; omega
    refine mv_go' 3 (pc' := 23) (ls' := [mv_R 60, mv_R 30, mv_I (u : Int), l3]) (st' := [mv_I (M 60 9), mv_I (u : Int)]) (M1 := M) rfl ?_
    rw [show M 60 9 = (u : Int) from by exact e9]
    refine mv_go' 1 (pc' := if (u : Int) < (u : Int) then 26 else 76) (ls' := [mv_R 60, mv_R 30, mv_I (u : Int), l3]) (st' := []) (M1 := M) rfl ?_
    refine mv_ff' (by omega) ?_
    exact mv_ret (fun n => rfl) ⟨hag, h60, fun v hv => ht.1 v (by omega), fun c v hc hv => ht.2.1 c v hc (by omega)⟩
  | succ r ih =>
    intro u M l3 hk hag h60 ht h3
    refine mv_go' 3 (pc' := 23) (ls' := [mv_R 60, mv_R 30, mv_I (u : Int), l3]) (st' := [mv_I (M 60 9), mv_I (u : Int)]) (M1 := M) rfl ?_
    rw [show M 60 9 = V 0 9 from by exact h60.2]
    refine mv_go' 1 (pc' := if (u : Int) < (V 0 9) then 26 else 76) (ls' := [mv_R 60, mv_R 30, mv_I (u : Int), l3]) (st' := []) (M1 := M) rfl ?_
    refine mv_tt' (by omega) ?_
    refine mv_go' 5 (pc' := 33) (ls' := [mv_R 60, mv_R 30, mv_I (u : Int), l3]) (st' := [mv_I (u : Int), mv_R 30, mv_I (u : Int), mv_R 63]) (M1 := M) rfl ?_
    refine mv_callP (st2 := [mv_I (sp_room V u), mv_I (u : Int), mv_R 63]) rfl (Or.inl rfl) rfl rfl rfl (sp_croom (sp_c_ag hc hag (by decide)) ho (by omega)) (by first | decide | omega) ?_
    refine mv_go' 1 (pc' := if 0 ≤ (u : Int) ∧ (u : Int) < 6 then 37 else mv_bad) (ls' := [mv_R 60, mv_R 30, mv_I (u : Int), l3]) (st' := []) (M1 := (mv_st M 63 (mv_up (M 63) u (sp_room V u)))) rfl ?_
    refine mv_tt' (by omega) ?_
    refine mv_go' 2 (pc' := 39) (ls' := [mv_R 60, mv_R 30, mv_I (u : Int), mv_I 0]) (st' := []) (M1 := (mv_st M 63 (mv_up (M 63) u (sp_room V u)))) rfl ?_
    refine sp_crs1 hc ho hl hn hP (by omega) (V 0 8).toNat 0 _ (by omega) (hag.st (by decide)) h60 (mv_up_s _ _ _) ⟨fun v hv => ?_, ht.2.1, ht.2.2⟩ (fun c2 M2 q1 q2 q3 => ?_)
    · show mv_up (M 63) u (sp_room V u) v = _
      rw [mv_up_n _ _ (by omega)]; exact ht.1 v hv
    refine mv_go' 2 (pc' := 18) (ls' := [mv_R 60, mv_R 30, mv_I (mv_w ((u : Int) + 1)), mv_I (c2 : Int)]) (st' := []) (M1 := M2) rfl ?_
    rw [show mv_w ((u : Int) + 1) = (u : Int) + 1 from mv_w_id (by omega) (by omega)]
    rw [show (u : Int) + 1 = ((u + 1 : Nat) : Int) from by omega]
    exact ih (u + 1) M2 _ (by omega) q1 q2 q3 rfl
theorem sp_crs {V M0 : mv_M} {P : Nat → Nat → List Int} {n : Int} (hc : sp_c 30 M0 V) (ho : sp_ok V) (hl : V 0 11 < n) (hn : n ≤ 6) (hP : sp_cts M0 P n) : mv_Ru 5 27 0 [mv_R 60, mv_R 30, mv_U, mv_U] [] M0 mv_U (fun M1 => mv_ag [36, 37, 60, 61, 63] M0 M1 ∧ sp_tb V P M1) := by
  have h8 := sp_ok_s8 ho
  have h9 := sp_ok_s9 ho
  refine mv_go' 3 (pc' := 5) (ls' := [mv_R 60, mv_R 30, mv_U, mv_U]) (st' := [mv_I (M0 30 8), mv_R 60]) (M1 := M0) rfl ?_
  rw [show M0 30 8 = V 0 8 from by exact sp_c_s8 hc]
  refine mv_go' 4 (pc' := 13) (ls' := [mv_R 60, mv_R 30, mv_U, mv_U]) (st' := [mv_I (M0 30 9), mv_R 60]) (M1 := (mv_st M0 60 (mv_up (M0 60) 8 (V 0 8)))) rfl ?_
  rw [show M0 30 9 = V 0 9 from by exact sp_c_s9 hc]
  refine mv_go' 3 (pc' := 18) (ls' := [mv_R 60, mv_R 30, mv_I 0, mv_U]) (st' := []) (M1 := (mv_st (mv_st M0 60 (mv_up (M0 60) 8 (V 0 8))) 60 (mv_up (mv_up (M0 60) 8 (V 0 8)) 9 (V 0 9)))) rfl ?_
  exact sp_crs2 (d := 0) hc ho hl hn hP (V 0 9).toNat 0 _ mv_U (by omega) ((mv_ag.st mv_ag.rf (by decide)).st (by decide)) ⟨rfl, rfl⟩ ⟨fun u hu => absurd hu (by omega), fun x u _ hu => absurd hu (by omega), fun x hx => absurd hx (by omega)⟩ rfl
theorem sp_mrs1 {V M0 : mv_M} {P : Nat → Nat → List Int} {n : Int} {u d : Nat} {Q : mv_M → Prop} (hm : sp_m M0 V) (ho : sp_ok V) (hl : V 0 11 < n) (hP : sp_mts M0 P n) (hu9 : (u : Int) < V 0 9) :
    ∀ (r c : Nat) (M : mv_M), (c : Int) + r = V 0 8 → mv_ag [130, 131, 133, 134] M0 M → M 134 u = sp_room V u → sp_tp1 V P 134 133 u c M →
      (∀ (c : Nat) (M2 : mv_M), mv_ag [130, 131, 133, 134] M0 M2 → sp_tp1 V P 134 133 (u + 1) 0 M2 → mv_Ru (d + 5) 157 54 [mv_R 100, mv_I (u : Int), mv_I (c : Int)] [] M2 mv_U Q) → mv_Ru (d + 5) 157 23 [mv_R 100, mv_I (u : Int), mv_I (c : Int)] [] M mv_U Q := by
  have h8 := sp_ok_s8 ho
  have h9 := sp_ok_s9 ho
  intro r
  induction r with
  | zero =>
    intro c M hk hag hr ht e
    have e8 : M 100 0 = (c : Int) := by rw [hag 100 (by decide), sp_m_s8 hm]; omega
    refine mv_go' 3 (pc' := 28) (ls' := [mv_R 100, mv_I (u : Int), mv_I (c : Int)]) (st' := [mv_I (M 100 0), mv_I (c : Int)]) (M1 := M) rfl ?_
    rw [show M 100 0 = (c : Int) from by exact e8]
    refine mv_go' 1 (pc' := if (c : Int) < (c : Int) then 31 else 54) (ls' := [mv_R 100, mv_I (u : Int), mv_I (c : Int)]) (st' := []) (M1 := M) rfl ?_
    refine mv_ff' (by omega) ?_
    exact e c M hag (sp_tp1_e ht (by omega) hr)
  | succ r ih =>
    intro c M hk hag hr ht e
    have e8 : M 100 0 = V 0 8 := by rw [hag 100 (by decide), sp_m_s8 hm]
    refine mv_go' 3 (pc' := 28) (ls' := [mv_R 100, mv_I (u : Int), mv_I (c : Int)]) (st' := [mv_I (M 100 0), mv_I (c : Int)]) (M1 := M) rfl ?_
    rw [show M 100 0 = V 0 8 from by exact e8]
    refine mv_go' 1 (pc' := if (c : Int) < (V 0 8) then 31 else 54) (ls' := [mv_R 100, mv_I (u : Int), mv_I (c : Int)]) (st' := []) (M1 := M) rfl ?_
    refine mv_tt' (by omega) ?_
    refine mv_go' 10 (pc' := 44) (ls' := [mv_R 100, mv_I (u : Int), mv_I (c : Int)]) (st' := [mv_I (u : Int), mv_I (c : Int), mv_R 100, mv_I (mv_w ((mv_w (6 * (c : Int))) + (u : Int))), mv_R 133]) (M1 := M) rfl ?_
    rw [show mv_w (6 * (c : Int)) = 6 * (c : Int) from mv_w_id (by omega) (by omega)]
    rw [show mv_w ((6 * (c : Int)) + (u : Int)) = (6 * (c : Int)) + (u : Int) from mv_w_id (by omega) (by omega)]
    rw [show (6 * (c : Int)) + (u : Int) = ((6 * c + u : Nat) : Int) from by omega]
    refine mv_call (st2 := [mv_I (sp_suits V P c u), mv_I ((6 * c + u : Nat) : Int), mv_R 133]) rfl (Or.inl rfl) rfl rfl rfl (sp_msuits (c := c) (u := u) (sp_m_ag2 hm hag (by decide)) ho hl (sp_mts_ag hP hag (by decide)) (by omega) (by omega)) (by first | decide | omega) (fun Ma3 hm4 => ?_)
    have hx := hm4
    refine mv_go' 1 (pc' := if 0 ≤ ((6 * c + u : Nat) : Int) ∧ ((6 * c + u : Nat) : Int) < 36 then 48 else mv_bad) (ls' := [mv_R 100, mv_I (u : Int), mv_I (c : Int)]) (st' := []) (M1 := (mv_st Ma3 133 (mv_up (Ma3 133) (6 * c + u) (sp_suits V P c u)))) rfl ?_
    refine mv_tt' (by omega) ?_
    refine mv_go' 2 (pc' := 23) (ls' := [mv_R 100, mv_I (u : Int), mv_I (mv_w ((c : Int) + 1))]) (st' := []) (M1 := (mv_st Ma3 133 (mv_up (Ma3 133) (6 * c + u) (sp_suits V P c u)))) rfl ?_
    rw [show mv_w ((c : Int) + 1) = (c : Int) + 1 from mv_w_id (by omega) (by omega)]
    rw [show (c : Int) + 1 = ((c + 1 : Nat) : Int) from by omega]
    refine ih (c + 1) _ (by omega) ((hag.tr (hx.wd (by decide))).st (by decide)) ?_ (sp_tp1_s ht (by omega) hu9 h8.2 (by omega) (by show Ma3 134 = _; rw [hx 134 (by decide)]) (by show mv_up (Ma3 133) (6 * c + u) _ = _; rw [hx 133 (by decide)])) ?_
    · show Ma3 134 u = _
      rw [hx 134 (by decide)]; exact hr
    · exact e
theorem sp_mrs2 {V M0 : mv_M} {P : Nat → Nat → List Int} {n : Int} {d : Nat} (hm : sp_m M0 V) (ho : sp_ok V) (hl : V 0 11 < n) (hP : sp_mts M0 P n) :
    ∀ (r u : Nat) (M : mv_M) (l3 : mv_V), (u : Int) + r = V 0 9 → mv_ag [130, 131, 133, 134] M0 M → sp_tp1 V P 134 133 u 0 M → mv_isL l3 = false → mv_Ru (d + 5) 157 2 [mv_R 100, mv_I (u : Int), l3] [] M mv_U (fun M1 => mv_ag [130, 131, 133, 134] M0 M1 ∧ sp_tmm V P M1) := by
  have h8 := sp_ok_s8 ho
  have h9 := sp_ok_s9 ho
  intro r
  induction r with
  | zero =>
    intro u M l3 hk hag ht h3
    have e9 : M 100 1 = (u : Int) := by rw [hag 100 (by decide), sp_m_s9 hm]; omega
    refine mv_go' 3 (pc' := 7) (ls' := [mv_R 100, mv_I (u : Int), l3]) (st' := [mv_I (M 100 1), mv_I (u : Int)]) (M1 := M) rfl ?_
    rw [show M 100 1 = (u : Int) from by exact e9]
    refine mv_go' 1 (pc' := if (u : Int) < (u : Int) then 10 else 60) (ls' := [mv_R 100, mv_I (u : Int), l3]) (st' := []) (M1 := M) rfl ?_
    refine mv_ff' (by omega) ?_
    exact mv_ret (fun n => rfl) ⟨hag, fun v hv => ht.1 v (by omega), fun c v hc hv => ht.2.1 c v hc (by omega)⟩
  | succ r ih =>
    intro u M l3 hk hag ht h3
    have e9 : M 100 1 = V 0 9 := by rw [hag 100 (by decide), sp_m_s9 hm]
    refine mv_go' 3 (pc' := 7) (ls' := [mv_R 100, mv_I (u : Int), l3]) (st' := [mv_I (M 100 1), mv_I (u : Int)]) (M1 := M) rfl ?_
    rw [show M 100 1 = V 0 9 from by exact e9]
    refine mv_go' 1 (pc' := if (u : Int) < (V 0 9) then 10 else 60) (ls' := [mv_R 100, mv_I (u : Int), l3]) (st' := []) (M1 := M) rfl ?_
    refine mv_tt' (by omega) ?_
    refine mv_go' 5 (pc' := 17) (ls' := [mv_R 100, mv_I (u : Int), l3]) (st' := [mv_I (u : Int), mv_R 100, mv_I (u : Int), mv_R 134]) (M1 := M) rfl ?_
    refine mv_callP (st2 := [mv_I (sp_room V u), mv_I (u : Int), mv_R 134]) rfl (Or.inl rfl) rfl rfl rfl (sp_mroom (sp_m_ag2 hm hag (by decide)) ho (by omega)) (by first | decide | omega) ?_
    refine mv_go' 1 (pc' := if 0 ≤ (u : Int) ∧ (u : Int) < 6 then 21 else mv_bad) (ls' := [mv_R 100, mv_I (u : Int), l3]) (st' := []) (M1 := (mv_st M 134 (mv_up (M 134) u (sp_room V u)))) rfl ?_
    refine mv_tt' (by omega) ?_
    refine mv_go' 2 (pc' := 23) (ls' := [mv_R 100, mv_I (u : Int), mv_I 0]) (st' := []) (M1 := (mv_st M 134 (mv_up (M 134) u (sp_room V u)))) rfl ?_
    refine sp_mrs1 hm ho hl hP (by omega) (V 0 8).toNat 0 _ (by omega) (hag.st (by decide)) (mv_up_s _ _ _) ⟨fun v hv => ?_, ht.2.1, ht.2.2⟩ (fun c2 M2 q1 q3 => ?_)
    · show mv_up (M 134) u (sp_room V u) v = _
      rw [mv_up_n _ _ (by omega)]; exact ht.1 v hv
    refine mv_go' 2 (pc' := 2) (ls' := [mv_R 100, mv_I (mv_w ((u : Int) + 1)), mv_I (c2 : Int)]) (st' := []) (M1 := M2) rfl ?_
    rw [show mv_w ((u : Int) + 1) = (u : Int) + 1 from mv_w_id (by omega) (by omega)]
    rw [show (u : Int) + 1 = ((u + 1 : Nat) : Int) from by omega]
    exact ih (u + 1) M2 _ (by omega) q1 q3 rfl
theorem sp_mrs {V M0 : mv_M} {P : Nat → Nat → List Int} {n : Int} (hm : sp_m M0 V) (ho : sp_ok V) (hl : V 0 11 < n) (hP : sp_mts M0 P n) : mv_Ru 5 157 0 [mv_R 100, mv_U, mv_U] [] M0 mv_U (fun M1 => mv_ag [130, 131, 133, 134] M0 M1 ∧ sp_tmm V P M1) := by
  have h9 := sp_ok_s9 ho
  refine mv_go' 2 (pc' := 2) (ls' := [mv_R 100, mv_I 0, mv_U]) (st' := []) (M1 := M0) rfl ?_
  exact sp_mrs2 (d := 0) hm ho hl hP (V 0 9).toNat 0 _ mv_U (by omega) mv_ag.rf ⟨fun u hu => absurd hu (by omega), fun x u _ hu => absurd hu (by omega), fun x hx => absurd hx (by omega)⟩ rfl
