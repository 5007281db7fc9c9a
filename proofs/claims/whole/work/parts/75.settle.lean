/-! settled: who is liked least -/
def sp_tl (V : mv_M) (P : Nat → Nat → List Int) (M : mv_M) : Prop := ∀ c u : Nat, (c : Int) < V 0 8 → (u : Int) < V 0 9 → M 62 (6 * c + u) = sp_likes V P c u
def sp_tl1 (V : mv_M) (P : Nat → Nat → List Int) (k c : Nat) (M : mv_M) : Prop := (∀ x u : Nat, (x : Int) < V 0 8 → u < k → M 62 (6 * x + u) = sp_likes V P x u) ∧ ∀ x : Nat, x < c → M 62 (6 * x + k) = sp_likes V P x k
theorem sp_tl1_s {V : mv_M} {P : Nat → Nat → List Int} {k c : Nat} {M M1 : mv_M} (h : sp_tl1 V P k c M) (hk : k < 6) (h8 : V 0 8 ≤ 6) (hc : (c : Int) < V 0 8) (e2 : M1 62 = mv_up (M 62) (6 * c + k) (sp_likes V P c k)) : sp_tl1 V P k (c + 1) M1 := by
  obtain ⟨b, d⟩ := h
  refine ⟨fun x u hx hu => ?_, fun x hx => ?_⟩
  · rw [e2, mv_up_n _ _ (by omega)]; exact b x u hx hu
  · rw [e2]
    by_cases q : x = c
    · rw [q, mv_up_s]
    · rw [mv_up_n _ _ (by omega)]; exact d x (by omega)
theorem sp_tl1_e {V : mv_M} {P : Nat → Nat → List Int} {k c : Nat} {M : mv_M} (h : sp_tl1 V P k c M) (hc : (c : Int) = V 0 8) : sp_tl1 V P (k + 1) 0 M := by
  obtain ⟨b, d⟩ := h
  refine ⟨fun x u hx hu => ?_, fun x hx => absurd hx (by omega)⟩
  by_cases q : u = k
  · rw [q]; exact d x (by omega)
  · exact b x u hx (by omega)
theorem sp_crl1 {V M0 : mv_M} {P : Nat → Nat → List Int} {n : Int} {u d : Nat} {Q : mv_M → Prop} (hc : sp_c 30 M0 V) (ho : sp_ok V) (hl : V 0 11 < n) (hn : n ≤ 6) (hP : sp_cts M0 P n) (h60 : M0 60 8 = V 0 8) (hu9 : (u : Int) < V 0 9) :
    ∀ (r c : Nat) (M : mv_M), (c : Int) + r = V 0 8 → mv_ag [36, 37, 62] M0 M → sp_tl1 V P u c M →
      (∀ (c : Nat) (M2 : mv_M), mv_ag [36, 37, 62] M0 M2 → sp_tl1 V P (u + 1) 0 M2 → mv_Ru (d + 5) 28 43 [mv_R 60, mv_R 30, mv_I (u : Int), mv_I (c : Int)] [] M2 mv_U Q) → mv_Ru (d + 5) 28 12 [mv_R 60, mv_R 30, mv_I (u : Int), mv_I (c : Int)] [] M mv_U Q := by
  have h8 := sp_ok_s8 ho
  have h9 := sp_ok_s9 ho
  intro r
  induction r with
  | zero =>
    intro c M hk hag ht e
    have e8 : M 60 8 = (c : Int) := by rw [hag 60 (by decide), h60]; omega
    refine mv_go' 3 (pc' := 17) (ls' := [mv_R 60, mv_R 30, mv_I (u : Int), mv_I (c : Int)]) (st' := [mv_I (M 60 8), mv_I (c : Int)]) (M1 := M) rfl ?_
    rw [show M 60 8 = (c : Int) from by exact e8]
    refine mv_go' 1 (pc' := if (c : Int) < (c : Int) then 20 else 43) (ls' := [mv_R 60, mv_R 30, mv_I (u : Int), mv_I (c : Int)]) (st' := []) (M1 := M) rfl ?_
    refine mv_ff' (by omega) ?_
    exact e c M hag (sp_tl1_e ht (by omega))
  | succ r ih =>
    intro c M hk hag ht e
    have e8 : M 60 8 = V 0 8 := by rw [hag 60 (by decide), h60]
    refine mv_go' 3 (pc' := 17) (ls' := [mv_R 60, mv_R 30, mv_I (u : Int), mv_I (c : Int)]) (st' := [mv_I (M 60 8), mv_I (c : Int)]) (M1 := M) rfl ?_
    rw [show M 60 8 = V 0 8 from by exact e8]
    refine mv_go' 1 (pc' := if (c : Int) < (V 0 8) then 20 else 43) (ls' := [mv_R 60, mv_R 30, mv_I (u : Int), mv_I (c : Int)]) (st' := []) (M1 := M) rfl ?_
    refine mv_tt' (by omega) ?_
    refine mv_go' 10 (pc' := 33) (ls' := [mv_R 60, mv_R 30, mv_I (u : Int), mv_I (c : Int)]) (st' := [mv_I (u : Int), mv_I (c : Int), mv_R 30, mv_I (mv_w ((mv_w ((c : Int) * 6)) + (u : Int))), mv_R 62]) (M1 := M) rfl ?_
    rw [show mv_w ((c : Int) * 6) = (c : Int) * 6 from mv_w_id (by omega) (by omega)]
    rw [show mv_w (((c : Int) * 6) + (u : Int)) = ((c : Int) * 6) + (u : Int) from mv_w_id (by omega) (by omega)]
    rw [show ((c : Int) * 6) + (u : Int) = ((6 * c + u : Nat) : Int) from by omega]
    refine mv_call (st2 := [mv_I (sp_likes V P c u), mv_I ((6 * c + u : Nat) : Int), mv_R 62]) rfl (Or.inl rfl) rfl rfl rfl (sp_clikes_30 (c := c) (u := u) (sp_c_ag hc hag (by decide)) ho hl hn (sp_cts_ag hP hag hn (fun i h1 h2 => by simp only [List.mem_cons, List.not_mem_nil, or_false]; omega)) (by omega) (by omega)) (by first | decide | omega) (fun Ma1 hm2 => ?_)
    have hx := hm2
    refine mv_go' 1 (pc' := if 0 ≤ ((6 * c + u : Nat) : Int) ∧ ((6 * c + u : Nat) : Int) < 36 then 37 else mv_bad) (ls' := [mv_R 60, mv_R 30, mv_I (u : Int), mv_I (c : Int)]) (st' := []) (M1 := (mv_st Ma1 62 (mv_up (Ma1 62) (6 * c + u) (sp_likes V P c u)))) rfl ?_
    refine mv_tt' (by omega) ?_
    refine mv_go' 2 (pc' := 12) (ls' := [mv_R 60, mv_R 30, mv_I (u : Int), mv_I (mv_w ((c : Int) + 1))]) (st' := []) (M1 := (mv_st Ma1 62 (mv_up (Ma1 62) (6 * c + u) (sp_likes V P c u)))) rfl ?_
    rw [show mv_w ((c : Int) + 1) = (c : Int) + 1 from mv_w_id (by omega) (by omega)]
    rw [show (c : Int) + 1 = ((c + 1 : Nat) : Int) from by omega]
    exact ih (c + 1) _ (by omega) ((hag.tr (hx.wd (by decide))).st (by decide)) (sp_tl1_s ht (by omega) h8.2 (by omega) (by show mv_up (Ma1 62) (6 * c + u) _ = _; rw [hx 62 (by decide)])) e
theorem sp_crl2 {V M0 : mv_M} {P : Nat → Nat → List Int} {n : Int} {d : Nat} (hc : sp_c 30 M0 V) (ho : sp_ok V) (hl : V 0 11 < n) (hn : n ≤ 6) (hP : sp_cts M0 P n) (h60 : M0 60 8 = V 0 8 ∧ M0 60 9 = V 0 9) :
    ∀ (r u : Nat) (M : mv_M) (l3 : mv_V), (u : Int) + r = V 0 9 → mv_ag [36, 37, 62] M0 M → sp_tl1 V P u 0 M → mv_isL l3 = false → mv_Ru (d + 5) 28 2 [mv_R 60, mv_R 30, mv_I (u : Int), l3] [] M mv_U (fun M1 => mv_ag [36, 37, 62] M0 M1 ∧ sp_tl V P M1) := by
  have h8 := sp_ok_s8 ho
  have h9 := sp_ok_s9 ho
  intro r
  induction r with
  | zero =>
    intro u M l3 hk hag ht h3
    have e9 : M 60 9 = (u : Int) := by rw [hag 60 (by decide), h60.2]; omega
    refine mv_go' 3 (pc' := 7) (ls' := [mv_R 60, mv_R 30, mv_I (u : Int), l3]) (st' := [mv_I (M 60 9), mv_I (u : Int)]) (M1 := M) rfl ?_
    rw [show M 60 9 = (u : Int) from by exact e9]
    refine mv_go' 1 (pc' := if (u : Int) < (u : Int) then 10 else 49) (ls' := [mv_R 60, mv_R 30, mv_I (u : Int), l3]) (st' := []) (M1 := M) rfl ?_
    refine mv_ff' (by omega) ?_
    exact mv_ret (fun n => rfl) ⟨hag, fun c v hc hv => ht.1 c v hc (by omega)⟩
  | succ r ih =>
    intro u M l3 hk hag ht h3
    have e9 : M 60 9 = V 0 9 := by rw [hag 60 (by decide), h60.2]
    refine mv_go' 3 (pc' := 7) (ls' := [mv_R 60, mv_R 30, mv_I (u : Int), l3]) (st' := [mv_I (M 60 9), mv_I (u : Int)]) (M1 := M) rfl ?_
    rw [show M 60 9 = V 0 9 from by exact e9]
    refine mv_go' 1 (pc' := if (u : Int) < (V 0 9) then 10 else 49) (ls' := [mv_R 60, mv_R 30, mv_I (u : Int), l3]) (st' := []) (M1 := M) rfl ?_
    refine mv_tt' (by omega) ?_
    refine mv_go' 2 (pc' := 12) (ls' := [mv_R 60, mv_R 30, mv_I (u : Int), mv_I 0]) (st' := []) (M1 := M) rfl ?_
    refine sp_crl1 hc ho hl hn hP h60.1 (by omega) (V 0 8).toNat 0 _ (by omega) hag ⟨ht.1, fun x hx => absurd hx (by omega)⟩ (fun c2 M2 q1 q3 => ?_)
    refine mv_go' 2 (pc' := 2) (ls' := [mv_R 60, mv_R 30, mv_I (mv_w ((u : Int) + 1)), mv_I (c2 : Int)]) (st' := []) (M1 := M2) rfl ?_
    rw [show mv_w ((u : Int) + 1) = (u : Int) + 1 from mv_w_id (by omega) (by omega)]
    rw [show (u : Int) + 1 = ((u + 1 : Nat) : Int) from by omega]
    exact ih (u + 1) M2 _ (by omega) q1 q3 rfl
theorem sp_crl {V M0 : mv_M} {P : Nat → Nat → List Int} {n : Int} (hc : sp_c 30 M0 V) (ho : sp_ok V) (hl : V 0 11 < n) (hn : n ≤ 6) (hP : sp_cts M0 P n) (h60 : M0 60 8 = V 0 8 ∧ M0 60 9 = V 0 9) : mv_Ru 5 28 0 [mv_R 60, mv_R 30, mv_U, mv_U] [] M0 mv_U (fun M1 => mv_ag [36, 37, 62] M0 M1 ∧ sp_tl V P M1) := by
  have h9 := sp_ok_s9 ho
  refine mv_go' 2 (pc' := 2) (ls' := [mv_R 60, mv_R 30, mv_I 0, mv_U]) (st' := []) (M1 := M0) rfl ?_
  exact sp_crl2 (d := 0) hc ho hl hn hP h60 (V 0 9).toNat 0 M0 mv_U (by omega) mv_ag.rf ⟨fun x u _ hu => absurd hu (by omega), fun x hx => absurd hx (by omega)⟩ rfl
/-! the least liked: as the class and as the model looks for it -/
def sp_ll (L : Nat → Int) (row : Nat → Int) (u : Int) (one : Nat) : Nat → Nat
  | 0 => one
  | k + 1 => if row k = u ∧ (L k < L (sp_ll L row u one k) ∨ (L k = L (sp_ll L row u one k) ∧ sp_ll L row u one k < k)) then k else sp_ll L row u one k
theorem sp_ll_b (L row : Nat → Int) (u : Int) {one n : Nat} (h1 : one < n) (hr : row one = u) : ∀ k : Nat, k ≤ n → (sp_ll L row u one k < n ∧ row (sp_ll L row u one k) = u) ∧ ∀ d, (d < k ∨ d = one) → row d = u → (L (sp_ll L row u one k) < L d ∨ (L (sp_ll L row u one k) = L d ∧ d ≤ sp_ll L row u one k))
  | 0, _ => ⟨⟨h1, hr⟩, fun d hd _ => by
      have e : d = one := by omega
      subst e
      exact Or.inr ⟨rfl, Nat.le_refl _⟩⟩
  | k + 1, hk => by
    obtain ⟨⟨a, b⟩, c⟩ := sp_ll_b L row u h1 hr k (by omega)
    simp only [sp_ll]
    by_cases q : row k = u ∧ (L k < L (sp_ll L row u one k) ∨ (L k = L (sp_ll L row u one k) ∧ sp_ll L row u one k < k))
    · rw [if_pos q]
      refine ⟨⟨by omega, q.1⟩, fun d hd hdu => ?_⟩
      by_cases q2 : d = k
      · subst q2; exact Or.inr ⟨rfl, Nat.le_refl _⟩
      · have := c d (by omega) hdu
        omega
    · rw [if_neg q]
      refine ⟨⟨a, b⟩, fun d hd hdu => ?_⟩
      by_cases q2 : d = k
      · subst q2
        by_cases q3 : d = one
        · exact c d (Or.inr q3) hdu
        · have : ¬ (L d < L (sp_ll L row u one d) ∨ (L d = L (sp_ll L row u one d) ∧ sp_ll L row u one d < d)) := fun z => q ⟨hdu, z⟩
          omega
      · exact c d (by omega) hdu
def sp_wr (L : Nat → Int) (row : Nat → Int) (u : Int) : Nat → Int
  | 0 => -1
  | k + 1 => if row k = u then (if sp_wr L row u k = -1 ∨ L k ≤ L (sp_wr L row u k).toNat then (k : Int) else sp_wr L row u k) else sp_wr L row u k
theorem sp_wr_b (L row : Nat → Int) (u : Int) : ∀ k : Nat, (sp_wr L row u k = -1 ∧ ∀ d, d < k → row d ≠ u) ∨ ∃ w : Nat, sp_wr L row u k = (w : Int) ∧ (w < k ∧ row w = u) ∧ ∀ d, d < k → row d = u → (L w < L d ∨ (L w = L d ∧ d ≤ w))
  | 0 => Or.inl ⟨rfl, fun d hd => absurd hd (by omega)⟩
  | k + 1 => by
    have h := sp_wr_b L row u k
    simp only [sp_wr]
    by_cases q : row k = u
    · rw [if_pos q]
      rcases h with ⟨h1, h2⟩ | ⟨w, h1, h2, h3⟩
      · rw [if_pos (Or.inl h1)]
        refine Or.inr ⟨k, rfl, ⟨by omega, q⟩, fun d hd hdu => ?_⟩
        by_cases q2 : d = k
        · subst q2; exact Or.inr ⟨rfl, Nat.le_refl _⟩
        · exact absurd hdu (h2 d (by omega))
      · rw [h1, Int.toNat_natCast]
        by_cases q3 : L k ≤ L w
        · rw [if_pos (Or.inr q3)]
          refine Or.inr ⟨k, rfl, ⟨by omega, q⟩, fun d hd hdu => ?_⟩
          by_cases q2 : d = k
          · subst q2; exact Or.inr ⟨rfl, Nat.le_refl _⟩
          · have := h3 d (by omega) hdu
            omega
        · rw [if_neg (by omega)]
          refine Or.inr ⟨w, rfl, ⟨by omega, h2.2⟩, fun d hd hdu => ?_⟩
          by_cases q2 : d = k
          · subst q2; omega
          · exact h3 d (by omega) hdu
    · rw [if_neg q]
      rcases h with ⟨h1, h2⟩ | ⟨w, h1, h2, h3⟩
      · refine Or.inl ⟨h1, fun d hd => ?_⟩
        by_cases q2 : d = k
        · rw [q2]; exact q
        · exact h2 d (by omega)
      · refine Or.inr ⟨w, h1, ⟨by omega, h2.2⟩, fun d hd hdu => ?_⟩
        by_cases q2 : d = k
        · rw [q2] at hdu; exact absurd hdu q
        · exact h3 d (by omega) hdu
theorem sp_ll_wr (L row : Nat → Int) (u : Int) {one n : Nat} (h1 : one < n) (hr : row one = u) : sp_wr L row u n = (sp_ll L row u one n : Int) := by
  obtain ⟨⟨a, b⟩, c⟩ := sp_ll_b L row u h1 hr n (Nat.le_refl _)
  rcases sp_wr_b L row u n with ⟨_, h2⟩ | ⟨w, e, ⟨w1, w2⟩, w3⟩
  · exact absurd hr (h2 one h1)
  · have x := c w (Or.inl w1) w2
    have y := w3 _ a b
    rw [e]
    omega
