/-! the model's words -/
def sp_pm (k : Nat) : Nat := if k < 3 then k else if k < 9 then k + 3 else k - 6
def sp_pi (w : Nat) : Nat := if w < 3 then w else if w < 6 then w + 6 else if w < 12 then w - 3 else 12
def sp_pch (k c : Nat) : Int := mv_nn 32 (sp_wl (sp_pm k)) c
theorem sp_at_n {f : Nat → Int} {d : Int} : ∀ {i : Nat} {l : List Int}, sp_at f i l → ∀ j, j < l.length → f (i + j) = mv_nn d l j
  | _, [], _, j, hj => absurd hj (by simp)
  | i, x :: r, h, 0, _ => h.1
  | i, x :: r, h, j + 1, hj => by
    have := sp_at_n (d := d) h.2 j (by simpa using hj)
    rw [show i + (j + 1) = i + 1 + j from by omega, this]
    rfl
theorem sp_at_o {f : Nat → Int} {d : Int} : ∀ {i : Nat} {l : List Int}, (∀ j, j < l.length → f (i + j) = mv_nn d l j) → sp_at f i l
  | _, [], _ => trivial
  | i, x :: r, h => ⟨h 0 (by simp), sp_at_o (d := d) (fun j hj => by
      have := h (j + 1) (by simpa using hj)
      rw [show i + 1 + j = i + (j + 1) from by omega, this]
      rfl)⟩
theorem sp_pch_d : ∀ k : Fin 12, ∀ c : Fin 8, mv_nn 0 sp_words (8 * (k : Nat) + (c : Nat)) = sp_pch k c := by decide +kernel
theorem sp_pch_l : ∀ k : Fin 12, (sp_wl (sp_pm k)).length ≤ 5 ∧ ∀ c : Fin 8, ((c : Nat) < (sp_wl (sp_pm k)).length → sp_pch k c ≠ 32) ∧ ((sp_wl (sp_pm k)).length ≤ (c : Nat) → sp_pch k c = 32) := by decide +kernel
def sp_lkb (f : Nat → Int) (q e k : Nat) : Nat → Nat → Bool
  | 0, _ => true
  | r + 1, c => if sp_pch k c = (if q + c < e then f (q + c) else 32) then sp_lkb f q e k r (c + 1) else false
theorem sp_lkb_t {f : Nat → Int} {q e k : Nat} : ∀ r c : Nat, sp_lkb f q e k r c = true ↔ ∀ j, c ≤ j → j < c + r → sp_pch k j = (if q + j < e then f (q + j) else 32)
  | 0, c => ⟨fun _ j h1 h2 => absurd h2 (by omega), fun _ => rfl⟩
  | r + 1, c => by
    have ih := sp_lkb_t (f := f) (q := q) (e := e) (k := k) r (c + 1)
    rw [sp_lkb]
    by_cases z : sp_pch k c = (if q + c < e then f (q + c) else 32)
    · rw [if_pos z, ih]
      constructor
      · intro h j h1 h2
        by_cases z2 : j = c
        · rw [z2]; exact z
        · exact h j (by omega) (by omega)
      · intro h j h1 h2
        exact h j (by omega) (by omega)
    · rw [if_neg z]
      constructor
      · intro h; cases h
      · intro h; exact absurd (h c (Nat.le_refl _) (by omega)) z
theorem sp_lkb_w {f : Nat → Int} {q e k : Nat} (hk : k < 12) (hq : q ≤ e) (hl : ∀ j, q ≤ j → j < e → sp_isL (f j) = true) : (e ≤ q + 8 ∧ sp_lkb f q e k 8 0 = true) ↔ sp_wm (sp_pm k) f q e := by
  obtain ⟨h5, hc⟩ := sp_pch_l ⟨k, hk⟩
  have hc2 : ∀ c, c < 8 → (c < (sp_wl (sp_pm k)).length → sp_pch k c ≠ 32) ∧ ((sp_wl (sp_pm k)).length ≤ c → sp_pch k c = 32) := fun c h => hc ⟨c, h⟩
  have h5 : (sp_wl (sp_pm k)).length ≤ 5 := h5
  clear hc
  obtain ⟨n, hn⟩ : ∃ n, n = (sp_wl (sp_pm k)).length := ⟨_, rfl⟩
  rw [← hn] at h5 hc2
  unfold sp_wm
  rw [← hn, sp_lkb_t]
  constructor
  · rintro ⟨h8, h⟩
    have en : e = q + n := by
      rcases Nat.lt_trichotomy e (q + n) with z | z | z
      · have h1 := h (e - q) (by omega) (by omega)
        rw [if_neg (by omega)] at h1
        exact absurd h1 ((hc2 (e - q) (by omega)).1 (by omega))
      · exact z
      · have h1 := h n (by omega) (by omega)
        rw [if_pos z, (hc2 n (by omega)).2 (Nat.le_refl _)] at h1
        have h2 := sp_isL_t.1 (hl (q + n) (by omega) z)
        omega
    refine ⟨en, sp_at_o (d := 32) (fun j hj => ?_)⟩
    have h1 := h j (by omega) (by omega)
    rw [if_pos (by omega)] at h1
    exact h1.symm
  · rintro ⟨en, h⟩
    refine ⟨by omega, fun j h1 h2 => ?_⟩
    by_cases z : j < n
    · rw [if_pos (by omega), sp_at_n (d := 32) h j (by omega)]
      rfl
    · rw [if_neg (by omega), (hc2 j (by omega)).2 (by omega)]
def sp_wfk (f : Nat → Int) (q e : Nat) : Nat → Nat → Nat
  | 0, _ => 12
  | r + 1, k => if e ≤ q + 8 ∧ sp_lkb f q e k 8 0 = true then k else sp_wfk f q e r (k + 1)
theorem sp_pm_d : ∀ k : Fin 12, sp_pi (sp_pm k) = k ∧ sp_pm k < 12 ∧ sp_pi k < 12 ∧ sp_pm (sp_pi k) = k := by decide
theorem sp_wfk_e {f : Nat → Int} {q e : Nat} (hq : q ≤ e) (hl : ∀ j, q ≤ j → j < e → sp_isL (f j) = true) : ∀ r k : Nat, k + r = 12 → (∀ j, j < k → ¬ sp_wm (sp_pm j) f q e) → sp_wfk f q e r k = sp_pi (sp_word f q e)
  | 0, k, hk, h => by
    have : sp_word f q e = 12 := sp_word_n (fun w hw z => h (sp_pi w) (by have := (sp_pm_d ⟨w, hw⟩).2.2.1; show sp_pi w < k; have : sp_pi w < 12 := this; omega) (by rw [(sp_pm_d ⟨w, hw⟩).2.2.2]; exact z))
    rw [this]
    rfl
  | r + 1, k, hk, h => by
    have hw := sp_lkb_w (k := k) (by omega) hq hl
    rw [sp_wfk]
    by_cases z : e ≤ q + 8 ∧ sp_lkb f q e k 8 0 = true
    · rw [if_pos z, sp_word_e (sp_pm_d ⟨k, by omega⟩).2.1 (hw.1 z)]
      exact (sp_pm_d ⟨k, by omega⟩).1.symm
    · rw [if_neg z]
      refine sp_wfk_e hq hl r (k + 1) (by omega) (fun j hj => ?_)
      by_cases z2 : j = k
      · rw [z2]; exact fun z3 => z (hw.2 z3)
      · exact h j (by omega)
theorem sp_wd_e {M : mv_M} (hw : sp_at (M 125) 0 sp_words) {k c : Nat} (hk : k < 12) (hc : c < 8) : M 125 (8 * k + c) = sp_pch k c := by
  have := sp_at_n (d := 0) hw (8 * k + c) (by show 8 * k + c < 96; omega)
  rw [Nat.zero_add] at this
  rw [this]
  exact sp_pch_d ⟨k, hk⟩ ⟨c, hc⟩
theorem sp_mwf1 {M : mv_M} {q e k d : Nat} {w : mv_V} {Q : mv_M → Prop} (hk : k < 12) (hq : q ≤ e) (he : e ≤ 160) (hw : sp_at (M 125) 0 sp_words) :
    ∀ (r c : Nat), c + r = 8 → (∀ c2 : Int, mv_Ru d 126 88 [mv_R 100, mv_I (q : Int), mv_I (e : Int), mv_I (k : Int), mv_I (if sp_lkb (M 108) q e k r c = true then 1 else 0), mv_I c2] [] M w Q) → mv_Ru d 126 26 [mv_R 100, mv_I (q : Int), mv_I (e : Int), mv_I (k : Int), mv_I 1, mv_I (c : Int)] [] M w Q := by
  intro r
  induction r with
  | zero =>
    intro c hc hQ
    refine mv_go' 3 (pc' := if (c : Int) < 8 then 33 else 88) (ls' := [mv_R 100, mv_I (q : Int), mv_I (e : Int), mv_I (k : Int), mv_I 1, mv_I (c : Int)]) (st' := []) (M1 := M) rfl ?_
    refine mv_ff' (by omega) ?_
    exact hQ (c : Int)
  | succ r ih =>
    intro c hc hQ
    have ew := sp_wd_e hw hk (show c < 8 by omega)
    rw [sp_lkb] at hQ
    by_cases z1 : q + c < e
    · rw [if_pos z1] at hQ
      obtain ⟨x, hx⟩ : ∃ x, M 108 (c + q) = x := ⟨_, rfl⟩
      rw [Nat.add_comm q c, hx] at hQ
      by_cases z : sp_pch k c = x
      · rw [if_pos z] at hQ
        refine mv_go' 3 (pc' := if (c : Int) < 8 then 33 else 88) (ls' := [mv_R 100, mv_I (q : Int), mv_I (e : Int), mv_I (k : Int), mv_I 1, mv_I (c : Int)]) (st' := []) (M1 := M) rfl ?_
        refine mv_tt' (by omega) ?_
        refine mv_go' 2 (pc' := if 1 = 0 then 88 else 38) (ls' := [mv_R 100, mv_I (q : Int), mv_I (e : Int), mv_I (k : Int), mv_I 1, mv_I (c : Int)]) (st' := []) (M1 := M) rfl ?_
        refine mv_ff' (by first | decide | omega) ?_
        refine mv_go' 7 (pc' := 49) (ls' := [mv_R 100, mv_I (q : Int), mv_I (e : Int), mv_I (k : Int), mv_I 1, mv_I (c : Int)]) (st' := [mv_I (mv_w ((mv_w (8 * (k : Int))) + (c : Int))), mv_R 125]) (M1 := M) rfl ?_
        rw [show mv_w ((mv_w (8 * (k : Int))) + (c : Int)) = ((8 * k + c : Nat) : Int) from by (rw [show mv_w (8 * (k : Int)) = 8 * (k : Int) from mv_w_id (by omega) (by omega), show mv_w ((8 * (k : Int)) + (c : Int)) = (8 * (k : Int)) + (c : Int) from mv_w_id (by omega) (by omega)]) <;> omega]
        refine mv_go' 1 (pc' := if 0 ≤ ((8 * k + c : Nat) : Int) ∧ ((8 * k + c : Nat) : Int) < 96 then 50 else mv_bad) (ls' := [mv_R 100, mv_I (q : Int), mv_I (e : Int), mv_I (k : Int), mv_I 1, mv_I (c : Int)]) (st' := [mv_I (M 125 (8 * k + c))]) (M1 := M) rfl ?_
        refine mv_tt' (by omega) ?_
        rw [show M 125 (8 * k + c) = sp_pch k c from by exact ew]
        refine mv_go' 5 (pc' := if (mv_w ((q : Int) + (c : Int))) < (e : Int) then 58 else 70) (ls' := [mv_R 100, mv_I (q : Int), mv_I (e : Int), mv_I (k : Int), mv_I 1, mv_I (c : Int)]) (st' := [mv_I (sp_pch k c)]) (M1 := M) rfl ?_
        rw [show mv_w ((q : Int) + (c : Int)) = (q : Int) + (c : Int) from mv_w_id (by omega) (by omega)]
        refine mv_tt' (by omega) ?_
        refine mv_go' 5 (pc' := 66) (ls' := [mv_R 100, mv_I (q : Int), mv_I (e : Int), mv_I (k : Int), mv_I 1, mv_I (c : Int)]) (st' := [mv_I (mv_w ((q : Int) + (c : Int))), mv_R 108, mv_I (sp_pch k c)]) (M1 := M) rfl ?_
        rw [show mv_w ((q : Int) + (c : Int)) = ((c + q : Nat) : Int) from by (rw [show mv_w ((q : Int) + (c : Int)) = (q : Int) + (c : Int) from mv_w_id (by omega) (by omega)]) <;> omega]
        refine mv_go' 1 (pc' := if 0 ≤ ((c + q : Nat) : Int) ∧ ((c + q : Nat) : Int) < 160 then 67 else mv_bad) (ls' := [mv_R 100, mv_I (q : Int), mv_I (e : Int), mv_I (k : Int), mv_I 1, mv_I (c : Int)]) (st' := [mv_I (M 108 (c + q)), mv_I (sp_pch k c)]) (M1 := M) rfl ?_
        refine mv_tt' (by omega) ?_
        rw [show M 108 (c + q) = x from by exact hx]
        refine mv_go' 2 (pc' := if (sp_pch k c) = x then 75 else 79) (ls' := [mv_R 100, mv_I (q : Int), mv_I (e : Int), mv_I (k : Int), mv_I 1, mv_I (c : Int)]) (st' := []) (M1 := M) rfl ?_
        refine mv_tt' (by omega) ?_
        refine mv_go' 5 (pc' := 26) (ls' := [mv_R 100, mv_I (q : Int), mv_I (e : Int), mv_I (k : Int), mv_I 1, mv_I (mv_w ((c : Int) + 1))]) (st' := []) (M1 := M) rfl ?_
        rw [show mv_w ((c : Int) + 1) = (c : Int) + 1 from mv_w_id (by omega) (by omega)]
        rw [show (c : Int) + 1 = ((c + 1 : Nat) : Int) from by omega]
        exact ih (c + 1) (by omega) hQ
      · rw [if_neg z] at hQ
        refine mv_go' 3 (pc' := if (c : Int) < 8 then 33 else 88) (ls' := [mv_R 100, mv_I (q : Int), mv_I (e : Int), mv_I (k : Int), mv_I 1, mv_I (c : Int)]) (st' := []) (M1 := M) rfl ?_
        refine mv_tt' (by omega) ?_
        refine mv_go' 2 (pc' := if 1 = 0 then 88 else 38) (ls' := [mv_R 100, mv_I (q : Int), mv_I (e : Int), mv_I (k : Int), mv_I 1, mv_I (c : Int)]) (st' := []) (M1 := M) rfl ?_
        refine mv_ff' (by first | decide | omega) ?_
        refine mv_go' 7 (pc' := 49) (ls' := [mv_R 100, mv_I (q : Int), mv_I (e : Int), mv_I (k : Int), mv_I 1, mv_I (c : Int)]) (st' := [mv_I (mv_w ((mv_w (8 * (k : Int))) + (c : Int))), mv_R 125]) (M1 := M) rfl ?_
        rw [show mv_w ((mv_w (8 * (k : Int))) + (c : Int)) = ((8 * k + c : Nat) : Int) from by (rw [show mv_w (8 * (k : Int)) = 8 * (k : Int) from mv_w_id (by omega) (by omega), show mv_w ((8 * (k : Int)) + (c : Int)) = (8 * (k : Int)) + (c : Int) from mv_w_id (by omega) (by omega)]) <;> omega]
        refine mv_go' 1 (pc' := if 0 ≤ ((8 * k + c : Nat) : Int) ∧ ((8 * k + c : Nat) : Int) < 96 then 50 else mv_bad) (ls' := [mv_R 100, mv_I (q : Int), mv_I (e : Int), mv_I (k : Int), mv_I 1, mv_I (c : Int)]) (st' := [mv_I (M 125 (8 * k + c))]) (M1 := M) rfl ?_
        refine mv_tt' (by omega) ?_
        rw [show M 125 (8 * k + c) = sp_pch k c from by exact ew]
        refine mv_go' 5 (pc' := if (mv_w ((q : Int) + (c : Int))) < (e : Int) then 58 else 70) (ls' := [mv_R 100, mv_I (q : Int), mv_I (e : Int), mv_I (k : Int), mv_I 1, mv_I (c : Int)]) (st' := [mv_I (sp_pch k c)]) (M1 := M) rfl ?_
        rw [show mv_w ((q : Int) + (c : Int)) = (q : Int) + (c : Int) from mv_w_id (by omega) (by omega)]
        refine mv_tt' (by omega) ?_
        refine mv_go' 5 (pc' := 66) (ls' := [mv_R 100, mv_I (q : Int), mv_I (e : Int), mv_I (k : Int), mv_I 1, mv_I (c : Int)]) (st' := [mv_I (mv_w ((q : Int) + (c : Int))), mv_R 108, mv_I (sp_pch k c)]) (M1 := M) rfl ?_
        rw [show mv_w ((q : Int) + (c : Int)) = ((c + q : Nat) : Int) from by (rw [show mv_w ((q : Int) + (c : Int)) = (q : Int) + (c : Int) from mv_w_id (by omega) (by omega)]) <;> omega]
        refine mv_go' 1 (pc' := if 0 ≤ ((c + q : Nat) : Int) ∧ ((c + q : Nat) : Int) < 160 then 67 else mv_bad) (ls' := [mv_R 100, mv_I (q : Int), mv_I (e : Int), mv_I (k : Int), mv_I 1, mv_I (c : Int)]) (st' := [mv_I (M 108 (c + q)), mv_I (sp_pch k c)]) (M1 := M) rfl ?_
        refine mv_tt' (by omega) ?_
        rw [show M 108 (c + q) = x from by exact hx]
        refine mv_go' 2 (pc' := if (sp_pch k c) = x then 75 else 79) (ls' := [mv_R 100, mv_I (q : Int), mv_I (e : Int), mv_I (k : Int), mv_I 1, mv_I (c : Int)]) (st' := []) (M1 := M) rfl ?_
        refine mv_ff' (by omega) ?_
        refine mv_go' 7 (pc' := if (mv_w ((c : Int) + 1)) < 8 then 33 else 88) (ls' := [mv_R 100, mv_I (q : Int), mv_I (e : Int), mv_I (k : Int), mv_I 0, mv_I (mv_w ((c : Int) + 1))]) (st' := []) (M1 := M) rfl ?_
        rw [show mv_w ((c : Int) + 1) = (c : Int) + 1 from mv_w_id (by omega) (by omega)]
        rw [show (c : Int) + 1 = ((c + 1 : Nat) : Int) from by omega]
        refine mv_sp' (fun ha1 => ?_) (fun ha1 => ?_)
        · refine mv_go' 2 (pc' := if 0 = 0 then 88 else 38) (ls' := [mv_R 100, mv_I (q : Int), mv_I (e : Int), mv_I (k : Int), mv_I 0, mv_I ((c + 1 : Nat) : Int)]) (st' := []) (M1 := M) rfl ?_
          refine mv_tt' (by first | decide | omega) ?_
          exact hQ _
        · exact hQ _
    · rw [if_neg z1] at hQ
      by_cases z : sp_pch k c = 32
      · rw [if_pos z] at hQ
        refine mv_go' 3 (pc' := if (c : Int) < 8 then 33 else 88) (ls' := [mv_R 100, mv_I (q : Int), mv_I (e : Int), mv_I (k : Int), mv_I 1, mv_I (c : Int)]) (st' := []) (M1 := M) rfl ?_
        refine mv_tt' (by omega) ?_
        refine mv_go' 2 (pc' := if 1 = 0 then 88 else 38) (ls' := [mv_R 100, mv_I (q : Int), mv_I (e : Int), mv_I (k : Int), mv_I 1, mv_I (c : Int)]) (st' := []) (M1 := M) rfl ?_
        refine mv_ff' (by first | decide | omega) ?_
        refine mv_go' 7 (pc' := 49) (ls' := [mv_R 100, mv_I (q : Int), mv_I (e : Int), mv_I (k : Int), mv_I 1, mv_I (c : Int)]) (st' := [mv_I (mv_w ((mv_w (8 * (k : Int))) + (c : Int))), mv_R 125]) (M1 := M) rfl ?_
        rw [show mv_w ((mv_w (8 * (k : Int))) + (c : Int)) = ((8 * k + c : Nat) : Int) from by (rw [show mv_w (8 * (k : Int)) = 8 * (k : Int) from mv_w_id (by omega) (by omega), show mv_w ((8 * (k : Int)) + (c : Int)) = (8 * (k : Int)) + (c : Int) from mv_w_id (by omega) (by omega)]) <;> omega]
        refine mv_go' 1 (pc' := if 0 ≤ ((8 * k + c : Nat) : Int) ∧ ((8 * k + c : Nat) : Int) < 96 then 50 else mv_bad) (ls' := [mv_R 100, mv_I (q : Int), mv_I (e : Int), mv_I (k : Int), mv_I 1, mv_I (c : Int)]) (st' := [mv_I (M 125 (8 * k + c))]) (M1 := M) rfl ?_
        refine mv_tt' (by omega) ?_
        rw [show M 125 (8 * k + c) = sp_pch k c from by exact ew]
        refine mv_go' 5 (pc' := if (mv_w ((q : Int) + (c : Int))) < (e : Int) then 58 else 70) (ls' := [mv_R 100, mv_I (q : Int), mv_I (e : Int), mv_I (k : Int), mv_I 1, mv_I (c : Int)]) (st' := [mv_I (sp_pch k c)]) (M1 := M) rfl ?_
        rw [show mv_w ((q : Int) + (c : Int)) = (q : Int) + (c : Int) from mv_w_id (by omega) (by omega)]
        refine mv_ff' (by omega) ?_
        refine mv_go' 2 (pc' := if (sp_pch k c) = 32 then 75 else 79) (ls' := [mv_R 100, mv_I (q : Int), mv_I (e : Int), mv_I (k : Int), mv_I 1, mv_I (c : Int)]) (st' := []) (M1 := M) rfl ?_
        refine mv_tt' (by omega) ?_
        refine mv_go' 5 (pc' := 26) (ls' := [mv_R 100, mv_I (q : Int), mv_I (e : Int), mv_I (k : Int), mv_I 1, mv_I (mv_w ((c : Int) + 1))]) (st' := []) (M1 := M) rfl ?_
        rw [show mv_w ((c : Int) + 1) = (c : Int) + 1 from mv_w_id (by omega) (by omega)]
        rw [show (c : Int) + 1 = ((c + 1 : Nat) : Int) from by omega]
        exact ih (c + 1) (by omega) hQ
      · rw [if_neg z] at hQ
        refine mv_go' 3 (pc' := if (c : Int) < 8 then 33 else 88) (ls' := [mv_R 100, mv_I (q : Int), mv_I (e : Int), mv_I (k : Int), mv_I 1, mv_I (c : Int)]) (st' := []) (M1 := M) rfl ?_
        refine mv_tt' (by omega) ?_
        refine mv_go' 2 (pc' := if 1 = 0 then 88 else 38) (ls' := [mv_R 100, mv_I (q : Int), mv_I (e : Int), mv_I (k : Int), mv_I 1, mv_I (c : Int)]) (st' := []) (M1 := M) rfl ?_
        refine mv_ff' (by first | decide | omega) ?_
        refine mv_go' 7 (pc' := 49) (ls' := [mv_R 100, mv_I (q : Int), mv_I (e : Int), mv_I (k : Int), mv_I 1, mv_I (c : Int)]) (st' := [mv_I (mv_w ((mv_w (8 * (k : Int))) + (c : Int))), mv_R 125]) (M1 := M) rfl ?_
        rw [show mv_w ((mv_w (8 * (k : Int))) + (c : Int)) = ((8 * k + c : Nat) : Int) from by (rw [show mv_w (8 * (k : Int)) = 8 * (k : Int) from mv_w_id (by omega) (by omega), show mv_w ((8 * (k : Int)) + (c : Int)) = (8 * (k : Int)) + (c : Int) from mv_w_id (by omega) (by omega)]) <;> omega]
        refine mv_go' 1 (pc' := if 0 ≤ ((8 * k + c : Nat) : Int) ∧ ((8 * k + c : Nat) : Int) < 96 then 50 else mv_bad) (ls' := [mv_R 100, mv_I (q : Int), mv_I (e : Int), mv_I (k : Int), mv_I 1, mv_I (c : Int)]) (st' := [mv_I (M 125 (8 * k + c))]) (M1 := M) rfl ?_
        refine mv_tt' (by omega) ?_
        rw [show M 125 (8 * k + c) = sp_pch k c from by exact ew]
        refine mv_go' 5 (pc' := if (mv_w ((q : Int) + (c : Int))) < (e : Int) then 58 else 70) (ls' := [mv_R 100, mv_I (q : Int), mv_I (e : Int), mv_I (k : Int), mv_I 1, mv_I (c : Int)]) (st' := [mv_I (sp_pch k c)]) (M1 := M) rfl ?_
        rw [show mv_w ((q : Int) + (c : Int)) = (q : Int) + (c : Int) from mv_w_id (by omega) (by omega)]
        refine mv_ff' (by omega) ?_
        refine mv_go' 2 (pc' := if (sp_pch k c) = 32 then 75 else 79) (ls' := [mv_R 100, mv_I (q : Int), mv_I (e : Int), mv_I (k : Int), mv_I 1, mv_I (c : Int)]) (st' := []) (M1 := M) rfl ?_
        refine mv_ff' (by omega) ?_
        refine mv_go' 7 (pc' := if (mv_w ((c : Int) + 1)) < 8 then 33 else 88) (ls' := [mv_R 100, mv_I (q : Int), mv_I (e : Int), mv_I (k : Int), mv_I 0, mv_I (mv_w ((c : Int) + 1))]) (st' := []) (M1 := M) rfl ?_
        rw [show mv_w ((c : Int) + 1) = (c : Int) + 1 from mv_w_id (by omega) (by omega)]
        rw [show (c : Int) + 1 = ((c + 1 : Nat) : Int) from by omega]
        refine mv_sp' (fun ha2 => ?_) (fun ha2 => ?_)
        · refine mv_go' 2 (pc' := if 0 = 0 then 88 else 38) (ls' := [mv_R 100, mv_I (q : Int), mv_I (e : Int), mv_I (k : Int), mv_I 0, mv_I ((c + 1 : Nat) : Int)]) (st' := []) (M1 := M) rfl ?_
          refine mv_tt' (by first | decide | omega) ?_
          exact hQ _
        · exact hQ _
theorem sp_mwf2 {M : mv_M} {q e d : Nat} (hq : q ≤ e) (he : e ≤ 160) (hw : sp_at (M 125) 0 sp_words) :
    ∀ (r k : Nat) (l4 l5 : mv_V), k + r = 12 → mv_isL l4 = false → mv_isL l5 = false → mv_Ru d 126 2 [mv_R 100, mv_I (q : Int), mv_I (e : Int), mv_I (k : Int), l4, l5] [] M (mv_I (sp_wfk (M 108) q e r k : Int)) (fun M1 => M1 = M) := by
  intro r
  induction r with
  | zero =>
    intro k l4 l5 hk h4 h5
    refine mv_go' 3 (pc' := if (k : Int) < 12 then 8 else 101) (ls' := [mv_R 100, mv_I (q : Int), mv_I (e : Int), mv_I (k : Int), l4, l5]) (st' := []) (M1 := M) rfl ?_
    refine mv_ff' (by omega) ?_
    refine mv_go' 1 (pc' := 103) (ls' := [mv_R 100, mv_I (q : Int), mv_I (e : Int), mv_I (k : Int), l4, l5]) (st' := [mv_I 12]) (M1 := M) rfl ?_
    exact mv_ret (fun n => rfl) rfl
  | succ r ih =>
    intro k l4 l5 hk h4 h5
    rw [sp_wfk]
    by_cases z1 : e ≤ q + 8
    · by_cases z : sp_lkb (M 108) q e k 8 0 = true
      · rw [if_pos ⟨z1, z⟩]
        refine mv_go' 3 (pc' := if (k : Int) < 12 then 8 else 101) (ls' := [mv_R 100, mv_I (q : Int), mv_I (e : Int), mv_I (k : Int), l4, l5]) (st' := []) (M1 := M) rfl ?_
        refine mv_tt' (by omega) ?_
        refine mv_go' 5 (pc' := if 8 < (mv_w ((e : Int) - (q : Int))) then 20 else 16) (ls' := [mv_R 100, mv_I (q : Int), mv_I (e : Int), mv_I (k : Int), l4, l5]) (st' := []) (M1 := M) rfl ?_
        rw [show mv_w ((e : Int) - (q : Int)) = (e : Int) - (q : Int) from mv_w_id (by omega) (by omega)]
        refine mv_ff' (by omega) ?_
        refine mv_go' 5 (pc' := 26) (ls' := [mv_R 100, mv_I (q : Int), mv_I (e : Int), mv_I (k : Int), mv_I 1, mv_I 0]) (st' := []) (M1 := M) rfl ?_
        refine sp_mwf1 (by omega) hq he hw 8 0 rfl (fun c2 => ?_)
        rw [if_pos z]
        refine mv_go' 2 (pc' := if 1 = 0 then 95 else 93) (ls' := [mv_R 100, mv_I (q : Int), mv_I (e : Int), mv_I (k : Int), mv_I 1, mv_I c2]) (st' := []) (M1 := M) rfl ?_
        refine mv_ff' (by first | decide | omega) ?_
        refine mv_go' 1 (pc' := 94) (ls' := [mv_R 100, mv_I (q : Int), mv_I (e : Int), mv_I (k : Int), mv_I 1, mv_I c2]) (st' := [mv_I (k : Int)]) (M1 := M) rfl ?_
        exact mv_ret (fun n => rfl) rfl
      · rw [if_neg (fun y => z y.2)]
        refine mv_go' 3 (pc' := if (k : Int) < 12 then 8 else 101) (ls' := [mv_R 100, mv_I (q : Int), mv_I (e : Int), mv_I (k : Int), l4, l5]) (st' := []) (M1 := M) rfl ?_
        refine mv_tt' (by omega) ?_
        refine mv_go' 5 (pc' := if 8 < (mv_w ((e : Int) - (q : Int))) then 20 else 16) (ls' := [mv_R 100, mv_I (q : Int), mv_I (e : Int), mv_I (k : Int), l4, l5]) (st' := []) (M1 := M) rfl ?_
        rw [show mv_w ((e : Int) - (q : Int)) = (e : Int) - (q : Int) from mv_w_id (by omega) (by omega)]
        refine mv_ff' (by omega) ?_
        refine mv_go' 5 (pc' := 26) (ls' := [mv_R 100, mv_I (q : Int), mv_I (e : Int), mv_I (k : Int), mv_I 1, mv_I 0]) (st' := []) (M1 := M) rfl ?_
        refine sp_mwf1 (by omega) hq he hw 8 0 rfl (fun c2 => ?_)
        rw [if_neg z]
        refine mv_go' 2 (pc' := if 0 = 0 then 95 else 93) (ls' := [mv_R 100, mv_I (q : Int), mv_I (e : Int), mv_I (k : Int), mv_I 0, mv_I c2]) (st' := []) (M1 := M) rfl ?_
        refine mv_tt' (by first | decide | omega) ?_
        refine mv_go' 2 (pc' := 2) (ls' := [mv_R 100, mv_I (q : Int), mv_I (e : Int), mv_I (mv_w ((k : Int) + 1)), mv_I 0, mv_I c2]) (st' := []) (M1 := M) rfl ?_
        rw [show mv_w ((k : Int) + 1) = (k : Int) + 1 from mv_w_id (by omega) (by omega)]
        rw [show (k : Int) + 1 = ((k + 1 : Nat) : Int) from by omega]
        exact ih (k + 1) _ _ (by omega) rfl rfl
    · rw [if_neg (fun y => z1 y.1)]
      refine mv_go' 3 (pc' := if (k : Int) < 12 then 8 else 101) (ls' := [mv_R 100, mv_I (q : Int), mv_I (e : Int), mv_I (k : Int), l4, l5]) (st' := []) (M1 := M) rfl ?_
      refine mv_tt' (by omega) ?_
      refine mv_go' 5 (pc' := if 8 < (mv_w ((e : Int) - (q : Int))) then 20 else 16) (ls' := [mv_R 100, mv_I (q : Int), mv_I (e : Int), mv_I (k : Int), l4, l5]) (st' := []) (M1 := M) rfl ?_
      rw [show mv_w ((e : Int) - (q : Int)) = (e : Int) - (q : Int) from mv_w_id (by omega) (by omega)]
      refine mv_tt' (by omega) ?_
      refine mv_go' 7 (pc' := if 0 < 8 then 33 else 88) (ls' := [mv_R 100, mv_I (q : Int), mv_I (e : Int), mv_I (k : Int), mv_I 0, mv_I 0]) (st' := []) (M1 := M) rfl ?_
      refine mv_tt' (by first | decide | omega) ?_
      refine mv_go' 2 (pc' := if 0 = 0 then 88 else 38) (ls' := [mv_R 100, mv_I (q : Int), mv_I (e : Int), mv_I (k : Int), mv_I 0, mv_I 0]) (st' := []) (M1 := M) rfl ?_
      refine mv_tt' (by first | decide | omega) ?_
      refine mv_go' 2 (pc' := if 0 = 0 then 95 else 93) (ls' := [mv_R 100, mv_I (q : Int), mv_I (e : Int), mv_I (k : Int), mv_I 0, mv_I 0]) (st' := []) (M1 := M) rfl ?_
      refine mv_tt' (by first | decide | omega) ?_
      refine mv_go' 2 (pc' := 2) (ls' := [mv_R 100, mv_I (q : Int), mv_I (e : Int), mv_I (mv_w ((k : Int) + 1)), mv_I 0, mv_I 0]) (st' := []) (M1 := M) rfl ?_
      rw [show mv_w ((k : Int) + 1) = (k : Int) + 1 from mv_w_id (by omega) (by omega)]
      rw [show (k : Int) + 1 = ((k + 1 : Nat) : Int) from by omega]
      exact ih (k + 1) _ _ (by omega) rfl rfl
theorem sp_mwf {M : mv_M} {q e d : Nat} (hq : q ≤ e) (he : e ≤ 160) (hw : sp_at (M 125) 0 sp_words) (hl : ∀ j, q ≤ j → j < e → sp_isL (M 108 j) = true) : mv_Ru d 126 0 [mv_R 100, mv_I (q : Int), mv_I (e : Int), mv_U, mv_U, mv_U] [] M (mv_I (sp_pi (sp_word (M 108) q e) : Int)) (fun M1 => M1 = M) := by
  rw [← sp_wfk_e hq hl 12 0 rfl (fun j hj => absurd hj (by omega))]
  refine mv_go' 2 (pc' := 2) (ls' := [mv_R 100, mv_I (q : Int), mv_I (e : Int), mv_I 0, mv_U, mv_U]) (st' := []) (M1 := M) rfl ?_
  exact sp_mwf2 hq he hw 12 0 mv_U mv_U rfl rfl rfl
