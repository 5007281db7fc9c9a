/-! odds -/
theorem sp_wl_n {q : Nat} (h : q ≤ 60) : mv_wl (q : Int) = (q : Int) := mv_wl_id (by omega) (by omega)
theorem sp_w_n {q : Nat} (h : q ≤ 60) : mv_w (q : Int) = (q : Int) := mv_w_id (by omega) (by omega)
theorem sp_nb {q : Nat} (h : q ≤ 60) : 0 ≤ (q : Int) ∧ (q : Int) ≤ 60 := by omega
theorem sp_td_n (x g : Nat) : (x : Int).tdiv (g : Int) = ((x / g : Nat) : Int) := rfl
theorem sp_tm_n (x g : Nat) : (x : Int).tmod (g : Int) = ((x % g : Nat) : Int) := rfl
theorem sp_gcd_s (a b : Nat) : Nat.gcd b (a % b) = Nat.gcd a b := by rw [Nat.gcd_comm a b, Nat.gcd_rec b a, Nat.gcd_comm]
theorem sp_cgcd_lp {M : mv_M} {x y : Int} : ∀ (r i a b : Nat) (l5 : mv_V), i + r = 60 → b ≤ r → a ≤ 60 → mv_isL l5 = false →
    mv_Ru 0 109 7 [mv_I x, mv_I y, mv_I (a : Int), mv_I (b : Int), mv_I (i : Int), l5] [] M (mv_I (if (1 : Int) < (Nat.gcd a b : Int) then (Nat.gcd a b : Int) else 1)) (fun M1 => M1 = M) := by
  intro r
  induction r with
  | zero =>
    intro i a b l5 hk hb ha h5
    have hk : i = 60 := by omega
    have hb0 : b = 0 := by omega
    subst hk; subst hb0
    rw [Nat.gcd_zero_right]
    refine mv_go' 3 (pc' := if ((60 : Nat) : Int) < 60 then 14 else 34) (ls' := [mv_I x, mv_I y, mv_I (a : Int), mv_I ((0 : Nat) : Int), mv_I ((60 : Nat) : Int), l5]) (st' := []) (M1 := M) rfl ?_
    refine mv_ff' (by decide) ?_
    refine mv_go' 3 (pc' := 39) (ls' := [mv_I x, mv_I y, mv_I (a : Int), mv_I ((0 : Nat) : Int), mv_I ((60 : Nat) : Int), l5]) (st' := [mv_I (if 1 < (a : Int) then (a : Int) else 1)]) (M1 := M) rfl ?_
    exact mv_ret (fun n => rfl) rfl
  | succ r ih =>
    intro i a b l5 hk hb ha h5
    by_cases hb0 : b = 0
    · subst hb0
      rw [Nat.gcd_zero_right]
      refine mv_go' 3 (pc' := if (i : Int) < 60 then 14 else 34) (ls' := [mv_I x, mv_I y, mv_I (a : Int), mv_I ((0 : Nat) : Int), mv_I (i : Int), l5]) (st' := []) (M1 := M) rfl ?_
      refine mv_tt' (by omega) ?_
      refine mv_go' 2 (pc' := if ((0 : Nat) : Int) = 0 then 34 else 18) (ls' := [mv_I x, mv_I y, mv_I (a : Int), mv_I ((0 : Nat) : Int), mv_I (i : Int), l5]) (st' := []) (M1 := M) rfl ?_
      refine mv_tt' (by rfl) ?_
      refine mv_go' 3 (pc' := 39) (ls' := [mv_I x, mv_I y, mv_I (a : Int), mv_I ((0 : Nat) : Int), mv_I (i : Int), l5]) (st' := [mv_I (if 1 < (a : Int) then (a : Int) else 1)]) (M1 := M) rfl ?_
      exact mv_ret (fun n => rfl) rfl
    · have hm : mv_w ((a : Int).tmod (b : Int)) = ((a % b : Nat) : Int) := by
        have h := Nat.mod_lt a (show 0 < b by omega)
        rw [sp_tm_n]
        exact sp_w_n (by omega)
      have h := Nat.mod_lt a (show 0 < b by omega)
      refine mv_go' 3 (pc' := if (i : Int) < 60 then 14 else 34) (ls' := [mv_I x, mv_I y, mv_I (a : Int), mv_I (b : Int), mv_I (i : Int), l5]) (st' := []) (M1 := M) rfl ?_
      refine mv_tt' (by omega) ?_
      refine mv_go' 2 (pc' := if (b : Int) = 0 then 34 else 18) (ls' := [mv_I x, mv_I y, mv_I (a : Int), mv_I (b : Int), mv_I (i : Int), l5]) (st' := []) (M1 := M) rfl ?_
      refine mv_ff' (by omega) ?_
      refine mv_go' 3 (pc' := if (b : Int) = 0 then mv_bad else 21) (ls' := [mv_I x, mv_I y, mv_I (a : Int), mv_I (b : Int), mv_I (i : Int), l5]) (st' := [mv_I (mv_w ((a : Int).tmod (b : Int)))]) (M1 := M) rfl ?_
      refine mv_ff' (by omega) ?_
      rw [show mv_w ((a : Int).tmod (b : Int)) = ((a % b : Nat) : Int) from by exact hm]
      refine mv_go' 7 (pc' := 7) (ls' := [mv_I x, mv_I y, mv_I (b : Int), mv_I ((a % b : Nat) : Int), mv_I (mv_w ((i : Int) + 1)), mv_I ((a % b : Nat) : Int)]) (st' := []) (M1 := M) rfl ?_
      rw [show mv_w ((i : Int) + 1) = ((i + 1 : Nat) : Int) from by unfold mv_w; omega]
      exact (ih (i + 1) b (a % b) _ (by omega) (by omega) (by omega) rfl).val (by rw [sp_gcd_s])
theorem sp_cgcd {M : mv_M} {x y : Nat} (hx : x ≤ 60) (hy : y ≤ 60) : mv_Ru 0 109 0 [mv_I (x : Int), mv_I (y : Int), mv_U, mv_U, mv_U, mv_U] [] M (mv_I (if (1 : Int) < (Nat.gcd y x : Int) then (Nat.gcd y x : Int) else 1)) (fun M1 => M1 = M) := by
  refine mv_go' 6 (pc' := 7) (ls' := [mv_I (x : Int), mv_I (y : Int), mv_I (y : Int), mv_I (x : Int), mv_I 0, mv_U]) (st' := []) (M1 := M) rfl ?_
  exact sp_cgcd_lp 60 0 y x mv_U (by omega) hx hy rfl
def sp_low (x y : Nat) (p : Int) : Int := if x = 0 then p else if p = 0 then ((x / Nat.gcd x y : Nat) : Int) else ((y / Nat.gcd x y : Nat) : Int)
theorem sp_lcmp0 {b : Nat} (h : 0 < b) : mv_lcmp (b : Int) 0 = 1 := by unfold mv_lcmp; rw [if_neg (by omega), if_neg (by omega)]
theorem sp_mlow_lp {M : mv_M} {x y : Nat} {p : Int} (hx : x ≤ 60) (hy : y ≤ 60) : ∀ (B a b : Nat) (l9 l10 : mv_V), b ≤ B → 0 < a → a ≤ 60 → b ≤ 60 → (l10 = mv_U) →
    mv_Ru 0 183 16 [mv_L (x : Int), mv_U, mv_L (y : Int), mv_U, mv_I p, mv_L (a : Int), mv_U, mv_L (b : Int), mv_U, l9, l10] [] M (mv_L (if p = 0 then ((x / Nat.gcd a b : Nat) : Int) else ((y / Nat.gcd a b : Nat) : Int))) (fun M1 => M1 = M) := by
  intro B
  induction B with
  | zero =>
    intro a b l9 l10 hb ha ha6 hb6 h10
    have hb0 : b = 0 := by omega
    subst hb0
    rw [Nat.gcd_zero_right]
    have hdx := Nat.div_le_self x a
    have hdy := Nat.div_le_self y a
    have e0 : mv_lcmp ((0 : Nat) : Int) 0 = 0 := rfl
    have ex : mv_wl ((x : Int).tdiv (a : Int)) = ((x / a : Nat) : Int) := by rw [sp_td_n]; exact sp_wl_n (by omega)
    have ey : mv_wl ((y : Int).tdiv (a : Int)) = ((y / a : Nat) : Int) := by rw [sp_td_n]; exact sp_wl_n (by omega)
    by_cases hp : p = 0
    · rw [if_pos hp]
      refine mv_go' 3 (pc' := 20) (ls' := [mv_L (x : Int), mv_U, mv_L (y : Int), mv_U, mv_I p, mv_L (a : Int), mv_U, mv_L ((0 : Nat) : Int), mv_U, l9, l10]) (st' := [mv_I (mv_lcmp ((0 : Nat) : Int) 0)]) (M1 := M) rfl ?_
      rw [show mv_lcmp ((0 : Nat) : Int) 0 = 0 from by exact e0]
      refine mv_go' 1 (pc' := if 0 = 0 then 41 else 23) (ls' := [mv_L (x : Int), mv_U, mv_L (y : Int), mv_U, mv_I p, mv_L (a : Int), mv_U, mv_L ((0 : Nat) : Int), mv_U, l9, l10]) (st' := []) (M1 := M) rfl ?_
      refine mv_tt' (by rfl) ?_
      refine mv_go' 2 (pc' := if p = 0 then 46 else 50) (ls' := [mv_L (x : Int), mv_U, mv_L (y : Int), mv_U, mv_I p, mv_L (a : Int), mv_U, mv_L ((0 : Nat) : Int), mv_U, l9, l10]) (st' := []) (M1 := M) rfl ?_
      refine mv_tt' (by exact hp) ?_
      refine mv_go' 4 (pc' := if (a : Int) = 0 then mv_bad else 54) (ls' := [mv_L (x : Int), mv_U, mv_L (y : Int), mv_U, mv_I p, mv_L (a : Int), mv_U, mv_L ((0 : Nat) : Int), mv_U, l9, l10]) (st' := [mv_L (mv_wl ((x : Int).tdiv (a : Int)))]) (M1 := M) rfl ?_
      refine mv_ff' (by omega) ?_
      rw [show mv_wl ((x : Int).tdiv (a : Int)) = ((x / a : Nat) : Int) from by exact ex]
      exact mv_ret (fun n => rfl) rfl
    · rw [if_neg hp]
      refine mv_go' 3 (pc' := 20) (ls' := [mv_L (x : Int), mv_U, mv_L (y : Int), mv_U, mv_I p, mv_L (a : Int), mv_U, mv_L ((0 : Nat) : Int), mv_U, l9, l10]) (st' := [mv_I (mv_lcmp ((0 : Nat) : Int) 0)]) (M1 := M) rfl ?_
      rw [show mv_lcmp ((0 : Nat) : Int) 0 = 0 from by exact e0]
      refine mv_go' 1 (pc' := if 0 = 0 then 41 else 23) (ls' := [mv_L (x : Int), mv_U, mv_L (y : Int), mv_U, mv_I p, mv_L (a : Int), mv_U, mv_L ((0 : Nat) : Int), mv_U, l9, l10]) (st' := []) (M1 := M) rfl ?_
      refine mv_tt' (by rfl) ?_
      refine mv_go' 2 (pc' := if p = 0 then 46 else 50) (ls' := [mv_L (x : Int), mv_U, mv_L (y : Int), mv_U, mv_I p, mv_L (a : Int), mv_U, mv_L ((0 : Nat) : Int), mv_U, l9, l10]) (st' := []) (M1 := M) rfl ?_
      refine mv_ff' (by exact hp) ?_
      refine mv_go' 3 (pc' := if (a : Int) = 0 then mv_bad else 54) (ls' := [mv_L (x : Int), mv_U, mv_L (y : Int), mv_U, mv_I p, mv_L (a : Int), mv_U, mv_L ((0 : Nat) : Int), mv_U, l9, l10]) (st' := [mv_L (mv_wl ((y : Int).tdiv (a : Int)))]) (M1 := M) rfl ?_
      refine mv_ff' (by omega) ?_
      rw [show mv_wl ((y : Int).tdiv (a : Int)) = ((y / a : Nat) : Int) from by exact ey]
      exact mv_ret (fun n => rfl) rfl
  | succ B ih =>
    intro a b l9 l10 hb ha ha6 hb6 h10
    by_cases hb0 : b = 0
    · exact ih a b l9 l10 (by omega) ha ha6 hb6 h10
    · have h := Nat.mod_lt a (show 0 < b by omega)
      have e1 := sp_lcmp0 (b := b) (by omega)
      have em : mv_wl ((a : Int).tmod (b : Int)) = ((a % b : Nat) : Int) := by rw [sp_tm_n]; exact sp_wl_n (by omega)
      subst h10
      refine mv_go' 3 (pc' := 20) (ls' := [mv_L (x : Int), mv_U, mv_L (y : Int), mv_U, mv_I p, mv_L (a : Int), mv_U, mv_L (b : Int), mv_U, l9, mv_U]) (st' := [mv_I (mv_lcmp (b : Int) 0)]) (M1 := M) rfl ?_
      rw [show mv_lcmp (b : Int) 0 = 1 from by exact e1]
      refine mv_go' 1 (pc' := if 1 = 0 then 41 else 23) (ls' := [mv_L (x : Int), mv_U, mv_L (y : Int), mv_U, mv_I p, mv_L (a : Int), mv_U, mv_L (b : Int), mv_U, l9, mv_U]) (st' := []) (M1 := M) rfl ?_
      refine mv_ff' (by omega) ?_
      refine mv_go' 3 (pc' := if (b : Int) = 0 then mv_bad else 28) (ls' := [mv_L (x : Int), mv_U, mv_L (y : Int), mv_U, mv_I p, mv_L (a : Int), mv_U, mv_L (b : Int), mv_U, l9, mv_U]) (st' := [mv_L (mv_wl ((a : Int).tmod (b : Int)))]) (M1 := M) rfl ?_
      refine mv_ff' (by omega) ?_
      rw [show mv_wl ((a : Int).tmod (b : Int)) = ((a % b : Nat) : Int) from by exact em]
      refine mv_go' 6 (pc' := 16) (ls' := [mv_L (x : Int), mv_U, mv_L (y : Int), mv_U, mv_I p, mv_L (b : Int), mv_U, mv_L ((a % b : Nat) : Int), mv_U, mv_L ((a % b : Nat) : Int), mv_U]) (st' := []) (M1 := M) rfl ?_
      exact (ih b (a % b) _ _ (by omega) (by omega) (by omega) (by omega) rfl).val (by rw [sp_gcd_s])
theorem sp_mlow {M : mv_M} {x y : Nat} {p : Int} (hx : x ≤ 60) (hy : y ≤ 60) : mv_Ru 0 183 0 [mv_L (x : Int), mv_U, mv_L (y : Int), mv_U, mv_I p, mv_U, mv_U, mv_U, mv_U, mv_U, mv_U] [] M (mv_L (sp_low x y p)) (fun M1 => M1 = M) := by
  by_cases hx0 : x = 0
  · rw [show sp_low x y p = p from if_pos hx0]
    subst hx0
    have e0 : mv_lcmp ((0 : Nat) : Int) 0 = 0 := rfl
    refine mv_go' 3 (pc' := 3) (ls' := [mv_L ((0 : Nat) : Int), mv_U, mv_L (y : Int), mv_U, mv_I p, mv_U, mv_U, mv_U, mv_U, mv_U, mv_U]) (st' := [mv_I (mv_lcmp ((0 : Nat) : Int) 0)]) (M1 := M) rfl ?_
    rw [show mv_lcmp ((0 : Nat) : Int) 0 = 0 from by exact e0]
    refine mv_go' 1 (pc' := if 0 = 0 then 6 else 10) (ls' := [mv_L ((0 : Nat) : Int), mv_U, mv_L (y : Int), mv_U, mv_I p, mv_U, mv_U, mv_U, mv_U, mv_U, mv_U]) (st' := []) (M1 := M) rfl ?_
    refine mv_tt' (by rfl) ?_
    refine mv_go' 2 (pc' := 9) (ls' := [mv_L ((0 : Nat) : Int), mv_U, mv_L (y : Int), mv_U, mv_I p, mv_U, mv_U, mv_U, mv_U, mv_U, mv_U]) (st' := [mv_L p]) (M1 := M) rfl ?_
    exact mv_ret (fun n => rfl) rfl
  · rw [show sp_low x y p = _ from if_neg hx0]
    have e1 := sp_lcmp0 (b := x) (by omega)
    refine mv_go' 3 (pc' := 3) (ls' := [mv_L (x : Int), mv_U, mv_L (y : Int), mv_U, mv_I p, mv_U, mv_U, mv_U, mv_U, mv_U, mv_U]) (st' := [mv_I (mv_lcmp (x : Int) 0)]) (M1 := M) rfl ?_
    rw [show mv_lcmp (x : Int) 0 = 1 from by exact e1]
    refine mv_go' 1 (pc' := if 1 = 0 then 6 else 10) (ls' := [mv_L (x : Int), mv_U, mv_L (y : Int), mv_U, mv_I p, mv_U, mv_U, mv_U, mv_U, mv_U, mv_U]) (st' := []) (M1 := M) rfl ?_
    refine mv_ff' (by omega) ?_
    refine mv_go' 4 (pc' := 16) (ls' := [mv_L (x : Int), mv_U, mv_L (y : Int), mv_U, mv_I p, mv_L (x : Int), mv_U, mv_L (y : Int), mv_U, mv_U, mv_U]) (st' := []) (M1 := M) rfl ?_
    exact sp_mlow_lp hx hy y x y mv_U mv_U (Nat.le_refl _) (by omega) hx hy rfl
/-- a pair of calls with longs for answers -/
def sp_callL (yc ym : Nat) (as am : List mv_V) : Prop := ∀ M, sp_Inv M → ∃ z, mv_Ru 20 yc 0 (mv_ent (mv_nl yc) (mv_R 0 :: as)) [] M (mv_L z) (fun M1 => mv_Ru 20 ym 0 (mv_ent (mv_nl ym) (mv_R 100 :: am)) [] M1 (mv_L z) sp_Inv)
theorem sp_mkWL {yc ym : Nat} {as am lc lm : List mv_V} (hc : mv_ent (mv_nl yc) (mv_R 0 :: as) = lc) (hm : mv_ent (mv_nl ym) (mv_R 100 :: am) = lm)
    (h : ∀ M, sp_Inv M → mv_W 20 yc 0 lc [] M (fun v M1 => ∃ z, v = mv_L z ∧ mv_W 20 ym 0 lm [] M1 (fun w M2 => w = mv_L z ∧ sp_Inv M2))) : sp_callL yc ym as am := by
  subst hc; subst hm
  intro M hI
  obtain ⟨v, M1, e, z, hv, h2⟩ := h M hI
  subst hv
  exact ⟨z, M1, e, h2.ru⟩
theorem sp_low_c {x y : Nat} {p : Int} (hy : 0 < y) (hp : p = 0 ∨ p = 1) : mv_w ((if p = 0 then (x : Int) else (y : Int)).tdiv (if (1 : Int) < (Nat.gcd y x : Int) then (Nat.gcd y x : Int) else 1)) = mv_w (sp_low x y p) := by
  have hg := Nat.gcd_pos_of_pos_left x hy
  have e : (if (1 : Int) < (Nat.gcd y x : Int) then (Nat.gcd y x : Int) else 1) = (Nat.gcd x y : Int) := by
    rw [Nat.gcd_comm x y]
    split <;> omega
  rw [e]
  unfold sp_low
  by_cases hx : x = 0
  · subst hx
    rw [if_pos rfl, Nat.gcd_zero_left]
    rcases hp with q | q <;> subst q
    · rw [if_pos rfl, sp_td_n, Nat.zero_div]; rfl
    · rw [if_neg (by decide), sp_td_n, Nat.div_self hy]; rfl
  · rw [if_neg hx]
    rcases hp with q | q <;> subst q
    · rw [if_pos rfl, if_pos rfl, sp_td_n]
    · rw [if_neg (by decide), if_neg (by decide), sp_td_n]
theorem sp_low_b {x y : Nat} {p : Int} (hx : x ≤ 60) (hy : y ≤ 60) (hp : p = 0 ∨ p = 1) : 0 ≤ sp_low x y p ∧ sp_low x y p ≤ 60 := by
  have h1 := Nat.div_le_self x (Nat.gcd x y)
  have h2 := Nat.div_le_self y (Nat.gcd x y)
  unfold sp_low
  repeat (first | exact sp_nb (by omega) | omega | split)
theorem sp_k28b (s m w p : Int) (hb : ¬ ((0 ≤ s ∧ s ≤ 99999) ∧ (1 ≤ m ∧ m ≤ 60) ∧ (-9999 ≤ w ∧ w ≤ 9999) ∧ (p = 0 ∨ p = 1))) : sp_callL 89 184 [mv_I s, mv_I m, mv_I w, mv_I p] [mv_I s, mv_I m, mv_I w, mv_I p] := by
  refine sp_mkWL (lc := [mv_R 0, mv_I s, mv_I m, mv_I w, mv_I p, mv_U, mv_U]) (lm := [mv_R 100, mv_I s, mv_I m, mv_I w, mv_I p, mv_U, mv_U, mv_U]) rfl rfl (fun M hI => ?_)
  refine mv_goW 2 (pc' := if s < 0 then 21 else 4) (ls' := [mv_R 0, mv_I s, mv_I m, mv_I w, mv_I p, mv_U, mv_U]) (st' := []) (M1 := M) rfl ?_
  refine mv_spW (fun ha1 => ?_) (fun ha1 => ?_)
  · refine mv_goW 1 (pc' := 24) (ls' := [mv_R 0, mv_I s, mv_I m, mv_I w, mv_I p, mv_U, mv_U]) (st' := [mv_L (-4611686018427387904)]) (M1 := M) rfl ?_
    refine mv_retW (fun n => rfl) ⟨_, rfl, ?_⟩
    refine mv_goW 3 (pc' := 5) (ls' := [mv_R 100, mv_I s, mv_I m, mv_I w, mv_I p, mv_U, mv_U, mv_U]) (st' := [mv_I 99999, mv_I 0, mv_I s]) (M1 := M) rfl ?_
    have ha2 : ¬ ((0 : Int) ≤ s ∧ s ≤ (99999 : Int)) := by omega
    refine mv_callPW (st2 := [mv_I 0]) rfl (Or.inr rfl) rfl rfl rfl (sp_min_f ha2) (by first | decide | omega) ?_
    refine mv_goW 1 (pc' := if 0 = 0 then 44 else 11) (ls' := [mv_R 100, mv_I s, mv_I m, mv_I w, mv_I p, mv_U, mv_U, mv_U]) (st' := []) (M1 := M) rfl ?_
    refine mv_ttW (by first | decide | omega) ?_
    refine mv_goW 1 (pc' := 47) (ls' := [mv_R 100, mv_I s, mv_I m, mv_I w, mv_I p, mv_U, mv_U, mv_U]) (st' := [mv_L (-4611686018427387904)]) (M1 := M) rfl ?_
    exact mv_retW (fun n => rfl) ⟨rfl, hI⟩
  · refine mv_goW 3 (pc' := if 99999 < s then 21 else 10) (ls' := [mv_R 0, mv_I s, mv_I m, mv_I w, mv_I p, mv_U, mv_U]) (st' := []) (M1 := M) rfl ?_
    refine mv_spW (fun ha3 => ?_) (fun ha3 => ?_)
    · refine mv_goW 1 (pc' := 24) (ls' := [mv_R 0, mv_I s, mv_I m, mv_I w, mv_I p, mv_U, mv_U]) (st' := [mv_L (-4611686018427387904)]) (M1 := M) rfl ?_
      refine mv_retW (fun n => rfl) ⟨_, rfl, ?_⟩
      refine mv_goW 3 (pc' := 5) (ls' := [mv_R 100, mv_I s, mv_I m, mv_I w, mv_I p, mv_U, mv_U, mv_U]) (st' := [mv_I 99999, mv_I 0, mv_I s]) (M1 := M) rfl ?_
      have ha4 : ¬ ((0 : Int) ≤ s ∧ s ≤ (99999 : Int)) := by omega
      refine mv_callPW (st2 := [mv_I 0]) rfl (Or.inr rfl) rfl rfl rfl (sp_min_f ha4) (by first | decide | omega) ?_
      refine mv_goW 1 (pc' := if 0 = 0 then 44 else 11) (ls' := [mv_R 100, mv_I s, mv_I m, mv_I w, mv_I p, mv_U, mv_U, mv_U]) (st' := []) (M1 := M) rfl ?_
      refine mv_ttW (by first | decide | omega) ?_
      refine mv_goW 1 (pc' := 47) (ls' := [mv_R 100, mv_I s, mv_I m, mv_I w, mv_I p, mv_U, mv_U, mv_U]) (st' := [mv_L (-4611686018427387904)]) (M1 := M) rfl ?_
      exact mv_retW (fun n => rfl) ⟨rfl, hI⟩
    · refine mv_goW 3 (pc' := if m < 1 then 21 else 15) (ls' := [mv_R 0, mv_I s, mv_I m, mv_I w, mv_I p, mv_U, mv_U]) (st' := []) (M1 := M) rfl ?_
      refine mv_spW (fun ha5 => ?_) (fun ha5 => ?_)
      · refine mv_goW 1 (pc' := 24) (ls' := [mv_R 0, mv_I s, mv_I m, mv_I w, mv_I p, mv_U, mv_U]) (st' := [mv_L (-4611686018427387904)]) (M1 := M) rfl ?_
        refine mv_retW (fun n => rfl) ⟨_, rfl, ?_⟩
        refine mv_goW 3 (pc' := 5) (ls' := [mv_R 100, mv_I s, mv_I m, mv_I w, mv_I p, mv_U, mv_U, mv_U]) (st' := [mv_I 99999, mv_I 0, mv_I s]) (M1 := M) rfl ?_
        have ha6 : (0 : Int) ≤ s ∧ s ≤ (99999 : Int) := by omega
        refine mv_callPW (st2 := [mv_I 1]) rfl (Or.inr rfl) rfl rfl rfl (sp_min_t ha6) (by first | decide | omega) ?_
        refine mv_goW 1 (pc' := if 1 = 0 then 44 else 11) (ls' := [mv_R 100, mv_I s, mv_I m, mv_I w, mv_I p, mv_U, mv_U, mv_U]) (st' := []) (M1 := M) rfl ?_
        refine mv_ffW (by first | decide | omega) ?_
        refine mv_goW 3 (pc' := 15) (ls' := [mv_R 100, mv_I s, mv_I m, mv_I w, mv_I p, mv_U, mv_U, mv_U]) (st' := [mv_I 60, mv_I 1, mv_I m]) (M1 := M) rfl ?_
        have ha7 : ¬ ((1 : Int) ≤ m ∧ m ≤ (60 : Int)) := by omega
        refine mv_callPW (st2 := [mv_I 0]) rfl (Or.inr rfl) rfl rfl rfl (sp_min_f ha7) (by first | decide | omega) ?_
        refine mv_goW 1 (pc' := if 0 = 0 then 44 else 21) (ls' := [mv_R 100, mv_I s, mv_I m, mv_I w, mv_I p, mv_U, mv_U, mv_U]) (st' := []) (M1 := M) rfl ?_
        refine mv_ttW (by first | decide | omega) ?_
        refine mv_goW 1 (pc' := 47) (ls' := [mv_R 100, mv_I s, mv_I m, mv_I w, mv_I p, mv_U, mv_U, mv_U]) (st' := [mv_L (-4611686018427387904)]) (M1 := M) rfl ?_
        exact mv_retW (fun n => rfl) ⟨rfl, hI⟩
      · refine mv_goW 3 (pc' := if 60 < m then 21 else 25) (ls' := [mv_R 0, mv_I s, mv_I m, mv_I w, mv_I p, mv_U, mv_U]) (st' := []) (M1 := M) rfl ?_
        refine mv_spW (fun ha8 => ?_) (fun ha8 => ?_)
        · refine mv_goW 1 (pc' := 24) (ls' := [mv_R 0, mv_I s, mv_I m, mv_I w, mv_I p, mv_U, mv_U]) (st' := [mv_L (-4611686018427387904)]) (M1 := M) rfl ?_
          refine mv_retW (fun n => rfl) ⟨_, rfl, ?_⟩
          refine mv_goW 3 (pc' := 5) (ls' := [mv_R 100, mv_I s, mv_I m, mv_I w, mv_I p, mv_U, mv_U, mv_U]) (st' := [mv_I 99999, mv_I 0, mv_I s]) (M1 := M) rfl ?_
          have ha9 : (0 : Int) ≤ s ∧ s ≤ (99999 : Int) := by omega
          refine mv_callPW (st2 := [mv_I 1]) rfl (Or.inr rfl) rfl rfl rfl (sp_min_t ha9) (by first | decide | omega) ?_
          refine mv_goW 1 (pc' := if 1 = 0 then 44 else 11) (ls' := [mv_R 100, mv_I s, mv_I m, mv_I w, mv_I p, mv_U, mv_U, mv_U]) (st' := []) (M1 := M) rfl ?_
          refine mv_ffW (by first | decide | omega) ?_
          refine mv_goW 3 (pc' := 15) (ls' := [mv_R 100, mv_I s, mv_I m, mv_I w, mv_I p, mv_U, mv_U, mv_U]) (st' := [mv_I 60, mv_I 1, mv_I m]) (M1 := M) rfl ?_
          have ha10 : ¬ ((1 : Int) ≤ m ∧ m ≤ (60 : Int)) := by omega
          refine mv_callPW (st2 := [mv_I 0]) rfl (Or.inr rfl) rfl rfl rfl (sp_min_f ha10) (by first | decide | omega) ?_
          refine mv_goW 1 (pc' := if 0 = 0 then 44 else 21) (ls' := [mv_R 100, mv_I s, mv_I m, mv_I w, mv_I p, mv_U, mv_U, mv_U]) (st' := []) (M1 := M) rfl ?_
          refine mv_ttW (by first | decide | omega) ?_
          refine mv_goW 1 (pc' := 47) (ls' := [mv_R 100, mv_I s, mv_I m, mv_I w, mv_I p, mv_U, mv_U, mv_U]) (st' := [mv_L (-4611686018427387904)]) (M1 := M) rfl ?_
          exact mv_retW (fun n => rfl) ⟨rfl, hI⟩
        · refine mv_goW 3 (pc' := if w < (-9999) then 47 else 32) (ls' := [mv_R 0, mv_I s, mv_I m, mv_I w, mv_I p, mv_U, mv_U]) (st' := []) (M1 := M) rfl ?_
          refine mv_spW (fun ha11 => ?_) (fun ha11 => ?_)
          · refine mv_goW 1 (pc' := 50) (ls' := [mv_R 0, mv_I s, mv_I m, mv_I w, mv_I p, mv_U, mv_U]) (st' := [mv_L (-4611686018427387904)]) (M1 := M) rfl ?_
            refine mv_retW (fun n => rfl) ⟨_, rfl, ?_⟩
            refine mv_goW 3 (pc' := 5) (ls' := [mv_R 100, mv_I s, mv_I m, mv_I w, mv_I p, mv_U, mv_U, mv_U]) (st' := [mv_I 99999, mv_I 0, mv_I s]) (M1 := M) rfl ?_
            have ha12 : (0 : Int) ≤ s ∧ s ≤ (99999 : Int) := by omega
            refine mv_callPW (st2 := [mv_I 1]) rfl (Or.inr rfl) rfl rfl rfl (sp_min_t ha12) (by first | decide | omega) ?_
            refine mv_goW 1 (pc' := if 1 = 0 then 44 else 11) (ls' := [mv_R 100, mv_I s, mv_I m, mv_I w, mv_I p, mv_U, mv_U, mv_U]) (st' := []) (M1 := M) rfl ?_
            refine mv_ffW (by first | decide | omega) ?_
            refine mv_goW 3 (pc' := 15) (ls' := [mv_R 100, mv_I s, mv_I m, mv_I w, mv_I p, mv_U, mv_U, mv_U]) (st' := [mv_I 60, mv_I 1, mv_I m]) (M1 := M) rfl ?_
            have ha13 : (1 : Int) ≤ m ∧ m ≤ (60 : Int) := by omega
            refine mv_callPW (st2 := [mv_I 1]) rfl (Or.inr rfl) rfl rfl rfl (sp_min_t ha13) (by first | decide | omega) ?_
            refine mv_goW 1 (pc' := if 1 = 0 then 44 else 21) (ls' := [mv_R 100, mv_I s, mv_I m, mv_I w, mv_I p, mv_U, mv_U, mv_U]) (st' := []) (M1 := M) rfl ?_
            refine mv_ffW (by first | decide | omega) ?_
            refine mv_goW 3 (pc' := 28) (ls' := [mv_R 100, mv_I s, mv_I m, mv_I w, mv_I p, mv_U, mv_U, mv_U]) (st' := [mv_I 9999, mv_I (-9999), mv_I w]) (M1 := M) rfl ?_
            have ha14 : ¬ (((-9999) : Int) ≤ w ∧ w ≤ (9999 : Int)) := by omega
            refine mv_callPW (st2 := [mv_I 0]) rfl (Or.inr rfl) rfl rfl rfl (sp_min_f ha14) (by first | decide | omega) ?_
            refine mv_goW 1 (pc' := if 0 = 0 then 44 else 34) (ls' := [mv_R 100, mv_I s, mv_I m, mv_I w, mv_I p, mv_U, mv_U, mv_U]) (st' := []) (M1 := M) rfl ?_
            refine mv_ttW (by first | decide | omega) ?_
            refine mv_goW 1 (pc' := 47) (ls' := [mv_R 100, mv_I s, mv_I m, mv_I w, mv_I p, mv_U, mv_U, mv_U]) (st' := [mv_L (-4611686018427387904)]) (M1 := M) rfl ?_
            exact mv_retW (fun n => rfl) ⟨rfl, hI⟩
          · refine mv_goW 3 (pc' := if 9999 < w then 47 else 39) (ls' := [mv_R 0, mv_I s, mv_I m, mv_I w, mv_I p, mv_U, mv_U]) (st' := []) (M1 := M) rfl ?_
            refine mv_spW (fun ha15 => ?_) (fun ha15 => ?_)
            · refine mv_goW 1 (pc' := 50) (ls' := [mv_R 0, mv_I s, mv_I m, mv_I w, mv_I p, mv_U, mv_U]) (st' := [mv_L (-4611686018427387904)]) (M1 := M) rfl ?_
              refine mv_retW (fun n => rfl) ⟨_, rfl, ?_⟩
              refine mv_goW 3 (pc' := 5) (ls' := [mv_R 100, mv_I s, mv_I m, mv_I w, mv_I p, mv_U, mv_U, mv_U]) (st' := [mv_I 99999, mv_I 0, mv_I s]) (M1 := M) rfl ?_
              have ha16 : (0 : Int) ≤ s ∧ s ≤ (99999 : Int) := by omega
              refine mv_callPW (st2 := [mv_I 1]) rfl (Or.inr rfl) rfl rfl rfl (sp_min_t ha16) (by first | decide | omega) ?_
              refine mv_goW 1 (pc' := if 1 = 0 then 44 else 11) (ls' := [mv_R 100, mv_I s, mv_I m, mv_I w, mv_I p, mv_U, mv_U, mv_U]) (st' := []) (M1 := M) rfl ?_
              refine mv_ffW (by first | decide | omega) ?_
              refine mv_goW 3 (pc' := 15) (ls' := [mv_R 100, mv_I s, mv_I m, mv_I w, mv_I p, mv_U, mv_U, mv_U]) (st' := [mv_I 60, mv_I 1, mv_I m]) (M1 := M) rfl ?_
              have ha17 : (1 : Int) ≤ m ∧ m ≤ (60 : Int) := by omega
              refine mv_callPW (st2 := [mv_I 1]) rfl (Or.inr rfl) rfl rfl rfl (sp_min_t ha17) (by first | decide | omega) ?_
              refine mv_goW 1 (pc' := if 1 = 0 then 44 else 21) (ls' := [mv_R 100, mv_I s, mv_I m, mv_I w, mv_I p, mv_U, mv_U, mv_U]) (st' := []) (M1 := M) rfl ?_
              refine mv_ffW (by first | decide | omega) ?_
              refine mv_goW 3 (pc' := 28) (ls' := [mv_R 100, mv_I s, mv_I m, mv_I w, mv_I p, mv_U, mv_U, mv_U]) (st' := [mv_I 9999, mv_I (-9999), mv_I w]) (M1 := M) rfl ?_
              have ha18 : ¬ (((-9999) : Int) ≤ w ∧ w ≤ (9999 : Int)) := by omega
              refine mv_callPW (st2 := [mv_I 0]) rfl (Or.inr rfl) rfl rfl rfl (sp_min_f ha18) (by first | decide | omega) ?_
              refine mv_goW 1 (pc' := if 0 = 0 then 44 else 34) (ls' := [mv_R 100, mv_I s, mv_I m, mv_I w, mv_I p, mv_U, mv_U, mv_U]) (st' := []) (M1 := M) rfl ?_
              refine mv_ttW (by first | decide | omega) ?_
              refine mv_goW 1 (pc' := 47) (ls' := [mv_R 100, mv_I s, mv_I m, mv_I w, mv_I p, mv_U, mv_U, mv_U]) (st' := [mv_L (-4611686018427387904)]) (M1 := M) rfl ?_
              exact mv_retW (fun n => rfl) ⟨rfl, hI⟩
            · refine mv_goW 1 (pc' := 41) (ls' := [mv_R 0, mv_I s, mv_I m, mv_I w, mv_I p, mv_U, mv_U]) (st' := [mv_I p]) (M1 := M) rfl ?_
              have ha19 : ¬ (p = 0 ∨ p = 1) := by omega
              refine mv_callPW (st2 := [mv_I 0]) rfl (Or.inr rfl) rfl rfl rfl (sp_eith_f ha19) (by first | decide | omega) ?_
              refine mv_goW 1 (pc' := if 0 = 0 then 47 else 51) (ls' := [mv_R 0, mv_I s, mv_I m, mv_I w, mv_I p, mv_U, mv_U]) (st' := []) (M1 := M) rfl ?_
              refine mv_ttW (by first | decide | omega) ?_
              refine mv_goW 1 (pc' := 50) (ls' := [mv_R 0, mv_I s, mv_I m, mv_I w, mv_I p, mv_U, mv_U]) (st' := [mv_L (-4611686018427387904)]) (M1 := M) rfl ?_
              refine mv_retW (fun n => rfl) ⟨_, rfl, ?_⟩
              refine mv_goW 3 (pc' := 5) (ls' := [mv_R 100, mv_I s, mv_I m, mv_I w, mv_I p, mv_U, mv_U, mv_U]) (st' := [mv_I 99999, mv_I 0, mv_I s]) (M1 := M) rfl ?_
              have ha20 : (0 : Int) ≤ s ∧ s ≤ (99999 : Int) := by omega
              refine mv_callPW (st2 := [mv_I 1]) rfl (Or.inr rfl) rfl rfl rfl (sp_min_t ha20) (by first | decide | omega) ?_
              refine mv_goW 1 (pc' := if 1 = 0 then 44 else 11) (ls' := [mv_R 100, mv_I s, mv_I m, mv_I w, mv_I p, mv_U, mv_U, mv_U]) (st' := []) (M1 := M) rfl ?_
              refine mv_ffW (by first | decide | omega) ?_
              refine mv_goW 3 (pc' := 15) (ls' := [mv_R 100, mv_I s, mv_I m, mv_I w, mv_I p, mv_U, mv_U, mv_U]) (st' := [mv_I 60, mv_I 1, mv_I m]) (M1 := M) rfl ?_
              have ha21 : (1 : Int) ≤ m ∧ m ≤ (60 : Int) := by omega
              refine mv_callPW (st2 := [mv_I 1]) rfl (Or.inr rfl) rfl rfl rfl (sp_min_t ha21) (by first | decide | omega) ?_
              refine mv_goW 1 (pc' := if 1 = 0 then 44 else 21) (ls' := [mv_R 100, mv_I s, mv_I m, mv_I w, mv_I p, mv_U, mv_U, mv_U]) (st' := []) (M1 := M) rfl ?_
              refine mv_ffW (by first | decide | omega) ?_
              refine mv_goW 3 (pc' := 28) (ls' := [mv_R 100, mv_I s, mv_I m, mv_I w, mv_I p, mv_U, mv_U, mv_U]) (st' := [mv_I 9999, mv_I (-9999), mv_I w]) (M1 := M) rfl ?_
              have ha22 : ((-9999) : Int) ≤ w ∧ w ≤ (9999 : Int) := by omega
              refine mv_callPW (st2 := [mv_I 1]) rfl (Or.inr rfl) rfl rfl rfl (sp_min_t ha22) (by first | decide | omega) ?_
              refine mv_goW 1 (pc' := if 1 = 0 then 44 else 34) (ls' := [mv_R 100, mv_I s, mv_I m, mv_I w, mv_I p, mv_U, mv_U, mv_U]) (st' := []) (M1 := M) rfl ?_
              refine mv_ffW (by first | decide | omega) ?_
              refine mv_goW 3 (pc' := 38) (ls' := [mv_R 100, mv_I s, mv_I m, mv_I w, mv_I p, mv_U, mv_U, mv_U]) (st' := [mv_I 1, mv_I 0, mv_I p]) (M1 := M) rfl ?_
              have ha23 : ¬ ((0 : Int) ≤ p ∧ p ≤ (1 : Int)) := by omega
              refine mv_callPW (st2 := [mv_I 0]) rfl (Or.inr rfl) rfl rfl rfl (sp_min_f ha23) (by first | decide | omega) ?_
              refine mv_goW 1 (pc' := if 0 = 0 then 44 else 48) (ls' := [mv_R 100, mv_I s, mv_I m, mv_I w, mv_I p, mv_U, mv_U, mv_U]) (st' := []) (M1 := M) rfl ?_
              refine mv_ttW (by first | decide | omega) ?_
              refine mv_goW 1 (pc' := 47) (ls' := [mv_R 100, mv_I s, mv_I m, mv_I w, mv_I p, mv_U, mv_U, mv_U]) (st' := [mv_L (-4611686018427387904)]) (M1 := M) rfl ?_
              exact mv_retW (fun n => rfl) ⟨rfl, hI⟩
theorem sp_k28g (s w p : Int) (m : Nat) (hs : 0 ≤ s ∧ s ≤ 99999) (hm1 : 1 ≤ m) (hm60 : m ≤ 60) (hw : -9999 ≤ w ∧ w ≤ 9999) (hp : p = 0 ∨ p = 1) : sp_callL 89 184 [mv_I s, mv_I (m : Int), mv_I w, mv_I p] [mv_I s, mv_I (m : Int), mv_I w, mv_I p] := by
  refine sp_mkWL (lc := [mv_R 0, mv_I s, mv_I (m : Int), mv_I w, mv_I p, mv_U, mv_U]) (lm := [mv_R 100, mv_I s, mv_I (m : Int), mv_I w, mv_I p, mv_U, mv_U, mv_U]) rfl rfl (fun M hI => ?_)
  have hI2 := hI
  obtain ⟨V, P, n, B, K, t, h⟩ := hI2
  have h' := h
  obtain ⟨⟨hc, hm, ho⟩, ⟨hy, hl, hn1, hn⟩, ⟨hct, hmt, _⟩, _⟩ := h'
  have h8 := sp_ok_s8 ho
  have h9 := sp_ok_s9 ho
  refine mv_goW 2 (pc' := if s < 0 then 21 else 4) (ls' := [mv_R 0, mv_I s, mv_I (m : Int), mv_I w, mv_I p, mv_U, mv_U]) (st' := []) (M1 := M) rfl ?_
  refine mv_ffW (by omega) ?_
  refine mv_goW 3 (pc' := if 99999 < s then 21 else 10) (ls' := [mv_R 0, mv_I s, mv_I (m : Int), mv_I w, mv_I p, mv_U, mv_U]) (st' := []) (M1 := M) rfl ?_
  refine mv_ffW (by omega) ?_
  refine mv_goW 3 (pc' := if (m : Int) < 1 then 21 else 15) (ls' := [mv_R 0, mv_I s, mv_I (m : Int), mv_I w, mv_I p, mv_U, mv_U]) (st' := []) (M1 := M) rfl ?_
  refine mv_ffW (by omega) ?_
  refine mv_goW 3 (pc' := if 60 < (m : Int) then 21 else 25) (ls' := [mv_R 0, mv_I s, mv_I (m : Int), mv_I w, mv_I p, mv_U, mv_U]) (st' := []) (M1 := M) rfl ?_
  refine mv_ffW (by omega) ?_
  refine mv_goW 3 (pc' := if w < (-9999) then 47 else 32) (ls' := [mv_R 0, mv_I s, mv_I (m : Int), mv_I w, mv_I p, mv_U, mv_U]) (st' := []) (M1 := M) rfl ?_
  refine mv_ffW (by omega) ?_
  refine mv_goW 3 (pc' := if 9999 < w then 47 else 39) (ls' := [mv_R 0, mv_I s, mv_I (m : Int), mv_I w, mv_I p, mv_U, mv_U]) (st' := []) (M1 := M) rfl ?_
  refine mv_ffW (by omega) ?_
  refine mv_goW 1 (pc' := 41) (ls' := [mv_R 0, mv_I s, mv_I (m : Int), mv_I w, mv_I p, mv_U, mv_U]) (st' := [mv_I p]) (M1 := M) rfl ?_
  have ha24 : p = 0 ∨ p = 1 := by omega
  refine mv_callPW (st2 := [mv_I 1]) rfl (Or.inr rfl) rfl rfl rfl (sp_eith_t ha24) (by first | decide | omega) ?_
  refine mv_goW 1 (pc' := if 1 = 0 then 47 else 51) (ls' := [mv_R 0, mv_I s, mv_I (m : Int), mv_I w, mv_I p, mv_U, mv_U]) (st' := []) (M1 := M) rfl ?_
  refine mv_ffW (by first | decide | omega) ?_
  refine mv_goW 4 (pc' := 59) (ls' := [mv_R 0, mv_I s, mv_I (m : Int), mv_I w, mv_I p, mv_U, mv_U]) (st' := [mv_R 30, mv_R 60]) (M1 := M) rfl ?_
  refine mv_callW (st2 := []) rfl (Or.inl rfl) rfl rfl rfl (sp_crs hc ho hl hn hct) (by first | decide | omega) (fun Ma25 hm26 => ?_)
  have hx := hm26
  have hm := sp_m_ag2 hm hx.1 (by decide)
  have hmt := sp_mts_ag hmt hx.1 (by decide)
  have hcc := sp_c_ag hc hx.1 (by decide)
  refine mv_goW 4 (pc' := 68) (ls' := [mv_R 0, mv_I s, mv_I (m : Int), mv_I w, mv_I p, mv_I 0, mv_I 0]) (st' := []) (M1 := Ma25) rfl ?_
  refine sp_cod (d := 17) (V := V) (P := P) (M0 := Ma25) ho hx.2 hs.1 hs.2 hm60 (fun M2 hd => ?_) m 0 Ma25 (by omega) mv_ag.rf
  have hag : mv_ag [36, 37, 60, 61, 63, 64, 65] M M2 := (hx.1.wd (by decide)).tr (hd.wd (by decide))
  have hm := sp_m_ag2 hm hd (by decide)
  have hmt := sp_mts_ag hmt hd (by decide)
  have hob := sp_on_b V P s w m
  obtain ⟨x, hxe⟩ : ∃ x : Nat, sp_on V P s w m = (x : Int) := ⟨(sp_on V P s w m).toNat, by omega⟩
  rw [hxe]
  have hcd := sp_cgcd (M := M2) (x := x) (y := m) (by omega) hm60
  obtain ⟨g, hg⟩ : ∃ g : Int, g = (if (1 : Int) < (Nat.gcd m x : Int) then (Nat.gcd m x : Int) else 1) := ⟨_, rfl⟩
  have hg1 : 0 < g := by rw [hg]; split <;> omega
  rw [← hg] at hcd
  have hlc := sp_low_c (x := x) (y := m) (p := p) (by omega) hp
  have hlb := sp_low_b (x := x) (y := m) (p := p) (by omega) hm60 hp
  rw [← hg, mv_w_id (z := sp_low x m p) (by omega) (by omega)] at hlc
  refine mv_goW 2 (pc' := 108) (ls' := [mv_R 0, mv_I s, mv_I (m : Int), mv_I w, mv_I p, mv_I (x : Int), mv_I (m : Int)]) (st' := [mv_I (m : Int), mv_I (x : Int)]) (M1 := M2) rfl ?_
  refine mv_callPW (st2 := [mv_I g]) rfl (Or.inr rfl) rfl rfl rfl (hcd) (by first | decide | omega) ?_
  refine mv_goW 3 (pc' := if p = 0 then 118 else 123) (ls' := [mv_R 0, mv_I s, mv_I (m : Int), mv_I w, mv_I p, mv_I (x : Int), mv_I g]) (st' := []) (M1 := M2) rfl ?_
  refine mv_spW (fun ha27 => ?_) (fun ha27 => ?_)
  · refine mv_goW 4 (pc' := if g = 0 then mv_bad else 127) (ls' := [mv_R 0, mv_I s, mv_I (m : Int), mv_I w, mv_I p, mv_I (x : Int), mv_I g]) (st' := [mv_I (mv_w ((x : Int).tdiv g))]) (M1 := M2) rfl ?_
    refine mv_ffW (by omega) ?_
    refine mv_eqsW (st2 := [mv_I (sp_low x m p)]) rfl (by rw [← hlc]; first | rw [if_pos (by assumption)] | rw [if_neg (by assumption)]) rfl ?_
    refine mv_goW 1 (pc' := 128) (ls' := [mv_R 0, mv_I s, mv_I (m : Int), mv_I w, mv_I p, mv_I (x : Int), mv_I g]) (st' := [mv_L (sp_low x m p)]) (M1 := M2) rfl ?_
    refine mv_retW (fun n => rfl) ⟨_, rfl, ?_⟩
    refine mv_goW 3 (pc' := 5) (ls' := [mv_R 100, mv_I s, mv_I (m : Int), mv_I w, mv_I p, mv_U, mv_U, mv_U]) (st' := [mv_I 99999, mv_I 0, mv_I s]) (M1 := M2) rfl ?_
    have ha28 : (0 : Int) ≤ s ∧ s ≤ (99999 : Int) := by omega
    refine mv_callPW (st2 := [mv_I 1]) rfl (Or.inr rfl) rfl rfl rfl (sp_min_t ha28) (by first | decide | omega) ?_
    refine mv_goW 1 (pc' := if 1 = 0 then 44 else 11) (ls' := [mv_R 100, mv_I s, mv_I (m : Int), mv_I w, mv_I p, mv_U, mv_U, mv_U]) (st' := []) (M1 := M2) rfl ?_
    refine mv_ffW (by first | decide | omega) ?_
    refine mv_goW 3 (pc' := 15) (ls' := [mv_R 100, mv_I s, mv_I (m : Int), mv_I w, mv_I p, mv_U, mv_U, mv_U]) (st' := [mv_I 60, mv_I 1, mv_I (m : Int)]) (M1 := M2) rfl ?_
    have ha29 : (1 : Int) ≤ (m : Int) ∧ (m : Int) ≤ (60 : Int) := by omega
    refine mv_callPW (st2 := [mv_I 1]) rfl (Or.inr rfl) rfl rfl rfl (sp_min_t ha29) (by first | decide | omega) ?_
    refine mv_goW 1 (pc' := if 1 = 0 then 44 else 21) (ls' := [mv_R 100, mv_I s, mv_I (m : Int), mv_I w, mv_I p, mv_U, mv_U, mv_U]) (st' := []) (M1 := M2) rfl ?_
    refine mv_ffW (by first | decide | omega) ?_
    refine mv_goW 3 (pc' := 28) (ls' := [mv_R 100, mv_I s, mv_I (m : Int), mv_I w, mv_I p, mv_U, mv_U, mv_U]) (st' := [mv_I 9999, mv_I (-9999), mv_I w]) (M1 := M2) rfl ?_
    have ha30 : ((-9999) : Int) ≤ w ∧ w ≤ (9999 : Int) := by omega
    refine mv_callPW (st2 := [mv_I 1]) rfl (Or.inr rfl) rfl rfl rfl (sp_min_t ha30) (by first | decide | omega) ?_
    refine mv_goW 1 (pc' := if 1 = 0 then 44 else 34) (ls' := [mv_R 100, mv_I s, mv_I (m : Int), mv_I w, mv_I p, mv_U, mv_U, mv_U]) (st' := []) (M1 := M2) rfl ?_
    refine mv_ffW (by first | decide | omega) ?_
    refine mv_goW 3 (pc' := 38) (ls' := [mv_R 100, mv_I s, mv_I (m : Int), mv_I w, mv_I p, mv_U, mv_U, mv_U]) (st' := [mv_I 1, mv_I 0, mv_I p]) (M1 := M2) rfl ?_
    have ha31 : (0 : Int) ≤ p ∧ p ≤ (1 : Int) := by omega
    refine mv_callPW (st2 := [mv_I 1]) rfl (Or.inr rfl) rfl rfl rfl (sp_min_t ha31) (by first | decide | omega) ?_
    refine mv_goW 1 (pc' := if 1 = 0 then 44 else 48) (ls' := [mv_R 100, mv_I s, mv_I (m : Int), mv_I w, mv_I p, mv_U, mv_U, mv_U]) (st' := []) (M1 := M2) rfl ?_
    refine mv_ffW (by first | decide | omega) ?_
    refine mv_goW 1 (pc' := 49) (ls' := [mv_R 100, mv_I s, mv_I (m : Int), mv_I w, mv_I p, mv_U, mv_U, mv_U]) (st' := [mv_R 100]) (M1 := M2) rfl ?_
    refine mv_callW (st2 := []) rfl (Or.inl rfl) rfl rfl rfl (sp_mrs hm ho hl hmt) (by first | decide | omega) (fun Ma32 hm33 => ?_)
    have hy := hm33
    have hm := sp_m_ag2 hm hy.1 (by decide)
    have hmt := sp_mts_ag hmt hy.1 (by decide)
    refine mv_goW 4 (pc' := 58) (ls' := [mv_R 100, mv_I s, mv_I (m : Int), mv_I w, mv_I p, mv_L 0, mv_U, mv_I 0]) (st' := []) (M1 := Ma32) rfl ?_
    refine sp_mod (d := 17) (V := V) (P := P) (M0 := Ma32) hm ho hy.2 hs.1 hs.2 hm60 (fun M3 hz1 hz2 => ?_) m 0 Ma32 (by omega) mv_ag.rf (fun _ _ _ => rfl)
    have hml := sp_mlow (M := M3) (x := x) (y := m) (p := p) (by omega) hm60
    rw [hxe]
    refine mv_goW 4 (pc' := 102) (ls' := [mv_R 100, mv_I s, mv_I (m : Int), mv_I w, mv_I p, mv_L (x : Int), mv_U, mv_I (m : Int)]) (st' := [mv_I p, mv_L (m : Int), mv_L (x : Int)]) (M1 := M3) rfl ?_
    refine mv_callPW (st2 := [mv_L (sp_low x m p)]) rfl (Or.inr rfl) rfl rfl rfl (hml) (by first | decide | omega) ?_
    exact mv_retW (fun n => rfl) ⟨rfl, sp_tend h (((hag.wd (by decide)).tr (hy.1.wd (by decide))).tr (hz1.wd (by decide))) (fun j hj => (hz2 j hj.2.2.1 hj.2.2.2).trans (by rw [hy.1 100 (by decide), hag 100 (by decide)]))⟩
  · refine mv_goW 3 (pc' := if g = 0 then mv_bad else 127) (ls' := [mv_R 0, mv_I s, mv_I (m : Int), mv_I w, mv_I p, mv_I (x : Int), mv_I g]) (st' := [mv_I (mv_w ((m : Int).tdiv g))]) (M1 := M2) rfl ?_
    refine mv_ffW (by omega) ?_
    refine mv_eqsW (st2 := [mv_I (sp_low x m p)]) rfl (by rw [← hlc]; first | rw [if_pos (by assumption)] | rw [if_neg (by assumption)]) rfl ?_
    refine mv_goW 1 (pc' := 128) (ls' := [mv_R 0, mv_I s, mv_I (m : Int), mv_I w, mv_I p, mv_I (x : Int), mv_I g]) (st' := [mv_L (sp_low x m p)]) (M1 := M2) rfl ?_
    refine mv_retW (fun n => rfl) ⟨_, rfl, ?_⟩
    refine mv_goW 3 (pc' := 5) (ls' := [mv_R 100, mv_I s, mv_I (m : Int), mv_I w, mv_I p, mv_U, mv_U, mv_U]) (st' := [mv_I 99999, mv_I 0, mv_I s]) (M1 := M2) rfl ?_
    have ha34 : (0 : Int) ≤ s ∧ s ≤ (99999 : Int) := by omega
    refine mv_callPW (st2 := [mv_I 1]) rfl (Or.inr rfl) rfl rfl rfl (sp_min_t ha34) (by first | decide | omega) ?_
    refine mv_goW 1 (pc' := if 1 = 0 then 44 else 11) (ls' := [mv_R 100, mv_I s, mv_I (m : Int), mv_I w, mv_I p, mv_U, mv_U, mv_U]) (st' := []) (M1 := M2) rfl ?_
    refine mv_ffW (by first | decide | omega) ?_
    refine mv_goW 3 (pc' := 15) (ls' := [mv_R 100, mv_I s, mv_I (m : Int), mv_I w, mv_I p, mv_U, mv_U, mv_U]) (st' := [mv_I 60, mv_I 1, mv_I (m : Int)]) (M1 := M2) rfl ?_
    have ha35 : (1 : Int) ≤ (m : Int) ∧ (m : Int) ≤ (60 : Int) := by omega
    refine mv_callPW (st2 := [mv_I 1]) rfl (Or.inr rfl) rfl rfl rfl (sp_min_t ha35) (by first | decide | omega) ?_
    refine mv_goW 1 (pc' := if 1 = 0 then 44 else 21) (ls' := [mv_R 100, mv_I s, mv_I (m : Int), mv_I w, mv_I p, mv_U, mv_U, mv_U]) (st' := []) (M1 := M2) rfl ?_
    refine mv_ffW (by first | decide | omega) ?_
    refine mv_goW 3 (pc' := 28) (ls' := [mv_R 100, mv_I s, mv_I (m : Int), mv_I w, mv_I p, mv_U, mv_U, mv_U]) (st' := [mv_I 9999, mv_I (-9999), mv_I w]) (M1 := M2) rfl ?_
    have ha36 : ((-9999) : Int) ≤ w ∧ w ≤ (9999 : Int) := by omega
    refine mv_callPW (st2 := [mv_I 1]) rfl (Or.inr rfl) rfl rfl rfl (sp_min_t ha36) (by first | decide | omega) ?_
    refine mv_goW 1 (pc' := if 1 = 0 then 44 else 34) (ls' := [mv_R 100, mv_I s, mv_I (m : Int), mv_I w, mv_I p, mv_U, mv_U, mv_U]) (st' := []) (M1 := M2) rfl ?_
    refine mv_ffW (by first | decide | omega) ?_
    refine mv_goW 3 (pc' := 38) (ls' := [mv_R 100, mv_I s, mv_I (m : Int), mv_I w, mv_I p, mv_U, mv_U, mv_U]) (st' := [mv_I 1, mv_I 0, mv_I p]) (M1 := M2) rfl ?_
    have ha37 : (0 : Int) ≤ p ∧ p ≤ (1 : Int) := by omega
    refine mv_callPW (st2 := [mv_I 1]) rfl (Or.inr rfl) rfl rfl rfl (sp_min_t ha37) (by first | decide | omega) ?_
    refine mv_goW 1 (pc' := if 1 = 0 then 44 else 48) (ls' := [mv_R 100, mv_I s, mv_I (m : Int), mv_I w, mv_I p, mv_U, mv_U, mv_U]) (st' := []) (M1 := M2) rfl ?_
    refine mv_ffW (by first | decide | omega) ?_
    refine mv_goW 1 (pc' := 49) (ls' := [mv_R 100, mv_I s, mv_I (m : Int), mv_I w, mv_I p, mv_U, mv_U, mv_U]) (st' := [mv_R 100]) (M1 := M2) rfl ?_
    refine mv_callW (st2 := []) rfl (Or.inl rfl) rfl rfl rfl (sp_mrs hm ho hl hmt) (by first | decide | omega) (fun Ma38 hm39 => ?_)
    have hy := hm39
    have hm := sp_m_ag2 hm hy.1 (by decide)
    have hmt := sp_mts_ag hmt hy.1 (by decide)
    refine mv_goW 4 (pc' := 58) (ls' := [mv_R 100, mv_I s, mv_I (m : Int), mv_I w, mv_I p, mv_L 0, mv_U, mv_I 0]) (st' := []) (M1 := Ma38) rfl ?_
    refine sp_mod (d := 17) (V := V) (P := P) (M0 := Ma38) hm ho hy.2 hs.1 hs.2 hm60 (fun M3 hz1 hz2 => ?_) m 0 Ma38 (by omega) mv_ag.rf (fun _ _ _ => rfl)
    have hml := sp_mlow (M := M3) (x := x) (y := m) (p := p) (by omega) hm60
    rw [hxe]
    refine mv_goW 4 (pc' := 102) (ls' := [mv_R 100, mv_I s, mv_I (m : Int), mv_I w, mv_I p, mv_L (x : Int), mv_U, mv_I (m : Int)]) (st' := [mv_I p, mv_L (m : Int), mv_L (x : Int)]) (M1 := M3) rfl ?_
    refine mv_callPW (st2 := [mv_L (sp_low x m p)]) rfl (Or.inr rfl) rfl rfl rfl (hml) (by first | decide | omega) ?_
    exact mv_retW (fun n => rfl) ⟨rfl, sp_tend h (((hag.wd (by decide)).tr (hy.1.wd (by decide))).tr (hz1.wd (by decide))) (fun j hj => (hz2 j hj.2.2.1 hj.2.2.2).trans (by rw [hy.1 100 (by decide), hag 100 (by decide)]))⟩
theorem sp_k28 (s m w p : Int) : sp_callL 89 184 [mv_I s, mv_I m, mv_I w, mv_I p] [mv_I s, mv_I m, mv_I w, mv_I p] := by
  by_cases hb : (0 ≤ s ∧ s ≤ 99999) ∧ (1 ≤ m ∧ m ≤ 60) ∧ (-9999 ≤ w ∧ w ≤ 9999) ∧ (p = 0 ∨ p = 1)
  · obtain ⟨k, rfl⟩ : ∃ k : Nat, m = (k : Int) := ⟨m.toNat, by omega⟩
    exact sp_k28g s w p k hb.1 (by omega) (by omega) hb.2.2.1 hb.2.2.2
  · exact sp_k28b s m w p hb
