/-! drawn, odds -/
theorem sp_tb_ag {S : List Nat} {V : mv_M} {P : Nat → Nat → List Int} {M M1 : mv_M} (h : sp_tb V P M) (ha : mv_ag S M M1) (hs : 60 ∉ S ∧ 61 ∉ S ∧ 63 ∉ S) : sp_tb V P M1 := by
  unfold sp_tb
  rw [ha 60 hs.1, ha 61 hs.2.1, ha 63 hs.2.2]
  exact h
theorem sp_tmm_ag {S : List Nat} {V : mv_M} {P : Nat → Nat → List Int} {M M1 : mv_M} (h : sp_tmm V P M) (ha : mv_ag S M M1) (hs : 133 ∉ S ∧ 134 ∉ S) : sp_tmm V P M1 := by
  unfold sp_tmm
  rw [ha 133 hs.1, ha 134 hs.2]
  exact h
/-- after calls that write on the table's cells and on the model's alone -/
theorem sp_tend {V : mv_M} {P : Nat → Nat → List Int} {n : Int} {B : mv_M} {K : Int} {t : Nat} {M M1 : mv_M} (h : sp_R V P n B K t M) (ha : mv_ag [36, 37, 60, 61, 62, 63, 64, 65, 66, 67, 68, 100, 130, 131, 133, 134, 135, 140, 141] M M1)
    (h0 : ∀ j, (j ≠ 36 ∧ j ≠ 37 ∧ j ≠ 38 ∧ j ≠ 39) → M1 100 j = M 100 j) : sp_Inv M1 :=
  ⟨V, P, n, B, K, t, sp_R_ag h ha (by decide) ⟨h0 0 (by decide), h0 1 (by decide), h0 7 (by decide), h0 9 (by decide), h0 12 (by decide), h0 13 (by decide), h0 14 (by decide)⟩⟩
theorem sp_k27 (a b : Int) : sp_call 88 182 [mv_I a, mv_I b] [mv_I a, mv_I b] := by
  refine sp_mkW (lc := [mv_R 0, mv_I a, mv_I b]) (lm := [mv_R 100, mv_I a, mv_I b]) rfl rfl (fun M hI => ?_)
  have hI2 := hI
  obtain ⟨V, P, n, B, K, t, h⟩ := hI2
  have h' := h
  obtain ⟨⟨hc, hm, ho⟩, ⟨hy, hl, hn1, hn⟩, ⟨hct, hmt, _⟩, _⟩ := h'
  have h8 := sp_ok_s8 ho
  have h9 := sp_ok_s9 ho
  refine mv_goW 2 (pc' := if a < 0 then 17 else 4) (ls' := [mv_R 0, mv_I a, mv_I b]) (st' := []) (M1 := M) rfl ?_
  refine mv_spW (fun ha1 => ?_) (fun ha1 => ?_)
  · refine mv_goW 1 (pc' := 19) (ls' := [mv_R 0, mv_I a, mv_I b]) (st' := [mv_I (-2)]) (M1 := M) rfl ?_
    refine mv_retW (fun n => rfl) ⟨_, rfl, ?_⟩
    refine mv_goW 3 (pc' := 5) (ls' := [mv_R 100, mv_I a, mv_I b]) (st' := [mv_I 99999, mv_I 0, mv_I a]) (M1 := M) rfl ?_
    have ha2 : ¬ ((0 : Int) ≤ a ∧ a ≤ (99999 : Int)) := by omega
    refine mv_callPW (st2 := [mv_I 0]) rfl (Or.inr rfl) rfl rfl rfl (sp_min_f ha2) (by first | decide | omega) ?_
    refine mv_goW 1 (pc' := if 0 = 0 then 20 else 11) (ls' := [mv_R 100, mv_I a, mv_I b]) (st' := []) (M1 := M) rfl ?_
    refine mv_ttW (by first | decide | omega) ?_
    refine mv_goW 1 (pc' := 22) (ls' := [mv_R 100, mv_I a, mv_I b]) (st' := [mv_I (-2)]) (M1 := M) rfl ?_
    exact mv_retW (fun n => rfl) ⟨congrArg mv_I (by first | with_reducible rfl | omega), hI⟩
  · refine mv_goW 3 (pc' := if 99999 < a then 17 else 10) (ls' := [mv_R 0, mv_I a, mv_I b]) (st' := []) (M1 := M) rfl ?_
    refine mv_spW (fun ha3 => ?_) (fun ha3 => ?_)
    · refine mv_goW 1 (pc' := 19) (ls' := [mv_R 0, mv_I a, mv_I b]) (st' := [mv_I (-2)]) (M1 := M) rfl ?_
      refine mv_retW (fun n => rfl) ⟨_, rfl, ?_⟩
      refine mv_goW 3 (pc' := 5) (ls' := [mv_R 100, mv_I a, mv_I b]) (st' := [mv_I 99999, mv_I 0, mv_I a]) (M1 := M) rfl ?_
      have ha4 : ¬ ((0 : Int) ≤ a ∧ a ≤ (99999 : Int)) := by omega
      refine mv_callPW (st2 := [mv_I 0]) rfl (Or.inr rfl) rfl rfl rfl (sp_min_f ha4) (by first | decide | omega) ?_
      refine mv_goW 1 (pc' := if 0 = 0 then 20 else 11) (ls' := [mv_R 100, mv_I a, mv_I b]) (st' := []) (M1 := M) rfl ?_
      refine mv_ttW (by first | decide | omega) ?_
      refine mv_goW 1 (pc' := 22) (ls' := [mv_R 100, mv_I a, mv_I b]) (st' := [mv_I (-2)]) (M1 := M) rfl ?_
      exact mv_retW (fun n => rfl) ⟨congrArg mv_I (by first | with_reducible rfl | omega), hI⟩
    · refine mv_goW 1 (pc' := 11) (ls' := [mv_R 0, mv_I a, mv_I b]) (st' := [mv_I b]) (M1 := M) rfl ?_
      by_cases ha5 : b = 0 ∨ b = 1
      · refine mv_callPW (st2 := [mv_I 1]) rfl (Or.inr rfl) rfl rfl rfl (sp_eith_t ha5) (by first | decide | omega) ?_
        refine mv_goW 1 (pc' := if 1 = 0 then 17 else 20) (ls' := [mv_R 0, mv_I a, mv_I b]) (st' := []) (M1 := M) rfl ?_
        refine mv_ffW (by first | decide | omega) ?_
        refine mv_goW 4 (pc' := 28) (ls' := [mv_R 0, mv_I a, mv_I b]) (st' := [mv_R 30, mv_R 60]) (M1 := M) rfl ?_
        refine mv_callW (st2 := []) rfl (Or.inl rfl) rfl rfl rfl (sp_crs hc ho hl hn hct) (by first | decide | omega) (fun Ma6 hm7 => ?_)
        have hx := hm7
        have hm := sp_m_ag2 hm hx.1 (by decide)
        have hmt := sp_mts_ag hmt hx.1 (by decide)
        have hcc := sp_c_ag hc hx.1 (by decide)
        refine mv_goW 3 (pc' := 36) (ls' := [mv_R 0, mv_I a, mv_I b]) (st' := [mv_I a, mv_R 60]) (M1 := Ma6) rfl ?_
        refine mv_callW (st2 := []) rfl (Or.inl rfl) rfl rfl rfl (sp_cdr ho hx.2 (by omega) (by omega)) (by first | decide | omega) (fun Ma8 hm9 => ?_)
        have hd := hm9
        have hag : mv_ag [36, 37, 60, 61, 63, 64, 65] M Ma8 := (hx.1.wd (by decide)).tr (hd.1.wd (by decide))
        have hm := sp_m_ag2 hm hd.1 (by decide)
        have hmt := sp_mts_ag hmt hd.1 (by decide)
        have ht2 := sp_tb_ag hx.2 hd.1 (by decide)
        have hD : ∀ j : Nat, (j : Int) < V 0 8 → Ma8 64 j = sp_dr V a j ∧ -1 ≤ sp_dr V a j ∧ sp_dr V a j < V 0 9 := fun j hj => ⟨hd.2 j hj, sp_dr_b (by omega) (by omega) h9.1 j⟩
        refine mv_goW 2 (pc' := if b = 0 then 43 else 53) (ls' := [mv_R 0, mv_I a, mv_I b]) (st' := []) (M1 := Ma8) rfl ?_
        refine mv_spW (fun ha10 => ?_) (fun ha10 => ?_)
        · refine mv_goW 2 (pc' := 47) (ls' := [mv_R 0, mv_I a, mv_I b]) (st' := [mv_R 60]) (M1 := Ma8) rfl ?_
          refine mv_callPW (st2 := [mv_I (sp_rs (sp_suits V P) (sp_dr V a) (V 0 8).toNat)]) rfl (Or.inl rfl) rfl rfl rfl (sp_crsd ho ht2 hD) (by first | decide | omega) ?_
          refine mv_goW 1 (pc' := 60) (ls' := [mv_R 0, mv_I a, mv_I b]) (st' := [mv_I (sp_rs (sp_suits V P) (sp_dr V a) (V 0 8).toNat)]) (M1 := Ma8) rfl ?_
          refine mv_retW (fun n => rfl) ⟨_, rfl, ?_⟩
          refine mv_goW 3 (pc' := 5) (ls' := [mv_R 100, mv_I a, mv_I b]) (st' := [mv_I 99999, mv_I 0, mv_I a]) (M1 := Ma8) rfl ?_
          have ha11 : (0 : Int) ≤ a ∧ a ≤ (99999 : Int) := by omega
          refine mv_callPW (st2 := [mv_I 1]) rfl (Or.inr rfl) rfl rfl rfl (sp_min_t ha11) (by first | decide | omega) ?_
          refine mv_goW 1 (pc' := if 1 = 0 then 20 else 11) (ls' := [mv_R 100, mv_I a, mv_I b]) (st' := []) (M1 := Ma8) rfl ?_
          refine mv_ffW (by first | decide | omega) ?_
          refine mv_goW 3 (pc' := 14) (ls' := [mv_R 100, mv_I a, mv_I b]) (st' := [mv_I 1, mv_I 0, mv_I b]) (M1 := Ma8) rfl ?_
          have ha12 : (0 : Int) ≤ b ∧ b ≤ (1 : Int) := by omega
          refine mv_callPW (st2 := [mv_I 1]) rfl (Or.inr rfl) rfl rfl rfl (sp_min_t ha12) (by first | decide | omega) ?_
          refine mv_goW 1 (pc' := if 1 = 0 then 20 else 23) (ls' := [mv_R 100, mv_I a, mv_I b]) (st' := []) (M1 := Ma8) rfl ?_
          refine mv_ffW (by first | decide | omega) ?_
          refine mv_goW 1 (pc' := 24) (ls' := [mv_R 100, mv_I a, mv_I b]) (st' := [mv_R 100]) (M1 := Ma8) rfl ?_
          refine mv_callW (st2 := []) rfl (Or.inl rfl) rfl rfl rfl (sp_mrs hm ho hl hmt) (by first | decide | omega) (fun Ma13 hm14 => ?_)
          have hy := hm14
          have hm := sp_m_ag2 hm hy.1 (by decide)
          have hmt := sp_mts_ag hmt hy.1 (by decide)
          refine mv_goW 2 (pc' := 29) (ls' := [mv_R 100, mv_I a, mv_I b]) (st' := [mv_I a, mv_R 100]) (M1 := Ma13) rfl ?_
          refine mv_callW (st2 := []) rfl (Or.inl rfl) rfl rfl rfl (sp_mli hm ho hy.2 (by omega) (by omega)) (by first | decide | omega) (fun Ma15 hm16 => ?_)
          have hz := hm16
          refine mv_goW 2 (pc' := if b = 0 then 36 else 43) (ls' := [mv_R 100, mv_I a, mv_I b]) (st' := []) (M1 := Ma15) rfl ?_
          refine mv_ttW (by omega) ?_
          refine mv_goW 2 (pc' := 40) (ls' := [mv_R 100, mv_I a, mv_I b]) (st' := [mv_I (Ma15 100 39)]) (M1 := Ma15) rfl ?_
          rw [show Ma15 100 39 = sp_rs (sp_suits V P) (sp_dr V a) (V 0 8).toNat from by exact hz.2.2]
          refine mv_goW 1 (pc' := 47) (ls' := [mv_R 100, mv_I a, mv_I b]) (st' := [mv_I (sp_rs (sp_suits V P) (sp_dr V a) (V 0 8).toNat)]) (M1 := Ma15) rfl ?_
          exact mv_retW (fun n => rfl) ⟨congrArg mv_I (by first | with_reducible rfl | omega), sp_tend h (((hag.wd (by decide)).tr (hy.1.wd (by decide))).tr (hz.1.1.wd (by decide))) (fun j hj => (hz.1.2 j hj.2.2.1 hj.2.2.2).trans (by rw [hy.1 100 (by decide), hag 100 (by decide)]))⟩
        · refine mv_goW 2 (pc' := 57) (ls' := [mv_R 0, mv_I a, mv_I b]) (st' := [mv_R 60]) (M1 := Ma8) rfl ?_
          refine mv_callPW (st2 := [mv_I (sp_rd (sp_dr V a) (V 0 8).toNat)]) rfl (Or.inl rfl) rfl rfl rfl (sp_crdg ho ht2.1.1 hD) (by first | decide | omega) ?_
          refine mv_retW (fun n => rfl) ⟨_, rfl, ?_⟩
          refine mv_goW 3 (pc' := 5) (ls' := [mv_R 100, mv_I a, mv_I b]) (st' := [mv_I 99999, mv_I 0, mv_I a]) (M1 := Ma8) rfl ?_
          have ha17 : (0 : Int) ≤ a ∧ a ≤ (99999 : Int) := by omega
          refine mv_callPW (st2 := [mv_I 1]) rfl (Or.inr rfl) rfl rfl rfl (sp_min_t ha17) (by first | decide | omega) ?_
          refine mv_goW 1 (pc' := if 1 = 0 then 20 else 11) (ls' := [mv_R 100, mv_I a, mv_I b]) (st' := []) (M1 := Ma8) rfl ?_
          refine mv_ffW (by first | decide | omega) ?_
          refine mv_goW 3 (pc' := 14) (ls' := [mv_R 100, mv_I a, mv_I b]) (st' := [mv_I 1, mv_I 0, mv_I b]) (M1 := Ma8) rfl ?_
          have ha18 : (0 : Int) ≤ b ∧ b ≤ (1 : Int) := by omega
          refine mv_callPW (st2 := [mv_I 1]) rfl (Or.inr rfl) rfl rfl rfl (sp_min_t ha18) (by first | decide | omega) ?_
          refine mv_goW 1 (pc' := if 1 = 0 then 20 else 23) (ls' := [mv_R 100, mv_I a, mv_I b]) (st' := []) (M1 := Ma8) rfl ?_
          refine mv_ffW (by first | decide | omega) ?_
          refine mv_goW 1 (pc' := 24) (ls' := [mv_R 100, mv_I a, mv_I b]) (st' := [mv_R 100]) (M1 := Ma8) rfl ?_
          refine mv_callW (st2 := []) rfl (Or.inl rfl) rfl rfl rfl (sp_mrs hm ho hl hmt) (by first | decide | omega) (fun Ma19 hm20 => ?_)
          have hy := hm20
          have hm := sp_m_ag2 hm hy.1 (by decide)
          have hmt := sp_mts_ag hmt hy.1 (by decide)
          refine mv_goW 2 (pc' := 29) (ls' := [mv_R 100, mv_I a, mv_I b]) (st' := [mv_I a, mv_R 100]) (M1 := Ma19) rfl ?_
          refine mv_callW (st2 := []) rfl (Or.inl rfl) rfl rfl rfl (sp_mli hm ho hy.2 (by omega) (by omega)) (by first | decide | omega) (fun Ma21 hm22 => ?_)
          have hz := hm22
          refine mv_goW 2 (pc' := if b = 0 then 36 else 43) (ls' := [mv_R 100, mv_I a, mv_I b]) (st' := []) (M1 := Ma21) rfl ?_
          refine mv_ffW (by omega) ?_
          refine mv_goW 2 (pc' := 47) (ls' := [mv_R 100, mv_I a, mv_I b]) (st' := [mv_I (Ma21 100 38)]) (M1 := Ma21) rfl ?_
          rw [show Ma21 100 38 = sp_rd (sp_dr V a) (V 0 8).toNat from by exact hz.2.1]
          exact mv_retW (fun n => rfl) ⟨congrArg mv_I (by first | with_reducible rfl | omega), sp_tend h (((hag.wd (by decide)).tr (hy.1.wd (by decide))).tr (hz.1.1.wd (by decide))) (fun j hj => (hz.1.2 j hj.2.2.1 hj.2.2.2).trans (by rw [hy.1 100 (by decide), hag 100 (by decide)]))⟩
      · refine mv_callPW (st2 := [mv_I 0]) rfl (Or.inr rfl) rfl rfl rfl (sp_eith_f ha5) (by first | decide | omega) ?_
        refine mv_goW 1 (pc' := if 0 = 0 then 17 else 20) (ls' := [mv_R 0, mv_I a, mv_I b]) (st' := []) (M1 := M) rfl ?_
        refine mv_ttW (by first | decide | omega) ?_
        refine mv_goW 1 (pc' := 19) (ls' := [mv_R 0, mv_I a, mv_I b]) (st' := [mv_I (-2)]) (M1 := M) rfl ?_
        refine mv_retW (fun n => rfl) ⟨_, rfl, ?_⟩
        refine mv_goW 3 (pc' := 5) (ls' := [mv_R 100, mv_I a, mv_I b]) (st' := [mv_I 99999, mv_I 0, mv_I a]) (M1 := M) rfl ?_
        have ha23 : (0 : Int) ≤ a ∧ a ≤ (99999 : Int) := by omega
        refine mv_callPW (st2 := [mv_I 1]) rfl (Or.inr rfl) rfl rfl rfl (sp_min_t ha23) (by first | decide | omega) ?_
        refine mv_goW 1 (pc' := if 1 = 0 then 20 else 11) (ls' := [mv_R 100, mv_I a, mv_I b]) (st' := []) (M1 := M) rfl ?_
        refine mv_ffW (by first | decide | omega) ?_
        refine mv_goW 3 (pc' := 14) (ls' := [mv_R 100, mv_I a, mv_I b]) (st' := [mv_I 1, mv_I 0, mv_I b]) (M1 := M) rfl ?_
        have ha24 : ¬ ((0 : Int) ≤ b ∧ b ≤ (1 : Int)) := by omega
        refine mv_callPW (st2 := [mv_I 0]) rfl (Or.inr rfl) rfl rfl rfl (sp_min_f ha24) (by first | decide | omega) ?_
        refine mv_goW 1 (pc' := if 0 = 0 then 20 else 23) (ls' := [mv_R 100, mv_I a, mv_I b]) (st' := []) (M1 := M) rfl ?_
        refine mv_ttW (by first | decide | omega) ?_
        refine mv_goW 1 (pc' := 22) (ls' := [mv_R 100, mv_I a, mv_I b]) (st' := [mv_I (-2)]) (M1 := M) rfl ?_
        exact mv_retW (fun n => rfl) ⟨congrArg mv_I (by first | with_reducible rfl | omega), hI⟩
/-! odds: how many -/
def sp_on (V : mv_M) (P : Nat → Nat → List Int) (s w : Int) : Nat → Int
  | 0 => 0
  | k + 1 => sp_on V P s w k + (if sp_rs (sp_suits V P) (sp_dr V (s + k)) (V 0 8).toNat < w then 0 else 1)
theorem sp_on_b (V : mv_M) (P : Nat → Nat → List Int) (s w : Int) : ∀ k : Nat, 0 ≤ sp_on V P s w k ∧ sp_on V P s w k ≤ k
  | 0 => ⟨Int.le_refl _, Int.le_refl _⟩
  | k + 1 => by
    have h := sp_on_b V P s w k
    simp only [sp_on]
    split <;> omega
theorem sp_cod {V M0 : mv_M} {P : Nat → Nat → List Int} {s w p : Int} {m d : Nat} {Q : mv_V → mv_M → Prop} (ho : sp_ok V) (ht : sp_tb V P M0) (h0 : 0 ≤ s) (h1 : s ≤ 99999) (hm : m ≤ 60)
    (hQ : ∀ M2, mv_ag [64, 65] M0 M2 → mv_W (d + 3) 89 105 [mv_R 0, mv_I s, mv_I (m : Int), mv_I w, mv_I p, mv_I (sp_on V P s w m), mv_I (m : Int)] [] M2 Q) :
    ∀ (r k : Nat) (M : mv_M), k + r = m → mv_ag [64, 65] M0 M → mv_W (d + 3) 89 68 [mv_R 0, mv_I s, mv_I (m : Int), mv_I w, mv_I p, mv_I (sp_on V P s w k), mv_I (k : Int)] [] M Q := by
  have h9 := sp_ok_s9 ho
  intro r
  induction r with
  | zero =>
    intro k M hk hag
    have hk : k = m := by omega
    subst hk
    refine mv_goW 3 (pc' := if (k : Int) < (k : Int) then 74 else 105) (ls' := [mv_R 0, mv_I s, mv_I (k : Int), mv_I w, mv_I p, mv_I (sp_on V P s w k), mv_I (k : Int)]) (st' := []) (M1 := M) rfl ?_
    refine mv_ffW (by omega) ?_
    exact hQ M hag
  | succ r ih =>
    intro k M hk hag
    have hb := sp_on_b V P s w k
    refine mv_goW 3 (pc' := if (k : Int) < (m : Int) then 74 else 105) (ls' := [mv_R 0, mv_I s, mv_I (m : Int), mv_I w, mv_I p, mv_I (sp_on V P s w k), mv_I (k : Int)]) (st' := []) (M1 := M) rfl ?_
    refine mv_ttW (by omega) ?_
    refine mv_goW 5 (pc' := 82) (ls' := [mv_R 0, mv_I s, mv_I (m : Int), mv_I w, mv_I p, mv_I (sp_on V P s w k), mv_I (k : Int)]) (st' := [mv_I (mv_w (s + (k : Int))), mv_R 60]) (M1 := M) rfl ?_
    rw [show mv_w (s + (k : Int)) = s + (k : Int) from mv_w_id (by omega) (by omega)]
    refine mv_callW (st2 := []) rfl (Or.inl rfl) rfl rfl rfl (sp_cdr (s := s + (k : Int)) ho (sp_tb_ag ht hag (by decide)) (by omega) (by omega)) (by first | decide | omega) (fun Ma25 hm26 => ?_)
    have hd := hm26
    have hag2 : mv_ag [64, 65] M0 Ma25 := hag.tr hd.1
    have ht2 := sp_tb_ag ht hag2 (by decide)
    have hD : ∀ j : Nat, (j : Int) < V 0 8 → Ma25 64 j = sp_dr V (s + (k : Int)) j ∧ -1 ≤ sp_dr V (s + (k : Int)) j ∧ sp_dr V (s + (k : Int)) j < V 0 9 := fun j hj => ⟨hd.2 j hj, sp_dr_b (by omega) (by omega) h9.1 j⟩
    refine mv_goW 2 (pc' := 89) (ls' := [mv_R 0, mv_I s, mv_I (m : Int), mv_I w, mv_I p, mv_I (sp_on V P s w k), mv_I (k : Int)]) (st' := [mv_R 60]) (M1 := Ma25) rfl ?_
    refine mv_callPW (st2 := [mv_I (sp_rs (sp_suits V P) (sp_dr V (s + (k : Int))) (V 0 8).toNat)]) rfl (Or.inl rfl) rfl rfl rfl (sp_crsd ho ht2 hD) (by first | decide | omega) ?_
    refine mv_goW 2 (pc' := if (sp_rs (sp_suits V P) (sp_dr V (s + (k : Int))) (V 0 8).toNat) < w then 99 else 96) (ls' := [mv_R 0, mv_I s, mv_I (m : Int), mv_I w, mv_I p, mv_I (sp_on V P s w k), mv_I (k : Int)]) (st' := []) (M1 := Ma25) rfl ?_
    refine mv_spW (fun ha27 => ?_) (fun ha27 => ?_)
    · refine mv_goW 2 (pc' := 68) (ls' := [mv_R 0, mv_I s, mv_I (m : Int), mv_I w, mv_I p, mv_I (sp_on V P s w k), mv_I (mv_w ((k : Int) + 1))]) (st' := []) (M1 := Ma25) rfl ?_
      rw [show mv_w ((k : Int) + 1) = (k : Int) + 1 from mv_w_id (by omega) (by omega)]
      rw [show (k : Int) + 1 = ((k + 1 : Nat) : Int) from by omega]
      refine mv_eqsW (ls2 := [mv_R 0, mv_I s, mv_I (m : Int), mv_I w, mv_I p, mv_I (sp_on V P s w (k + 1)), mv_I ((k + 1 : Nat) : Int)]) (by rw [show sp_on V P s w k = sp_on V P s w (k + 1) from by simp only [sp_on]; split <;> omega]) rfl rfl (ih (k + 1) _ (by omega) hag2)
    · refine mv_goW 3 (pc' := 68) (ls' := [mv_R 0, mv_I s, mv_I (m : Int), mv_I w, mv_I p, mv_I (mv_w ((sp_on V P s w k) + 1)), mv_I (mv_w ((k : Int) + 1))]) (st' := []) (M1 := Ma25) rfl ?_
      rw [show mv_w ((sp_on V P s w k) + 1) = (sp_on V P s w k) + 1 from mv_w_id (by omega) (by omega)]
      rw [show mv_w ((k : Int) + 1) = (k : Int) + 1 from mv_w_id (by omega) (by omega)]
      rw [show (k : Int) + 1 = ((k + 1 : Nat) : Int) from by omega]
      refine mv_eqsW (ls2 := [mv_R 0, mv_I s, mv_I (m : Int), mv_I w, mv_I p, mv_I (sp_on V P s w (k + 1)), mv_I ((k + 1 : Nat) : Int)]) (by rw [show (sp_on V P s w k) + 1 = sp_on V P s w (k + 1) from by simp only [sp_on]; split <;> omega]) rfl rfl (ih (k + 1) _ (by omega) hag2)
theorem sp_mod {V M0 : mv_M} {P : Nat → Nat → List Int} {s w p : Int} {m d : Nat} {Q : mv_V → mv_M → Prop} (hm : sp_m M0 V) (ho : sp_ok V) (ht : sp_tmm V P M0) (h0 : 0 ≤ s) (h1 : s ≤ 99999) (hm60 : m ≤ 60)
    (hQ : ∀ M2, mv_ag [100, 135] M0 M2 → (∀ j, j ≠ 38 → j ≠ 39 → M2 100 j = M0 100 j) → mv_W (d + 3) 184 96 [mv_R 100, mv_I s, mv_I (m : Int), mv_I w, mv_I p, mv_L (sp_on V P s w m), mv_U, mv_I (m : Int)] [] M2 Q) :
    ∀ (r k : Nat) (M : mv_M), k + r = m → mv_ag [100, 135] M0 M → (∀ j, j ≠ 38 → j ≠ 39 → M 100 j = M0 100 j) → mv_W (d + 3) 184 58 [mv_R 100, mv_I s, mv_I (m : Int), mv_I w, mv_I p, mv_L (sp_on V P s w k), mv_U, mv_I (k : Int)] [] M Q := by
  intro r
  induction r with
  | zero =>
    intro k M hk hag h100
    have hk : k = m := by omega
    subst hk
    refine mv_goW 3 (pc' := if (k : Int) < (k : Int) then 64 else 96) (ls' := [mv_R 100, mv_I s, mv_I (k : Int), mv_I w, mv_I p, mv_L (sp_on V P s w k), mv_U, mv_I (k : Int)]) (st' := []) (M1 := M) rfl ?_
    refine mv_ffW (by omega) ?_
    exact hQ M hag h100
  | succ r ih =>
    intro k M hk hag h100
    have hb := sp_on_b V P s w k
    refine mv_goW 3 (pc' := if (k : Int) < (m : Int) then 64 else 96) (ls' := [mv_R 100, mv_I s, mv_I (m : Int), mv_I w, mv_I p, mv_L (sp_on V P s w k), mv_U, mv_I (k : Int)]) (st' := []) (M1 := M) rfl ?_
    refine mv_ttW (by omega) ?_
    refine mv_goW 4 (pc' := 69) (ls' := [mv_R 100, mv_I s, mv_I (m : Int), mv_I w, mv_I p, mv_L (sp_on V P s w k), mv_U, mv_I (k : Int)]) (st' := [mv_I (mv_w (s + (k : Int))), mv_R 100]) (M1 := M) rfl ?_
    rw [show mv_w (s + (k : Int)) = s + (k : Int) from mv_w_id (by omega) (by omega)]
    refine mv_callW (st2 := []) rfl (Or.inl rfl) rfl rfl rfl (sp_mli (s := s + (k : Int)) (sp_m_ag hm hag ⟨h100 0 (by decide) (by decide), h100 1 (by decide) (by decide), h100 7 (by decide) (by decide), h100 13 (by decide) (by decide)⟩ (by decide)) ho (sp_tmm_ag ht hag (by decide)) (by omega) (by omega)) (by first | decide | omega) (fun Ma28 hm29 => ?_)
    have hz := hm29
    have hag2 : mv_ag [100, 135] M0 Ma28 := hag.tr hz.1.1
    have h102 : ∀ j, j ≠ 38 → j ≠ 39 → Ma28 100 j = M0 100 j := fun j j1 j2 => (hz.1.2 j j1 j2).trans (h100 j j1 j2)
    refine mv_goW 3 (pc' := 78) (ls' := [mv_R 100, mv_I s, mv_I (m : Int), mv_I w, mv_I p, mv_L (sp_on V P s w k), mv_U, mv_I (k : Int)]) (st' := [mv_I (Ma28 100 39), mv_L (sp_on V P s w k)]) (M1 := Ma28) rfl ?_
    rw [show Ma28 100 39 = sp_rs (sp_suits V P) (sp_dr V (s + (k : Int))) (V 0 8).toNat from by exact hz.2.2]
    refine mv_goW 2 (pc' := if (sp_rs (sp_suits V P) (sp_dr V (s + (k : Int))) (V 0 8).toNat) < w then 86 else 82) (ls' := [mv_R 100, mv_I s, mv_I (m : Int), mv_I w, mv_I p, mv_L (sp_on V P s w k), mv_U, mv_I (k : Int)]) (st' := [mv_L (sp_on V P s w k)]) (M1 := Ma28) rfl ?_
    refine mv_spW (fun ha30 => ?_) (fun ha30 => ?_)
    · refine mv_goW 5 (pc' := 58) (ls' := [mv_R 100, mv_I s, mv_I (m : Int), mv_I w, mv_I p, mv_L (mv_wl ((sp_on V P s w k) + 0)), mv_U, mv_I (mv_w ((k : Int) + 1))]) (st' := []) (M1 := Ma28) rfl ?_
      rw [show mv_wl ((sp_on V P s w k) + 0) = (sp_on V P s w k) + 0 from mv_wl_id (by omega) (by omega)]
      rw [show mv_w ((k : Int) + 1) = (k : Int) + 1 from mv_w_id (by omega) (by omega)]
      rw [show (k : Int) + 1 = ((k + 1 : Nat) : Int) from by omega]
      refine mv_eqsW (ls2 := [mv_R 100, mv_I s, mv_I (m : Int), mv_I w, mv_I p, mv_L (sp_on V P s w (k + 1)), mv_U, mv_I ((k + 1 : Nat) : Int)]) (by rw [show (sp_on V P s w k) + 0 = sp_on V P s w (k + 1) from by simp only [sp_on]; split <;> omega]) rfl rfl (ih (k + 1) _ (by omega) hag2 h102)
    · refine mv_goW 6 (pc' := 58) (ls' := [mv_R 100, mv_I s, mv_I (m : Int), mv_I w, mv_I p, mv_L (mv_wl ((sp_on V P s w k) + 1)), mv_U, mv_I (mv_w ((k : Int) + 1))]) (st' := []) (M1 := Ma28) rfl ?_
      rw [show mv_wl ((sp_on V P s w k) + 1) = (sp_on V P s w k) + 1 from mv_wl_id (by omega) (by omega)]
      rw [show mv_w ((k : Int) + 1) = (k : Int) + 1 from mv_w_id (by omega) (by omega)]
      rw [show (k : Int) + 1 = ((k + 1 : Nat) : Int) from by omega]
      refine mv_eqsW (ls2 := [mv_R 100, mv_I s, mv_I (m : Int), mv_I w, mv_I p, mv_L (sp_on V P s w (k + 1)), mv_U, mv_I ((k + 1 : Nat) : Int)]) (by rw [show (sp_on V P s w k) + 1 = sp_on V P s w (k + 1) from by simp only [sp_on]; split <;> omega]) rfl rfl (ih (k + 1) _ (by omega) hag2 h102)
