/-! spare: the uncle without whom most is left -/
def sp_rmw (V : mv_M) (k : Nat) : Nat → Int := fun v => if (v : Int) = (k : Int) then 0 else sp_room V v
def sp_swo (V : mv_M) (P : Nat → Nat → List Int) (b k : Nat) : Int := (sp_gt V P (sp_rmw V k) b (b ^ (V 0 8).toNat)).2.2
def sp_spl (sw : Nat → Int) : Nat → Int × Int
  | 0 => (-1, 0)
  | k + 1 => if (sp_spl sw k).1 = -1 ∨ (sp_spl sw k).2 < sw k then ((k : Int), sw k) else sp_spl sw k
theorem sp_spl_b {sw : Nat → Int} : ∀ k : Nat, (∀ u, u < k → -7200 ≤ sw u ∧ sw u ≤ 7200) → (-1 ≤ (sp_spl sw k).1 ∧ (sp_spl sw k).1 < k) ∧ -7200 ≤ (sp_spl sw k).2 ∧ (sp_spl sw k).2 ≤ 7200
  | 0, _ => by simp [sp_spl]
  | k + 1, h => by
    have h1 := sp_spl_b (sw := sw) k (fun u hu => h u (by omega))
    have h2 := h k (by omega)
    simp only [sp_spl]
    split
    · exact ⟨⟨by show -1 ≤ (k : Int); omega, by show (k : Int) < ((k + 1 : Nat) : Int); omega⟩, h2⟩
    · exact ⟨⟨h1.1.1, by omega⟩, h1.2⟩
theorem sp_cspl {V M0 : mv_M} {P : Nat → Nat → List Int} {w : Int} {d : Nat} {sw es : Nat → Int} {Q : mv_V → mv_M → Prop} (hc : sp_c 30 M0 V) (ho : sp_ok V) (ht : sp_tb V P M0)
    (hg : ∀ u : Nat, (u : Int) < V 0 9 → sp_mo V P (u : Int) (V 0 9).toNat (2 ^ (V 0 8).toNat - 1) = sw u * 1048576 - es u ∧ (0 ≤ es u ∧ es u ≤ 666666) ∧ -7200 ≤ sw u ∧ sw u ≤ 7200) :
    ∀ (r k : Nat) (M : mv_M) (l5 : mv_V), (k : Int) + r = V 0 9 → mv_ag [67, 68] M0 M → mv_isL l5 = false →
      (∀ (M2 : mv_M) (l5 : mv_V), mv_ag [67, 68] M0 M2 → mv_W (d + 4) 80 77 [mv_R 0, mv_I w, mv_I (sp_spl sw (V 0 9).toNat).1, mv_I (sp_spl sw (V 0 9).toNat).2, mv_I (V 0 9), l5] [] M2 Q) →
      mv_W (d + 4) 80 28 [mv_R 0, mv_I w, mv_I (sp_spl sw k).1, mv_I (sp_spl sw k).2, mv_I (k : Int), l5] [] M Q := by
  have h9 := sp_ok_s9 ho
  intro r
  induction r with
  | zero =>
    intro k M l5 hk hag h5 hQ
    have e9 : M 30 9 = (k : Int) := by rw [hag 30 (by decide), sp_c_s9 hc]; omega
    have hq := hQ M l5 hag
    rw [show (V 0 9).toNat = k from by omega, show V 0 9 = (k : Int) from by omega] at hq
    obtain ⟨x, hx⟩ : ∃ x, x = (sp_spl sw k).1 := ⟨_, rfl⟩
    obtain ⟨y, hy⟩ : ∃ y, y = (sp_spl sw k).2 := ⟨_, rfl⟩
    rw [← hx, ← hy] at hq ⊢
    refine mv_goW 4 (pc' := 37) (ls' := [mv_R 0, mv_I w, mv_I x, mv_I y, mv_I (k : Int), l5]) (st' := [mv_I (M 30 9), mv_I (k : Int)]) (M1 := M) rfl ?_
    rw [show M 30 9 = (k : Int) from by exact e9]
    refine mv_goW 1 (pc' := if (k : Int) < (k : Int) then 40 else 77) (ls' := [mv_R 0, mv_I w, mv_I x, mv_I y, mv_I (k : Int), l5]) (st' := []) (M1 := M) rfl ?_
    refine mv_ffW (by omega) ?_
    exact hq
  | succ r ih =>
    intro k M l5 hk hag h5 hQ
    have e9 : M 30 9 = V 0 9 := by rw [hag 30 (by decide), sp_c_s9 hc]
    have hgk := hg k (by omega)
    have ih2 := fun M2 l5 => ih (k + 1) M2 l5 (by omega)
    have es1 : sp_spl sw (k + 1) = if (sp_spl sw k).1 = -1 ∨ (sp_spl sw k).2 < sw k then ((k : Int), sw k) else sp_spl sw k := rfl
    obtain ⟨z, hz⟩ : ∃ z, z = sw k := ⟨_, rfl⟩
    obtain ⟨e, he⟩ : ∃ e, e = es k := ⟨_, rfl⟩
    rw [← hz, ← he] at hgk
    rw [← hz] at es1
    by_cases q : (sp_spl sw k).1 = -1 ∨ (sp_spl sw k).2 < z
    · rw [if_pos q] at es1
      rw [es1] at ih2
      obtain ⟨x, hx⟩ : ∃ x, x = (sp_spl sw k).1 := ⟨_, rfl⟩
      obtain ⟨y, hy⟩ : ∃ y, y = (sp_spl sw k).2 := ⟨_, rfl⟩
      rw [← hx, ← hy] at q ⊢
      refine mv_goW 4 (pc' := 37) (ls' := [mv_R 0, mv_I w, mv_I x, mv_I y, mv_I (k : Int), l5]) (st' := [mv_I (M 30 9), mv_I (k : Int)]) (M1 := M) rfl ?_
      rw [show M 30 9 = V 0 9 from by exact e9]
      refine mv_goW 1 (pc' := if (k : Int) < (V 0 9) then 40 else 77) (ls' := [mv_R 0, mv_I w, mv_I x, mv_I y, mv_I (k : Int), l5]) (st' := []) (M1 := M) rfl ?_
      refine mv_ttW (by omega) ?_
      refine mv_goW 3 (pc' := 46) (ls' := [mv_R 0, mv_I w, mv_I x, mv_I y, mv_I (k : Int), l5]) (st' := [mv_I (k : Int), mv_R 60]) (M1 := M) rfl ?_
      refine mv_callW (st2 := [mv_L (z * 1048576 - e)]) rfl (Or.inl rfl) rfl rfl rfl ((mv_Ru.val (sp_cmo (w := (k : Int)) ho (sp_tb_ag ht hag (by decide))) (congrArg mv_L hgk.1))) (by first | decide | omega) (fun Ma1 hm2 => ?_)
      have hw := hm2
      refine mv_callPW (st2 := [mv_I z]) rfl (Or.inr rfl) rfl rfl rfl ((mv_Ru.val (sp_csum (by omega) (by omega)) (congrArg mv_I (sp_so_e hgk.2.1.1 hgk.2.1.2)))) (by first | decide | omega) ?_
      refine mv_goW 4 (pc' := if x = (-1) then 65 else 59) (ls' := [mv_R 0, mv_I w, mv_I x, mv_I y, mv_I (k : Int), mv_I z]) (st' := []) (M1 := Ma1) rfl ?_
      refine mv_spW (fun ha3 => ?_) (fun ha3 => ?_)
      · refine mv_goW 6 (pc' := 28) (ls' := [mv_R 0, mv_I w, mv_I (k : Int), mv_I z, mv_I (mv_w ((k : Int) + 1)), mv_I z]) (st' := []) (M1 := Ma1) rfl ?_
        rw [show mv_w ((k : Int) + 1) = (k : Int) + 1 from mv_w_id (by omega) (by omega)]
        rw [show (k : Int) + 1 = ((k + 1 : Nat) : Int) from by omega]
        exact ih2 _ _ (hag.tr hw) rfl hQ
      · refine mv_goW 3 (pc' := if y < z then 65 else 71) (ls' := [mv_R 0, mv_I w, mv_I x, mv_I y, mv_I (k : Int), mv_I z]) (st' := []) (M1 := Ma1) rfl ?_
        refine mv_ttW (by omega) ?_
        refine mv_goW 6 (pc' := 28) (ls' := [mv_R 0, mv_I w, mv_I (k : Int), mv_I z, mv_I (mv_w ((k : Int) + 1)), mv_I z]) (st' := []) (M1 := Ma1) rfl ?_
        rw [show mv_w ((k : Int) + 1) = (k : Int) + 1 from mv_w_id (by omega) (by omega)]
        rw [show (k : Int) + 1 = ((k + 1 : Nat) : Int) from by omega]
        exact ih2 _ _ (hag.tr hw) rfl hQ
    · rw [if_neg q] at es1
      rw [es1] at ih2
      obtain ⟨x, hx⟩ : ∃ x, x = (sp_spl sw k).1 := ⟨_, rfl⟩
      obtain ⟨y, hy⟩ : ∃ y, y = (sp_spl sw k).2 := ⟨_, rfl⟩
      rw [← hx, ← hy] at q ih2 ⊢
      refine mv_goW 4 (pc' := 37) (ls' := [mv_R 0, mv_I w, mv_I x, mv_I y, mv_I (k : Int), l5]) (st' := [mv_I (M 30 9), mv_I (k : Int)]) (M1 := M) rfl ?_
      rw [show M 30 9 = V 0 9 from by exact e9]
      refine mv_goW 1 (pc' := if (k : Int) < (V 0 9) then 40 else 77) (ls' := [mv_R 0, mv_I w, mv_I x, mv_I y, mv_I (k : Int), l5]) (st' := []) (M1 := M) rfl ?_
      refine mv_ttW (by omega) ?_
      refine mv_goW 3 (pc' := 46) (ls' := [mv_R 0, mv_I w, mv_I x, mv_I y, mv_I (k : Int), l5]) (st' := [mv_I (k : Int), mv_R 60]) (M1 := M) rfl ?_
      refine mv_callW (st2 := [mv_L (z * 1048576 - e)]) rfl (Or.inl rfl) rfl rfl rfl ((mv_Ru.val (sp_cmo (w := (k : Int)) ho (sp_tb_ag ht hag (by decide))) (congrArg mv_L hgk.1))) (by first | decide | omega) (fun Ma4 hm5 => ?_)
      have hw := hm5
      refine mv_callPW (st2 := [mv_I z]) rfl (Or.inr rfl) rfl rfl rfl ((mv_Ru.val (sp_csum (by omega) (by omega)) (congrArg mv_I (sp_so_e hgk.2.1.1 hgk.2.1.2)))) (by first | decide | omega) ?_
      refine mv_goW 4 (pc' := if x = (-1) then 65 else 59) (ls' := [mv_R 0, mv_I w, mv_I x, mv_I y, mv_I (k : Int), mv_I z]) (st' := []) (M1 := Ma4) rfl ?_
      refine mv_ffW (by omega) ?_
      refine mv_goW 3 (pc' := if y < z then 65 else 71) (ls' := [mv_R 0, mv_I w, mv_I x, mv_I y, mv_I (k : Int), mv_I z]) (st' := []) (M1 := Ma4) rfl ?_
      refine mv_ffW (by omega) ?_
      refine mv_goW 2 (pc' := 28) (ls' := [mv_R 0, mv_I w, mv_I x, mv_I y, mv_I (mv_w ((k : Int) + 1)), mv_I z]) (st' := []) (M1 := Ma4) rfl ?_
      rw [show mv_w ((k : Int) + 1) = (k : Int) + 1 from mv_w_id (by omega) (by omega)]
      rw [show (k : Int) + 1 = ((k + 1 : Nat) : Int) from by omega]
      exact ih2 _ _ (hag.tr hw) rfl hQ
theorem mv_ag.r134 {M MX M2 : mv_M} {k : Nat} (h1 : mv_ag [134] M MX) (h2 : mv_ag [100, 135] MX M2) (h3 : ∀ v, MX 134 v = mv_up (M 134) k 0 v) : mv_ag [100, 135] M (mv_st M2 134 (mv_up (M2 134) k (M 134 k))) := by
  intro r hr
  by_cases q : r = 134
  · subst q
    rw [mv_st_s, h2 134 (by decide)]
    funext v
    by_cases q2 : v = k
    · rw [q2, mv_up_s]
    · rw [mv_up_n _ _ q2, h3 v, mv_up_n _ _ q2]
  · rw [mv_st_n _ _ q, h2 r hr]
    exact h1 r (fun z => q (by simpa using z))
theorem sp_mspl {V M0 : mv_M} {P : Nat → Nat → List Int} {w : Int} {b d : Nat} {Q : mv_V → mv_M → Prop} (ho : sp_ok V) (hb : (b : Int) = V 0 9 + 1) (h100 : M0 100 0 = V 0 8 ∧ M0 100 1 = V 0 9) (hrm : ∀ u : Nat, (u : Int) < V 0 9 → M0 134 u = sp_room V u) (hts : ∀ c u : Nat, (c : Int) < V 0 8 → (u : Int) < V 0 9 → M0 133 (6 * c + u) = sp_suits V P c u)
    (hg : ∀ u : Nat, (u : Int) < V 0 9 → -7200 ≤ sp_swo V P b u ∧ sp_swo V P b u ≤ 7200) :
    ∀ (r k : Nat) (M : mv_M) (m : Int) (l5 l6 : mv_V), (k : Int) + r = V 0 9 → mv_ag [100, 135] M0 M → (∀ j, (j ≠ 36 ∧ j ≠ 37 ∧ j ≠ 38 ∧ j ≠ 39) → M 100 j = M0 100 j) → ((k = 0 ∧ 0 < V 0 9) ∨ m = (sp_spl (sp_swo V P b) k).2) → mv_isL l5 = false → mv_isL l6 = false →
      (∀ (M2 : mv_M) (l5 l6 : mv_V), mv_ag [100, 135] M0 M2 → (∀ j, (j ≠ 36 ∧ j ≠ 37 ∧ j ≠ 38 ∧ j ≠ 39) → M2 100 j = M0 100 j) → mv_W (d + 2) 170 121 [mv_R 100, mv_I w, mv_I (sp_spl (sp_swo V P b) (V 0 9).toNat).1, mv_I (sp_spl (sp_swo V P b) (V 0 9).toNat).2, mv_I (V 0 9), l5, l6] [] M2 Q) →
      mv_W (d + 2) 170 30 [mv_R 100, mv_I w, mv_I (sp_spl (sp_swo V P b) k).1, mv_I m, mv_I (k : Int), l5, l6] [] M Q := by
  have h9 := sp_ok_s9 ho
  intro r
  induction r with
  | zero =>
    intro k M m l5 l6 hk hag hf hm h5 h6 hQ
    have e9 : M 100 1 = (k : Int) := by rw [hf 1 (by decide), h100.2]; omega
    have hq := hQ M l5 l6 hag hf
    rw [show (V 0 9).toNat = k from by omega, show V 0 9 = (k : Int) from by omega] at hq
    have hm2 : m = (sp_spl (sp_swo V P b) k).2 := by
      rcases hm with q | q
      · omega
      · exact q
    rw [← hm2] at hq
    obtain ⟨x, hx⟩ : ∃ x, x = (sp_spl (sp_swo V P b) k).1 := ⟨_, rfl⟩
    rw [← hx] at hq ⊢
    refine mv_goW 3 (pc' := 36) (ls' := [mv_R 100, mv_I w, mv_I x, mv_I m, mv_I (k : Int), l5, l6]) (st' := [mv_I (M 100 1), mv_I (k : Int)]) (M1 := M) rfl ?_
    rw [show M 100 1 = (k : Int) from by exact e9]
    refine mv_goW 1 (pc' := if (k : Int) < (k : Int) then 39 else 121) (ls' := [mv_R 100, mv_I w, mv_I x, mv_I m, mv_I (k : Int), l5, l6]) (st' := []) (M1 := M) rfl ?_
    refine mv_ffW (by omega) ?_
    exact hq
  | succ r ih =>
    intro k M m l5 l6 hk hag hf hm h5 h6 hQ
    have e9 : M 100 1 = V 0 9 := by rw [hf 1 (by decide), h100.2]
    have hgk := hg k (by omega)
    have ih2 := fun M2 m l5 l6 => ih (k + 1) M2 m l5 l6 (by omega)
    have es1 : sp_spl (sp_swo V P b) (k + 1) = if (sp_spl (sp_swo V P b) k).1 = -1 ∨ (sp_spl (sp_swo V P b) k).2 < sp_swo V P b k then ((k : Int), sp_swo V P b k) else sp_spl (sp_swo V P b) k := rfl
    have hx0 : k = 0 → (sp_spl (sp_swo V P b) k).1 = -1 := fun q => by rw [q]; rfl
    obtain ⟨z, hsz⟩ : ∃ z, z = sp_swo V P b k := ⟨_, rfl⟩
    rw [← hsz] at hgk es1
    by_cases q : (sp_spl (sp_swo V P b) k).1 = -1 ∨ (sp_spl (sp_swo V P b) k).2 < z
    · rw [if_pos q] at es1
      rw [es1] at ih2
      obtain ⟨x, hx⟩ : ∃ x, x = (sp_spl (sp_swo V P b) k).1 := ⟨_, rfl⟩
      obtain ⟨y, hy⟩ : ∃ y, y = (sp_spl (sp_swo V P b) k).2 := ⟨_, rfl⟩
      rw [← hx] at q hx0 ⊢
      rw [← hy] at q hm
      have q2 : x = -1 ∨ m < z := by omega
      refine mv_goW 3 (pc' := 36) (ls' := [mv_R 100, mv_I w, mv_I x, mv_I m, mv_I (k : Int), l5, l6]) (st' := [mv_I (M 100 1), mv_I (k : Int)]) (M1 := M) rfl ?_
      rw [show M 100 1 = V 0 9 from by exact e9]
      refine mv_goW 1 (pc' := if (k : Int) < (V 0 9) then 39 else 121) (ls' := [mv_R 100, mv_I w, mv_I x, mv_I m, mv_I (k : Int), l5, l6]) (st' := []) (M1 := M) rfl ?_
      refine mv_ttW (by omega) ?_
      refine mv_goW 4 (pc' := if 0 ≤ (k : Int) ∧ (k : Int) < 6 then 46 else mv_bad) (ls' := [mv_R 100, mv_I w, mv_I x, mv_I m, mv_I (k : Int), l5, l6]) (st' := [mv_I (M 134 k)]) (M1 := M) rfl ?_
      refine mv_ttW (by omega) ?_
      refine mv_goW 6 (pc' := if 0 ≤ (k : Int) ∧ (k : Int) < 6 then 56 else mv_bad) (ls' := [mv_R 100, mv_I w, mv_I x, mv_I m, mv_I (k : Int), mv_I (M 134 k), l6]) (st' := []) (M1 := (mv_st M 134 (mv_up (M 134) k 0))) rfl ?_
      refine mv_ttW (by omega) ?_
      obtain ⟨MX, eX⟩ : ∃ MX, MX = (mv_st M 134 (mv_up (M 134) k 0)) := ⟨_, rfl⟩
      have hXa : mv_ag [134] M MX := by rw [eX]; exact mv_ag.st mv_ag.rf (by decide)
      have hX134 : ∀ v, MX 134 v = mv_up (M 134) k 0 v := fun v => by rw [eX]; rfl
      have hX100 : MX 100 0 = V 0 8 ∧ MX 100 1 = V 0 9 := by rw [hXa 100 (by decide), hf 0 (by decide), hf 1 (by decide)]; exact h100
      have hXr : ∀ u : Nat, (u : Int) < V 0 9 → MX 134 u = sp_rmw V k u := fun u hu => by
        rw [hX134 u]
        unfold sp_rmw
        by_cases q3 : u = k
        · rw [q3, mv_up_s, if_pos rfl]
        · rw [mv_up_n _ _ q3, if_neg (by omega), hag 134 (by decide)]
          exact hrm u hu
      have hXs : ∀ c u : Nat, (c : Int) < V 0 8 → (u : Int) < V 0 9 → MX 133 (6 * c + u) = sp_suits V P c u := fun c u hc hu => by
        rw [hXa 133 (by decide), hag 133 (by decide)]
        exact hts c u hc hu
      rw [← eX]
      clear eX
      refine mv_goW 1 (pc' := 57) (ls' := [mv_R 100, mv_I w, mv_I x, mv_I m, mv_I (k : Int), mv_I (M 134 k), l6]) (st' := [mv_R 100]) (M1 := MX) rfl ?_
      refine mv_callW (st2 := []) rfl (Or.inl rfl) rfl rfl rfl ((sp_mgo2 (d := 0) (rm := sp_rmw V k) (b := b) ho hb hX100 hXr hXs)) (by first | decide | omega) (fun Ma6 hm7 => ?_)
      have hz := hm7
      have e37 : Ma6 100 37 = z := hz.2.2.trans hsz.symm
      refine mv_goW 5 (pc' := if 0 ≤ (k : Int) ∧ (k : Int) < 6 then 69 else mv_bad) (ls' := [mv_R 100, mv_I w, mv_I x, mv_I m, mv_I (k : Int), mv_I (M 134 k), l6]) (st' := []) (M1 := (mv_st Ma6 134 (mv_up (Ma6 134) k (M 134 k)))) rfl ?_
      refine mv_ttW (by omega) ?_
      refine mv_goW 3 (pc' := if x = (-1) then 82 else 74) (ls' := [mv_R 100, mv_I w, mv_I x, mv_I m, mv_I (k : Int), mv_I (M 134 k), l6]) (st' := []) (M1 := (mv_st Ma6 134 (mv_up (Ma6 134) k (M 134 k)))) rfl ?_
      refine mv_spW (fun ha8 => ?_) (fun ha8 => ?_)
      · refine mv_goW 5 (pc' := if 1 = 0 then 99 else 94) (ls' := [mv_R 100, mv_I w, mv_I x, mv_I m, mv_I (k : Int), mv_I (M 134 k), mv_I 1]) (st' := []) (M1 := (mv_st Ma6 134 (mv_up (Ma6 134) k (M 134 k)))) rfl ?_
        refine mv_ffW (by first | decide | omega) ?_
        refine mv_goW 5 (pc' := if 1 = 0 then 113 else 106) (ls' := [mv_R 100, mv_I w, mv_I (k : Int), mv_I m, mv_I (k : Int), mv_I (M 134 k), mv_I 1]) (st' := []) (M1 := (mv_st Ma6 134 (mv_up (Ma6 134) k (M 134 k)))) rfl ?_
        refine mv_ffW (by first | decide | omega) ?_
        refine mv_goW 2 (pc' := 110) (ls' := [mv_R 100, mv_I w, mv_I (k : Int), mv_I m, mv_I (k : Int), mv_I (M 134 k), mv_I 1]) (st' := [mv_I (Ma6 100 37)]) (M1 := (mv_st Ma6 134 (mv_up (Ma6 134) k (M 134 k)))) rfl ?_
        rw [show Ma6 100 37 = z from by exact e37]
        refine mv_goW 4 (pc' := 30) (ls' := [mv_R 100, mv_I w, mv_I (k : Int), mv_I z, mv_I (mv_w ((k : Int) + 1)), mv_I (M 134 k), mv_I 1]) (st' := []) (M1 := (mv_st Ma6 134 (mv_up (Ma6 134) k (M 134 k)))) rfl ?_
        rw [show mv_w ((k : Int) + 1) = (k : Int) + 1 from mv_w_id (by omega) (by omega)]
        rw [show (k : Int) + 1 = ((k + 1 : Nat) : Int) from by omega]
        refine ih2 _ _ _ _ (hag.tr (mv_ag.r134 hXa hz.1.1 hX134)) (fun j hj => ?_) (Or.inr (by first | rfl | omega)) rfl rfl hQ
        exact (hz.1.2 j hj).trans ((congrFun (hXa 100 (by decide)) j).trans (hf j hj))
      · refine mv_goW 2 (pc' := 78) (ls' := [mv_R 100, mv_I w, mv_I x, mv_I m, mv_I (k : Int), mv_I (M 134 k), l6]) (st' := [mv_I (Ma6 100 37)]) (M1 := (mv_st Ma6 134 (mv_up (Ma6 134) k (M 134 k)))) rfl ?_
        rw [show Ma6 100 37 = z from by exact e37]
        refine mv_goW 2 (pc' := if m < z then 82 else 86) (ls' := [mv_R 100, mv_I w, mv_I x, mv_I m, mv_I (k : Int), mv_I (M 134 k), l6]) (st' := []) (M1 := (mv_st Ma6 134 (mv_up (Ma6 134) k (M 134 k)))) rfl ?_
        refine mv_ttW (by omega) ?_
        refine mv_goW 5 (pc' := if 1 = 0 then 99 else 94) (ls' := [mv_R 100, mv_I w, mv_I x, mv_I m, mv_I (k : Int), mv_I (M 134 k), mv_I 1]) (st' := []) (M1 := (mv_st Ma6 134 (mv_up (Ma6 134) k (M 134 k)))) rfl ?_
        refine mv_ffW (by first | decide | omega) ?_
        refine mv_goW 5 (pc' := if 1 = 0 then 113 else 106) (ls' := [mv_R 100, mv_I w, mv_I (k : Int), mv_I m, mv_I (k : Int), mv_I (M 134 k), mv_I 1]) (st' := []) (M1 := (mv_st Ma6 134 (mv_up (Ma6 134) k (M 134 k)))) rfl ?_
        refine mv_ffW (by first | decide | omega) ?_
        refine mv_goW 2 (pc' := 110) (ls' := [mv_R 100, mv_I w, mv_I (k : Int), mv_I m, mv_I (k : Int), mv_I (M 134 k), mv_I 1]) (st' := [mv_I (Ma6 100 37)]) (M1 := (mv_st Ma6 134 (mv_up (Ma6 134) k (M 134 k)))) rfl ?_
        rw [show Ma6 100 37 = z from by exact e37]
        refine mv_goW 4 (pc' := 30) (ls' := [mv_R 100, mv_I w, mv_I (k : Int), mv_I z, mv_I (mv_w ((k : Int) + 1)), mv_I (M 134 k), mv_I 1]) (st' := []) (M1 := (mv_st Ma6 134 (mv_up (Ma6 134) k (M 134 k)))) rfl ?_
        rw [show mv_w ((k : Int) + 1) = (k : Int) + 1 from mv_w_id (by omega) (by omega)]
        rw [show (k : Int) + 1 = ((k + 1 : Nat) : Int) from by omega]
        refine ih2 _ _ _ _ (hag.tr (mv_ag.r134 hXa hz.1.1 hX134)) (fun j hj => ?_) (Or.inr (by first | rfl | omega)) rfl rfl hQ
        exact (hz.1.2 j hj).trans ((congrFun (hXa 100 (by decide)) j).trans (hf j hj))
    · rw [if_neg q] at es1
      rw [es1] at ih2
      obtain ⟨x, hx⟩ : ∃ x, x = (sp_spl (sp_swo V P b) k).1 := ⟨_, rfl⟩
      obtain ⟨y, hy⟩ : ∃ y, y = (sp_spl (sp_swo V P b) k).2 := ⟨_, rfl⟩
      rw [← hx] at q hx0 ih2 ⊢
      rw [← hy] at q hm ih2
      have q2 : ¬ (x = -1 ∨ m < z) := by omega
      refine mv_goW 3 (pc' := 36) (ls' := [mv_R 100, mv_I w, mv_I x, mv_I m, mv_I (k : Int), l5, l6]) (st' := [mv_I (M 100 1), mv_I (k : Int)]) (M1 := M) rfl ?_
      rw [show M 100 1 = V 0 9 from by exact e9]
      refine mv_goW 1 (pc' := if (k : Int) < (V 0 9) then 39 else 121) (ls' := [mv_R 100, mv_I w, mv_I x, mv_I m, mv_I (k : Int), l5, l6]) (st' := []) (M1 := M) rfl ?_
      refine mv_ttW (by omega) ?_
      refine mv_goW 4 (pc' := if 0 ≤ (k : Int) ∧ (k : Int) < 6 then 46 else mv_bad) (ls' := [mv_R 100, mv_I w, mv_I x, mv_I m, mv_I (k : Int), l5, l6]) (st' := [mv_I (M 134 k)]) (M1 := M) rfl ?_
      refine mv_ttW (by omega) ?_
      refine mv_goW 6 (pc' := if 0 ≤ (k : Int) ∧ (k : Int) < 6 then 56 else mv_bad) (ls' := [mv_R 100, mv_I w, mv_I x, mv_I m, mv_I (k : Int), mv_I (M 134 k), l6]) (st' := []) (M1 := (mv_st M 134 (mv_up (M 134) k 0))) rfl ?_
      refine mv_ttW (by omega) ?_
      obtain ⟨MX, eX⟩ : ∃ MX, MX = (mv_st M 134 (mv_up (M 134) k 0)) := ⟨_, rfl⟩
      have hXa : mv_ag [134] M MX := by rw [eX]; exact mv_ag.st mv_ag.rf (by decide)
      have hX134 : ∀ v, MX 134 v = mv_up (M 134) k 0 v := fun v => by rw [eX]; rfl
      have hX100 : MX 100 0 = V 0 8 ∧ MX 100 1 = V 0 9 := by rw [hXa 100 (by decide), hf 0 (by decide), hf 1 (by decide)]; exact h100
      have hXr : ∀ u : Nat, (u : Int) < V 0 9 → MX 134 u = sp_rmw V k u := fun u hu => by
        rw [hX134 u]
        unfold sp_rmw
        by_cases q3 : u = k
        · rw [q3, mv_up_s, if_pos rfl]
        · rw [mv_up_n _ _ q3, if_neg (by omega), hag 134 (by decide)]
          exact hrm u hu
      have hXs : ∀ c u : Nat, (c : Int) < V 0 8 → (u : Int) < V 0 9 → MX 133 (6 * c + u) = sp_suits V P c u := fun c u hc hu => by
        rw [hXa 133 (by decide), hag 133 (by decide)]
        exact hts c u hc hu
      rw [← eX]
      clear eX
      refine mv_goW 1 (pc' := 57) (ls' := [mv_R 100, mv_I w, mv_I x, mv_I m, mv_I (k : Int), mv_I (M 134 k), l6]) (st' := [mv_R 100]) (M1 := MX) rfl ?_
      refine mv_callW (st2 := []) rfl (Or.inl rfl) rfl rfl rfl ((sp_mgo2 (d := 0) (rm := sp_rmw V k) (b := b) ho hb hX100 hXr hXs)) (by first | decide | omega) (fun Ma9 hm10 => ?_)
      have hz := hm10
      have e37 : Ma9 100 37 = z := hz.2.2.trans hsz.symm
      refine mv_goW 5 (pc' := if 0 ≤ (k : Int) ∧ (k : Int) < 6 then 69 else mv_bad) (ls' := [mv_R 100, mv_I w, mv_I x, mv_I m, mv_I (k : Int), mv_I (M 134 k), l6]) (st' := []) (M1 := (mv_st Ma9 134 (mv_up (Ma9 134) k (M 134 k)))) rfl ?_
      refine mv_ttW (by omega) ?_
      refine mv_goW 3 (pc' := if x = (-1) then 82 else 74) (ls' := [mv_R 100, mv_I w, mv_I x, mv_I m, mv_I (k : Int), mv_I (M 134 k), l6]) (st' := []) (M1 := (mv_st Ma9 134 (mv_up (Ma9 134) k (M 134 k)))) rfl ?_
      refine mv_ffW (by omega) ?_
      refine mv_goW 2 (pc' := 78) (ls' := [mv_R 100, mv_I w, mv_I x, mv_I m, mv_I (k : Int), mv_I (M 134 k), l6]) (st' := [mv_I (Ma9 100 37)]) (M1 := (mv_st Ma9 134 (mv_up (Ma9 134) k (M 134 k)))) rfl ?_
      rw [show Ma9 100 37 = z from by exact e37]
      refine mv_goW 2 (pc' := if m < z then 82 else 86) (ls' := [mv_R 100, mv_I w, mv_I x, mv_I m, mv_I (k : Int), mv_I (M 134 k), l6]) (st' := []) (M1 := (mv_st Ma9 134 (mv_up (Ma9 134) k (M 134 k)))) rfl ?_
      refine mv_ffW (by omega) ?_
      refine mv_goW 4 (pc' := if 0 = 0 then 99 else 94) (ls' := [mv_R 100, mv_I w, mv_I x, mv_I m, mv_I (k : Int), mv_I (M 134 k), mv_I 0]) (st' := []) (M1 := (mv_st Ma9 134 (mv_up (Ma9 134) k (M 134 k)))) rfl ?_
      refine mv_ttW (by first | decide | omega) ?_
      refine mv_goW 4 (pc' := if 0 = 0 then 113 else 106) (ls' := [mv_R 100, mv_I w, mv_I x, mv_I m, mv_I (k : Int), mv_I (M 134 k), mv_I 0]) (st' := []) (M1 := (mv_st Ma9 134 (mv_up (Ma9 134) k (M 134 k)))) rfl ?_
      refine mv_ttW (by first | decide | omega) ?_
      refine mv_goW 4 (pc' := 30) (ls' := [mv_R 100, mv_I w, mv_I x, mv_I m, mv_I (mv_w ((k : Int) + 1)), mv_I (M 134 k), mv_I 0]) (st' := []) (M1 := (mv_st Ma9 134 (mv_up (Ma9 134) k (M 134 k)))) rfl ?_
      rw [show mv_w ((k : Int) + 1) = (k : Int) + 1 from mv_w_id (by omega) (by omega)]
      rw [show (k : Int) + 1 = ((k + 1 : Nat) : Int) from by omega]
      refine ih2 _ _ _ _ (hag.tr (mv_ag.r134 hXa hz.1.1 hX134)) (fun j hj => ?_) (Or.inr (by first | rfl | omega)) rfl rfl hQ
      exact (hz.1.2 j hj).trans ((congrFun (hXa 100 (by decide)) j).trans (hf j hj))
