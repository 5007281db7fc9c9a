/-! best: goesThrough -/
theorem sp_pw {b : Nat} (hb : b ≤ 7) : ∀ c : Nat, c ≤ 6 → b ^ c ≤ 117649 := fun c hc => Nat.le_trans (Nat.pow_le_pow_left hb c) (Nat.le_trans (Nat.pow_le_pow_right (by omega) hc) (by decide))
def sp_gt (V : mv_M) (P : Nat → Nat → List Int) (rm : Nat → Int) (b : Nat) : Nat → Int × Int × Int
  | 0 => (0, 0, 0)
  | k + 1 => if sp_kg rm b k (V 0 8).toNat = 1 ∧ ((sp_gt V P rm b k).1 = 0 ∨ (sp_gt V P rm b k).2.2 < sp_ks V P b k (V 0 8).toNat) then (1, sp_kd b k (V 0 8).toNat, sp_ks V P b k (V 0 8).toNat) else sp_gt V P rm b k
theorem sp_gt_f (V : mv_M) (P : Nat → Nat → List Int) (rm : Nat → Int) (b : Nat) : ∀ k : Nat, (sp_gt V P rm b k).1 = 0 ∨ (sp_gt V P rm b k).1 = 1
  | 0 => Or.inl rfl
  | k + 1 => by
    simp only [sp_gt]
    split
    · exact Or.inr rfl
    · exact sp_gt_f V P rm b k
theorem sp_kg_b (rm : Nat → Int) (b N : Nat) : ∀ j : Nat, sp_kg rm b N j = 0 ∨ sp_kg rm b N j = 1
  | 0 => Or.inr rfl
  | j + 1 => by
    simp only [sp_kg]
    repeat (first | omega | split)
theorem sp_mgt {V M0 : mv_M} {P : Nat → Nat → List Int} {rm : Nat → Int} {b d : Nat} (ho : sp_ok V) (hb : (b : Int) = V 0 9 + 1) (h100 : M0 100 0 = V 0 8 ∧ M0 100 1 = V 0 9) (hrm : ∀ u : Nat, (u : Int) < V 0 9 → M0 134 u = rm u) (ht : ∀ c u : Nat, (c : Int) < V 0 8 → (u : Int) < V 0 9 → M0 133 (6 * c + u) = sp_suits V P c u) {K : Nat} (hK : K ≤ 117649) :
    ∀ (r k : Nat) (M : mv_M) (f : Int), k + r = K → mv_ag [100, 135] M0 M → (∀ x, (x ≠ 36 ∧ x ≠ 37 ∧ x ≠ 38 ∧ x ≠ 39) → M 100 x = M0 100 x) → f = (sp_gt V P rm b k).1 → M 100 36 = (sp_gt V P rm b k).2.1 → M 100 37 = (sp_gt V P rm b k).2.2 →
      mv_Ru (d + 1) 159 41 [mv_R 100, mv_I (K : Int), mv_I f, mv_I (k : Int)] [] M mv_U (fun M1 => (mv_ag [100, 135] M0 M1 ∧ ∀ x, (x ≠ 36 ∧ x ≠ 37 ∧ x ≠ 38 ∧ x ≠ 39) → M1 100 x = M0 100 x) ∧ M1 100 36 = (sp_gt V P rm b K).2.1 ∧ M1 100 37 = (sp_gt V P rm b K).2.2) := by
  intro r
  induction r with
  | zero =>
    intro k M f hk hag hf hff h36 h37
    have hk : k = K := by omega
    subst hk
    refine mv_go' 3 (pc' := if (k : Int) < (k : Int) then 46 else 93) (ls' := [mv_R 100, mv_I (k : Int), mv_I f, mv_I (k : Int)]) (st' := []) (M1 := M) rfl ?_
    refine mv_ff' (by omega) ?_
    exact mv_ret (fun n => rfl) ⟨⟨hag, hf⟩, h36, h37⟩
  | succ r ih =>
    intro k M f hk hag hf hff h36 h37
    have hla := sp_mla (d := d) (M0 := M) (P := P) (rm := rm) (N := k) ho hb ⟨(hf 0 (by decide)).trans h100.1, (hf 1 (by decide)).trans h100.2⟩ (fun u hu => by rw [hag 134 (by decide)]; exact hrm u hu) (fun c u hc hu => by rw [hag 133 (by decide)]; exact ht c u hc hu) (by omega)
    have hgb := sp_kg_b rm b k (V 0 8).toNat
    have hfb := sp_gt_f V P rm b k
    rw [← hff] at hfb
    have egt : sp_gt V P rm b (k + 1) = if sp_kg rm b k (V 0 8).toNat = 1 ∧ (f = 0 ∨ (sp_gt V P rm b k).2.2 < sp_ks V P b k (V 0 8).toNat) then (1, sp_kd b k (V 0 8).toNat, sp_ks V P b k (V 0 8).toNat) else sp_gt V P rm b k := by rw [hff]; rfl
    by_cases q : sp_kg rm b k (V 0 8).toNat = 1 ∧ (f = 0 ∨ (sp_gt V P rm b k).2.2 < sp_ks V P b k (V 0 8).toNat)
    · rw [if_pos q] at egt
      rw [q.1] at hla
      refine mv_go' 3 (pc' := if (k : Int) < (K : Int) then 46 else 93) (ls' := [mv_R 100, mv_I (K : Int), mv_I f, mv_I (k : Int)]) (st' := []) (M1 := M) rfl ?_
      refine mv_tt' (by omega) ?_
      refine mv_go' 2 (pc' := 48) (ls' := [mv_R 100, mv_I (K : Int), mv_I f, mv_I (k : Int)]) (st' := [mv_I (k : Int), mv_R 100]) (M1 := M) rfl ?_
      refine mv_call (st2 := [mv_I 1]) rfl (Or.inl rfl) rfl rfl rfl (hla) (by first | decide | omega) (fun Ma1 hm2 => ?_)
      have hx := hm2
      have e38 := (hx.2 rfl).1
      have e39 := (hx.2 rfl).2
      have e37 : Ma1 100 37 = (sp_gt V P rm b k).2.2 := (hx.1.2 37 (by decide) (by decide)).trans h37
      refine mv_go' 1 (pc' := if 1 = 0 then 87 else 54) (ls' := [mv_R 100, mv_I (K : Int), mv_I f, mv_I (k : Int)]) (st' := []) (M1 := Ma1) rfl ?_
      refine mv_ff' (by first | decide | omega) ?_
      refine mv_go' 2 (pc' := if f = 0 then 69 else 58) (ls' := [mv_R 100, mv_I (K : Int), mv_I f, mv_I (k : Int)]) (st' := []) (M1 := Ma1) rfl ?_
      refine mv_sp' (fun ha3 => ?_) (fun ha3 => ?_)
      · refine mv_go' 5 (pc' := 76) (ls' := [mv_R 100, mv_I (K : Int), mv_I 1, mv_I (k : Int)]) (st' := [mv_I (Ma1 100 38), mv_R 100]) (M1 := Ma1) rfl ?_
        rw [show Ma1 100 38 = sp_kd b k (V 0 8).toNat from by exact e38]
        refine mv_go' 4 (pc' := 84) (ls' := [mv_R 100, mv_I (K : Int), mv_I 1, mv_I (k : Int)]) (st' := [mv_I (Ma1 100 39), mv_R 100]) (M1 := (mv_st Ma1 100 (mv_up (Ma1 100) 36 (sp_kd b k (V 0 8).toNat)))) rfl ?_
        rw [show Ma1 100 39 = sp_ks V P b k (V 0 8).toNat from by exact e39]
        refine mv_go' 3 (pc' := 41) (ls' := [mv_R 100, mv_I (K : Int), mv_I 1, mv_I (mv_w ((k : Int) + 1))]) (st' := []) (M1 := (mv_st (mv_st Ma1 100 (mv_up (Ma1 100) 36 (sp_kd b k (V 0 8).toNat))) 100 (mv_up (mv_up (Ma1 100) 36 (sp_kd b k (V 0 8).toNat)) 37 (sp_ks V P b k (V 0 8).toNat)))) rfl ?_
        rw [show mv_w ((k : Int) + 1) = (k : Int) + 1 from mv_w_id (by omega) (by omega)]
        rw [show (k : Int) + 1 = ((k + 1 : Nat) : Int) from by omega]
        refine ih (k + 1) _ 1 (by omega) ?_ (fun x hx2 => ?_) (by rw [egt]) (by rw [egt]; rfl) (by rw [egt]; rfl)
        · repeat (first | exact hag.tr hx.1.1 | refine mv_ag.st ?_ (by decide))
        · exact (mv_up_n _ _ hx2.2.1).trans ((mv_up_n _ _ hx2.1).trans ((hx.1.2 x hx2.2.2.1 hx2.2.2.2).trans (hf x hx2)))
      · refine mv_go' 2 (pc' := 62) (ls' := [mv_R 100, mv_I (K : Int), mv_I f, mv_I (k : Int)]) (st' := [mv_I (Ma1 100 39)]) (M1 := Ma1) rfl ?_
        rw [show Ma1 100 39 = sp_ks V P b k (V 0 8).toNat from by exact e39]
        refine mv_go' 2 (pc' := 66) (ls' := [mv_R 100, mv_I (K : Int), mv_I f, mv_I (k : Int)]) (st' := [mv_I (Ma1 100 37), mv_I (sp_ks V P b k (V 0 8).toNat)]) (M1 := Ma1) rfl ?_
        rw [show Ma1 100 37 = (sp_gt V P rm b k).2.2 from by exact e37]
        refine mv_go' 1 (pc' := if ((sp_gt V P rm b k).2.2) < (sp_ks V P b k (V 0 8).toNat) then 69 else 87) (ls' := [mv_R 100, mv_I (K : Int), mv_I f, mv_I (k : Int)]) (st' := []) (M1 := Ma1) rfl ?_
        refine mv_tt' (by omega) ?_
        refine mv_go' 5 (pc' := 76) (ls' := [mv_R 100, mv_I (K : Int), mv_I 1, mv_I (k : Int)]) (st' := [mv_I (Ma1 100 38), mv_R 100]) (M1 := Ma1) rfl ?_
        rw [show Ma1 100 38 = sp_kd b k (V 0 8).toNat from by exact e38]
        refine mv_go' 4 (pc' := 84) (ls' := [mv_R 100, mv_I (K : Int), mv_I 1, mv_I (k : Int)]) (st' := [mv_I (Ma1 100 39), mv_R 100]) (M1 := (mv_st Ma1 100 (mv_up (Ma1 100) 36 (sp_kd b k (V 0 8).toNat)))) rfl ?_
        rw [show Ma1 100 39 = sp_ks V P b k (V 0 8).toNat from by exact e39]
        refine mv_go' 3 (pc' := 41) (ls' := [mv_R 100, mv_I (K : Int), mv_I 1, mv_I (mv_w ((k : Int) + 1))]) (st' := []) (M1 := (mv_st (mv_st Ma1 100 (mv_up (Ma1 100) 36 (sp_kd b k (V 0 8).toNat))) 100 (mv_up (mv_up (Ma1 100) 36 (sp_kd b k (V 0 8).toNat)) 37 (sp_ks V P b k (V 0 8).toNat)))) rfl ?_
        rw [show mv_w ((k : Int) + 1) = (k : Int) + 1 from mv_w_id (by omega) (by omega)]
        rw [show (k : Int) + 1 = ((k + 1 : Nat) : Int) from by omega]
        refine ih (k + 1) _ 1 (by omega) ?_ (fun x hx2 => ?_) (by rw [egt]) (by rw [egt]; rfl) (by rw [egt]; rfl)
        · repeat (first | exact hag.tr hx.1.1 | refine mv_ag.st ?_ (by decide))
        · exact (mv_up_n _ _ hx2.2.1).trans ((mv_up_n _ _ hx2.1).trans ((hx.1.2 x hx2.2.2.1 hx2.2.2.2).trans (hf x hx2)))
    · rw [if_neg q] at egt
      rcases hgb with g0 | g1
      · rw [g0] at hla
        refine mv_go' 3 (pc' := if (k : Int) < (K : Int) then 46 else 93) (ls' := [mv_R 100, mv_I (K : Int), mv_I f, mv_I (k : Int)]) (st' := []) (M1 := M) rfl ?_
        refine mv_tt' (by omega) ?_
        refine mv_go' 2 (pc' := 48) (ls' := [mv_R 100, mv_I (K : Int), mv_I f, mv_I (k : Int)]) (st' := [mv_I (k : Int), mv_R 100]) (M1 := M) rfl ?_
        refine mv_call (st2 := [mv_I 0]) rfl (Or.inl rfl) rfl rfl rfl (hla) (by first | decide | omega) (fun Ma4 hm5 => ?_)
        have hx := hm5
        refine mv_go' 1 (pc' := if 0 = 0 then 87 else 54) (ls' := [mv_R 100, mv_I (K : Int), mv_I f, mv_I (k : Int)]) (st' := []) (M1 := Ma4) rfl ?_
        refine mv_tt' (by first | decide | omega) ?_
        refine mv_go' 2 (pc' := 41) (ls' := [mv_R 100, mv_I (K : Int), mv_I f, mv_I (mv_w ((k : Int) + 1))]) (st' := []) (M1 := Ma4) rfl ?_
        rw [show mv_w ((k : Int) + 1) = (k : Int) + 1 from mv_w_id (by omega) (by omega)]
        rw [show (k : Int) + 1 = ((k + 1 : Nat) : Int) from by omega]
        exact ih (k + 1) _ f (by omega) (hag.tr hx.1.1) (fun x hx2 => (hx.1.2 x hx2.2.2.1 hx2.2.2.2).trans (hf x hx2)) (by rw [egt]; exact hff) (by rw [egt]; exact (hx.1.2 36 (by decide) (by decide)).trans h36) (by rw [egt]; exact (hx.1.2 37 (by decide) (by decide)).trans h37)
      · have q2 : ¬ (f = 0 ∨ (sp_gt V P rm b k).2.2 < sp_ks V P b k (V 0 8).toNat) := fun z => q ⟨g1, z⟩
        rw [g1] at hla
        refine mv_go' 3 (pc' := if (k : Int) < (K : Int) then 46 else 93) (ls' := [mv_R 100, mv_I (K : Int), mv_I f, mv_I (k : Int)]) (st' := []) (M1 := M) rfl ?_
        refine mv_tt' (by omega) ?_
        refine mv_go' 2 (pc' := 48) (ls' := [mv_R 100, mv_I (K : Int), mv_I f, mv_I (k : Int)]) (st' := [mv_I (k : Int), mv_R 100]) (M1 := M) rfl ?_
        refine mv_call (st2 := [mv_I 1]) rfl (Or.inl rfl) rfl rfl rfl (hla) (by first | decide | omega) (fun Ma6 hm7 => ?_)
        have hx := hm7
        have e39 := (hx.2 rfl).2
        have e37 : Ma6 100 37 = (sp_gt V P rm b k).2.2 := (hx.1.2 37 (by decide) (by decide)).trans h37
        refine mv_go' 1 (pc' := if 1 = 0 then 87 else 54) (ls' := [mv_R 100, mv_I (K : Int), mv_I f, mv_I (k : Int)]) (st' := []) (M1 := Ma6) rfl ?_
        refine mv_ff' (by first | decide | omega) ?_
        refine mv_go' 2 (pc' := if f = 0 then 69 else 58) (ls' := [mv_R 100, mv_I (K : Int), mv_I f, mv_I (k : Int)]) (st' := []) (M1 := Ma6) rfl ?_
        refine mv_ff' (by omega) ?_
        refine mv_go' 2 (pc' := 62) (ls' := [mv_R 100, mv_I (K : Int), mv_I f, mv_I (k : Int)]) (st' := [mv_I (Ma6 100 39)]) (M1 := Ma6) rfl ?_
        rw [show Ma6 100 39 = sp_ks V P b k (V 0 8).toNat from by exact e39]
        refine mv_go' 2 (pc' := 66) (ls' := [mv_R 100, mv_I (K : Int), mv_I f, mv_I (k : Int)]) (st' := [mv_I (Ma6 100 37), mv_I (sp_ks V P b k (V 0 8).toNat)]) (M1 := Ma6) rfl ?_
        rw [show Ma6 100 37 = (sp_gt V P rm b k).2.2 from by exact e37]
        refine mv_go' 1 (pc' := if ((sp_gt V P rm b k).2.2) < (sp_ks V P b k (V 0 8).toNat) then 69 else 87) (ls' := [mv_R 100, mv_I (K : Int), mv_I f, mv_I (k : Int)]) (st' := []) (M1 := Ma6) rfl ?_
        refine mv_ff' (by omega) ?_
        refine mv_go' 2 (pc' := 41) (ls' := [mv_R 100, mv_I (K : Int), mv_I f, mv_I (mv_w ((k : Int) + 1))]) (st' := []) (M1 := Ma6) rfl ?_
        rw [show mv_w ((k : Int) + 1) = (k : Int) + 1 from mv_w_id (by omega) (by omega)]
        rw [show (k : Int) + 1 = ((k + 1 : Nat) : Int) from by omega]
        exact ih (k + 1) _ f (by omega) (hag.tr hx.1.1) (fun x hx2 => (hx.1.2 x hx2.2.2.1 hx2.2.2.2).trans (hf x hx2)) (by rw [egt]; exact hff) (by rw [egt]; exact (hx.1.2 36 (by decide) (by decide)).trans h36) (by rw [egt]; exact e37)
