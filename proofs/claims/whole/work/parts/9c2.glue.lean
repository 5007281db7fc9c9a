/-! two worlds become one -/
theorem cn_ids : ∀ i ∈ mv_ids, (mv_ak i = 1 ∨ mv_ak i = 2 ∨ mv_ak i = 3 ∨ (mv_ak i = 0 ∧ mv_cls i < 7)) ∧ ∀ k, k < mv_nf (mv_cls i) → mv_fk (mv_cls i) k = 2 → i = 28 ∧ k = 7 := by decide +kernel
theorem cn_fv_cg {K : Nat} {ad1 ad2 : Nat → Nat} {M1 M2 : mv_M} {i k : Nat} (hi : i ∈ mv_ids) (h7 : mv_cls i < 7) (hk : k < mv_nf (mv_cls i)) (had : ∀ j, mv_B K j = true → ad1 j = ad2 j) (hM : M1 i = M2 i) (hB : mv_B K i = true) (h28 : i = 28 → 0 ≤ M2 28 7 → mv_B K (M2 28 7).toNat = true) : mv_fv ad1 M1 i k = mv_fv ad2 M2 i k := by
  unfold mv_fv mv_fvk
  rw [hM]
  split
  · rename_i e
    rw [had _ (mv_Bref h7 hk e hB)]
  · rename_i e
    obtain ⟨e1, e2⟩ := (cn_ids i hi).2 k hk e
    subst e1
    subst e2
    by_cases c : 0 ≤ M2 28 7
    · rw [if_pos c, if_pos c, had _ (h28 rfl c)]
    · rw [if_neg c, if_neg c]
  · rfl
theorem cn_at_cg {K : Nat} {D : va_G} {H : Heap} {ad1 ad2 : Nat → Nat} {cA1 cA2 : Nat → ClassId} {M1 M2 : mv_M} {i : Nat} (hi : i ∈ mv_ids) (had : ∀ j, mv_B K j = true → ad1 j = ad2 j) (hc : cA1 i = cA2 i) (hM : M1 i = M2 i) (hB : mv_B K i = true) (h28 : i = 28 → 0 ≤ M2 28 7 → mv_B K (M2 28 7).toNat = true)
    (h : va_at D mv_cl7 (ad2 i, mv_ce ad2 cA2 M2 i) H) : va_at D mv_cl7 (ad1 i, mv_ce ad1 cA1 M1 i) H := by
  rw [had i hB]
  rcases (cn_ids i hi).1 with e | e | e | ⟨e, e7⟩
  · have x : mv_ce ad1 cA1 M1 i = mv_ce ad2 cA2 M2 i := by
      unfold mv_ce
      rw [e, hM, hc]
      rfl
    rw [x]
    exact h
  · have x : mv_ce ad1 cA1 M1 i = mv_ce ad2 cA2 M2 i := by
      unfold mv_ce
      rw [e, hM, hc]
      rfl
    rw [x]
    exact h
  · have x1 : mv_ce ad1 cA1 M1 i = .inl (cA1 i, mv_len i, .inr (.inr (.inr (.inr (fun j => some (ad1 (mv_el i j))))))) := by
      unfold mv_ce
      rw [e]
      rfl
    have x2 : mv_ce ad2 cA2 M2 i = .inl (cA2 i, mv_len i, .inr (.inr (.inr (.inr (fun j => some (ad2 (mv_el i j))))))) := by
      unfold mv_ce
      rw [e]
      rfl
    rw [x2] at h
    rw [x1]
    have h1 : H[ad2 i]? = some (vp_cell (cA2 i) (mv_len i, .inr (.inr (.inr (.inr (fun j => some (ad2 (mv_el i j)))))))) := h
    show H[ad2 i]? = some (vp_cell (cA1 i) (mv_len i, .inr (.inr (.inr (.inr (fun j => some (ad1 (mv_el i j))))))))
    rw [h1, hc, vp_cell_q, vp_cell_q]
    exact congrArg some (arrV_cg (fun j hj => by rw [had _ (mv_Bel e hj hB)]))
  · have x : mv_ce ad1 cA1 M1 i = mv_ce ad2 cA2 M2 i := by
      unfold mv_ce
      rw [e]
      show Sum.inr (mv_cls i, _) = Sum.inr (mv_cls i, _)
      rw [List.map_congr_left (fun k hk => cn_fv_cg (K := K) hi e7 (List.mem_range.mp hk) had hM hB h28)]
    rw [x]
    exact h
theorem cn_mem {K i : Nat} (h : i ∈ mv_idk K) : i ∈ mv_ids ∧ mv_B K i = true := List.mem_filter.mp h
/-- a world's cells, by other names -/
theorem cn_P_cg {K : Nat} {D : va_G} {H : Heap} {ad1 ad2 : Nat → Nat} {cA1 cA2 : Nat → ClassId} {M1 M2 : mv_M} (had : ∀ j, mv_B K j = true → ad1 j = ad2 j) (hc : ∀ i ∈ mv_idk K, cA1 i = cA2 i) (hM : ∀ i ∈ mv_idk K, M1 i = M2 i) (h28 : mv_B K 28 = true → 0 ≤ M2 28 7 → mv_B K (M2 28 7).toNat = true)
    (h : va_P D mv_cl7 (mv_ws K ad2 cA2 M2) H) : va_P D mv_cl7 (mv_ws K ad1 cA1 M1) H := by
  intro k q hq
  unfold mv_ws at hq h
  rw [List.getElem?_map] at hq
  cases hk : (mv_idk K)[k]? with
  | none => rw [hk] at hq; cases hq
  | some i =>
    rw [hk] at hq
    cases hq
    have hm := List.mem_of_getElem? hk
    have hm2 := cn_mem hm
    refine cn_at_cg (K := K) hm2.1 had (hc i hm) (hM i hm) hm2.2 (fun e => by subst e; exact h28 hm2.2) (h k _ ?_)
    rw [List.getElem?_map, hk]
    rfl
theorem mv_idk2 : mv_idk 2 = mv_idk 0 ++ mv_idk 1 := by decide +kernel
theorem mv_adk2 : mv_aids.filter (mv_B 2) = mv_aids.filter (mv_B 0) ++ mv_aids.filter (mv_B 1) := by decide +kernel
def cn_ga {α : Type} (f g : Nat → α) (i : Nat) : α := bif Nat.blt i 100 then f i else g i
theorem cn_ga_lo {α : Type} {f g : Nat → α} {i : Nat} (h : i < 100) : cn_ga f g i = f i := by
  unfold cn_ga
  rw [show Nat.blt i 100 = true from Nat.ble_eq_true_of_le h]
  rfl
theorem cn_ga_hi {α : Type} {f g : Nat → α} {i : Nat} (h : 100 ≤ i) : cn_ga f g i = g i := by
  have e : Nat.blt i 100 = false := by
    cases q : Nat.blt i 100 with
    | false => rfl
    | true => have := Nat.le_of_ble_eq_true q; omega
  unfold cn_ga
  rw [e]
  rfl
