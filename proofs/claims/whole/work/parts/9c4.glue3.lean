/-! the two worlds glued: apart, and numbers within -/
theorem cn_D_map {A : Nat → Prop} {ws ws' : va_W} (e : ws'.map (fun q => q.1) = ws.map (fun q => q.1)) (h : va_D A ws) : va_D A ws' := by
  have key : ∀ (i : Nat) (q : Nat × va_E), ws'[i]? = some q → ∃ q', ws[i]? = some q' ∧ q'.1 = q.1 := fun i q hq => by
    have h1 : (ws'.map (fun q => q.1))[i]? = some q.1 := by rw [List.getElem?_map, hq]; rfl
    rw [e, List.getElem?_map] at h1
    cases hw : ws[i]? with
    | none => rw [hw] at h1; cases h1
    | some q' => rw [hw] at h1; exact ⟨q', rfl, Option.some.inj h1⟩
  refine ⟨fun i j p q hp hq hpq => ?_, fun i q hq => ?_⟩
  · obtain ⟨p', a1, a2⟩ := key i p hp
    obtain ⟨q', b1, b2⟩ := key j q hq
    exact h.1 i j p' q' a1 b1 (by rw [a2, b2]; exact hpq)
  · obtain ⟨q', a1, a2⟩ := key i q hq
    rw [← a2]
    exact h.2 i q' a1
theorem cn_ws_ad {K : Nat} {ad : Nat → Nat} {cA : Nat → ClassId} {M : mv_M} : (mv_ws K ad cA M).map (fun q => q.1) = (mv_idk K).map ad := by
  unfold mv_ws
  rw [List.map_map]
  rfl
theorem cn_glueD {A : Nat → Prop} {ad ad' : Nat → Nat} {cA cA' cG : Nat → ClassId} {M M' MG : mv_M} (h : va_D A (mv_ws 0 ad cA M ++ mv_ws 1 ad' cA' M')) : va_D A (mv_ws 2 (cn_ga ad ad') cG MG) := by
  refine cn_D_map ?_ h
  rw [cn_ws_ad, mv_idk2, List.map_append, List.map_append, cn_ws_ad, cn_ws_ad]
  rw [List.map_congr_left (f := cn_ga ad ad') (g := ad) (fun i hi => cn_ga_lo (cn_idk_lt.1 i hi)), List.map_congr_left (f := cn_ga ad ad') (g := ad') (fun i hi => cn_ga_hi (cn_idk_lt.2 i hi).1)]
theorem cn_glueM {M M' : mv_M} {L : Nat} {xs : Nat → Int32} (hL : L < 2147483648) (h : mv_nM 0 M) (h' : mv_nM 1 M') : mv_nM 2 (cn_M0 (cn_ga M M') L xs) := by
  refine cn_M0_n hL (fun i j => ?_) (fun _ _ => rfl)
  by_cases c : i < 100
  · rw [cn_ga_lo c]
    exact h.1 i j
  · rw [cn_ga_hi (by omega)]
    exact h'.1 i j
