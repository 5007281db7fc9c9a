/-! a world with one cell more -/
theorem cn_take (ws x : va_W) : (List.range ws.length).map (fun i => (ws ++ x)[i]?) = ws.map some := by
  apply List.ext_getElem?
  intro i
  rw [List.getElem?_map, List.getElem?_map]
  by_cases h : i < ws.length
  · rw [List.getElem?_range h]
    show some ((ws ++ x)[i]?) = _
    rw [List.getElem?_append_left h]
    cases hw : ws[i]? with
    | none => exact absurd (List.getElem?_eq_none_iff.mp hw) (by omega)
    | some q => rfl
  · have e1 : (List.range ws.length)[i]? = none := List.getElem?_eq_none_iff.mpr (by rw [List.length_range]; omega)
    have e2 : ws[i]? = none := List.getElem?_eq_none_iff.mpr (by omega)
    rw [e1, e2]
    rfl
theorem cn_last (ws : va_W) (q : Nat × va_E) : [ws.length].map (fun i => (ws ++ [q])[i]?) = [q].map some := by
  show [(ws ++ [q])[ws.length]?] = [some q]
  rw [List.getElem?_append_right (Nat.le_refl _), Nat.sub_self]
  rfl
theorem cn_ws_len {ad : Nat → Nat} {cA : Nat → ClassId} {M : mv_M} : (mv_ws 0 ad cA M).length = 64 := by
  unfold mv_ws
  rw [List.length_map]
  exact (by decide +kernel : (mv_idk 0).length = 64)
theorem cn_nd64 : va_nd (List.range 64) = true := by decide +kernel
theorem cn_dis64 : ∀ i ∈ List.range 64, i ∉ [64] := fun i h g => by
  have h1 := List.mem_range.mp h
  rcases List.mem_singleton.mp g with rfl
  omega
