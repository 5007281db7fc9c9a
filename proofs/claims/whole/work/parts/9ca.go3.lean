/-! the law from its entry to its end -/
theorem cn_202 {A : mv_M} {L : Nat} {xs : Nat → Int32} (j : Nat) : -2147483648 ≤ cn_M0 A L xs 202 j ∧ cn_M0 A L xs 202 j ≤ 2147483647 := by
  unfold cn_M0
  rw [mv_st_n _ _ (by decide), mv_st_s]
  have := mv_t32 (xs j)
  unfold mv_n32 at this
  omega
theorem cn_whole {p : Program} {l : Launch} {e : Env} {s : State} {m : MethodId} {below : List Frame} {meth : Method} {c : Code} {b L : Nat} {xs : Nat → Int32} {Q : State → Prop}
    (hx : p.tables.exec = Jvm.exec) (hb : c.code = mv_yb 208) (hret : meth.sig.returnType = mv_yr 208) (hml : c.maxLocals = 4) (hown : s.vm.findClass "UnclesByWardLaw" = some m.cls) (htl : ∀ w ∈ lw_tbl, w.before #[Value.ref b] s = true) (hX : va_X b L xs s s.heap) (hbl : b < s.heap.size) (hgv : (Jvm.Cond.and given_1 narrow_1).before #[Value.ref b] s = true) (hL : L ≤ 3584)
    (kk : ∀ (H : Heap) (pc : Nat) (ls : Array Slot), decode (mv_yb 208) pc = .ok (.ireturn, 1) → W p l e room_1 s m #[Value.ref b] below meth c H [] 600000 7302250 Q (F0 m pc ls [.int 1])) :
    W p l e room_1 s m #[Value.ref b] below meth c s.heap [] 0 0 Q (entryFrame m ([Value.ref b] : List Value).toArray 4) := by
  obtain ⟨ad0, x0, hx0, h202, hAW, hAO0, hAO2, hFr, hF⟩ := cn_entry htl hX hbl hgv
  obtain ⟨D, hK0⟩ := cn_known (args := #[Value.ref b]) hAW.use
  have hl := lv_entry ([.ref b]) (n := 4) (Nat.le_of_ble_eq_true rfl)
  rw [lg_entry_eq]
  generalize (lg_sl ([.ref b]) ++ List.replicate (4 - (lg_sl ([.ref b])).length) Slot.unset).toArray = ls at hl ⊢
  have hl : lv_has ls 4 [(0, .ref b)] := hl
  refine cn_go1 hx hb hml hown htl hAW hAO0 hAO2 hK0 hF hFr hx0 hL hl ?_
  intro ad cA C H locs ls h0 h5 hP hK hD hn hS hl
  refine cn_go2 hx hb hml hown htl hAW hK0 hF hFr hx0 hL hP hD hS hl ?_
  intro ad1 cA1 C1 H locs ls h1 h6 hP hK1 hD hn1 hS hl
  have hP0 : va_P D mv_cl7 (mv_ws 0 ad cA C) H := fun k q hq => hP k q (by rw [List.getElem?_append_left (List.getElem?_eq_some_iff.mp hq).1]; exact hq)
  have hP1 : va_P D mv_cl7 (mv_ws 1 ad1 cA1 C1) H := fun k q hq => hP ((mv_ws 0 ad cA C).length + k) q (by rw [List.getElem?_append_right (Nat.le_add_right _ _), Nat.add_sub_cancel_left]; exact hq)
  have hG : ∀ i, 200 ≤ i → cn_ga ad ad1 i = ad0 i := fun i hi => by rw [cn_ga_hi (by omega), h1 i hi]
  have e0 : ∀ i, i < 100 → cn_M0 (cn_ga C C1) L xs i = C i := fun i hi => by rw [cn_M0_lo (by omega), cn_ga_lo hi]
  have e1 : ∀ i, 100 ≤ i → i < 200 → cn_M0 (cn_ga C C1) L xs i = C1 i := fun i hi hj => by rw [cn_M0_lo hj, cn_ga_hi hi]
  have hl : lv_has ls 4 [(3, .int 0), (2, .ref (cn_ga ad ad1 100)), (1, .ref (cn_ga ad ad1 0)), (0, .ref (cn_ga ad ad1 202))] := by
    rw [hG 202 (by decide), h202, cn_ga_hi (f := ad) (g := ad1) (Nat.le_refl 100), cn_ga_lo (f := ad) (g := ad1) (i := 0) (by decide)]
    exact hl
  refine cn_tail (ad := cn_ga ad ad1) (cA := cn_ga cA cA1) (D := D) (x0 := x0) (L := L) (xs := xs) (MG := cn_M0 (cn_ga C C1) L xs) hx hb hml hown hAW (cn_glueK hK hK1) (hF.cg hG) (hFr.cg hG) hx0 hL (Nat.le_of_ble_eq_true rfl) (Nat.le_of_ble_eq_true rfl)
    (sp_Inv0 (A := cn_M0 sp_A5 L xs) (B := cn_M0 sp_B6 L xs) (C := C) (D := C1) (fun i hi => cn_M0_lo (by omega)) (fun i _ hi => cn_M0_lo hi) h5 h6 e0 e1) (cn_M0_sc (A := cn_ga C C1) (xs := xs) (by omega)).1 cn_202 (cn_glueP h0 h1 hn e0 e1 hP0 hP1) (cn_glueD hD) hS (cn_glueM (by omega) hn hn1) (cn_M0_sc (by omega)) hl hret ?_
  intro H locs pc ls hS hd
  exact va_forget (fun q hq => hS.2.2 q hq) (W.widen (Nat.le_of_ble_eq_true rfl) (Nat.le_of_ble_eq_true rfl) (kk H pc ls hd))
