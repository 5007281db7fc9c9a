/-! the law from its loop to its end -/
theorem cn_tail {p : Program} {l : Launch} {e : Env} {s : State} {m : MethodId} {below : List Frame} {meth : Method} {c : Code} {b L : Nat} {xs : Nat → Int32} {ad : Nat → Nat} {cA : Nat → ClassId} {D : va_G} {x0 : Value} {cells slots : Nat} {Q : State → Prop} {MG : mv_M} {H : Heap} {locs : List Loc} {ls : Array Slot}
    (hx : p.tables.exec = Jvm.exec) (hb : c.code = mv_yb 208) (hml : c.maxLocals = 4) (hown : s.vm.findClass (mv_yn 208).cls = some m.cls) (hAW : mv_AW s) (hK : va_K D mv_cl7 (mv_tys 2 cA) s) (hF : mv_F ad x0 L xs (cn_A0 s) s s.heap) (hFr : mv_Fr ad s) (hx0 : x0 = .null ∨ ∃ t, x0 = .ref t) (hL : L ≤ 3584) (hc : cells ≤ room_1.cells) (hsl : slots ≤ room_1.slots)
    (hI : sp_Inv MG) (h203 : MG 203 0 = (L : Int)) (hr0 : ∀ j, -2147483648 ≤ MG 202 j ∧ MG 202 j ≤ 2147483647) (hP : va_P D mv_cl7 (mv_ws 2 ad cA MG) H) (hD : va_D (cn_A0 s) (mv_ws 2 ad cA MG)) (hS : va_S (cn_A0 s) s.heap H locs) (hnM : mv_nM 2 MG) (hSc : mv_Sc L xs MG)
    (hl : lv_has ls 4 [(3, .int 0), (2, .ref (ad 100)), (1, .ref (ad 0)), (0, .ref (ad 202))]) (hret : meth.sig.returnType = mv_yr 208)
    (kk : ∀ (H : Heap) (locs : List Loc) (pc : Nat) (ls : Array Slot), va_S (cn_A0 s) s.heap H locs → decode (mv_yb 208) pc = .ok (.ireturn, 1) → W p l e room_1 s m #[Value.ref b] below meth c H locs cells slots Q (F0 m pc ls [.int (Int32.ofInt 1)])) :
    W p l e room_1 s m #[Value.ref b] below meth c H locs cells slots Q (F0 m 18 ls []) := by
  obtain ⟨M1, ⟨n, hn⟩, -⟩ := sp_law (M0 := MG) (L := L) h203 hL hr0 3600 0 MG (by omega) (by decide) hI (mv_hi.of rfl)
  have hts : ∀ w ∈ mv_T, w.before #[Value.ref b] s = true := hAW.use
  have cx : mv_Cx 2 p room_1 s m #[Value.ref b] c cells slots ad cA D x0 L xs (cn_A0 s) 61 208 :=
    ⟨hx, hb, hml, hown, hts, hK, hF, hFr, fun q h => h, by decide, by decide, hc, hsl, hx0⟩
  refine mv_SPs (K := 2) (ad := ad) (cA := cA) (D := D) (x0 := x0) (L := L) (xs := xs) hx0 mv_ckall mv_mkall n 61 208 18 [mv_R 202, mv_R 0, mv_R 100, mv_I ((0 : Nat) : Int)] [] MG M1 (mv_I 1) (by decide) hn p e _ s m _ below meth c cells slots _ (cn_A0 s) cx (fun pcR len a b w z i lsR stR hc ho => ?_) H locs ls rfl ⟨hP, hD, hS, hnM, hSc⟩ ⟨hl.1, hl.2.1, fun i v hi hv => ?_⟩ ?_ ?_
  · exact mv_retz (y := 208) rfl hb hc ho (fun H locs lsA hW hd => kk H locs pcR lsA hW.2.2.1 hd)
  · match i, hi with
    | 0, hi => cases hi; exact lv_at hl 3 rfl
    | 1, hi => cases hi; exact lv_at hl 2 rfl
    | 2, hi => cases hi; exact lv_at hl 1 rfl
    | 3, hi => cases hi; exact lv_at hl 0 rfl
    | i + 4, hi => cases hi
  · refine mv_nc.mpr ⟨rfl, mv_nc.mpr ⟨rfl, mv_nc.mpr ⟨rfl, mv_nc.mpr ⟨mv_n0, fun v hv => by cases hv⟩⟩⟩⟩
  · intro v hv
    cases hv
