/-! the law's walk from its entry to its loop, first half: the class's thing is made -/
theorem cn_go1 {p : Program} {l : Launch} {e : Env} {s : State} {m : MethodId} {below : List Frame} {meth : Method} {c : Code} {b L : Nat} {xs : Nat → Int32} {ad0 : Nat → Nat} {D : va_G} {x0 : Value} {Q : State → Prop} {ls : Array Slot}
    (hx : p.tables.exec = Jvm.exec) (hb : c.code = mv_yb 208) (hml : c.maxLocals = 4) (hown : s.vm.findClass "UnclesByWardLaw" = some m.cls) (htl : ∀ w ∈ lw_tbl, w.before #[Value.ref b] s = true) (hAW : mv_AW s) (hAO0 : va_AO RX0 s) (hAO2 : va_AO RX2 s) (hK : va_K D mv_cl7 [] s) (hF : mv_F ad0 x0 L xs (cn_A0 s) s s.heap) (hFr : mv_Fr ad0 s) (hx0 : x0 = .null ∨ ∃ t, x0 = .ref t) (hL : L ≤ 3584)
    (hl : lv_has ls 4 [(0, .ref b)])
    (kk : ∀ (ad : Nat → Nat) (cA : Nat → ClassId) (C : mv_M) (H : Heap) (locs : List Loc) (ls : Array Slot), (∀ i, 200 ≤ i → ad i = ad0 i) → sp_X5q (cn_M0 sp_A5 L xs) C → va_P D mv_cl7 (mv_ws 0 ad cA C) H → va_K D mv_cl7 (mv_tys 0 cA) s → va_D (cn_A0 s) (mv_ws 0 ad cA C) → mv_nM 0 C → va_S (cn_A0 s) s.heap H locs → lv_has ls 4 [(1, .ref (ad 0)), (0, .ref b)] → W p l e room_1 s m #[Value.ref b] below meth c H locs 64 2033 Q (F0 m 8 ls [])) :
    W p l e room_1 s m #[Value.ref b] below meth c s.heap [] 0 0 Q (F0 m 0 ls []) := by
  have hts : ∀ w ∈ mv_T, w.before #[Value.ref b] s = true := hAW.use
  have hA : ∀ q, s.heap.size ≤ q → cn_A0 s q := fun q h => h
  have hS : va_S (cn_A0 s) s.heap s.heap [] := va_S.rf
  have hP : va_P D mv_cl7 [] s.heap := fun k q hq => by cases hq
  have hD : va_D (cn_A0 s) [] := ⟨fun i j p q hp => (by cases hp), fun k q hq => (by cases hq)⟩
  refine va_new (ci := 5) (fs := [.null, .null, .null, .null, .null, .null, .null, .int (Int32.ofInt 0), .int (Int32.ofInt 0)]) (C := RX5) (T := TX5) (N := 9) hx hb hts (mv_uin (a := 5) (by decide)) tyX5 tyX5_ok hown (hts (.classLink "UnclesByWardLaw" 7 RX5) (mv_in (p := 115) (by decide +kernel))) (hts (.instantiable RX5 9) (mv_in (p := 116) (by decide +kernel))) (hts (.initialized RX5) (mv_in (p := 99) (by decide +kernel))) hK hP hD hS hA rfl cn_df5 (by decide) (by decide) dn_law_0 (fun q H hP hD hS => ?_)
  have hP : va_P D mv_cl7 [(q, .inr (5, [.null, .null, .null, .null, .null, .null, .null, .int (Int32.ofInt 0), .int (Int32.ofInt 0)]))] H := hP
  have hD : va_D (cn_A0 s) [(q, .inr (5, [.null, .null, .null, .null, .null, .null, .null, .int (Int32.ofInt 0), .int (Int32.ofInt 0)]))] := hD
  refine lv_dup hx hb dn_law_3 rfl ?_
  have hFc := va_free (wc := [(q, .inr (5, [.null, .null, .null, .null, .null, .null, .null, .int (Int32.ofInt 0), .int (Int32.ofInt 0)]))]) hD hS hA [0] rfl
  have hF1 := (hF.kept (H1 := H) (fun a h1 h2 => hS.2.1 a h1 h2)).narrow hFc
  refine va_callv (va_runI (As := []) (rest := [.ref q]) ⟨hx, hb, hml, hown, htl⟩ (cn_UBW (l := l) (D := D) (ad0 := ad0) (x0 := x0) (L := L) (xs := xs) hx0 (by omega) mv_ckall mv_mkall q H.size) ⟨callB_of 0 htl cn_gl5 rfl rfl rfl (hts (.initialized RX5) (mv_in (p := 99) (by decide +kernel))) (hts (.methodLink "UnclesByWardLaw" 9 ⟨RX5, "<init>", "()V"⟩) (mv_in (p := 117) (by decide +kernel))) (by decide +kernel) ⟨by decide, by decide⟩, rfl, hts (.instanceMethod ⟨RX5, "<init>", "()V"⟩) (mv_in (p := 118) (by decide +kernel))⟩
    ⟨fun a U g mk h => by obtain ⟨h0, h1, hP, hK, hD, hA1, ho0, ho2, hF, hFr⟩ := h; exact ⟨h0, h1, hP, va_K.moved (u := U) (U := U.calling g mk a) (Vm.Alike.refl U.vm) hK, hD, mv_AW.same (u := U) rfl hA1, va_AO.moved (u := U) (Vm.Alike.refl U.vm) ho0, va_AO.moved (u := U) (Vm.Alike.refl U.vm) ho2, mv_F.moved (u := U) (Vm.Alike.refl U.vm) hF, mv_Fr.same (u := U) rfl hFr⟩,
      fun U hU hW => ⟨rfl, by rw [hU], by rw [hU]; exact hP, va_K.moved hW.alike hK, hD.weaken (fun _ _ _ _ => trivial), hAW.warm hW, va_AO.moved hW.alike hAO0, va_AO.moved hW.alike hAO2, by rw [hU]; exact hF1.moved hW.alike, hFr.warm hW⟩⟩ rfl rfl hl.1 rfl (Nat.le_of_ble_eq_true rfl) dn_law_4 ⟨by decide, by decide⟩) hS (fun q _ h => hFc q h) hFc (fun u t H1 locs ht hvm h5 hB hz1 hk1 hS => ?_)
  obtain ⟨ad, cA, C⟩ := u
  obtain ⟨had, had0, hq⟩ := h5
  obtain ⟨hP1, hK1, hD1, hn1⟩ := hB
  rw [ht] at hP1
  have hK1 := va_K.moved hvm.symm hK1
  have hD1 : va_D (cn_A0 s) (mv_ws 0 ad cA C) := hD1.weaken (fun k q _ h => hFc q.1 h)
  refine lv_astore_n hx hb dn_law_7 rfl hl (by decide) rfl (fun ls hl => ?_)
  have hl : lv_has ls 4 [(1, .ref q), (0, .ref b)] := hl
  have had0 : ad 0 = q := had0
  rw [← had0] at hl
  exact kk ad cA C H1 locs ls had hq hP1 hK1 hD1 hn1 hS hl
