/-! the law's walk from its entry to its loop, second half: the model's thing is made -/
abbrev cn_f6 : List Value := [.int (Int32.ofInt 0), .int (Int32.ofInt 0), .null, .null, .null, .null, .null, .int (Int32.ofInt 0), .null, .int (Int32.ofInt 0), .null, .null, .int (Int32.ofInt 0), .int (Int32.ofInt 0), .int (Int32.ofInt 0), .null, .null, .null, .null, .null, .null, .int (Int32.ofInt 0), .int (Int32.ofInt 0), .int (Int32.ofInt 0), .int (Int32.ofInt 0), .null, .null, .int (Int32.ofInt 0), .int (Int32.ofInt 0), .int (Int32.ofInt 0), .null, .null, .null, .null, .null, .null, .int (Int32.ofInt 0), .int (Int32.ofInt 0), .int (Int32.ofInt 0), .int (Int32.ofInt 0), .null, .null]
theorem cn_go2 {p : Program} {l : Launch} {e : Env} {s : State} {m : MethodId} {below : List Frame} {meth : Method} {c : Code} {b L : Nat} {xs : Nat → Int32} {ad0 : Nat → Nat} {D : va_G} {x0 : Value} {Q : State → Prop} {ls : Array Slot} {ad : Nat → Nat} {cA : Nat → ClassId} {C : mv_M} {H : Heap} {locs : List Loc}
    (hx : p.tables.exec = Jvm.exec) (hb : c.code = mv_yb 208) (hml : c.maxLocals = 4) (hown : s.vm.findClass "UnclesByWardLaw" = some m.cls) (htl : ∀ w ∈ lw_tbl, w.before #[Value.ref b] s = true) (hAW : mv_AW s) (hK0 : va_K D mv_cl7 [] s) (hF : mv_F ad0 x0 L xs (cn_A0 s) s s.heap) (hFr : mv_Fr ad0 s) (hx0 : x0 = .null ∨ ∃ t, x0 = .ref t) (hL : L ≤ 3584)
    (hP : va_P D mv_cl7 (mv_ws 0 ad cA C) H) (hD : va_D (cn_A0 s) (mv_ws 0 ad cA C)) (hS : va_S (cn_A0 s) s.heap H locs) {a5 : Nat} (hl : lv_has ls 4 [(1, .ref a5), (0, .ref b)])
    (kk : ∀ (ad1 : Nat → Nat) (cA1 : Nat → ClassId) (C1 : mv_M) (H : Heap) (locs : List Loc) (ls : Array Slot), (∀ i, 200 ≤ i → ad1 i = ad0 i) → sp_X6q (cn_M0 sp_B6 L xs) C1 → va_P D mv_cl7 (mv_ws 0 ad cA C ++ mv_ws 1 ad1 cA1 C1) H → va_K D mv_cl7 (mv_tys 1 cA1) s → va_D (cn_A0 s) (mv_ws 0 ad cA C ++ mv_ws 1 ad1 cA1 C1) → mv_nM 1 C1 → va_S (cn_A0 s) s.heap H locs → lv_has ls 4 [(3, .int 0), (2, .ref (ad1 100)), (1, .ref a5), (0, .ref b)] → W p l e room_1 s m #[Value.ref b] below meth c H locs 89 4414 Q (F0 m 18 ls [])) :
    W p l e room_1 s m #[Value.ref b] below meth c H locs 64 2033 Q (F0 m 8 ls []) := by
  have hts : ∀ w ∈ mv_T, w.before #[Value.ref b] s = true := hAW.use
  have hA : ∀ q, s.heap.size ≤ q → cn_A0 s q := fun q h => h
  refine va_new (ci := 6) (fs := cn_f6) (C := RX6) (T := TX6) (N := 42) hx hb hts (mv_uin (a := 6) (by decide)) tyX6 tyX6_ok hown (hts (.classLink "UnclesByWardLaw" 10 RX6) (mv_in (p := 915) (by decide +kernel))) (hts (.instantiable RX6 42) (mv_in (p := 916) (by decide +kernel))) (hts (.initialized RX6) (mv_in (p := 112) (by decide +kernel))) hK0 hP hD hS hA rfl cn_df6 (Nat.le_of_ble_eq_true rfl) (Nat.le_of_ble_eq_true rfl) dn_law_8 (fun q H hP hD hS => ?_)
  have h64 := cn_last (mv_ws 0 ad cA C) (q, .inr (6, cn_f6))
  have hr64 := cn_take (mv_ws 0 ad cA C) [(q, .inr (6, cn_f6))]
  rw [cn_ws_len] at h64 hr64
  have e64 := (List.cons.inj h64).1
  refine lv_dup hx hb dn_law_11 rfl ?_
  have hPc := hP.sub (ws' := [(q, .inr (6, cn_f6))]) [64] (List.filterMap_cons_some e64)
  have hDc := hD.sub (ws' := [(q, .inr (6, cn_f6))]) [64] (by decide) h64
  have hFc := va_free (wc := [(q, .inr (6, cn_f6))]) hD hS hA [64] h64
  have hF1 := (hF.kept (H1 := H) (fun a h1 h2 => hS.2.1 a h1 h2)).narrow hFc
  refine va_callv (va_runI (As := []) (rest := [.ref q]) ⟨hx, hb, hml, hown, htl⟩ (cn_UBM (l := l) (D := D) (ad0 := ad0) (x0 := x0) (L := L) (xs := xs) hx0 (by omega) mv_ckall mv_mkall q H.size) ⟨callB_of 0 htl cn_gl6 rfl rfl rfl (hts (.initialized RX6) (mv_in (p := 112) (by decide +kernel))) (hts (.methodLink "UnclesByWardLaw" 12 ⟨RX6, "<init>", "()V"⟩) (mv_in (p := 917) (by decide +kernel))) (by decide +kernel) ⟨Nat.le_of_ble_eq_true rfl, Nat.le_of_ble_eq_true rfl⟩, rfl, hts (.instanceMethod ⟨RX6, "<init>", "()V"⟩) (mv_in (p := 918) (by decide +kernel))⟩
    ⟨fun a U g mk h => by obtain ⟨h0, h1, hP, hK, hD, hA1, hF, hFr⟩ := h; exact ⟨h0, h1, hP, va_K.moved (u := U) (U := U.calling g mk a) (Vm.Alike.refl U.vm) hK, hD, mv_AW.same (u := U) rfl hA1, mv_F.moved (u := U) (Vm.Alike.refl U.vm) hF, mv_Fr.same (u := U) rfl hFr⟩,
      fun U hU hW => ⟨rfl, by rw [hU], by rw [hU]; exact hPc, va_K.moved hW.alike hK0, hDc.weaken (fun _ _ _ _ => trivial), hAW.warm hW, by rw [hU]; exact hF1.moved hW.alike, hFr.warm hW⟩⟩ rfl rfl hl.1 rfl (Nat.le_of_ble_eq_true rfl) dn_law_12 ⟨Nat.le_of_ble_eq_true rfl, Nat.le_of_ble_eq_true rfl⟩) hS (fun q _ h => hFc q h) hFc (fun u t H1 locs ht hvm h5 hB hz1 hk1 hS => ?_)
  obtain ⟨ad1, cA1, C1⟩ := u
  obtain ⟨had, had0, hq⟩ := h5
  obtain ⟨hP1, hK1, hD1, hn1⟩ := hB
  rw [ht] at hP1
  have hK1 := va_K.moved hvm.symm hK1
  obtain ⟨hP, hD⟩ := va_join (wr := mv_ws 0 ad cA C) (w1 := mv_ws 1 ad1 cA1 C1) hP hD [64] (List.range 64) h64 hr64 cn_nd64 cn_dis64 hk1 hFc hP1 hD1
  refine lv_astore_n hx hb dn_law_15 rfl hl (by decide) rfl (fun ls hl => ?_)
  have hl : lv_has ls 4 [(2, .ref q), (1, .ref a5), (0, .ref b)] := hl
  refine lv_iconst hx hb (v := 0) dn_law_16 (by decide +kernel) ?_
  refine lv_istore_n hx hb dn_law_17 rfl hl (by decide) rfl (fun ls hl => ?_)
  have hl : lv_has ls 4 [(3, .int 0), (2, .ref q), (1, .ref a5), (0, .ref b)] := hl
  have had0 : ad1 100 = q := had0
  rw [← had0] at hl
  exact kk ad1 cA1 C1 H1 locs ls had hq hP hK1 hD hn1 hS hl
