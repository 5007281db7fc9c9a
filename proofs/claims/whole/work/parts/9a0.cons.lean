/-! the constructors of the nested classes -/
theorem dn_Law_0 : decode prog_2_method_1_code 0 = .ok (.aload_n 0, 1) := by decide +kernel
theorem dn_Law_1 : decode prog_2_method_1_code 1 = .ok (.invokespecial 3, 3) := by decide +kernel
theorem dn_Law_4 : decode prog_2_method_1_code 4 = .ok (.aload_n 0, 1) := by decide +kernel
theorem dn_Law_5 : decode prog_2_method_1_code 5 = .ok (.sipush 160, 3) := by decide +kernel
theorem dn_Law_8 : decode prog_2_method_1_code 8 = .ok (.newarray .int, 2) := by decide +kernel
theorem dn_Law_10 : decode prog_2_method_1_code 10 = .ok (.putfield 9, 3) := by decide +kernel
theorem dn_Law_13 : decode prog_2_method_1_code 13 = .ok (.aload_n 0, 1) := by decide +kernel
theorem dn_Law_14 : decode prog_2_method_1_code 14 = .ok (.iconst 3, 1) := by decide +kernel
theorem dn_Law_15 : decode prog_2_method_1_code 15 = .ok (.newarray .int, 2) := by decide +kernel
theorem dn_Law_17 : decode prog_2_method_1_code 17 = .ok (.putfield 15, 3) := by decide +kernel
theorem dn_Law_20 : decode prog_2_method_1_code 20 = .ok (.return_, 1) := by decide +kernel
set_option maxHeartbeats 4000000 in
set_option maxRecDepth 100000 in
theorem cn_Law {l : Launch} {D : va_G} (h0 sz : Nat) : Met l ⟨RX0, "<init>", "()V"⟩ [.code ⟨RX0, "<init>", "()V"⟩ prog_2_method_1_code 1 none, .arrayClass .int] { frames := 1, cells := 2, slots := 163, locals := 12 } (va_Pc [.ref h0] (fun U => U.heap.size = sz ∧ va_P D mv_cl7 [(h0, .inr (0, [.null, .null, .int (Int32.ofInt 0)]))] U.heap ∧ va_K D mv_cl7 [] U ∧ va_D (fun _ => True) [(h0, .inr (0, [.null, .null, .int (Int32.ofInt 0)]))] ∧ mv_AW U)) (va_Qv (fun _ : Unit => True) (fun _ t => ∃ (q1 q2 : Nat) (c1 c2 : ClassId), va_P D mv_cl7 [(h0, .inr (0, [.ref q1, .ref q2, .int (Int32.ofInt 0)])), (q1, .inl (c1, 160, .inl (fun _ => Int32.ofInt 0))), (q2, .inl (c2, 3, .inl (fun _ => Int32.ofInt 0)))] t.heap ∧ va_K D mv_cl7 [(c1, .int), (c2, .int)] t ∧ va_D (va_A [(h0, .inr (0, [.null, .null, .int (Int32.ofInt 0)]))] sz) [(h0, .inr (0, [.ref q1, .ref q2, .int (Int32.ofInt 0)])), (q1, .inl (c1, 160, .inl (fun _ => Int32.ofInt 0))), (q2, .inl (c2, 3, .inl (fun _ => Int32.ofInt 0)))]) (va_A [(h0, .inr (0, [.null, .null, .int (Int32.ofInt 0)]))] sz)) 2 163 (va_A [(h0, .inr (0, [.null, .null, .int (Int32.ofInt 0)]))] sz) := by
  refine Met.ofW (cc := prog_2_method_1_code) (maxL := 1) (ret := none) (by decide) rfl ?_
  intro p e s m args below meth c s₁ B hml hv
  obtain ⟨rfl, hsz, hP, hK, hD0, hAW⟩ := hv
  have hx := B.exec
  have hb := B.bytes
  have hr := B.returns
  have htw := atoms_spec (ws := [.code ⟨RX0, "<init>", "()V"⟩ prog_2_method_1_code 1 none, .arrayClass .int]) B.pre
  have hts : ∀ w ∈ mv_T, w.before ([.ref h0] : List Value).toArray s = true := hAW.use
  have hown : s.vm.findClass RX0 = some m.cls := findClass_of_methodNamed B.named
  have hlocks := B.notSynchronized
  have hin : meth.name = "<init>" := (name_of_methodNamed B.named B.method).1
  subst hsz
  have hD := hD0.self (sz := s.heap.size)
  generalize hAe : va_A [(h0, .inr (0, [.null, .null, .int (Int32.ofInt 0)]))] s.heap.size = A at hD ⊢
  have hA : ∀ q : Nat, s.heap.size ≤ q → A q := fun q h => by rw [← hAe]; exact Or.inr h
  have hS : va_S A s.heap s.heap [] := va_S.rf
  have hl := lv_entry ([.ref h0]) (n := 1) (Nat.le_of_ble_eq_true rfl)
  rw [lg_entry_eq]
  generalize (lg_sl ([.ref h0]) ++ List.replicate (1 - (lg_sl ([.ref h0])).length) Slot.unset).toArray = ls at hl ⊢
  have hl : lv_has ls 1 [(0, .ref h0)] := hl
  refine lv_aload_n hx hb dn_Law_0 rfl (lv_at hl 0 rfl) ?_
  refine W.objInit hx hb hown (hts (.methodLink RX0 3 objectInit) (mv_in (p := 203) (by decide +kernel))) (hts (.instanceMethod objectInit) (mv_in (p := 121) (by decide +kernel))) (hts _ (mv_in (p := 122) (by decide +kernel))) rfl (by rw [hml]; exact hl.1) rfl dn_Law_1 (Nat.le_of_ble_eq_true rfl) (Nat.le_of_ble_eq_true rfl) ?_
  refine W.eq (g2 := F0 m 4 ls []) rfl ?_
  refine lv_aload_n hx hb dn_Law_4 rfl (lv_at hl 0 rfl) ?_
  refine lv_sipush hx hb (v := 160) dn_Law_5 (by decide +kernel) ?_
  refine va_newa (atype := .int) (a0 := (160, .inl (fun _ => Int32.ofInt 0))) (N' := 160) hx hb (htw (.arrayClass .int) (by decide +kernel)) rfl hK hP hD hS hA (fun _ => rfl) (by decide) (by decide) (Nat.le_of_ble_eq_true rfl) (Nat.le_of_ble_eq_true rfl) (Nat.le_of_ble_eq_true rfl) dn_Law_8 (fun q1 c1 H hK hP hD hS => ?_)
  have hP : va_P D mv_cl7 [(h0, .inr (0, [.null, .null, .int (Int32.ofInt 0)])), (q1, .inl (c1, 160, .inl (fun _ => Int32.ofInt 0)))] H := hP
  have hD : va_D A [(h0, .inr (0, [.null, .null, .int (Int32.ofInt 0)])), (q1, .inl (c1, 160, .inl (fun _ => Int32.ofInt 0)))] := hD
  have hK : va_K D mv_cl7 [(c1, .int)] s := hK
  refine W.widen (k := 1) (n := 160) (Nat.le_of_ble_eq_true rfl) (Nat.le_of_ble_eq_true rfl) ?_
  refine va_putF (D := D) (ci := 0) (v := .ref q1) (ty := .array .int) (C := RX0) (T := TX0) (N := 3) hx hb hts (mv_uin (a := 0) (by decide)) tyX0 tyX0_ok nmX0 hown hK hP hD hS 0 rfl rfl 0 (by decide) (hts _ (mv_in (p := 204) (by decide +kernel))) (fun _ h9 => h9) rfl hin rfl (by decide +kernel) rfl rfl (Nat.le_of_ble_eq_true rfl) dn_Law_10 (fun H locs hP hD hS => ?_)
  have hP : va_P D mv_cl7 [(h0, .inr (0, [.ref q1, .null, .int (Int32.ofInt 0)])), (q1, .inl (c1, 160, .inl (fun _ => Int32.ofInt 0)))] H := hP
  have hD : va_D A [(h0, .inr (0, [.ref q1, .null, .int (Int32.ofInt 0)])), (q1, .inl (c1, 160, .inl (fun _ => Int32.ofInt 0)))] := hD
  refine lv_aload_n hx hb dn_Law_13 rfl (lv_at hl 0 rfl) ?_
  refine lv_iconst hx hb (v := 3) dn_Law_14 (by decide +kernel) ?_
  refine va_newa (atype := .int) (a0 := (3, .inl (fun _ => Int32.ofInt 0))) (N' := 3) hx hb (htw (.arrayClass .int) (by decide +kernel)) rfl hK hP hD hS hA (fun _ => rfl) (by decide) (by decide) (Nat.le_of_ble_eq_true rfl) (Nat.le_of_ble_eq_true rfl) (Nat.le_of_ble_eq_true rfl) dn_Law_15 (fun q2 c2 H hK hP hD hS => ?_)
  have hP : va_P D mv_cl7 [(h0, .inr (0, [.ref q1, .null, .int (Int32.ofInt 0)])), (q1, .inl (c1, 160, .inl (fun _ => Int32.ofInt 0))), (q2, .inl (c2, 3, .inl (fun _ => Int32.ofInt 0)))] H := hP
  have hD : va_D A [(h0, .inr (0, [.ref q1, .null, .int (Int32.ofInt 0)])), (q1, .inl (c1, 160, .inl (fun _ => Int32.ofInt 0))), (q2, .inl (c2, 3, .inl (fun _ => Int32.ofInt 0)))] := hD
  have hK : va_K D mv_cl7 [(c1, .int), (c2, .int)] s := hK
  refine W.widen (k := 2) (n := 163) (Nat.le_of_ble_eq_true rfl) (Nat.le_of_ble_eq_true rfl) ?_
  refine va_putF (D := D) (ci := 0) (v := .ref q2) (ty := .array .int) (C := RX0) (T := TX0) (N := 3) hx hb hts (mv_uin (a := 0) (by decide)) tyX0 tyX0_ok nmX0 hown hK hP hD hS 0 rfl rfl 1 (by decide) (hts _ (mv_in (p := 205) (by decide +kernel))) (fun _ h9 => h9) rfl hin rfl (by decide +kernel) rfl rfl (Nat.le_of_ble_eq_true rfl) dn_Law_17 (fun H locs hP hD hS => ?_)
  have hP : va_P D mv_cl7 [(h0, .inr (0, [.ref q1, .ref q2, .int (Int32.ofInt 0)])), (q1, .inl (c1, 160, .inl (fun _ => Int32.ofInt 0))), (q2, .inl (c2, 3, .inl (fun _ => Int32.ofInt 0)))] H := hP
  have hD : va_D A [(h0, .inr (0, [.ref q1, .ref q2, .int (Int32.ofInt 0)])), (q1, .inl (c1, 160, .inl (fun _ => Int32.ofInt 0))), (q2, .inl (c2, 3, .inl (fun _ => Int32.ofInt 0)))] := hD
  exact W.vret hx hb hr (fun t ht hW => ⟨⟨(), rfl, trivial, ⟨q1, q2, c1, c2,  by rw [ht]; exact hP, va_K.moved hW.alike hK, hD⟩⟩, hS.F ht⟩) hS.2.2 dn_Law_20
theorem dn_Reader_0 : decode prog_3_method_1_code 0 = .ok (.aload_n 0, 1) := by decide +kernel
theorem dn_Reader_1 : decode prog_3_method_1_code 1 = .ok (.invokespecial 3, 3) := by decide +kernel
theorem dn_Reader_4 : decode prog_3_method_1_code 4 = .ok (.aload_n 0, 1) := by decide +kernel
theorem dn_Reader_5 : decode prog_3_method_1_code 5 = .ok (.sipush 160, 3) := by decide +kernel
theorem dn_Reader_8 : decode prog_3_method_1_code 8 = .ok (.newarray .int, 2) := by decide +kernel
theorem dn_Reader_10 : decode prog_3_method_1_code 10 = .ok (.putfield 9, 3) := by decide +kernel
theorem dn_Reader_13 : decode prog_3_method_1_code 13 = .ok (.return_, 1) := by decide +kernel
set_option maxHeartbeats 4000000 in
set_option maxRecDepth 100000 in
theorem cn_Reader {l : Launch} {D : va_G} (h0 sz : Nat) : Met l ⟨RX1, "<init>", "()V"⟩ [.code ⟨RX1, "<init>", "()V"⟩ prog_3_method_1_code 1 none, .arrayClass .int] { frames := 1, cells := 1, slots := 160, locals := 12 } (va_Pc [.ref h0] (fun U => U.heap.size = sz ∧ va_P D mv_cl7 [(h0, .inr (1, [.null, .int (Int32.ofInt 0), .int (Int32.ofInt 0), .int (Int32.ofInt 0), .int (Int32.ofInt 0), .int (Int32.ofInt 0), .int (Int32.ofInt 0), .null]))] U.heap ∧ va_K D mv_cl7 [] U ∧ va_D (fun _ => True) [(h0, .inr (1, [.null, .int (Int32.ofInt 0), .int (Int32.ofInt 0), .int (Int32.ofInt 0), .int (Int32.ofInt 0), .int (Int32.ofInt 0), .int (Int32.ofInt 0), .null]))] ∧ mv_AW U)) (va_Qv (fun _ : Unit => True) (fun _ t => ∃ (q1 : Nat) (c1 : ClassId), va_P D mv_cl7 [(h0, .inr (1, [.ref q1, .int (Int32.ofInt 0), .int (Int32.ofInt 0), .int (Int32.ofInt 0), .int (Int32.ofInt 0), .int (Int32.ofInt 0), .int (Int32.ofInt 0), .null])), (q1, .inl (c1, 160, .inl (fun _ => Int32.ofInt 0)))] t.heap ∧ va_K D mv_cl7 [(c1, .int)] t ∧ va_D (va_A [(h0, .inr (1, [.null, .int (Int32.ofInt 0), .int (Int32.ofInt 0), .int (Int32.ofInt 0), .int (Int32.ofInt 0), .int (Int32.ofInt 0), .int (Int32.ofInt 0), .null]))] sz) [(h0, .inr (1, [.ref q1, .int (Int32.ofInt 0), .int (Int32.ofInt 0), .int (Int32.ofInt 0), .int (Int32.ofInt 0), .int (Int32.ofInt 0), .int (Int32.ofInt 0), .null])), (q1, .inl (c1, 160, .inl (fun _ => Int32.ofInt 0)))]) (va_A [(h0, .inr (1, [.null, .int (Int32.ofInt 0), .int (Int32.ofInt 0), .int (Int32.ofInt 0), .int (Int32.ofInt 0), .int (Int32.ofInt 0), .int (Int32.ofInt 0), .null]))] sz)) 1 160 (va_A [(h0, .inr (1, [.null, .int (Int32.ofInt 0), .int (Int32.ofInt 0), .int (Int32.ofInt 0), .int (Int32.ofInt 0), .int (Int32.ofInt 0), .int (Int32.ofInt 0), .null]))] sz) := by
  refine Met.ofW (cc := prog_3_method_1_code) (maxL := 1) (ret := none) (by decide) rfl ?_
  intro p e s m args below meth c s₁ B hml hv
  obtain ⟨rfl, hsz, hP, hK, hD0, hAW⟩ := hv
  have hx := B.exec
  have hb := B.bytes
  have hr := B.returns
  have htw := atoms_spec (ws := [.code ⟨RX1, "<init>", "()V"⟩ prog_3_method_1_code 1 none, .arrayClass .int]) B.pre
  have hts : ∀ w ∈ mv_T, w.before ([.ref h0] : List Value).toArray s = true := hAW.use
  have hown : s.vm.findClass RX1 = some m.cls := findClass_of_methodNamed B.named
  have hlocks := B.notSynchronized
  have hin : meth.name = "<init>" := (name_of_methodNamed B.named B.method).1
  subst hsz
  have hD := hD0.self (sz := s.heap.size)
  generalize hAe : va_A [(h0, .inr (1, [.null, .int (Int32.ofInt 0), .int (Int32.ofInt 0), .int (Int32.ofInt 0), .int (Int32.ofInt 0), .int (Int32.ofInt 0), .int (Int32.ofInt 0), .null]))] s.heap.size = A at hD ⊢
  have hA : ∀ q : Nat, s.heap.size ≤ q → A q := fun q h => by rw [← hAe]; exact Or.inr h
  have hS : va_S A s.heap s.heap [] := va_S.rf
  have hl := lv_entry ([.ref h0]) (n := 1) (Nat.le_of_ble_eq_true rfl)
  rw [lg_entry_eq]
  generalize (lg_sl ([.ref h0]) ++ List.replicate (1 - (lg_sl ([.ref h0])).length) Slot.unset).toArray = ls at hl ⊢
  have hl : lv_has ls 1 [(0, .ref h0)] := hl
  refine lv_aload_n hx hb dn_Reader_0 rfl (lv_at hl 0 rfl) ?_
  refine W.objInit hx hb hown (hts (.methodLink RX1 3 objectInit) (mv_in (p := 130) (by decide +kernel))) (hts (.instanceMethod objectInit) (mv_in (p := 121) (by decide +kernel))) (hts _ (mv_in (p := 122) (by decide +kernel))) rfl (by rw [hml]; exact hl.1) rfl dn_Reader_1 (Nat.le_of_ble_eq_true rfl) (Nat.le_of_ble_eq_true rfl) ?_
  refine W.eq (g2 := F0 m 4 ls []) rfl ?_
  refine lv_aload_n hx hb dn_Reader_4 rfl (lv_at hl 0 rfl) ?_
  refine lv_sipush hx hb (v := 160) dn_Reader_5 (by decide +kernel) ?_
  refine va_newa (atype := .int) (a0 := (160, .inl (fun _ => Int32.ofInt 0))) (N' := 160) hx hb (htw (.arrayClass .int) (by decide +kernel)) rfl hK hP hD hS hA (fun _ => rfl) (by decide) (by decide) (Nat.le_of_ble_eq_true rfl) (Nat.le_of_ble_eq_true rfl) (Nat.le_of_ble_eq_true rfl) dn_Reader_8 (fun q1 c1 H hK hP hD hS => ?_)
  have hP : va_P D mv_cl7 [(h0, .inr (1, [.null, .int (Int32.ofInt 0), .int (Int32.ofInt 0), .int (Int32.ofInt 0), .int (Int32.ofInt 0), .int (Int32.ofInt 0), .int (Int32.ofInt 0), .null])), (q1, .inl (c1, 160, .inl (fun _ => Int32.ofInt 0)))] H := hP
  have hD : va_D A [(h0, .inr (1, [.null, .int (Int32.ofInt 0), .int (Int32.ofInt 0), .int (Int32.ofInt 0), .int (Int32.ofInt 0), .int (Int32.ofInt 0), .int (Int32.ofInt 0), .null])), (q1, .inl (c1, 160, .inl (fun _ => Int32.ofInt 0)))] := hD
  have hK : va_K D mv_cl7 [(c1, .int)] s := hK
  refine W.widen (k := 1) (n := 160) (Nat.le_of_ble_eq_true rfl) (Nat.le_of_ble_eq_true rfl) ?_
  refine va_putF (D := D) (ci := 1) (v := .ref q1) (ty := .array .int) (C := RX1) (T := TX1) (N := 8) hx hb hts (mv_uin (a := 1) (by decide)) tyX1 tyX1_ok nmX1 hown hK hP hD hS 0 rfl rfl 0 (by decide) (hts _ (mv_in (p := 131) (by decide +kernel))) (fun _ h9 => h9) rfl hin rfl (by decide +kernel) rfl rfl (Nat.le_of_ble_eq_true rfl) dn_Reader_10 (fun H locs hP hD hS => ?_)
  have hP : va_P D mv_cl7 [(h0, .inr (1, [.ref q1, .int (Int32.ofInt 0), .int (Int32.ofInt 0), .int (Int32.ofInt 0), .int (Int32.ofInt 0), .int (Int32.ofInt 0), .int (Int32.ofInt 0), .null])), (q1, .inl (c1, 160, .inl (fun _ => Int32.ofInt 0)))] H := hP
  have hD : va_D A [(h0, .inr (1, [.ref q1, .int (Int32.ofInt 0), .int (Int32.ofInt 0), .int (Int32.ofInt 0), .int (Int32.ofInt 0), .int (Int32.ofInt 0), .int (Int32.ofInt 0), .null])), (q1, .inl (c1, 160, .inl (fun _ => Int32.ofInt 0)))] := hD
  exact W.vret hx hb hr (fun t ht hW => ⟨⟨(), rfl, trivial, ⟨q1, c1,  by rw [ht]; exact hP, va_K.moved hW.alike hK, hD⟩⟩, hS.F ht⟩) hS.2.2 dn_Reader_13
theorem dn_Sheet_0 : decode prog_4_method_1_code 0 = .ok (.aload_n 0, 1) := by decide +kernel
theorem dn_Sheet_1 : decode prog_4_method_1_code 1 = .ok (.invokespecial 3, 3) := by decide +kernel
theorem dn_Sheet_4 : decode prog_4_method_1_code 4 = .ok (.aload_n 0, 1) := by decide +kernel
theorem dn_Sheet_5 : decode prog_4_method_1_code 5 = .ok (.bipush 40, 2) := by decide +kernel
theorem dn_Sheet_7 : decode prog_4_method_1_code 7 = .ok (.newarray .int, 2) := by decide +kernel
theorem dn_Sheet_9 : decode prog_4_method_1_code 9 = .ok (.putfield 9, 3) := by decide +kernel
theorem dn_Sheet_12 : decode prog_4_method_1_code 12 = .ok (.aload_n 0, 1) := by decide +kernel
theorem dn_Sheet_13 : decode prog_4_method_1_code 13 = .ok (.iconst (-1), 1) := by decide +kernel
theorem dn_Sheet_14 : decode prog_4_method_1_code 14 = .ok (.putfield 15, 3) := by decide +kernel
theorem dn_Sheet_17 : decode prog_4_method_1_code 17 = .ok (.return_, 1) := by decide +kernel
set_option maxHeartbeats 4000000 in
set_option maxRecDepth 100000 in
theorem cn_Sheet {l : Launch} {D : va_G} (h0 sz : Nat) : Met l ⟨RX2, "<init>", "()V"⟩ [.code ⟨RX2, "<init>", "()V"⟩ prog_4_method_1_code 1 none, .arrayClass .int] { frames := 1, cells := 1, slots := 40, locals := 12 } (va_Pc [.ref h0] (fun U => U.heap.size = sz ∧ va_P D mv_cl7 [(h0, .inr (2, [.null, .int (Int32.ofInt 0), .int (Int32.ofInt 0)]))] U.heap ∧ va_K D mv_cl7 [] U ∧ va_D (fun _ => True) [(h0, .inr (2, [.null, .int (Int32.ofInt 0), .int (Int32.ofInt 0)]))] ∧ mv_AW U)) (va_Qv (fun _ : Unit => True) (fun _ t => ∃ (q1 : Nat) (c1 : ClassId), va_P D mv_cl7 [(h0, .inr (2, [.ref q1, .int (Int32.ofInt (-1)), .int (Int32.ofInt 0)])), (q1, .inl (c1, 40, .inl (fun _ => Int32.ofInt 0)))] t.heap ∧ va_K D mv_cl7 [(c1, .int)] t ∧ va_D (va_A [(h0, .inr (2, [.null, .int (Int32.ofInt 0), .int (Int32.ofInt 0)]))] sz) [(h0, .inr (2, [.ref q1, .int (Int32.ofInt (-1)), .int (Int32.ofInt 0)])), (q1, .inl (c1, 40, .inl (fun _ => Int32.ofInt 0)))]) (va_A [(h0, .inr (2, [.null, .int (Int32.ofInt 0), .int (Int32.ofInt 0)]))] sz)) 1 40 (va_A [(h0, .inr (2, [.null, .int (Int32.ofInt 0), .int (Int32.ofInt 0)]))] sz) := by
  refine Met.ofW (cc := prog_4_method_1_code) (maxL := 1) (ret := none) (by decide) rfl ?_
  intro p e s m args below meth c s₁ B hml hv
  obtain ⟨rfl, hsz, hP, hK, hD0, hAW⟩ := hv
  have hx := B.exec
  have hb := B.bytes
  have hr := B.returns
  have htw := atoms_spec (ws := [.code ⟨RX2, "<init>", "()V"⟩ prog_4_method_1_code 1 none, .arrayClass .int]) B.pre
  have hts : ∀ w ∈ mv_T, w.before ([.ref h0] : List Value).toArray s = true := hAW.use
  have hown : s.vm.findClass RX2 = some m.cls := findClass_of_methodNamed B.named
  have hlocks := B.notSynchronized
  have hin : meth.name = "<init>" := (name_of_methodNamed B.named B.method).1
  subst hsz
  have hD := hD0.self (sz := s.heap.size)
  generalize hAe : va_A [(h0, .inr (2, [.null, .int (Int32.ofInt 0), .int (Int32.ofInt 0)]))] s.heap.size = A at hD ⊢
  have hA : ∀ q : Nat, s.heap.size ≤ q → A q := fun q h => by rw [← hAe]; exact Or.inr h
  have hS : va_S A s.heap s.heap [] := va_S.rf
  have hl := lv_entry ([.ref h0]) (n := 1) (Nat.le_of_ble_eq_true rfl)
  rw [lg_entry_eq]
  generalize (lg_sl ([.ref h0]) ++ List.replicate (1 - (lg_sl ([.ref h0])).length) Slot.unset).toArray = ls at hl ⊢
  have hl : lv_has ls 1 [(0, .ref h0)] := hl
  refine lv_aload_n hx hb dn_Sheet_0 rfl (lv_at hl 0 rfl) ?_
  refine W.objInit hx hb hown (hts (.methodLink RX2 3 objectInit) (mv_in (p := 218) (by decide +kernel))) (hts (.instanceMethod objectInit) (mv_in (p := 121) (by decide +kernel))) (hts _ (mv_in (p := 122) (by decide +kernel))) rfl (by rw [hml]; exact hl.1) rfl dn_Sheet_1 (Nat.le_of_ble_eq_true rfl) (Nat.le_of_ble_eq_true rfl) ?_
  refine W.eq (g2 := F0 m 4 ls []) rfl ?_
  refine lv_aload_n hx hb dn_Sheet_4 rfl (lv_at hl 0 rfl) ?_
  refine lv_bipush hx hb (v := 40) dn_Sheet_5 (by decide +kernel) ?_
  refine va_newa (atype := .int) (a0 := (40, .inl (fun _ => Int32.ofInt 0))) (N' := 40) hx hb (htw (.arrayClass .int) (by decide +kernel)) rfl hK hP hD hS hA (fun _ => rfl) (by decide) (by decide) (Nat.le_of_ble_eq_true rfl) (Nat.le_of_ble_eq_true rfl) (Nat.le_of_ble_eq_true rfl) dn_Sheet_7 (fun q1 c1 H hK hP hD hS => ?_)
  have hP : va_P D mv_cl7 [(h0, .inr (2, [.null, .int (Int32.ofInt 0), .int (Int32.ofInt 0)])), (q1, .inl (c1, 40, .inl (fun _ => Int32.ofInt 0)))] H := hP
  have hD : va_D A [(h0, .inr (2, [.null, .int (Int32.ofInt 0), .int (Int32.ofInt 0)])), (q1, .inl (c1, 40, .inl (fun _ => Int32.ofInt 0)))] := hD
  have hK : va_K D mv_cl7 [(c1, .int)] s := hK
  refine W.widen (k := 1) (n := 40) (Nat.le_of_ble_eq_true rfl) (Nat.le_of_ble_eq_true rfl) ?_
  refine va_putF (D := D) (ci := 2) (v := .ref q1) (ty := .array .int) (C := RX2) (T := TX2) (N := 3) hx hb hts (mv_uin (a := 2) (by decide)) tyX2 tyX2_ok nmX2 hown hK hP hD hS 0 rfl rfl 0 (by decide) (hts _ (mv_in (p := 219) (by decide +kernel))) (fun _ h9 => h9) rfl hin rfl (by decide +kernel) rfl rfl (Nat.le_of_ble_eq_true rfl) dn_Sheet_9 (fun H locs hP hD hS => ?_)
  have hP : va_P D mv_cl7 [(h0, .inr (2, [.ref q1, .int (Int32.ofInt 0), .int (Int32.ofInt 0)])), (q1, .inl (c1, 40, .inl (fun _ => Int32.ofInt 0)))] H := hP
  have hD : va_D A [(h0, .inr (2, [.ref q1, .int (Int32.ofInt 0), .int (Int32.ofInt 0)])), (q1, .inl (c1, 40, .inl (fun _ => Int32.ofInt 0)))] := hD
  refine lv_aload_n hx hb dn_Sheet_12 rfl (lv_at hl 0 rfl) ?_
  refine lv_iconst hx hb (v := (Int32.ofInt (-1))) dn_Sheet_13 (by decide +kernel) ?_
  refine va_put (D := D) (ci := 2) (v := .int (Int32.ofInt (-1))) (ty := .int) (C := RX2) (T := TX2) (N := 3) hx hb hts (mv_uin (a := 2) (by decide)) tyX2 tyX2_ok nmX2 hown hK hP hD hS 0 rfl rfl 1 (by decide) (hts _ (mv_in (p := 221) (by decide +kernel))) (fun _ h9 => h9) rfl (by decide +kernel) rfl rfl (Nat.le_of_ble_eq_true rfl) dn_Sheet_14 (fun H locs hP hD hS => ?_)
  have hP : va_P D mv_cl7 [(h0, .inr (2, [.ref q1, .int (Int32.ofInt (-1)), .int (Int32.ofInt 0)])), (q1, .inl (c1, 40, .inl (fun _ => Int32.ofInt 0)))] H := hP
  have hD : va_D A [(h0, .inr (2, [.ref q1, .int (Int32.ofInt (-1)), .int (Int32.ofInt 0)])), (q1, .inl (c1, 40, .inl (fun _ => Int32.ofInt 0)))] := hD
  exact W.vret hx hb hr (fun t ht hW => ⟨⟨(), rfl, trivial, ⟨q1, c1,  by rw [ht]; exact hP, va_K.moved hW.alike hK, hD⟩⟩, hS.F ht⟩) hS.2.2 dn_Sheet_17
theorem dn_Table_0 : decode prog_5_method_1_code 0 = .ok (.aload_n 0, 1) := by decide +kernel
theorem dn_Table_1 : decode prog_5_method_1_code 1 = .ok (.invokespecial 3, 3) := by decide +kernel
theorem dn_Table_4 : decode prog_5_method_1_code 4 = .ok (.aload_n 0, 1) := by decide +kernel
theorem dn_Table_5 : decode prog_5_method_1_code 5 = .ok (.bipush 36, 2) := by decide +kernel
theorem dn_Table_7 : decode prog_5_method_1_code 7 = .ok (.newarray .int, 2) := by decide +kernel
theorem dn_Table_9 : decode prog_5_method_1_code 9 = .ok (.putfield 9, 3) := by decide +kernel
theorem dn_Table_12 : decode prog_5_method_1_code 12 = .ok (.aload_n 0, 1) := by decide +kernel
theorem dn_Table_13 : decode prog_5_method_1_code 13 = .ok (.bipush 36, 2) := by decide +kernel
theorem dn_Table_15 : decode prog_5_method_1_code 15 = .ok (.newarray .int, 2) := by decide +kernel
theorem dn_Table_17 : decode prog_5_method_1_code 17 = .ok (.putfield 15, 3) := by decide +kernel
theorem dn_Table_20 : decode prog_5_method_1_code 20 = .ok (.aload_n 0, 1) := by decide +kernel
theorem dn_Table_21 : decode prog_5_method_1_code 21 = .ok (.bipush 6, 2) := by decide +kernel
theorem dn_Table_23 : decode prog_5_method_1_code 23 = .ok (.newarray .int, 2) := by decide +kernel
theorem dn_Table_25 : decode prog_5_method_1_code 25 = .ok (.putfield 18, 3) := by decide +kernel
theorem dn_Table_28 : decode prog_5_method_1_code 28 = .ok (.aload_n 0, 1) := by decide +kernel
theorem dn_Table_29 : decode prog_5_method_1_code 29 = .ok (.bipush 6, 2) := by decide +kernel
theorem dn_Table_31 : decode prog_5_method_1_code 31 = .ok (.newarray .int, 2) := by decide +kernel
theorem dn_Table_33 : decode prog_5_method_1_code 33 = .ok (.putfield 21, 3) := by decide +kernel
theorem dn_Table_36 : decode prog_5_method_1_code 36 = .ok (.aload_n 0, 1) := by decide +kernel
theorem dn_Table_37 : decode prog_5_method_1_code 37 = .ok (.bipush 6, 2) := by decide +kernel
theorem dn_Table_39 : decode prog_5_method_1_code 39 = .ok (.newarray .int, 2) := by decide +kernel
theorem dn_Table_41 : decode prog_5_method_1_code 41 = .ok (.putfield 24, 3) := by decide +kernel
theorem dn_Table_44 : decode prog_5_method_1_code 44 = .ok (.aload_n 0, 1) := by decide +kernel
theorem dn_Table_45 : decode prog_5_method_1_code 45 = .ok (.bipush 6, 2) := by decide +kernel
theorem dn_Table_47 : decode prog_5_method_1_code 47 = .ok (.newarray .int, 2) := by decide +kernel
theorem dn_Table_49 : decode prog_5_method_1_code 49 = .ok (.putfield 27, 3) := by decide +kernel
theorem dn_Table_52 : decode prog_5_method_1_code 52 = .ok (.aload_n 0, 1) := by decide +kernel
theorem dn_Table_53 : decode prog_5_method_1_code 53 = .ok (.bipush 64, 2) := by decide +kernel
theorem dn_Table_55 : decode prog_5_method_1_code 55 = .ok (.newarray .long, 2) := by decide +kernel
theorem dn_Table_57 : decode prog_5_method_1_code 57 = .ok (.putfield 30, 3) := by decide +kernel
theorem dn_Table_60 : decode prog_5_method_1_code 60 = .ok (.aload_n 0, 1) := by decide +kernel
theorem dn_Table_61 : decode prog_5_method_1_code 61 = .ok (.bipush 64, 2) := by decide +kernel
theorem dn_Table_63 : decode prog_5_method_1_code 63 = .ok (.newarray .long, 2) := by decide +kernel
theorem dn_Table_65 : decode prog_5_method_1_code 65 = .ok (.putfield 34, 3) := by decide +kernel
theorem dn_Table_68 : decode prog_5_method_1_code 68 = .ok (.return_, 1) := by decide +kernel
set_option maxHeartbeats 4000000 in
set_option maxRecDepth 100000 in
theorem cn_Table {l : Launch} {D : va_G} (h0 sz : Nat) : Met l ⟨RX3, "<init>", "()V"⟩ [.code ⟨RX3, "<init>", "()V"⟩ prog_5_method_1_code 1 none, .arrayClass .int, .arrayClass .long] { frames := 1, cells := 8, slots := 224, locals := 12 } (va_Pc [.ref h0] (fun U => U.heap.size = sz ∧ va_P D mv_cl7 [(h0, .inr (3, [.null, .null, .null, .null, .null, .null, .null, .null, .int (Int32.ofInt 0), .int (Int32.ofInt 0)]))] U.heap ∧ va_K D mv_cl7 [] U ∧ va_D (fun _ => True) [(h0, .inr (3, [.null, .null, .null, .null, .null, .null, .null, .null, .int (Int32.ofInt 0), .int (Int32.ofInt 0)]))] ∧ mv_AW U)) (va_Qv (fun _ : Unit => True) (fun _ t => ∃ (q1 q2 q3 q4 q5 q6 q7 q8 : Nat) (c1 c2 c3 c4 c5 c6 c7 c8 : ClassId), va_P D mv_cl7 [(h0, .inr (3, [.ref q1, .ref q2, .ref q3, .ref q4, .ref q5, .ref q6, .ref q7, .ref q8, .int (Int32.ofInt 0), .int (Int32.ofInt 0)])), (q1, .inl (c1, 36, .inl (fun _ => Int32.ofInt 0))), (q2, .inl (c2, 36, .inl (fun _ => Int32.ofInt 0))), (q3, .inl (c3, 6, .inl (fun _ => Int32.ofInt 0))), (q4, .inl (c4, 6, .inl (fun _ => Int32.ofInt 0))), (q5, .inl (c5, 6, .inl (fun _ => Int32.ofInt 0))), (q6, .inl (c6, 6, .inl (fun _ => Int32.ofInt 0))), (q7, .inl (c7, 64, .inr (.inl (fun _ => Int64.ofInt 0)))), (q8, .inl (c8, 64, .inr (.inl (fun _ => Int64.ofInt 0))))] t.heap ∧ va_K D mv_cl7 [(c1, .int), (c2, .int), (c3, .int), (c4, .int), (c5, .int), (c6, .int), (c7, .long), (c8, .long)] t ∧ va_D (va_A [(h0, .inr (3, [.null, .null, .null, .null, .null, .null, .null, .null, .int (Int32.ofInt 0), .int (Int32.ofInt 0)]))] sz) [(h0, .inr (3, [.ref q1, .ref q2, .ref q3, .ref q4, .ref q5, .ref q6, .ref q7, .ref q8, .int (Int32.ofInt 0), .int (Int32.ofInt 0)])), (q1, .inl (c1, 36, .inl (fun _ => Int32.ofInt 0))), (q2, .inl (c2, 36, .inl (fun _ => Int32.ofInt 0))), (q3, .inl (c3, 6, .inl (fun _ => Int32.ofInt 0))), (q4, .inl (c4, 6, .inl (fun _ => Int32.ofInt 0))), (q5, .inl (c5, 6, .inl (fun _ => Int32.ofInt 0))), (q6, .inl (c6, 6, .inl (fun _ => Int32.ofInt 0))), (q7, .inl (c7, 64, .inr (.inl (fun _ => Int64.ofInt 0)))), (q8, .inl (c8, 64, .inr (.inl (fun _ => Int64.ofInt 0))))]) (va_A [(h0, .inr (3, [.null, .null, .null, .null, .null, .null, .null, .null, .int (Int32.ofInt 0), .int (Int32.ofInt 0)]))] sz)) 8 224 (va_A [(h0, .inr (3, [.null, .null, .null, .null, .null, .null, .null, .null, .int (Int32.ofInt 0), .int (Int32.ofInt 0)]))] sz) := by
  refine Met.ofW (cc := prog_5_method_1_code) (maxL := 1) (ret := none) (by decide) rfl ?_
  intro p e s m args below meth c s₁ B hml hv
  obtain ⟨rfl, hsz, hP, hK, hD0, hAW⟩ := hv
  have hx := B.exec
  have hb := B.bytes
  have hr := B.returns
  have htw := atoms_spec (ws := [.code ⟨RX3, "<init>", "()V"⟩ prog_5_method_1_code 1 none, .arrayClass .int, .arrayClass .long]) B.pre
  have hts : ∀ w ∈ mv_T, w.before ([.ref h0] : List Value).toArray s = true := hAW.use
  have hown : s.vm.findClass RX3 = some m.cls := findClass_of_methodNamed B.named
  have hlocks := B.notSynchronized
  have hin : meth.name = "<init>" := (name_of_methodNamed B.named B.method).1
  subst hsz
  have hD := hD0.self (sz := s.heap.size)
  generalize hAe : va_A [(h0, .inr (3, [.null, .null, .null, .null, .null, .null, .null, .null, .int (Int32.ofInt 0), .int (Int32.ofInt 0)]))] s.heap.size = A at hD ⊢
  have hA : ∀ q : Nat, s.heap.size ≤ q → A q := fun q h => by rw [← hAe]; exact Or.inr h
  have hS : va_S A s.heap s.heap [] := va_S.rf
  have hl := lv_entry ([.ref h0]) (n := 1) (Nat.le_of_ble_eq_true rfl)
  rw [lg_entry_eq]
  generalize (lg_sl ([.ref h0]) ++ List.replicate (1 - (lg_sl ([.ref h0])).length) Slot.unset).toArray = ls at hl ⊢
  have hl : lv_has ls 1 [(0, .ref h0)] := hl
  refine lv_aload_n hx hb dn_Table_0 rfl (lv_at hl 0 rfl) ?_
  refine W.objInit hx hb hown (hts (.methodLink RX3 3 objectInit) (mv_in (p := 163) (by decide +kernel))) (hts (.instanceMethod objectInit) (mv_in (p := 121) (by decide +kernel))) (hts _ (mv_in (p := 122) (by decide +kernel))) rfl (by rw [hml]; exact hl.1) rfl dn_Table_1 (Nat.le_of_ble_eq_true rfl) (Nat.le_of_ble_eq_true rfl) ?_
  refine W.eq (g2 := F0 m 4 ls []) rfl ?_
  refine lv_aload_n hx hb dn_Table_4 rfl (lv_at hl 0 rfl) ?_
  refine lv_bipush hx hb (v := 36) dn_Table_5 (by decide +kernel) ?_
  refine va_newa (atype := .int) (a0 := (36, .inl (fun _ => Int32.ofInt 0))) (N' := 36) hx hb (htw (.arrayClass .int) (by decide +kernel)) rfl hK hP hD hS hA (fun _ => rfl) (by decide) (by decide) (Nat.le_of_ble_eq_true rfl) (Nat.le_of_ble_eq_true rfl) (Nat.le_of_ble_eq_true rfl) dn_Table_7 (fun q1 c1 H hK hP hD hS => ?_)
  have hP : va_P D mv_cl7 [(h0, .inr (3, [.null, .null, .null, .null, .null, .null, .null, .null, .int (Int32.ofInt 0), .int (Int32.ofInt 0)])), (q1, .inl (c1, 36, .inl (fun _ => Int32.ofInt 0)))] H := hP
  have hD : va_D A [(h0, .inr (3, [.null, .null, .null, .null, .null, .null, .null, .null, .int (Int32.ofInt 0), .int (Int32.ofInt 0)])), (q1, .inl (c1, 36, .inl (fun _ => Int32.ofInt 0)))] := hD
  have hK : va_K D mv_cl7 [(c1, .int)] s := hK
  refine W.widen (k := 1) (n := 36) (Nat.le_of_ble_eq_true rfl) (Nat.le_of_ble_eq_true rfl) ?_
  refine va_putF (D := D) (ci := 3) (v := .ref q1) (ty := .array .int) (C := RX3) (T := TX3) (N := 10) hx hb hts (mv_uin (a := 3) (by decide)) tyX3 tyX3_ok nmX3 hown hK hP hD hS 0 rfl rfl 0 (by decide) (hts _ (mv_in (p := 164) (by decide +kernel))) (fun _ h9 => h9) rfl hin rfl (by decide +kernel) rfl rfl (Nat.le_of_ble_eq_true rfl) dn_Table_9 (fun H locs hP hD hS => ?_)
  have hP : va_P D mv_cl7 [(h0, .inr (3, [.ref q1, .null, .null, .null, .null, .null, .null, .null, .int (Int32.ofInt 0), .int (Int32.ofInt 0)])), (q1, .inl (c1, 36, .inl (fun _ => Int32.ofInt 0)))] H := hP
  have hD : va_D A [(h0, .inr (3, [.ref q1, .null, .null, .null, .null, .null, .null, .null, .int (Int32.ofInt 0), .int (Int32.ofInt 0)])), (q1, .inl (c1, 36, .inl (fun _ => Int32.ofInt 0)))] := hD
  refine lv_aload_n hx hb dn_Table_12 rfl (lv_at hl 0 rfl) ?_
  refine lv_bipush hx hb (v := 36) dn_Table_13 (by decide +kernel) ?_
  refine va_newa (atype := .int) (a0 := (36, .inl (fun _ => Int32.ofInt 0))) (N' := 36) hx hb (htw (.arrayClass .int) (by decide +kernel)) rfl hK hP hD hS hA (fun _ => rfl) (by decide) (by decide) (Nat.le_of_ble_eq_true rfl) (Nat.le_of_ble_eq_true rfl) (Nat.le_of_ble_eq_true rfl) dn_Table_15 (fun q2 c2 H hK hP hD hS => ?_)
  have hP : va_P D mv_cl7 [(h0, .inr (3, [.ref q1, .null, .null, .null, .null, .null, .null, .null, .int (Int32.ofInt 0), .int (Int32.ofInt 0)])), (q1, .inl (c1, 36, .inl (fun _ => Int32.ofInt 0))), (q2, .inl (c2, 36, .inl (fun _ => Int32.ofInt 0)))] H := hP
  have hD : va_D A [(h0, .inr (3, [.ref q1, .null, .null, .null, .null, .null, .null, .null, .int (Int32.ofInt 0), .int (Int32.ofInt 0)])), (q1, .inl (c1, 36, .inl (fun _ => Int32.ofInt 0))), (q2, .inl (c2, 36, .inl (fun _ => Int32.ofInt 0)))] := hD
  have hK : va_K D mv_cl7 [(c1, .int), (c2, .int)] s := hK
  refine W.widen (k := 2) (n := 72) (Nat.le_of_ble_eq_true rfl) (Nat.le_of_ble_eq_true rfl) ?_
  refine va_putF (D := D) (ci := 3) (v := .ref q2) (ty := .array .int) (C := RX3) (T := TX3) (N := 10) hx hb hts (mv_uin (a := 3) (by decide)) tyX3 tyX3_ok nmX3 hown hK hP hD hS 0 rfl rfl 1 (by decide) (hts _ (mv_in (p := 165) (by decide +kernel))) (fun _ h9 => h9) rfl hin rfl (by decide +kernel) rfl rfl (Nat.le_of_ble_eq_true rfl) dn_Table_17 (fun H locs hP hD hS => ?_)
  have hP : va_P D mv_cl7 [(h0, .inr (3, [.ref q1, .ref q2, .null, .null, .null, .null, .null, .null, .int (Int32.ofInt 0), .int (Int32.ofInt 0)])), (q1, .inl (c1, 36, .inl (fun _ => Int32.ofInt 0))), (q2, .inl (c2, 36, .inl (fun _ => Int32.ofInt 0)))] H := hP
  have hD : va_D A [(h0, .inr (3, [.ref q1, .ref q2, .null, .null, .null, .null, .null, .null, .int (Int32.ofInt 0), .int (Int32.ofInt 0)])), (q1, .inl (c1, 36, .inl (fun _ => Int32.ofInt 0))), (q2, .inl (c2, 36, .inl (fun _ => Int32.ofInt 0)))] := hD
  refine lv_aload_n hx hb dn_Table_20 rfl (lv_at hl 0 rfl) ?_
  refine lv_bipush hx hb (v := 6) dn_Table_21 (by decide +kernel) ?_
  refine va_newa (atype := .int) (a0 := (6, .inl (fun _ => Int32.ofInt 0))) (N' := 6) hx hb (htw (.arrayClass .int) (by decide +kernel)) rfl hK hP hD hS hA (fun _ => rfl) (by decide) (by decide) (Nat.le_of_ble_eq_true rfl) (Nat.le_of_ble_eq_true rfl) (Nat.le_of_ble_eq_true rfl) dn_Table_23 (fun q3 c3 H hK hP hD hS => ?_)
  have hP : va_P D mv_cl7 [(h0, .inr (3, [.ref q1, .ref q2, .null, .null, .null, .null, .null, .null, .int (Int32.ofInt 0), .int (Int32.ofInt 0)])), (q1, .inl (c1, 36, .inl (fun _ => Int32.ofInt 0))), (q2, .inl (c2, 36, .inl (fun _ => Int32.ofInt 0))), (q3, .inl (c3, 6, .inl (fun _ => Int32.ofInt 0)))] H := hP
  have hD : va_D A [(h0, .inr (3, [.ref q1, .ref q2, .null, .null, .null, .null, .null, .null, .int (Int32.ofInt 0), .int (Int32.ofInt 0)])), (q1, .inl (c1, 36, .inl (fun _ => Int32.ofInt 0))), (q2, .inl (c2, 36, .inl (fun _ => Int32.ofInt 0))), (q3, .inl (c3, 6, .inl (fun _ => Int32.ofInt 0)))] := hD
  have hK : va_K D mv_cl7 [(c1, .int), (c2, .int), (c3, .int)] s := hK
  refine W.widen (k := 3) (n := 78) (Nat.le_of_ble_eq_true rfl) (Nat.le_of_ble_eq_true rfl) ?_
  refine va_putF (D := D) (ci := 3) (v := .ref q3) (ty := .array .int) (C := RX3) (T := TX3) (N := 10) hx hb hts (mv_uin (a := 3) (by decide)) tyX3 tyX3_ok nmX3 hown hK hP hD hS 0 rfl rfl 2 (by decide) (hts _ (mv_in (p := 166) (by decide +kernel))) (fun _ h9 => h9) rfl hin rfl (by decide +kernel) rfl rfl (Nat.le_of_ble_eq_true rfl) dn_Table_25 (fun H locs hP hD hS => ?_)
  have hP : va_P D mv_cl7 [(h0, .inr (3, [.ref q1, .ref q2, .ref q3, .null, .null, .null, .null, .null, .int (Int32.ofInt 0), .int (Int32.ofInt 0)])), (q1, .inl (c1, 36, .inl (fun _ => Int32.ofInt 0))), (q2, .inl (c2, 36, .inl (fun _ => Int32.ofInt 0))), (q3, .inl (c3, 6, .inl (fun _ => Int32.ofInt 0)))] H := hP
  have hD : va_D A [(h0, .inr (3, [.ref q1, .ref q2, .ref q3, .null, .null, .null, .null, .null, .int (Int32.ofInt 0), .int (Int32.ofInt 0)])), (q1, .inl (c1, 36, .inl (fun _ => Int32.ofInt 0))), (q2, .inl (c2, 36, .inl (fun _ => Int32.ofInt 0))), (q3, .inl (c3, 6, .inl (fun _ => Int32.ofInt 0)))] := hD
  refine lv_aload_n hx hb dn_Table_28 rfl (lv_at hl 0 rfl) ?_
  refine lv_bipush hx hb (v := 6) dn_Table_29 (by decide +kernel) ?_
  refine va_newa (atype := .int) (a0 := (6, .inl (fun _ => Int32.ofInt 0))) (N' := 6) hx hb (htw (.arrayClass .int) (by decide +kernel)) rfl hK hP hD hS hA (fun _ => rfl) (by decide) (by decide) (Nat.le_of_ble_eq_true rfl) (Nat.le_of_ble_eq_true rfl) (Nat.le_of_ble_eq_true rfl) dn_Table_31 (fun q4 c4 H hK hP hD hS => ?_)
  have hP : va_P D mv_cl7 [(h0, .inr (3, [.ref q1, .ref q2, .ref q3, .null, .null, .null, .null, .null, .int (Int32.ofInt 0), .int (Int32.ofInt 0)])), (q1, .inl (c1, 36, .inl (fun _ => Int32.ofInt 0))), (q2, .inl (c2, 36, .inl (fun _ => Int32.ofInt 0))), (q3, .inl (c3, 6, .inl (fun _ => Int32.ofInt 0))), (q4, .inl (c4, 6, .inl (fun _ => Int32.ofInt 0)))] H := hP
  have hD : va_D A [(h0, .inr (3, [.ref q1, .ref q2, .ref q3, .null, .null, .null, .null, .null, .int (Int32.ofInt 0), .int (Int32.ofInt 0)])), (q1, .inl (c1, 36, .inl (fun _ => Int32.ofInt 0))), (q2, .inl (c2, 36, .inl (fun _ => Int32.ofInt 0))), (q3, .inl (c3, 6, .inl (fun _ => Int32.ofInt 0))), (q4, .inl (c4, 6, .inl (fun _ => Int32.ofInt 0)))] := hD
  have hK : va_K D mv_cl7 [(c1, .int), (c2, .int), (c3, .int), (c4, .int)] s := hK
  refine W.widen (k := 4) (n := 84) (Nat.le_of_ble_eq_true rfl) (Nat.le_of_ble_eq_true rfl) ?_
  refine va_putF (D := D) (ci := 3) (v := .ref q4) (ty := .array .int) (C := RX3) (T := TX3) (N := 10) hx hb hts (mv_uin (a := 3) (by decide)) tyX3 tyX3_ok nmX3 hown hK hP hD hS 0 rfl rfl 3 (by decide) (hts _ (mv_in (p := 167) (by decide +kernel))) (fun _ h9 => h9) rfl hin rfl (by decide +kernel) rfl rfl (Nat.le_of_ble_eq_true rfl) dn_Table_33 (fun H locs hP hD hS => ?_)
  have hP : va_P D mv_cl7 [(h0, .inr (3, [.ref q1, .ref q2, .ref q3, .ref q4, .null, .null, .null, .null, .int (Int32.ofInt 0), .int (Int32.ofInt 0)])), (q1, .inl (c1, 36, .inl (fun _ => Int32.ofInt 0))), (q2, .inl (c2, 36, .inl (fun _ => Int32.ofInt 0))), (q3, .inl (c3, 6, .inl (fun _ => Int32.ofInt 0))), (q4, .inl (c4, 6, .inl (fun _ => Int32.ofInt 0)))] H := hP
  have hD : va_D A [(h0, .inr (3, [.ref q1, .ref q2, .ref q3, .ref q4, .null, .null, .null, .null, .int (Int32.ofInt 0), .int (Int32.ofInt 0)])), (q1, .inl (c1, 36, .inl (fun _ => Int32.ofInt 0))), (q2, .inl (c2, 36, .inl (fun _ => Int32.ofInt 0))), (q3, .inl (c3, 6, .inl (fun _ => Int32.ofInt 0))), (q4, .inl (c4, 6, .inl (fun _ => Int32.ofInt 0)))] := hD
  refine lv_aload_n hx hb dn_Table_36 rfl (lv_at hl 0 rfl) ?_
  refine lv_bipush hx hb (v := 6) dn_Table_37 (by decide +kernel) ?_
  refine va_newa (atype := .int) (a0 := (6, .inl (fun _ => Int32.ofInt 0))) (N' := 6) hx hb (htw (.arrayClass .int) (by decide +kernel)) rfl hK hP hD hS hA (fun _ => rfl) (by decide) (by decide) (Nat.le_of_ble_eq_true rfl) (Nat.le_of_ble_eq_true rfl) (Nat.le_of_ble_eq_true rfl) dn_Table_39 (fun q5 c5 H hK hP hD hS => ?_)
  have hP : va_P D mv_cl7 [(h0, .inr (3, [.ref q1, .ref q2, .ref q3, .ref q4, .null, .null, .null, .null, .int (Int32.ofInt 0), .int (Int32.ofInt 0)])), (q1, .inl (c1, 36, .inl (fun _ => Int32.ofInt 0))), (q2, .inl (c2, 36, .inl (fun _ => Int32.ofInt 0))), (q3, .inl (c3, 6, .inl (fun _ => Int32.ofInt 0))), (q4, .inl (c4, 6, .inl (fun _ => Int32.ofInt 0))), (q5, .inl (c5, 6, .inl (fun _ => Int32.ofInt 0)))] H := hP
  have hD : va_D A [(h0, .inr (3, [.ref q1, .ref q2, .ref q3, .ref q4, .null, .null, .null, .null, .int (Int32.ofInt 0), .int (Int32.ofInt 0)])), (q1, .inl (c1, 36, .inl (fun _ => Int32.ofInt 0))), (q2, .inl (c2, 36, .inl (fun _ => Int32.ofInt 0))), (q3, .inl (c3, 6, .inl (fun _ => Int32.ofInt 0))), (q4, .inl (c4, 6, .inl (fun _ => Int32.ofInt 0))), (q5, .inl (c5, 6, .inl (fun _ => Int32.ofInt 0)))] := hD
  have hK : va_K D mv_cl7 [(c1, .int), (c2, .int), (c3, .int), (c4, .int), (c5, .int)] s := hK
  refine W.widen (k := 5) (n := 90) (Nat.le_of_ble_eq_true rfl) (Nat.le_of_ble_eq_true rfl) ?_
  refine va_putF (D := D) (ci := 3) (v := .ref q5) (ty := .array .int) (C := RX3) (T := TX3) (N := 10) hx hb hts (mv_uin (a := 3) (by decide)) tyX3 tyX3_ok nmX3 hown hK hP hD hS 0 rfl rfl 4 (by decide) (hts _ (mv_in (p := 169) (by decide +kernel))) (fun _ h9 => h9) rfl hin rfl (by decide +kernel) rfl rfl (Nat.le_of_ble_eq_true rfl) dn_Table_41 (fun H locs hP hD hS => ?_)
  have hP : va_P D mv_cl7 [(h0, .inr (3, [.ref q1, .ref q2, .ref q3, .ref q4, .ref q5, .null, .null, .null, .int (Int32.ofInt 0), .int (Int32.ofInt 0)])), (q1, .inl (c1, 36, .inl (fun _ => Int32.ofInt 0))), (q2, .inl (c2, 36, .inl (fun _ => Int32.ofInt 0))), (q3, .inl (c3, 6, .inl (fun _ => Int32.ofInt 0))), (q4, .inl (c4, 6, .inl (fun _ => Int32.ofInt 0))), (q5, .inl (c5, 6, .inl (fun _ => Int32.ofInt 0)))] H := hP
  have hD : va_D A [(h0, .inr (3, [.ref q1, .ref q2, .ref q3, .ref q4, .ref q5, .null, .null, .null, .int (Int32.ofInt 0), .int (Int32.ofInt 0)])), (q1, .inl (c1, 36, .inl (fun _ => Int32.ofInt 0))), (q2, .inl (c2, 36, .inl (fun _ => Int32.ofInt 0))), (q3, .inl (c3, 6, .inl (fun _ => Int32.ofInt 0))), (q4, .inl (c4, 6, .inl (fun _ => Int32.ofInt 0))), (q5, .inl (c5, 6, .inl (fun _ => Int32.ofInt 0)))] := hD
  refine lv_aload_n hx hb dn_Table_44 rfl (lv_at hl 0 rfl) ?_
  refine lv_bipush hx hb (v := 6) dn_Table_45 (by decide +kernel) ?_
  refine va_newa (atype := .int) (a0 := (6, .inl (fun _ => Int32.ofInt 0))) (N' := 6) hx hb (htw (.arrayClass .int) (by decide +kernel)) rfl hK hP hD hS hA (fun _ => rfl) (by decide) (by decide) (Nat.le_of_ble_eq_true rfl) (Nat.le_of_ble_eq_true rfl) (Nat.le_of_ble_eq_true rfl) dn_Table_47 (fun q6 c6 H hK hP hD hS => ?_)
  have hP : va_P D mv_cl7 [(h0, .inr (3, [.ref q1, .ref q2, .ref q3, .ref q4, .ref q5, .null, .null, .null, .int (Int32.ofInt 0), .int (Int32.ofInt 0)])), (q1, .inl (c1, 36, .inl (fun _ => Int32.ofInt 0))), (q2, .inl (c2, 36, .inl (fun _ => Int32.ofInt 0))), (q3, .inl (c3, 6, .inl (fun _ => Int32.ofInt 0))), (q4, .inl (c4, 6, .inl (fun _ => Int32.ofInt 0))), (q5, .inl (c5, 6, .inl (fun _ => Int32.ofInt 0))), (q6, .inl (c6, 6, .inl (fun _ => Int32.ofInt 0)))] H := hP
  have hD : va_D A [(h0, .inr (3, [.ref q1, .ref q2, .ref q3, .ref q4, .ref q5, .null, .null, .null, .int (Int32.ofInt 0), .int (Int32.ofInt 0)])), (q1, .inl (c1, 36, .inl (fun _ => Int32.ofInt 0))), (q2, .inl (c2, 36, .inl (fun _ => Int32.ofInt 0))), (q3, .inl (c3, 6, .inl (fun _ => Int32.ofInt 0))), (q4, .inl (c4, 6, .inl (fun _ => Int32.ofInt 0))), (q5, .inl (c5, 6, .inl (fun _ => Int32.ofInt 0))), (q6, .inl (c6, 6, .inl (fun _ => Int32.ofInt 0)))] := hD
  have hK : va_K D mv_cl7 [(c1, .int), (c2, .int), (c3, .int), (c4, .int), (c5, .int), (c6, .int)] s := hK
  refine W.widen (k := 6) (n := 96) (Nat.le_of_ble_eq_true rfl) (Nat.le_of_ble_eq_true rfl) ?_
  refine va_putF (D := D) (ci := 3) (v := .ref q6) (ty := .array .int) (C := RX3) (T := TX3) (N := 10) hx hb hts (mv_uin (a := 3) (by decide)) tyX3 tyX3_ok nmX3 hown hK hP hD hS 0 rfl rfl 5 (by decide) (hts _ (mv_in (p := 170) (by decide +kernel))) (fun _ h9 => h9) rfl hin rfl (by decide +kernel) rfl rfl (Nat.le_of_ble_eq_true rfl) dn_Table_49 (fun H locs hP hD hS => ?_)
  have hP : va_P D mv_cl7 [(h0, .inr (3, [.ref q1, .ref q2, .ref q3, .ref q4, .ref q5, .ref q6, .null, .null, .int (Int32.ofInt 0), .int (Int32.ofInt 0)])), (q1, .inl (c1, 36, .inl (fun _ => Int32.ofInt 0))), (q2, .inl (c2, 36, .inl (fun _ => Int32.ofInt 0))), (q3, .inl (c3, 6, .inl (fun _ => Int32.ofInt 0))), (q4, .inl (c4, 6, .inl (fun _ => Int32.ofInt 0))), (q5, .inl (c5, 6, .inl (fun _ => Int32.ofInt 0))), (q6, .inl (c6, 6, .inl (fun _ => Int32.ofInt 0)))] H := hP
  have hD : va_D A [(h0, .inr (3, [.ref q1, .ref q2, .ref q3, .ref q4, .ref q5, .ref q6, .null, .null, .int (Int32.ofInt 0), .int (Int32.ofInt 0)])), (q1, .inl (c1, 36, .inl (fun _ => Int32.ofInt 0))), (q2, .inl (c2, 36, .inl (fun _ => Int32.ofInt 0))), (q3, .inl (c3, 6, .inl (fun _ => Int32.ofInt 0))), (q4, .inl (c4, 6, .inl (fun _ => Int32.ofInt 0))), (q5, .inl (c5, 6, .inl (fun _ => Int32.ofInt 0))), (q6, .inl (c6, 6, .inl (fun _ => Int32.ofInt 0)))] := hD
  refine lv_aload_n hx hb dn_Table_52 rfl (lv_at hl 0 rfl) ?_
  refine lv_bipush hx hb (v := 64) dn_Table_53 (by decide +kernel) ?_
  refine va_newa (atype := .long) (a0 := (64, .inr (.inl (fun _ => Int64.ofInt 0)))) (N' := 64) hx hb (htw (.arrayClass .long) (by decide +kernel)) rfl hK hP hD hS hA (fun _ => rfl) (by decide) (by decide) (Nat.le_of_ble_eq_true rfl) (Nat.le_of_ble_eq_true rfl) (Nat.le_of_ble_eq_true rfl) dn_Table_55 (fun q7 c7 H hK hP hD hS => ?_)
  have hP : va_P D mv_cl7 [(h0, .inr (3, [.ref q1, .ref q2, .ref q3, .ref q4, .ref q5, .ref q6, .null, .null, .int (Int32.ofInt 0), .int (Int32.ofInt 0)])), (q1, .inl (c1, 36, .inl (fun _ => Int32.ofInt 0))), (q2, .inl (c2, 36, .inl (fun _ => Int32.ofInt 0))), (q3, .inl (c3, 6, .inl (fun _ => Int32.ofInt 0))), (q4, .inl (c4, 6, .inl (fun _ => Int32.ofInt 0))), (q5, .inl (c5, 6, .inl (fun _ => Int32.ofInt 0))), (q6, .inl (c6, 6, .inl (fun _ => Int32.ofInt 0))), (q7, .inl (c7, 64, .inr (.inl (fun _ => Int64.ofInt 0))))] H := hP
  have hD : va_D A [(h0, .inr (3, [.ref q1, .ref q2, .ref q3, .ref q4, .ref q5, .ref q6, .null, .null, .int (Int32.ofInt 0), .int (Int32.ofInt 0)])), (q1, .inl (c1, 36, .inl (fun _ => Int32.ofInt 0))), (q2, .inl (c2, 36, .inl (fun _ => Int32.ofInt 0))), (q3, .inl (c3, 6, .inl (fun _ => Int32.ofInt 0))), (q4, .inl (c4, 6, .inl (fun _ => Int32.ofInt 0))), (q5, .inl (c5, 6, .inl (fun _ => Int32.ofInt 0))), (q6, .inl (c6, 6, .inl (fun _ => Int32.ofInt 0))), (q7, .inl (c7, 64, .inr (.inl (fun _ => Int64.ofInt 0))))] := hD
  have hK : va_K D mv_cl7 [(c1, .int), (c2, .int), (c3, .int), (c4, .int), (c5, .int), (c6, .int), (c7, .long)] s := hK
  refine W.widen (k := 7) (n := 160) (Nat.le_of_ble_eq_true rfl) (Nat.le_of_ble_eq_true rfl) ?_
  refine va_putF (D := D) (ci := 3) (v := .ref q7) (ty := .array .long) (C := RX3) (T := TX3) (N := 10) hx hb hts (mv_uin (a := 3) (by decide)) tyX3 tyX3_ok nmX3 hown hK hP hD hS 0 rfl rfl 6 (by decide) (hts _ (mv_in (p := 171) (by decide +kernel))) (fun _ h9 => h9) rfl hin rfl (by decide +kernel) rfl rfl (Nat.le_of_ble_eq_true rfl) dn_Table_57 (fun H locs hP hD hS => ?_)
  have hP : va_P D mv_cl7 [(h0, .inr (3, [.ref q1, .ref q2, .ref q3, .ref q4, .ref q5, .ref q6, .ref q7, .null, .int (Int32.ofInt 0), .int (Int32.ofInt 0)])), (q1, .inl (c1, 36, .inl (fun _ => Int32.ofInt 0))), (q2, .inl (c2, 36, .inl (fun _ => Int32.ofInt 0))), (q3, .inl (c3, 6, .inl (fun _ => Int32.ofInt 0))), (q4, .inl (c4, 6, .inl (fun _ => Int32.ofInt 0))), (q5, .inl (c5, 6, .inl (fun _ => Int32.ofInt 0))), (q6, .inl (c6, 6, .inl (fun _ => Int32.ofInt 0))), (q7, .inl (c7, 64, .inr (.inl (fun _ => Int64.ofInt 0))))] H := hP
  have hD : va_D A [(h0, .inr (3, [.ref q1, .ref q2, .ref q3, .ref q4, .ref q5, .ref q6, .ref q7, .null, .int (Int32.ofInt 0), .int (Int32.ofInt 0)])), (q1, .inl (c1, 36, .inl (fun _ => Int32.ofInt 0))), (q2, .inl (c2, 36, .inl (fun _ => Int32.ofInt 0))), (q3, .inl (c3, 6, .inl (fun _ => Int32.ofInt 0))), (q4, .inl (c4, 6, .inl (fun _ => Int32.ofInt 0))), (q5, .inl (c5, 6, .inl (fun _ => Int32.ofInt 0))), (q6, .inl (c6, 6, .inl (fun _ => Int32.ofInt 0))), (q7, .inl (c7, 64, .inr (.inl (fun _ => Int64.ofInt 0))))] := hD
  refine lv_aload_n hx hb dn_Table_60 rfl (lv_at hl 0 rfl) ?_
  refine lv_bipush hx hb (v := 64) dn_Table_61 (by decide +kernel) ?_
  refine va_newa (atype := .long) (a0 := (64, .inr (.inl (fun _ => Int64.ofInt 0)))) (N' := 64) hx hb (htw (.arrayClass .long) (by decide +kernel)) rfl hK hP hD hS hA (fun _ => rfl) (by decide) (by decide) (Nat.le_of_ble_eq_true rfl) (Nat.le_of_ble_eq_true rfl) (Nat.le_of_ble_eq_true rfl) dn_Table_63 (fun q8 c8 H hK hP hD hS => ?_)
  have hP : va_P D mv_cl7 [(h0, .inr (3, [.ref q1, .ref q2, .ref q3, .ref q4, .ref q5, .ref q6, .ref q7, .null, .int (Int32.ofInt 0), .int (Int32.ofInt 0)])), (q1, .inl (c1, 36, .inl (fun _ => Int32.ofInt 0))), (q2, .inl (c2, 36, .inl (fun _ => Int32.ofInt 0))), (q3, .inl (c3, 6, .inl (fun _ => Int32.ofInt 0))), (q4, .inl (c4, 6, .inl (fun _ => Int32.ofInt 0))), (q5, .inl (c5, 6, .inl (fun _ => Int32.ofInt 0))), (q6, .inl (c6, 6, .inl (fun _ => Int32.ofInt 0))), (q7, .inl (c7, 64, .inr (.inl (fun _ => Int64.ofInt 0)))), (q8, .inl (c8, 64, .inr (.inl (fun _ => Int64.ofInt 0))))] H := hP
  have hD : va_D A [(h0, .inr (3, [.ref q1, .ref q2, .ref q3, .ref q4, .ref q5, .ref q6, .ref q7, .null, .int (Int32.ofInt 0), .int (Int32.ofInt 0)])), (q1, .inl (c1, 36, .inl (fun _ => Int32.ofInt 0))), (q2, .inl (c2, 36, .inl (fun _ => Int32.ofInt 0))), (q3, .inl (c3, 6, .inl (fun _ => Int32.ofInt 0))), (q4, .inl (c4, 6, .inl (fun _ => Int32.ofInt 0))), (q5, .inl (c5, 6, .inl (fun _ => Int32.ofInt 0))), (q6, .inl (c6, 6, .inl (fun _ => Int32.ofInt 0))), (q7, .inl (c7, 64, .inr (.inl (fun _ => Int64.ofInt 0)))), (q8, .inl (c8, 64, .inr (.inl (fun _ => Int64.ofInt 0))))] := hD
  have hK : va_K D mv_cl7 [(c1, .int), (c2, .int), (c3, .int), (c4, .int), (c5, .int), (c6, .int), (c7, .long), (c8, .long)] s := hK
  refine W.widen (k := 8) (n := 224) (Nat.le_of_ble_eq_true rfl) (Nat.le_of_ble_eq_true rfl) ?_
  refine va_putF (D := D) (ci := 3) (v := .ref q8) (ty := .array .long) (C := RX3) (T := TX3) (N := 10) hx hb hts (mv_uin (a := 3) (by decide)) tyX3 tyX3_ok nmX3 hown hK hP hD hS 0 rfl rfl 7 (by decide) (hts _ (mv_in (p := 172) (by decide +kernel))) (fun _ h9 => h9) rfl hin rfl (by decide +kernel) rfl rfl (Nat.le_of_ble_eq_true rfl) dn_Table_65 (fun H locs hP hD hS => ?_)
  have hP : va_P D mv_cl7 [(h0, .inr (3, [.ref q1, .ref q2, .ref q3, .ref q4, .ref q5, .ref q6, .ref q7, .ref q8, .int (Int32.ofInt 0), .int (Int32.ofInt 0)])), (q1, .inl (c1, 36, .inl (fun _ => Int32.ofInt 0))), (q2, .inl (c2, 36, .inl (fun _ => Int32.ofInt 0))), (q3, .inl (c3, 6, .inl (fun _ => Int32.ofInt 0))), (q4, .inl (c4, 6, .inl (fun _ => Int32.ofInt 0))), (q5, .inl (c5, 6, .inl (fun _ => Int32.ofInt 0))), (q6, .inl (c6, 6, .inl (fun _ => Int32.ofInt 0))), (q7, .inl (c7, 64, .inr (.inl (fun _ => Int64.ofInt 0)))), (q8, .inl (c8, 64, .inr (.inl (fun _ => Int64.ofInt 0))))] H := hP
  have hD : va_D A [(h0, .inr (3, [.ref q1, .ref q2, .ref q3, .ref q4, .ref q5, .ref q6, .ref q7, .ref q8, .int (Int32.ofInt 0), .int (Int32.ofInt 0)])), (q1, .inl (c1, 36, .inl (fun _ => Int32.ofInt 0))), (q2, .inl (c2, 36, .inl (fun _ => Int32.ofInt 0))), (q3, .inl (c3, 6, .inl (fun _ => Int32.ofInt 0))), (q4, .inl (c4, 6, .inl (fun _ => Int32.ofInt 0))), (q5, .inl (c5, 6, .inl (fun _ => Int32.ofInt 0))), (q6, .inl (c6, 6, .inl (fun _ => Int32.ofInt 0))), (q7, .inl (c7, 64, .inr (.inl (fun _ => Int64.ofInt 0)))), (q8, .inl (c8, 64, .inr (.inl (fun _ => Int64.ofInt 0))))] := hD
  exact W.vret hx hb hr (fun t ht hW => ⟨⟨(), rfl, trivial, ⟨q1, q2, q3, q4, q5, q6, q7, q8, c1, c2, c3, c4, c5, c6, c7, c8,  by rw [ht]; exact hP, va_K.moved hW.alike hK, hD⟩⟩, hS.F ht⟩) hS.2.2 dn_Table_68
theorem dn_Ward_0 : decode prog_6_method_1_code 0 = .ok (.aload_n 0, 1) := by decide +kernel
theorem dn_Ward_1 : decode prog_6_method_1_code 1 = .ok (.invokespecial 3, 3) := by decide +kernel
theorem dn_Ward_4 : decode prog_6_method_1_code 4 = .ok (.aload_n 0, 1) := by decide +kernel
theorem dn_Ward_5 : decode prog_6_method_1_code 5 = .ok (.bipush 24, 2) := by decide +kernel
theorem dn_Ward_7 : decode prog_6_method_1_code 7 = .ok (.newarray .int, 2) := by decide +kernel
theorem dn_Ward_9 : decode prog_6_method_1_code 9 = .ok (.putfield 9, 3) := by decide +kernel
theorem dn_Ward_12 : decode prog_6_method_1_code 12 = .ok (.aload_n 0, 1) := by decide +kernel
theorem dn_Ward_13 : decode prog_6_method_1_code 13 = .ok (.bipush 6, 2) := by decide +kernel
theorem dn_Ward_15 : decode prog_6_method_1_code 15 = .ok (.newarray .int, 2) := by decide +kernel
theorem dn_Ward_17 : decode prog_6_method_1_code 17 = .ok (.putfield 15, 3) := by decide +kernel
theorem dn_Ward_20 : decode prog_6_method_1_code 20 = .ok (.aload_n 0, 1) := by decide +kernel
theorem dn_Ward_21 : decode prog_6_method_1_code 21 = .ok (.bipush 24, 2) := by decide +kernel
theorem dn_Ward_23 : decode prog_6_method_1_code 23 = .ok (.newarray .int, 2) := by decide +kernel
theorem dn_Ward_25 : decode prog_6_method_1_code 25 = .ok (.putfield 18, 3) := by decide +kernel
theorem dn_Ward_28 : decode prog_6_method_1_code 28 = .ok (.aload_n 0, 1) := by decide +kernel
theorem dn_Ward_29 : decode prog_6_method_1_code 29 = .ok (.bipush 6, 2) := by decide +kernel
theorem dn_Ward_31 : decode prog_6_method_1_code 31 = .ok (.newarray .int, 2) := by decide +kernel
theorem dn_Ward_33 : decode prog_6_method_1_code 33 = .ok (.putfield 21, 3) := by decide +kernel
theorem dn_Ward_36 : decode prog_6_method_1_code 36 = .ok (.aload_n 0, 1) := by decide +kernel
theorem dn_Ward_37 : decode prog_6_method_1_code 37 = .ok (.bipush 6, 2) := by decide +kernel
theorem dn_Ward_39 : decode prog_6_method_1_code 39 = .ok (.newarray .int, 2) := by decide +kernel
theorem dn_Ward_41 : decode prog_6_method_1_code 41 = .ok (.putfield 24, 3) := by decide +kernel
theorem dn_Ward_44 : decode prog_6_method_1_code 44 = .ok (.aload_n 0, 1) := by decide +kernel
theorem dn_Ward_45 : decode prog_6_method_1_code 45 = .ok (.bipush 6, 2) := by decide +kernel
theorem dn_Ward_47 : decode prog_6_method_1_code 47 = .ok (.newarray .int, 2) := by decide +kernel
theorem dn_Ward_49 : decode prog_6_method_1_code 49 = .ok (.putfield 27, 3) := by decide +kernel
theorem dn_Ward_52 : decode prog_6_method_1_code 52 = .ok (.aload_n 0, 1) := by decide +kernel
theorem dn_Ward_53 : decode prog_6_method_1_code 53 = .ok (.bipush 64, 2) := by decide +kernel
theorem dn_Ward_55 : decode prog_6_method_1_code 55 = .ok (.newarray .int, 2) := by decide +kernel
theorem dn_Ward_57 : decode prog_6_method_1_code 57 = .ok (.putfield 30, 3) := by decide +kernel
theorem dn_Ward_60 : decode prog_6_method_1_code 60 = .ok (.aload_n 0, 1) := by decide +kernel
theorem dn_Ward_61 : decode prog_6_method_1_code 61 = .ok (.aload_n 1, 1) := by decide +kernel
theorem dn_Ward_62 : decode prog_6_method_1_code 62 = .ok (.putfield 33, 3) := by decide +kernel
theorem dn_Ward_65 : decode prog_6_method_1_code 65 = .ok (.return_, 1) := by decide +kernel
set_option maxHeartbeats 4000000 in
set_option maxRecDepth 100000 in
theorem cn_Ward {l : Launch} {D : va_G} (h0 x1 sz : Nat) : Met l ⟨RX4, "<init>", "([LUnclesByWard$Law;)V"⟩ [.code ⟨RX4, "<init>", "([LUnclesByWard$Law;)V"⟩ prog_6_method_1_code 2 none, .arrayClass .int] { frames := 1, cells := 7, slots := 136, locals := 12 } (va_Pc [.ref h0, .ref x1] (fun U => U.heap.size = sz ∧ va_P D mv_cl7 [(h0, .inr (4, [.null, .null, .null, .null, .null, .null, .null, .null, .int (Int32.ofInt 0), .int (Int32.ofInt 0), .int (Int32.ofInt 0), .int (Int32.ofInt 0)]))] U.heap ∧ va_K D mv_cl7 [] U ∧ va_D (fun _ => True) [(h0, .inr (4, [.null, .null, .null, .null, .null, .null, .null, .null, .int (Int32.ofInt 0), .int (Int32.ofInt 0), .int (Int32.ofInt 0), .int (Int32.ofInt 0)]))] ∧ mv_AW U)) (va_Qv (fun _ : Unit => True) (fun _ t => ∃ (q1 q2 q3 q4 q5 q6 q7 : Nat) (c1 c2 c3 c4 c5 c6 c7 : ClassId), va_P D mv_cl7 [(h0, .inr (4, [.ref x1, .ref q1, .ref q2, .ref q3, .ref q4, .ref q5, .ref q6, .ref q7, .int (Int32.ofInt 0), .int (Int32.ofInt 0), .int (Int32.ofInt 0), .int (Int32.ofInt 0)])), (q1, .inl (c1, 24, .inl (fun _ => Int32.ofInt 0))), (q2, .inl (c2, 6, .inl (fun _ => Int32.ofInt 0))), (q3, .inl (c3, 24, .inl (fun _ => Int32.ofInt 0))), (q4, .inl (c4, 6, .inl (fun _ => Int32.ofInt 0))), (q5, .inl (c5, 6, .inl (fun _ => Int32.ofInt 0))), (q6, .inl (c6, 6, .inl (fun _ => Int32.ofInt 0))), (q7, .inl (c7, 64, .inl (fun _ => Int32.ofInt 0)))] t.heap ∧ va_K D mv_cl7 [(c1, .int), (c2, .int), (c3, .int), (c4, .int), (c5, .int), (c6, .int), (c7, .int)] t ∧ va_D (va_A [(h0, .inr (4, [.null, .null, .null, .null, .null, .null, .null, .null, .int (Int32.ofInt 0), .int (Int32.ofInt 0), .int (Int32.ofInt 0), .int (Int32.ofInt 0)]))] sz) [(h0, .inr (4, [.ref x1, .ref q1, .ref q2, .ref q3, .ref q4, .ref q5, .ref q6, .ref q7, .int (Int32.ofInt 0), .int (Int32.ofInt 0), .int (Int32.ofInt 0), .int (Int32.ofInt 0)])), (q1, .inl (c1, 24, .inl (fun _ => Int32.ofInt 0))), (q2, .inl (c2, 6, .inl (fun _ => Int32.ofInt 0))), (q3, .inl (c3, 24, .inl (fun _ => Int32.ofInt 0))), (q4, .inl (c4, 6, .inl (fun _ => Int32.ofInt 0))), (q5, .inl (c5, 6, .inl (fun _ => Int32.ofInt 0))), (q6, .inl (c6, 6, .inl (fun _ => Int32.ofInt 0))), (q7, .inl (c7, 64, .inl (fun _ => Int32.ofInt 0)))]) (va_A [(h0, .inr (4, [.null, .null, .null, .null, .null, .null, .null, .null, .int (Int32.ofInt 0), .int (Int32.ofInt 0), .int (Int32.ofInt 0), .int (Int32.ofInt 0)]))] sz)) 7 136 (va_A [(h0, .inr (4, [.null, .null, .null, .null, .null, .null, .null, .null, .int (Int32.ofInt 0), .int (Int32.ofInt 0), .int (Int32.ofInt 0), .int (Int32.ofInt 0)]))] sz) := by
  refine Met.ofW (cc := prog_6_method_1_code) (maxL := 2) (ret := none) (by decide) rfl ?_
  intro p e s m args below meth c s₁ B hml hv
  obtain ⟨rfl, hsz, hP, hK, hD0, hAW⟩ := hv
  have hx := B.exec
  have hb := B.bytes
  have hr := B.returns
  have htw := atoms_spec (ws := [.code ⟨RX4, "<init>", "([LUnclesByWard$Law;)V"⟩ prog_6_method_1_code 2 none, .arrayClass .int]) B.pre
  have hts : ∀ w ∈ mv_T, w.before ([.ref h0, .ref x1] : List Value).toArray s = true := hAW.use
  have hown : s.vm.findClass RX4 = some m.cls := findClass_of_methodNamed B.named
  have hlocks := B.notSynchronized
  have hin : meth.name = "<init>" := (name_of_methodNamed B.named B.method).1
  subst hsz
  have hD := hD0.self (sz := s.heap.size)
  generalize hAe : va_A [(h0, .inr (4, [.null, .null, .null, .null, .null, .null, .null, .null, .int (Int32.ofInt 0), .int (Int32.ofInt 0), .int (Int32.ofInt 0), .int (Int32.ofInt 0)]))] s.heap.size = A at hD ⊢
  have hA : ∀ q : Nat, s.heap.size ≤ q → A q := fun q h => by rw [← hAe]; exact Or.inr h
  have hS : va_S A s.heap s.heap [] := va_S.rf
  have hl := lv_entry ([.ref h0, .ref x1]) (n := 2) (Nat.le_of_ble_eq_true rfl)
  rw [lg_entry_eq]
  generalize (lg_sl ([.ref h0, .ref x1]) ++ List.replicate (2 - (lg_sl ([.ref h0, .ref x1])).length) Slot.unset).toArray = ls at hl ⊢
  have hl : lv_has ls 2 [(0, .ref h0), (1, .ref x1)] := hl
  refine lv_aload_n hx hb dn_Ward_0 rfl (lv_at hl 0 rfl) ?_
  refine W.objInit hx hb hown (hts (.methodLink RX4 3 objectInit) (mv_in (p := 237) (by decide +kernel))) (hts (.instanceMethod objectInit) (mv_in (p := 121) (by decide +kernel))) (hts _ (mv_in (p := 122) (by decide +kernel))) rfl (by rw [hml]; exact hl.1) rfl dn_Ward_1 (Nat.le_of_ble_eq_true rfl) (Nat.le_of_ble_eq_true rfl) ?_
  refine W.eq (g2 := F0 m 4 ls []) rfl ?_
  refine lv_aload_n hx hb dn_Ward_4 rfl (lv_at hl 0 rfl) ?_
  refine lv_bipush hx hb (v := 24) dn_Ward_5 (by decide +kernel) ?_
  refine va_newa (atype := .int) (a0 := (24, .inl (fun _ => Int32.ofInt 0))) (N' := 24) hx hb (htw (.arrayClass .int) (by decide +kernel)) rfl hK hP hD hS hA (fun _ => rfl) (by decide) (by decide) (Nat.le_of_ble_eq_true rfl) (Nat.le_of_ble_eq_true rfl) (Nat.le_of_ble_eq_true rfl) dn_Ward_7 (fun q1 c1 H hK hP hD hS => ?_)
  have hP : va_P D mv_cl7 [(h0, .inr (4, [.null, .null, .null, .null, .null, .null, .null, .null, .int (Int32.ofInt 0), .int (Int32.ofInt 0), .int (Int32.ofInt 0), .int (Int32.ofInt 0)])), (q1, .inl (c1, 24, .inl (fun _ => Int32.ofInt 0)))] H := hP
  have hD : va_D A [(h0, .inr (4, [.null, .null, .null, .null, .null, .null, .null, .null, .int (Int32.ofInt 0), .int (Int32.ofInt 0), .int (Int32.ofInt 0), .int (Int32.ofInt 0)])), (q1, .inl (c1, 24, .inl (fun _ => Int32.ofInt 0)))] := hD
  have hK : va_K D mv_cl7 [(c1, .int)] s := hK
  refine W.widen (k := 1) (n := 24) (Nat.le_of_ble_eq_true rfl) (Nat.le_of_ble_eq_true rfl) ?_
  refine va_putF (D := D) (ci := 4) (v := .ref q1) (ty := .array .int) (C := RX4) (T := TX4) (N := 12) hx hb hts (mv_uin (a := 4) (by decide)) tyX4 tyX4_ok nmX4 hown hK hP hD hS 0 rfl rfl 1 (by decide) (hts _ (mv_in (p := 239) (by decide +kernel))) (fun _ h9 => h9) rfl hin rfl (by decide +kernel) rfl rfl (Nat.le_of_ble_eq_true rfl) dn_Ward_9 (fun H locs hP hD hS => ?_)
  have hP : va_P D mv_cl7 [(h0, .inr (4, [.null, .ref q1, .null, .null, .null, .null, .null, .null, .int (Int32.ofInt 0), .int (Int32.ofInt 0), .int (Int32.ofInt 0), .int (Int32.ofInt 0)])), (q1, .inl (c1, 24, .inl (fun _ => Int32.ofInt 0)))] H := hP
  have hD : va_D A [(h0, .inr (4, [.null, .ref q1, .null, .null, .null, .null, .null, .null, .int (Int32.ofInt 0), .int (Int32.ofInt 0), .int (Int32.ofInt 0), .int (Int32.ofInt 0)])), (q1, .inl (c1, 24, .inl (fun _ => Int32.ofInt 0)))] := hD
  refine lv_aload_n hx hb dn_Ward_12 rfl (lv_at hl 0 rfl) ?_
  refine lv_bipush hx hb (v := 6) dn_Ward_13 (by decide +kernel) ?_
  refine va_newa (atype := .int) (a0 := (6, .inl (fun _ => Int32.ofInt 0))) (N' := 6) hx hb (htw (.arrayClass .int) (by decide +kernel)) rfl hK hP hD hS hA (fun _ => rfl) (by decide) (by decide) (Nat.le_of_ble_eq_true rfl) (Nat.le_of_ble_eq_true rfl) (Nat.le_of_ble_eq_true rfl) dn_Ward_15 (fun q2 c2 H hK hP hD hS => ?_)
  have hP : va_P D mv_cl7 [(h0, .inr (4, [.null, .ref q1, .null, .null, .null, .null, .null, .null, .int (Int32.ofInt 0), .int (Int32.ofInt 0), .int (Int32.ofInt 0), .int (Int32.ofInt 0)])), (q1, .inl (c1, 24, .inl (fun _ => Int32.ofInt 0))), (q2, .inl (c2, 6, .inl (fun _ => Int32.ofInt 0)))] H := hP
  have hD : va_D A [(h0, .inr (4, [.null, .ref q1, .null, .null, .null, .null, .null, .null, .int (Int32.ofInt 0), .int (Int32.ofInt 0), .int (Int32.ofInt 0), .int (Int32.ofInt 0)])), (q1, .inl (c1, 24, .inl (fun _ => Int32.ofInt 0))), (q2, .inl (c2, 6, .inl (fun _ => Int32.ofInt 0)))] := hD
  have hK : va_K D mv_cl7 [(c1, .int), (c2, .int)] s := hK
  refine W.widen (k := 2) (n := 30) (Nat.le_of_ble_eq_true rfl) (Nat.le_of_ble_eq_true rfl) ?_
  refine va_putF (D := D) (ci := 4) (v := .ref q2) (ty := .array .int) (C := RX4) (T := TX4) (N := 12) hx hb hts (mv_uin (a := 4) (by decide)) tyX4 tyX4_ok nmX4 hown hK hP hD hS 0 rfl rfl 2 (by decide) (hts _ (mv_in (p := 241) (by decide +kernel))) (fun _ h9 => h9) rfl hin rfl (by decide +kernel) rfl rfl (Nat.le_of_ble_eq_true rfl) dn_Ward_17 (fun H locs hP hD hS => ?_)
  have hP : va_P D mv_cl7 [(h0, .inr (4, [.null, .ref q1, .ref q2, .null, .null, .null, .null, .null, .int (Int32.ofInt 0), .int (Int32.ofInt 0), .int (Int32.ofInt 0), .int (Int32.ofInt 0)])), (q1, .inl (c1, 24, .inl (fun _ => Int32.ofInt 0))), (q2, .inl (c2, 6, .inl (fun _ => Int32.ofInt 0)))] H := hP
  have hD : va_D A [(h0, .inr (4, [.null, .ref q1, .ref q2, .null, .null, .null, .null, .null, .int (Int32.ofInt 0), .int (Int32.ofInt 0), .int (Int32.ofInt 0), .int (Int32.ofInt 0)])), (q1, .inl (c1, 24, .inl (fun _ => Int32.ofInt 0))), (q2, .inl (c2, 6, .inl (fun _ => Int32.ofInt 0)))] := hD
  refine lv_aload_n hx hb dn_Ward_20 rfl (lv_at hl 0 rfl) ?_
  refine lv_bipush hx hb (v := 24) dn_Ward_21 (by decide +kernel) ?_
  refine va_newa (atype := .int) (a0 := (24, .inl (fun _ => Int32.ofInt 0))) (N' := 24) hx hb (htw (.arrayClass .int) (by decide +kernel)) rfl hK hP hD hS hA (fun _ => rfl) (by decide) (by decide) (Nat.le_of_ble_eq_true rfl) (Nat.le_of_ble_eq_true rfl) (Nat.le_of_ble_eq_true rfl) dn_Ward_23 (fun q3 c3 H hK hP hD hS => ?_)
  have hP : va_P D mv_cl7 [(h0, .inr (4, [.null, .ref q1, .ref q2, .null, .null, .null, .null, .null, .int (Int32.ofInt 0), .int (Int32.ofInt 0), .int (Int32.ofInt 0), .int (Int32.ofInt 0)])), (q1, .inl (c1, 24, .inl (fun _ => Int32.ofInt 0))), (q2, .inl (c2, 6, .inl (fun _ => Int32.ofInt 0))), (q3, .inl (c3, 24, .inl (fun _ => Int32.ofInt 0)))] H := hP
  have hD : va_D A [(h0, .inr (4, [.null, .ref q1, .ref q2, .null, .null, .null, .null, .null, .int (Int32.ofInt 0), .int (Int32.ofInt 0), .int (Int32.ofInt 0), .int (Int32.ofInt 0)])), (q1, .inl (c1, 24, .inl (fun _ => Int32.ofInt 0))), (q2, .inl (c2, 6, .inl (fun _ => Int32.ofInt 0))), (q3, .inl (c3, 24, .inl (fun _ => Int32.ofInt 0)))] := hD
  have hK : va_K D mv_cl7 [(c1, .int), (c2, .int), (c3, .int)] s := hK
  refine W.widen (k := 3) (n := 54) (Nat.le_of_ble_eq_true rfl) (Nat.le_of_ble_eq_true rfl) ?_
  refine va_putF (D := D) (ci := 4) (v := .ref q3) (ty := .array .int) (C := RX4) (T := TX4) (N := 12) hx hb hts (mv_uin (a := 4) (by decide)) tyX4 tyX4_ok nmX4 hown hK hP hD hS 0 rfl rfl 3 (by decide) (hts _ (mv_in (p := 243) (by decide +kernel))) (fun _ h9 => h9) rfl hin rfl (by decide +kernel) rfl rfl (Nat.le_of_ble_eq_true rfl) dn_Ward_25 (fun H locs hP hD hS => ?_)
  have hP : va_P D mv_cl7 [(h0, .inr (4, [.null, .ref q1, .ref q2, .ref q3, .null, .null, .null, .null, .int (Int32.ofInt 0), .int (Int32.ofInt 0), .int (Int32.ofInt 0), .int (Int32.ofInt 0)])), (q1, .inl (c1, 24, .inl (fun _ => Int32.ofInt 0))), (q2, .inl (c2, 6, .inl (fun _ => Int32.ofInt 0))), (q3, .inl (c3, 24, .inl (fun _ => Int32.ofInt 0)))] H := hP
  have hD : va_D A [(h0, .inr (4, [.null, .ref q1, .ref q2, .ref q3, .null, .null, .null, .null, .int (Int32.ofInt 0), .int (Int32.ofInt 0), .int (Int32.ofInt 0), .int (Int32.ofInt 0)])), (q1, .inl (c1, 24, .inl (fun _ => Int32.ofInt 0))), (q2, .inl (c2, 6, .inl (fun _ => Int32.ofInt 0))), (q3, .inl (c3, 24, .inl (fun _ => Int32.ofInt 0)))] := hD
  refine lv_aload_n hx hb dn_Ward_28 rfl (lv_at hl 0 rfl) ?_
  refine lv_bipush hx hb (v := 6) dn_Ward_29 (by decide +kernel) ?_
  refine va_newa (atype := .int) (a0 := (6, .inl (fun _ => Int32.ofInt 0))) (N' := 6) hx hb (htw (.arrayClass .int) (by decide +kernel)) rfl hK hP hD hS hA (fun _ => rfl) (by decide) (by decide) (Nat.le_of_ble_eq_true rfl) (Nat.le_of_ble_eq_true rfl) (Nat.le_of_ble_eq_true rfl) dn_Ward_31 (fun q4 c4 H hK hP hD hS => ?_)
  have hP : va_P D mv_cl7 [(h0, .inr (4, [.null, .ref q1, .ref q2, .ref q3, .null, .null, .null, .null, .int (Int32.ofInt 0), .int (Int32.ofInt 0), .int (Int32.ofInt 0), .int (Int32.ofInt 0)])), (q1, .inl (c1, 24, .inl (fun _ => Int32.ofInt 0))), (q2, .inl (c2, 6, .inl (fun _ => Int32.ofInt 0))), (q3, .inl (c3, 24, .inl (fun _ => Int32.ofInt 0))), (q4, .inl (c4, 6, .inl (fun _ => Int32.ofInt 0)))] H := hP
  have hD : va_D A [(h0, .inr (4, [.null, .ref q1, .ref q2, .ref q3, .null, .null, .null, .null, .int (Int32.ofInt 0), .int (Int32.ofInt 0), .int (Int32.ofInt 0), .int (Int32.ofInt 0)])), (q1, .inl (c1, 24, .inl (fun _ => Int32.ofInt 0))), (q2, .inl (c2, 6, .inl (fun _ => Int32.ofInt 0))), (q3, .inl (c3, 24, .inl (fun _ => Int32.ofInt 0))), (q4, .inl (c4, 6, .inl (fun _ => Int32.ofInt 0)))] := hD
  have hK : va_K D mv_cl7 [(c1, .int), (c2, .int), (c3, .int), (c4, .int)] s := hK
  refine W.widen (k := 4) (n := 60) (Nat.le_of_ble_eq_true rfl) (Nat.le_of_ble_eq_true rfl) ?_
  refine va_putF (D := D) (ci := 4) (v := .ref q4) (ty := .array .int) (C := RX4) (T := TX4) (N := 12) hx hb hts (mv_uin (a := 4) (by decide)) tyX4 tyX4_ok nmX4 hown hK hP hD hS 0 rfl rfl 4 (by decide) (hts _ (mv_in (p := 245) (by decide +kernel))) (fun _ h9 => h9) rfl hin rfl (by decide +kernel) rfl rfl (Nat.le_of_ble_eq_true rfl) dn_Ward_33 (fun H locs hP hD hS => ?_)
  have hP : va_P D mv_cl7 [(h0, .inr (4, [.null, .ref q1, .ref q2, .ref q3, .ref q4, .null, .null, .null, .int (Int32.ofInt 0), .int (Int32.ofInt 0), .int (Int32.ofInt 0), .int (Int32.ofInt 0)])), (q1, .inl (c1, 24, .inl (fun _ => Int32.ofInt 0))), (q2, .inl (c2, 6, .inl (fun _ => Int32.ofInt 0))), (q3, .inl (c3, 24, .inl (fun _ => Int32.ofInt 0))), (q4, .inl (c4, 6, .inl (fun _ => Int32.ofInt 0)))] H := hP
  have hD : va_D A [(h0, .inr (4, [.null, .ref q1, .ref q2, .ref q3, .ref q4, .null, .null, .null, .int (Int32.ofInt 0), .int (Int32.ofInt 0), .int (Int32.ofInt 0), .int (Int32.ofInt 0)])), (q1, .inl (c1, 24, .inl (fun _ => Int32.ofInt 0))), (q2, .inl (c2, 6, .inl (fun _ => Int32.ofInt 0))), (q3, .inl (c3, 24, .inl (fun _ => Int32.ofInt 0))), (q4, .inl (c4, 6, .inl (fun _ => Int32.ofInt 0)))] := hD
  refine lv_aload_n hx hb dn_Ward_36 rfl (lv_at hl 0 rfl) ?_
  refine lv_bipush hx hb (v := 6) dn_Ward_37 (by decide +kernel) ?_
  refine va_newa (atype := .int) (a0 := (6, .inl (fun _ => Int32.ofInt 0))) (N' := 6) hx hb (htw (.arrayClass .int) (by decide +kernel)) rfl hK hP hD hS hA (fun _ => rfl) (by decide) (by decide) (Nat.le_of_ble_eq_true rfl) (Nat.le_of_ble_eq_true rfl) (Nat.le_of_ble_eq_true rfl) dn_Ward_39 (fun q5 c5 H hK hP hD hS => ?_)
  have hP : va_P D mv_cl7 [(h0, .inr (4, [.null, .ref q1, .ref q2, .ref q3, .ref q4, .null, .null, .null, .int (Int32.ofInt 0), .int (Int32.ofInt 0), .int (Int32.ofInt 0), .int (Int32.ofInt 0)])), (q1, .inl (c1, 24, .inl (fun _ => Int32.ofInt 0))), (q2, .inl (c2, 6, .inl (fun _ => Int32.ofInt 0))), (q3, .inl (c3, 24, .inl (fun _ => Int32.ofInt 0))), (q4, .inl (c4, 6, .inl (fun _ => Int32.ofInt 0))), (q5, .inl (c5, 6, .inl (fun _ => Int32.ofInt 0)))] H := hP
  have hD : va_D A [(h0, .inr (4, [.null, .ref q1, .ref q2, .ref q3, .ref q4, .null, .null, .null, .int (Int32.ofInt 0), .int (Int32.ofInt 0), .int (Int32.ofInt 0), .int (Int32.ofInt 0)])), (q1, .inl (c1, 24, .inl (fun _ => Int32.ofInt 0))), (q2, .inl (c2, 6, .inl (fun _ => Int32.ofInt 0))), (q3, .inl (c3, 24, .inl (fun _ => Int32.ofInt 0))), (q4, .inl (c4, 6, .inl (fun _ => Int32.ofInt 0))), (q5, .inl (c5, 6, .inl (fun _ => Int32.ofInt 0)))] := hD
  have hK : va_K D mv_cl7 [(c1, .int), (c2, .int), (c3, .int), (c4, .int), (c5, .int)] s := hK
  refine W.widen (k := 5) (n := 66) (Nat.le_of_ble_eq_true rfl) (Nat.le_of_ble_eq_true rfl) ?_
  refine va_putF (D := D) (ci := 4) (v := .ref q5) (ty := .array .int) (C := RX4) (T := TX4) (N := 12) hx hb hts (mv_uin (a := 4) (by decide)) tyX4 tyX4_ok nmX4 hown hK hP hD hS 0 rfl rfl 5 (by decide) (hts _ (mv_in (p := 247) (by decide +kernel))) (fun _ h9 => h9) rfl hin rfl (by decide +kernel) rfl rfl (Nat.le_of_ble_eq_true rfl) dn_Ward_41 (fun H locs hP hD hS => ?_)
  have hP : va_P D mv_cl7 [(h0, .inr (4, [.null, .ref q1, .ref q2, .ref q3, .ref q4, .ref q5, .null, .null, .int (Int32.ofInt 0), .int (Int32.ofInt 0), .int (Int32.ofInt 0), .int (Int32.ofInt 0)])), (q1, .inl (c1, 24, .inl (fun _ => Int32.ofInt 0))), (q2, .inl (c2, 6, .inl (fun _ => Int32.ofInt 0))), (q3, .inl (c3, 24, .inl (fun _ => Int32.ofInt 0))), (q4, .inl (c4, 6, .inl (fun _ => Int32.ofInt 0))), (q5, .inl (c5, 6, .inl (fun _ => Int32.ofInt 0)))] H := hP
  have hD : va_D A [(h0, .inr (4, [.null, .ref q1, .ref q2, .ref q3, .ref q4, .ref q5, .null, .null, .int (Int32.ofInt 0), .int (Int32.ofInt 0), .int (Int32.ofInt 0), .int (Int32.ofInt 0)])), (q1, .inl (c1, 24, .inl (fun _ => Int32.ofInt 0))), (q2, .inl (c2, 6, .inl (fun _ => Int32.ofInt 0))), (q3, .inl (c3, 24, .inl (fun _ => Int32.ofInt 0))), (q4, .inl (c4, 6, .inl (fun _ => Int32.ofInt 0))), (q5, .inl (c5, 6, .inl (fun _ => Int32.ofInt 0)))] := hD
  refine lv_aload_n hx hb dn_Ward_44 rfl (lv_at hl 0 rfl) ?_
  refine lv_bipush hx hb (v := 6) dn_Ward_45 (by decide +kernel) ?_
  refine va_newa (atype := .int) (a0 := (6, .inl (fun _ => Int32.ofInt 0))) (N' := 6) hx hb (htw (.arrayClass .int) (by decide +kernel)) rfl hK hP hD hS hA (fun _ => rfl) (by decide) (by decide) (Nat.le_of_ble_eq_true rfl) (Nat.le_of_ble_eq_true rfl) (Nat.le_of_ble_eq_true rfl) dn_Ward_47 (fun q6 c6 H hK hP hD hS => ?_)
  have hP : va_P D mv_cl7 [(h0, .inr (4, [.null, .ref q1, .ref q2, .ref q3, .ref q4, .ref q5, .null, .null, .int (Int32.ofInt 0), .int (Int32.ofInt 0), .int (Int32.ofInt 0), .int (Int32.ofInt 0)])), (q1, .inl (c1, 24, .inl (fun _ => Int32.ofInt 0))), (q2, .inl (c2, 6, .inl (fun _ => Int32.ofInt 0))), (q3, .inl (c3, 24, .inl (fun _ => Int32.ofInt 0))), (q4, .inl (c4, 6, .inl (fun _ => Int32.ofInt 0))), (q5, .inl (c5, 6, .inl (fun _ => Int32.ofInt 0))), (q6, .inl (c6, 6, .inl (fun _ => Int32.ofInt 0)))] H := hP
  have hD : va_D A [(h0, .inr (4, [.null, .ref q1, .ref q2, .ref q3, .ref q4, .ref q5, .null, .null, .int (Int32.ofInt 0), .int (Int32.ofInt 0), .int (Int32.ofInt 0), .int (Int32.ofInt 0)])), (q1, .inl (c1, 24, .inl (fun _ => Int32.ofInt 0))), (q2, .inl (c2, 6, .inl (fun _ => Int32.ofInt 0))), (q3, .inl (c3, 24, .inl (fun _ => Int32.ofInt 0))), (q4, .inl (c4, 6, .inl (fun _ => Int32.ofInt 0))), (q5, .inl (c5, 6, .inl (fun _ => Int32.ofInt 0))), (q6, .inl (c6, 6, .inl (fun _ => Int32.ofInt 0)))] := hD
  have hK : va_K D mv_cl7 [(c1, .int), (c2, .int), (c3, .int), (c4, .int), (c5, .int), (c6, .int)] s := hK
  refine W.widen (k := 6) (n := 72) (Nat.le_of_ble_eq_true rfl) (Nat.le_of_ble_eq_true rfl) ?_
  refine va_putF (D := D) (ci := 4) (v := .ref q6) (ty := .array .int) (C := RX4) (T := TX4) (N := 12) hx hb hts (mv_uin (a := 4) (by decide)) tyX4 tyX4_ok nmX4 hown hK hP hD hS 0 rfl rfl 6 (by decide) (hts _ (mv_in (p := 249) (by decide +kernel))) (fun _ h9 => h9) rfl hin rfl (by decide +kernel) rfl rfl (Nat.le_of_ble_eq_true rfl) dn_Ward_49 (fun H locs hP hD hS => ?_)
  have hP : va_P D mv_cl7 [(h0, .inr (4, [.null, .ref q1, .ref q2, .ref q3, .ref q4, .ref q5, .ref q6, .null, .int (Int32.ofInt 0), .int (Int32.ofInt 0), .int (Int32.ofInt 0), .int (Int32.ofInt 0)])), (q1, .inl (c1, 24, .inl (fun _ => Int32.ofInt 0))), (q2, .inl (c2, 6, .inl (fun _ => Int32.ofInt 0))), (q3, .inl (c3, 24, .inl (fun _ => Int32.ofInt 0))), (q4, .inl (c4, 6, .inl (fun _ => Int32.ofInt 0))), (q5, .inl (c5, 6, .inl (fun _ => Int32.ofInt 0))), (q6, .inl (c6, 6, .inl (fun _ => Int32.ofInt 0)))] H := hP
  have hD : va_D A [(h0, .inr (4, [.null, .ref q1, .ref q2, .ref q3, .ref q4, .ref q5, .ref q6, .null, .int (Int32.ofInt 0), .int (Int32.ofInt 0), .int (Int32.ofInt 0), .int (Int32.ofInt 0)])), (q1, .inl (c1, 24, .inl (fun _ => Int32.ofInt 0))), (q2, .inl (c2, 6, .inl (fun _ => Int32.ofInt 0))), (q3, .inl (c3, 24, .inl (fun _ => Int32.ofInt 0))), (q4, .inl (c4, 6, .inl (fun _ => Int32.ofInt 0))), (q5, .inl (c5, 6, .inl (fun _ => Int32.ofInt 0))), (q6, .inl (c6, 6, .inl (fun _ => Int32.ofInt 0)))] := hD
  refine lv_aload_n hx hb dn_Ward_52 rfl (lv_at hl 0 rfl) ?_
  refine lv_bipush hx hb (v := 64) dn_Ward_53 (by decide +kernel) ?_
  refine va_newa (atype := .int) (a0 := (64, .inl (fun _ => Int32.ofInt 0))) (N' := 64) hx hb (htw (.arrayClass .int) (by decide +kernel)) rfl hK hP hD hS hA (fun _ => rfl) (by decide) (by decide) (Nat.le_of_ble_eq_true rfl) (Nat.le_of_ble_eq_true rfl) (Nat.le_of_ble_eq_true rfl) dn_Ward_55 (fun q7 c7 H hK hP hD hS => ?_)
  have hP : va_P D mv_cl7 [(h0, .inr (4, [.null, .ref q1, .ref q2, .ref q3, .ref q4, .ref q5, .ref q6, .null, .int (Int32.ofInt 0), .int (Int32.ofInt 0), .int (Int32.ofInt 0), .int (Int32.ofInt 0)])), (q1, .inl (c1, 24, .inl (fun _ => Int32.ofInt 0))), (q2, .inl (c2, 6, .inl (fun _ => Int32.ofInt 0))), (q3, .inl (c3, 24, .inl (fun _ => Int32.ofInt 0))), (q4, .inl (c4, 6, .inl (fun _ => Int32.ofInt 0))), (q5, .inl (c5, 6, .inl (fun _ => Int32.ofInt 0))), (q6, .inl (c6, 6, .inl (fun _ => Int32.ofInt 0))), (q7, .inl (c7, 64, .inl (fun _ => Int32.ofInt 0)))] H := hP
  have hD : va_D A [(h0, .inr (4, [.null, .ref q1, .ref q2, .ref q3, .ref q4, .ref q5, .ref q6, .null, .int (Int32.ofInt 0), .int (Int32.ofInt 0), .int (Int32.ofInt 0), .int (Int32.ofInt 0)])), (q1, .inl (c1, 24, .inl (fun _ => Int32.ofInt 0))), (q2, .inl (c2, 6, .inl (fun _ => Int32.ofInt 0))), (q3, .inl (c3, 24, .inl (fun _ => Int32.ofInt 0))), (q4, .inl (c4, 6, .inl (fun _ => Int32.ofInt 0))), (q5, .inl (c5, 6, .inl (fun _ => Int32.ofInt 0))), (q6, .inl (c6, 6, .inl (fun _ => Int32.ofInt 0))), (q7, .inl (c7, 64, .inl (fun _ => Int32.ofInt 0)))] := hD
  have hK : va_K D mv_cl7 [(c1, .int), (c2, .int), (c3, .int), (c4, .int), (c5, .int), (c6, .int), (c7, .int)] s := hK
  refine W.widen (k := 7) (n := 136) (Nat.le_of_ble_eq_true rfl) (Nat.le_of_ble_eq_true rfl) ?_
  refine va_putF (D := D) (ci := 4) (v := .ref q7) (ty := .array .int) (C := RX4) (T := TX4) (N := 12) hx hb hts (mv_uin (a := 4) (by decide)) tyX4 tyX4_ok nmX4 hown hK hP hD hS 0 rfl rfl 7 (by decide) (hts _ (mv_in (p := 250) (by decide +kernel))) (fun _ h9 => h9) rfl hin rfl (by decide +kernel) rfl rfl (Nat.le_of_ble_eq_true rfl) dn_Ward_57 (fun H locs hP hD hS => ?_)
  have hP : va_P D mv_cl7 [(h0, .inr (4, [.null, .ref q1, .ref q2, .ref q3, .ref q4, .ref q5, .ref q6, .ref q7, .int (Int32.ofInt 0), .int (Int32.ofInt 0), .int (Int32.ofInt 0), .int (Int32.ofInt 0)])), (q1, .inl (c1, 24, .inl (fun _ => Int32.ofInt 0))), (q2, .inl (c2, 6, .inl (fun _ => Int32.ofInt 0))), (q3, .inl (c3, 24, .inl (fun _ => Int32.ofInt 0))), (q4, .inl (c4, 6, .inl (fun _ => Int32.ofInt 0))), (q5, .inl (c5, 6, .inl (fun _ => Int32.ofInt 0))), (q6, .inl (c6, 6, .inl (fun _ => Int32.ofInt 0))), (q7, .inl (c7, 64, .inl (fun _ => Int32.ofInt 0)))] H := hP
  have hD : va_D A [(h0, .inr (4, [.null, .ref q1, .ref q2, .ref q3, .ref q4, .ref q5, .ref q6, .ref q7, .int (Int32.ofInt 0), .int (Int32.ofInt 0), .int (Int32.ofInt 0), .int (Int32.ofInt 0)])), (q1, .inl (c1, 24, .inl (fun _ => Int32.ofInt 0))), (q2, .inl (c2, 6, .inl (fun _ => Int32.ofInt 0))), (q3, .inl (c3, 24, .inl (fun _ => Int32.ofInt 0))), (q4, .inl (c4, 6, .inl (fun _ => Int32.ofInt 0))), (q5, .inl (c5, 6, .inl (fun _ => Int32.ofInt 0))), (q6, .inl (c6, 6, .inl (fun _ => Int32.ofInt 0))), (q7, .inl (c7, 64, .inl (fun _ => Int32.ofInt 0)))] := hD
  refine lv_aload_n hx hb dn_Ward_60 rfl (lv_at hl 0 rfl) ?_
  refine lv_aload_n hx hb dn_Ward_61 rfl (lv_at hl 1 rfl) ?_
  refine va_putF (D := D) (ci := 4) (v := .ref x1) (ty := .array (.object "UnclesByWard$Law")) (C := RX4) (T := TX4) (N := 12) hx hb hts (mv_uin (a := 4) (by decide)) tyX4 tyX4_ok nmX4 hown hK hP hD hS 0 rfl rfl 0 (by decide) (hts _ (mv_in (p := 238) (by decide +kernel))) (fun _ h9 => h9) rfl hin rfl (by decide +kernel) rfl rfl (Nat.le_of_ble_eq_true rfl) dn_Ward_62 (fun H locs hP hD hS => ?_)
  have hP : va_P D mv_cl7 [(h0, .inr (4, [.ref x1, .ref q1, .ref q2, .ref q3, .ref q4, .ref q5, .ref q6, .ref q7, .int (Int32.ofInt 0), .int (Int32.ofInt 0), .int (Int32.ofInt 0), .int (Int32.ofInt 0)])), (q1, .inl (c1, 24, .inl (fun _ => Int32.ofInt 0))), (q2, .inl (c2, 6, .inl (fun _ => Int32.ofInt 0))), (q3, .inl (c3, 24, .inl (fun _ => Int32.ofInt 0))), (q4, .inl (c4, 6, .inl (fun _ => Int32.ofInt 0))), (q5, .inl (c5, 6, .inl (fun _ => Int32.ofInt 0))), (q6, .inl (c6, 6, .inl (fun _ => Int32.ofInt 0))), (q7, .inl (c7, 64, .inl (fun _ => Int32.ofInt 0)))] H := hP
  have hD : va_D A [(h0, .inr (4, [.ref x1, .ref q1, .ref q2, .ref q3, .ref q4, .ref q5, .ref q6, .ref q7, .int (Int32.ofInt 0), .int (Int32.ofInt 0), .int (Int32.ofInt 0), .int (Int32.ofInt 0)])), (q1, .inl (c1, 24, .inl (fun _ => Int32.ofInt 0))), (q2, .inl (c2, 6, .inl (fun _ => Int32.ofInt 0))), (q3, .inl (c3, 24, .inl (fun _ => Int32.ofInt 0))), (q4, .inl (c4, 6, .inl (fun _ => Int32.ofInt 0))), (q5, .inl (c5, 6, .inl (fun _ => Int32.ofInt 0))), (q6, .inl (c6, 6, .inl (fun _ => Int32.ofInt 0))), (q7, .inl (c7, 64, .inl (fun _ => Int32.ofInt 0)))] := hD
  exact W.vret hx hb hr (fun t ht hW => ⟨⟨(), rfl, trivial, ⟨q1, q2, q3, q4, q5, q6, q7, c1, c2, c3, c4, c5, c6, c7,  by rw [ht]; exact hP, va_K.moved hW.alike hK, hD⟩⟩, hS.F ht⟩) hS.2.2 dn_Ward_65
