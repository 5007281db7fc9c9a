/-! the model's constructor: arrays that are filled -/
def cn_pu (b : ByteArray) (pc : Nat) (z : Int) : Option Nat := match decode b pc with
  | .ok (.iconst n, 1) => if Int32.ofInt n = Int32.ofInt z then some 1 else none
  | .ok (.bipush n, 2) => if (Int8.ofInt n).toInt32 = Int32.ofInt z then some 2 else none
  | _ => none
def cn_is (b : ByteArray) (pc : Nat) (i : Instr) : Bool := decide (decode b pc = .ok (i, 1))
def cn_fc (b : ByteArray) (n : Nat) : Nat → List (Nat × Int) → Option Nat
  | pc, [] => some pc
  | pc, (i, v) :: r => match cn_pu b (pc + 1) (i : Int) with
    | none => none
    | some x => match cn_pu b (pc + 1 + x) v with
      | none => none
      | some y => bif cn_is b pc .dup && cn_is b (pc + 1 + x + y) .iastore && Nat.blt i n then cn_fc b n (pc + 1 + x + y + 1) r else none
def cn_fold : (Nat → Int32) → List (Nat × Int) → Nat → Int32
  | f, [] => f
  | f, (i, v) :: r => cn_fold (upd f i (Int32.ofInt v)) r
theorem cn_self {ws : va_W} {k : Nat} {q : Nat × va_E} (h : ws[k]? = some q) : ws.set k q = ws := by
  apply List.ext_getElem?
  intro i
  by_cases c : i = k
  · subst c
    rw [List.getElem?_set_self (List.getElem?_eq_some_iff.mp h).1, h]
  · rw [List.getElem?_set_ne (Ne.symm c)]
section
variable {p : Program} {l : Launch} {e : Env} {R : Room} {s : State} {m : MethodId} {args : Array Value} {below : List Frame} {meth : Method} {c : Code} {H : Heap} {locs : List Loc} {cells slots : Nat} {Q : State → Prop}
variable {cc : ByteArray} {ls : Array Slot} {rest : List Value}
theorem cn_pu_W {pc x : Nat} {z : Int} (hx : p.tables.exec = Jvm.exec) (hb : c.code = cc) (h : cn_pu cc pc z = some x) (k : W p l e R s m args below meth c H locs cells slots Q (F0 m (pc + x) ls (.int (Int32.ofInt z) :: rest))) : W p l e R s m args below meth c H locs cells slots Q (F0 m pc ls rest) := by
  unfold cn_pu at h
  split at h
  · rename_i n hd
    split at h
    · rename_i hv
      cases h
      exact lv_iconst hx hb hd hv k
    · cases h
  · rename_i n hd
    split at h
    · rename_i hv
      cases h
      exact lv_bipush hx hb hd hv k
    · cases h
  · cases h
theorem cn_fill {D : va_G} {cl : List vw_C} {tys : List (ClassId × FieldType)} {A : Nat → Prop} {H0 : Heap} (hx : p.tables.exec = Jvm.exec) (hb : c.code = cc) (hK : va_K D cl tys s) (k t : Nat) {a : Nat} {cA : ClassId} {n : Nat} (ht : tys[t]? = some (cA, .int)) (hn : n < 2147483648) :
    ∀ (l9 : List (Nat × Int)) (pc pe : Nat) (f : Nat → Int32) (ws : va_W) (H : Heap) (locs : List Loc), cn_fc cc n pc l9 = some pe → ws[k]? = some (a, .inl (cA, n, .inl f)) → va_P D cl ws H → va_D A ws → va_S A H0 H locs →
    (∀ (H : Heap) (locs : List Loc), va_P D cl (ws.set k (a, .inl (cA, n, .inl (cn_fold f l9)))) H → va_D A (ws.set k (a, .inl (cA, n, .inl (cn_fold f l9)))) → va_S A H0 H locs → W p l e R s m args below meth c H locs cells slots Q (F0 m pe ls (.ref a :: rest))) →
    W p l e R s m args below meth c H locs cells slots Q (F0 m pc ls (.ref a :: rest))
  | [], pc, pe, f, ws, H, locs, hc, ha, hP, hD, hS, kk => by
    cases hc
    have kk := kk H locs
    rw [show cn_fold f [] = f from rfl, cn_self ha] at kk
    exact kk hP hD hS
  | (i, v) :: r, pc, pe, f, ws, H, locs, hc, ha, hP, hD, hS, kk => by
    rw [cn_fc] at hc
    split at hc
    · cases hc
    · rename_i x hx1
      split at hc
      · cases hc
      · rename_i y hy1
        rw [Bool.cond_eq_ite] at hc
        split at hc
        · rename_i h9
          obtain ⟨h9, hi⟩ := mv_a1 h9
          obtain ⟨h1, h2⟩ := mv_a1 h9
          have hi := mv_blt hi
          have hi32 : mv_n32 (i : Int) := by unfold mv_n32; omega
          refine lv_dup hx hb (of_decide_eq_true h1) rfl ?_
          refine cn_pu_W hx hb hx1 ?_
          refine cn_pu_W hx hb hy1 ?_
          refine va_iast hx hb hK hP hD hS k t ha ht (mv_ix hi32 (by omega)) (of_decide_eq_true h2) (fun H1 locs1 hP1 hD1 hS1 => ?_)
          have hl : k < ws.length := (List.getElem?_eq_some_iff.mp ha).1
          have ej : (Int32.ofInt (i : Int)).toNatClampNeg = i := by rw [mv_cj hi32]; exact Int.toNat_natCast i
          rw [ej] at hP1 hD1
          refine cn_fill hx hb hK k t ht hn r _ pe _ _ H1 locs1 hc (List.getElem?_set_self hl) hP1 hD1 hS1 (fun H2 locs2 hP2 hD2 hS2 => ?_)
          rw [List.set_set] at hP2 hD2
          exact kk H2 locs2 hP2 hD2 hS2
        · cases hc
end
theorem va_P.cgi {D : va_G} {cl : List vw_C} {ws : va_W} {H : Heap} (h : va_P D cl ws H) (k : Nat) {a : Nat} {c : ClassId} {n : Nat} {f : Nat → Int32} (g : Nat → Int32) (hk : ws[k]? = some (a, .inl (c, n, .inl f))) (hfg : ∀ j, j < n → f j = g j) : va_P D cl (ws.set k (a, .inl (c, n, .inl g))) H := by
  intro i q hq
  by_cases e : i = k
  · subst e
    have hl : i < ws.length := (List.getElem?_eq_some_iff.mp hk).1
    rw [List.getElem?_set_self hl] at hq
    cases hq
    have h1 : H[a]? = some (vp_cell c (n, .inl f)) := h i _ hk
    show H[a]? = some (vp_cell c (n, .inl g))
    rw [h1, vp_cell_i, vp_cell_i]
    exact congrArg some (arrV_cg (fun j hj => by rw [hfg j hj]))
  · rw [List.getElem?_set_ne (Ne.symm e)] at hq
    exact h i q hq

def cn_fl5_0 : List (Nat × Int) := [(0, -1), (1, -1), (2, -1), (3, -1), (4, -1), (5, -1)]
theorem cn_fl5_0k : cn_fc prog_8_method_1_code 6 41 cn_fl5_0 = some 65 := by decide +kernel
def cn_fl11_0 : List (Nat × Int) := [(0, -1), (1, -1), (2, -1), (3, -1)]
theorem cn_fl11_0k : cn_fc prog_8_method_1_code 4 113 cn_fl11_0 = some 129 := by decide +kernel
def cn_fl14_0 : List (Nat × Int) := [(0, 115), (1, 117), (2, 105), (3, 116), (4, 115), (5, 32), (6, 109), (7, 97), (8, 114), (9, 107), (10, 32), (11, 42), (12, 32), (13, 110), (14, 101), (15, 101)]
theorem cn_fl14_0k : cn_fc prog_8_method_1_code 53 153 cn_fl14_0 = some 243 := by decide +kernel
def cn_fl14_1 : List (Nat × Int) := [(16, 100), (17, 32), (18, 59), (19, 32), (20, 108), (21, 105), (22, 107), (23, 101), (24, 115), (25, 32), (26, 57), (27, 32), (28, 45), (29, 32), (30, 110), (31, 101)]
theorem cn_fl14_1k : cn_fc prog_8_method_1_code 53 243 cn_fl14_1 = some 339 := by decide +kernel
def cn_fl14_2 : List (Nat × Int) := [(32, 101), (33, 100), (34, 32), (35, 59), (36, 32), (37, 116), (38, 105), (39, 114), (40, 101), (41, 115), (42, 32), (43, 121), (44, 101), (45, 97), (46, 114), (47, 32)]
theorem cn_fl14_2k : cn_fc prog_8_method_1_code 53 339 cn_fl14_2 = some 435 := by decide +kernel
def cn_fl14_3 : List (Nat × Int) := [(48, 60), (49, 32), (50, 51), (51, 32), (52, 59)]
theorem cn_fl14_3k : cn_fc prog_8_method_1_code 53 435 cn_fl14_3 = some 465 := by decide +kernel
def cn_fl15_0 : List (Nat × Int) := [(0, 115), (1, 117), (2, 105), (3, 116), (4, 115), (5, 32), (6, 32), (7, 32), (8, 108), (9, 105), (10, 107), (11, 101), (12, 115), (13, 32), (14, 32), (15, 32)]
theorem cn_fl15_0k : cn_fc prog_8_method_1_code 96 473 cn_fl15_0 = some 563 := by decide +kernel
def cn_fl15_1 : List (Nat × Int) := [(16, 116), (17, 105), (18, 114), (19, 101), (20, 115), (21, 32), (22, 32), (23, 32), (24, 109), (25, 97), (26, 114), (27, 107), (28, 32), (29, 32), (30, 32), (31, 32)]
theorem cn_fl15_1k : cn_fc prog_8_method_1_code 96 563 cn_fl15_1 = some 659 := by decide +kernel
def cn_fl15_2 : List (Nat × Int) := [(32, 110), (33, 101), (34, 101), (35, 100), (36, 32), (37, 32), (38, 32), (39, 32), (40, 119), (41, 104), (42, 105), (43, 99), (44, 104), (45, 32), (46, 32), (47, 32)]
theorem cn_fl15_2k : cn_fc prog_8_method_1_code 96 659 cn_fl15_2 = some 755 := by decide +kernel
def cn_fl15_3 : List (Nat × Int) := [(48, 121), (49, 101), (50, 97), (51, 114), (52, 32), (53, 32), (54, 32), (55, 32), (56, 104), (57, 105), (58, 114), (59, 101), (60, 100), (61, 32), (62, 32), (63, 32)]
theorem cn_fl15_3k : cn_fc prog_8_method_1_code 96 755 cn_fl15_3 = some 851 := by decide +kernel
def cn_fl15_4 : List (Nat × Int) := [(64, 109), (65, 111), (66, 114), (67, 101), (68, 32), (69, 32), (70, 32), (71, 32), (72, 111), (73, 114), (74, 32), (75, 32), (76, 32), (77, 32), (78, 32), (79, 32)]
theorem cn_fl15_4k : cn_fc prog_8_method_1_code 96 851 cn_fl15_4 = some 947 := by decide +kernel
def cn_fl15_5 : List (Nat × Int) := [(80, 97), (81, 110), (82, 100), (83, 32), (84, 32), (85, 32), (86, 32), (87, 32), (88, 110), (89, 111), (90, 116), (91, 32), (92, 32), (93, 32), (94, 32), (95, 32)]
theorem cn_fl15_5k : cn_fc prog_8_method_1_code 96 947 cn_fl15_5 = some 1043 := by decide +kernel
