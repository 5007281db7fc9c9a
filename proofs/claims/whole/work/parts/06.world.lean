/-! numbers -/
theorem mv_w_of (z : Int) : Int32.ofInt (mv_w z) = Int32.ofInt z := by
  apply Int32.toInt_inj.mp
  rw [Int32.toInt_ofInt, Int32.toInt_ofInt]
  have h : ∀ a b : Int, a % 4294967296 = b % 4294967296 → a.bmod 4294967296 = b.bmod 4294967296 := fun a b h => by
    unfold Int.bmod
    rw [show ((4294967296 : Nat) : Int) = 4294967296 from rfl, h]
  exact h _ _ (by unfold mv_w; omega)
theorem mv_wl_of (z : Int) : Int64.ofInt (mv_wl z) = Int64.ofInt z := by
  apply Int64.toInt_inj.mp
  rw [Int64.toInt_ofInt, Int64.toInt_ofInt]
  have h : ∀ a b : Int, a % 18446744073709551616 = b % 18446744073709551616 → a.bmod 18446744073709551616 = b.bmod 18446744073709551616 := fun a b h => by
    unfold Int.bmod
    rw [show ((18446744073709551616 : Nat) : Int) = 18446744073709551616 from rfl, h]
  exact h _ _ (by unfold mv_wl; omega)
theorem mv_w_n (z : Int) : mv_n32 (mv_w z) := by unfold mv_n32 mv_w; omega
theorem mv_wl_n (z : Int) : mv_n64 (mv_wl z) := by unfold mv_n64 mv_wl; omega
theorem mv_b32_n {z : Int} (h : mv_b32 z = true) : mv_n32 z := by simpa [mv_b32, mv_n32] using h
theorem mv_b64_n {z : Int} (h : mv_b64 z = true) : mv_n64 z := by simpa [mv_b64, mv_n64] using h
theorem mv_i32 {z : Int} (h : mv_n32 z) : (Int32.ofInt z).toInt = z := Int32.toInt_ofInt_of_le h.1 h.2
theorem mv_i64 {z : Int} (h : mv_n64 z) : (Int64.ofInt z).toInt = z := Int64.toInt_ofInt_of_le h.1 h.2
theorem mv_t32 (x : Int32) : mv_n32 x.toInt := ⟨Int32.le_toInt x, Int32.toInt_lt x⟩
theorem mv_t64 (x : Int64) : mv_n64 x.toInt := ⟨Int64.le_toInt x, Int64.toInt_lt x⟩
theorem mv_lt32 {x y : Int} (hx : mv_n32 x) (hy : mv_n32 y) : Int32.ofInt x < Int32.ofInt y ↔ x < y := by rw [Int32.lt_iff_toInt_lt, mv_i32 hx, mv_i32 hy]
theorem mv_le32 {x y : Int} (hx : mv_n32 x) (hy : mv_n32 y) : Int32.ofInt x ≤ Int32.ofInt y ↔ x ≤ y := by rw [Int32.le_iff_toInt_le, mv_i32 hx, mv_i32 hy]
theorem mv_eq32 {x y : Int} (hx : mv_n32 x) (hy : mv_n32 y) : Int32.ofInt x = Int32.ofInt y ↔ x = y := by rw [← Int32.toInt_inj, mv_i32 hx, mv_i32 hy]
theorem mv_lt64 {x y : Int} (hx : mv_n64 x) (hy : mv_n64 y) : Int64.ofInt x < Int64.ofInt y ↔ x < y := by rw [Int64.lt_iff_toInt_lt, mv_i64 hx, mv_i64 hy]
theorem mv_eq64 {x y : Int} (hx : mv_n64 x) (hy : mv_n64 y) : Int64.ofInt x = Int64.ofInt y ↔ x = y := by rw [← Int64.toInt_inj, mv_i64 hx, mv_i64 hy]
theorem mv_n0 : mv_n32 0 := by unfold mv_n32; omega
theorem mv_ix {j : Int} {n : Nat} (hj : mv_n32 j) (h : 0 ≤ j ∧ j < (n : Int)) : vp_in (Int32.ofInt j) n := vp_in_iff.mpr (by rw [mv_i32 hj]; exact h)
theorem mv_cj {j : Int} (hj : mv_n32 j) : (Int32.ofInt j).toNatClampNeg = j.toNat := by show (Int32.ofInt j).toInt.toNat = _; rw [mv_i32 hj]
theorem mv_div32 {x y : Int} (hx : mv_n32 x) (hy : mv_n32 y) : Int32.ofInt (mv_w (x.tdiv y)) = Int32.ofInt x / Int32.ofInt y := by
  apply Int32.toInt_inj.mp
  rw [mv_w_of, Int32.toInt_ofInt, Int32.toInt_div, mv_i32 hx, mv_i32 hy]
theorem mv_div64 {x y : Int} (hx : mv_n64 x) (hy : mv_n64 y) : Int64.ofInt (mv_wl (x.tdiv y)) = Int64.ofInt x / Int64.ofInt y := by
  apply Int64.toInt_inj.mp
  rw [mv_wl_of, Int64.toInt_ofInt, Int64.toInt_div, mv_i64 hx, mv_i64 hy]
theorem mv_rem32 {x y : Int} (hx : mv_n32 x) (hy : mv_n32 y) : Int32.ofInt (mv_w (x.tmod y)) = Int32.ofInt x - Int32.ofInt x / Int32.ofInt y * Int32.ofInt y := by
  rw [← mv_div32 hx hy, mv_w_of, mv_w_of, ← Int32.ofInt_mul, ← Int32.ofInt_sub, Int.tmod_def, Int.mul_comm]
theorem mv_rem64 {x y : Int} (hx : mv_n64 x) (hy : mv_n64 y) : Int64.ofInt (mv_wl (x.tmod y)) = Int64.ofInt x - Int64.ofInt x / Int64.ofInt y * Int64.ofInt y := by
  rw [← mv_div64 hx hy, mv_wl_of, mv_wl_of, ← Int64.ofInt_mul, ← Int64.ofInt_sub, Int.tmod_def, Int.mul_comm]
theorem mv_o32 (x : Int32) : Int32.ofInt x.toInt = x := Int32.ofInt_toInt x
theorem mv_o64 (x : Int64) : Int64.ofInt x.toInt = x := Int64.ofInt_toInt x
theorem mv_n32_64 {x : Int} (h : mv_n32 x) : mv_n64 x := by unfold mv_n32 at h; unfold mv_n64; omega
theorem mv_i2l {x : Int} (h : mv_n32 x) : (Int32.ofInt x).toInt64 = Int64.ofInt x := by
  apply Int64.toInt_inj.mp
  rw [Int32.toInt_toInt64, mv_i32 h, mv_i64 (mv_n32_64 h)]
theorem mv_l2i {x : Int} (h : mv_n64 x) : (Int64.ofInt x).toInt32 = Int32.ofInt (mv_w x) := by
  apply Int32.toInt_inj.mp
  rw [Int64.toInt_toInt32, mv_i64 h, mv_w_of, Int32.toInt_ofInt]
/-! the cells -/
def mv_ids : List Nat := [0, 1, 10, 11, 12, 13, 14, 15, 16, 17, 18, 19, 20, 21, 22, 23, 24, 25, 26, 27, 28, 29, 30, 31, 32, 33, 34, 35, 36, 37, 40, 41, 42, 43, 44, 45, 46, 47, 50, 51, 52, 53, 54, 55, 56, 57, 60, 61, 62, 63, 64, 65, 66, 67, 68, 70, 71, 72, 73, 74, 75, 76, 77, 78, 100, 102, 103, 104, 105, 106, 108, 110, 111, 115, 116, 117, 118, 119, 120, 125, 126, 130, 131, 132, 133, 134, 135, 140, 141]
def mv_aids : List Nat := [1, 11, 12, 14, 15, 17, 18, 20, 21, 23, 24, 26, 27, 29, 31, 32, 33, 34, 35, 36, 37, 41, 42, 43, 44, 45, 46, 47, 51, 52, 53, 54, 55, 56, 57, 61, 62, 63, 64, 65, 66, 67, 68, 70, 72, 74, 76, 78, 102, 103, 104, 105, 106, 108, 110, 111, 115, 116, 117, 118, 119, 120, 125, 126, 130, 131, 132, 133, 134, 135, 140, 141]
def mv_ty (i : Nat) : FieldType := match mv_ak i with
  | 2 => .long
  | 3 => bif Nat.beq i 1 then .object "UnclesByWard$Law" else .object "UnclesByWard$Sheet"
  | _ => .int
theorem mv_ids_nd : va_nd mv_ids = true := by decide +kernel
theorem mv_ak_ge {i : Nat} (h : 244 ≤ i) : mv_ak i = 0 := by
  have b : ∀ k, k ≤ 244 → Nat.blt i k = false := fun k hk => by
    cases q : Nat.blt i k with
    | false => rfl
    | true => have := Nat.le_of_ble_eq_true q; omega
  have b2 : Nat.beq i 202 = false := by
    cases q : Nat.beq i 202 with
    | false => rfl
    | true => have := Nat.eq_of_beq_eq_true q; omega
  unfold mv_ak
  rw [b 60 (by omega), b 100 (by omega), b 200 (by omega), b 202 (by omega), b 230 (by omega), b 244 (by omega), b2]
  rfl
theorem mv_cls_ge {i : Nat} (h : 244 ≤ i) : mv_cls i = 99 := by
  have b : ∀ k, k ≤ 244 → Nat.blt i k = false := fun k hk => by
    cases q : Nat.blt i k with
    | false => rfl
    | true => have := Nat.le_of_ble_eq_true q; omega
  unfold mv_cls
  rw [b 28 (by omega), b 60 (by omega), b 100 (by omega), b 210 (by omega), b 224 (by omega)]
  rfl
theorem mv_ak_in {i : Nat} (h : mv_ak i = 1 ∨ mv_ak i = 2 ∨ mv_ak i = 3) : i ∈ mv_ids ∧ i ∈ mv_aids ∧ i < 200 := by
  by_cases hi : i < 244
  · have h0 : ∀ i, i < 244 → (mv_ak i = 1 ∨ mv_ak i = 2 ∨ mv_ak i = 3) → (i ∈ mv_ids ∧ i ∈ mv_aids ∧ i < 200) := by decide +kernel
    exact h0 i hi h
  · rw [mv_ak_ge (by omega)] at h; omega
theorem mv_ak_ro {i : Nat} (h : mv_ak i = 4) : i = 200 ∨ i = 201 := by
  by_cases hi : i < 244
  · have h0 : ∀ i, i < 244 → mv_ak i = 4 → (i = 200 ∨ i = 201) := by decide +kernel
    exact h0 i hi h
  · rw [mv_ak_ge (by omega)] at h; omega
theorem mv_ak_by {i : Nat} (h : mv_ak i = 5) : 230 ≤ i ∧ i < 244 := by
  by_cases hi : i < 244
  · have h0 : ∀ i, i < 244 → mv_ak i = 5 → (230 ≤ i ∧ i < 244) := by decide +kernel
    exact h0 i hi h
  · rw [mv_ak_ge (by omega)] at h; omega
theorem mv_ak_sc {i : Nat} (h : mv_ak i = 6) : i = 202 := by
  by_cases hi : i < 244
  · have h0 : ∀ i, i < 244 → mv_ak i = 6 → i = 202 := by decide +kernel
    exact h0 i hi h
  · rw [mv_ak_ge (by omega)] at h; omega
theorem mv_ak_le (i : Nat) : mv_ak i < 7 := by
  by_cases hi : i < 244
  · have h0 : ∀ i, i < 244 → mv_ak i < 7 := by decide +kernel
    exact h0 i hi
  · rw [mv_ak_ge (by omega)]; omega
theorem mv_cls_in {i a : Nat} (h : mv_cls i = a) (ha : a < 7) : i ∈ mv_ids ∧ mv_ak i = 0 ∧ i < 200 := by
  by_cases hi : i < 244
  · have h0 : ∀ i, i < 244 → mv_cls i < 7 → (i ∈ mv_ids ∧ mv_ak i = 0 ∧ i < 200) := by decide +kernel
    exact h0 i hi (by omega)
  · rw [mv_cls_ge (by omega)] at h; omega
theorem mv_cls_st {i : Nat} (h : mv_cls i = 7) : 210 ≤ i ∧ i < 224 := by
  by_cases hi : i < 244
  · have h0 : ∀ i, i < 244 → mv_cls i = 7 → (210 ≤ i ∧ i < 224) := by decide +kernel
    exact h0 i hi h
  · rw [mv_cls_ge (by omega)] at h; omega
def mv_v (ad : Nat → Nat) (x0 : Value) : mv_V → Value
  | .inl z => .int (Int32.ofInt z)
  | .inr (.inl z) => .long (Int64.ofInt z)
  | .inr (.inr (.inl i)) => .ref (ad i)
  | .inr (.inr (.inr 2)) => x0
  | .inr (.inr (.inr _)) => .null
def mv_fvk (ad : Nat → Nat) (M : mv_M) (i k : Nat) (t : Nat) : Value := match t with
  | 1 => .ref (ad (mv_ref i k))
  | 2 => if 0 ≤ M i k then .ref (ad (M i k).toNat) else .null
  | _ => .int (Int32.ofInt (M i k))
def mv_fv (ad : Nat → Nat) (M : mv_M) (i k : Nat) : Value := mv_fvk ad M i k (mv_fk (mv_cls i) k)
def mv_ce (ad : Nat → Nat) (cA : Nat → ClassId) (M : mv_M) (i : Nat) : va_E := match mv_ak i with
  | 1 => .inl (cA i, mv_len i, .inl (fun j => Int32.ofInt (M i j)))
  | 2 => .inl (cA i, mv_len i, .inr (.inl (fun j => Int64.ofInt (M i j))))
  | 3 => .inl (cA i, mv_len i, .inr (.inr (.inr (.inr (fun j => some (ad (mv_el i j)))))))
  | _ => .inr (mv_cls i, (List.range (mv_nf (mv_cls i))).map (mv_fv ad M i))
/-- which cells are there: 0 those of the class, 1 those of the reference, else all -/
def mv_B (K i : Nat) : Bool := match K with
  | 0 => Nat.blt i 100 || Nat.ble 200 i
  | 1 => Nat.ble 100 i
  | _ => true
def mv_idk (K : Nat) : List Nat := mv_ids.filter (mv_B K)
def mv_ws (K : Nat) (ad : Nat → Nat) (cA : Nat → ClassId) (M : mv_M) : va_W := (mv_idk K).map (fun i => (ad i, mv_ce ad cA M i))
def mv_tys (K : Nat) (cA : Nat → ClassId) : List (ClassId × FieldType) := (mv_aids.filter (mv_B K)).map (fun i => (cA i, mv_ty i))
theorem mv_idk_nd (K : Nat) : va_nd (mv_idk K) = true := by
  match K with
  | 0 => decide +kernel
  | 1 => decide +kernel
  | K + 2 =>
    show va_nd (mv_ids.filter (fun _ => true)) = true
    decide +kernel
theorem mv_st_s (M : mv_M) (i : Nat) (f : Nat → Int) : mv_st M i f i = f := by
  unfold mv_st; rw [Nat.beq_refl]; rfl
theorem mv_st_n (M : mv_M) {i j : Nat} (f : Nat → Int) (h : j ≠ i) : mv_st M i f j = M j := by
  unfold mv_st
  have : Nat.beq j i = false := by
    cases q : Nat.beq j i with
    | false => rfl
    | true => exact absurd (Nat.eq_of_beq_eq_true q) h
  rw [this]; rfl
theorem mv_ce_st {ad : Nat → Nat} {cA : Nat → ClassId} {M M' : mv_M} {j : Nat} (h : M' j = M j) : mv_ce ad cA M' j = mv_ce ad cA M j := by
  have hf : mv_fv ad M' j = mv_fv ad M j := by funext k; unfold mv_fv mv_fvk; rw [h]
  unfold mv_ce
  rw [h, hf]
theorem mv_at {K : Nat} {ad : Nat → Nat} {cA : Nat → ClassId} {M : mv_M} {i : Nat} (h : i ∈ mv_ids) (hB : mv_B K i = true) : ∃ q : Nat, (mv_idk K)[q]? = some i ∧ (mv_ws K ad cA M)[q]? = some (ad i, mv_ce ad cA M i) := by
  obtain ⟨q, hq⟩ := List.getElem?_of_mem (show i ∈ mv_idk K from List.mem_filter.mpr ⟨h, hB⟩)
  exact ⟨q, hq, by unfold mv_ws; rw [List.getElem?_map, hq]; rfl⟩
theorem mv_wset {K : Nat} {ad : Nat → Nat} {cA : Nat → ClassId} {M M' : mv_M} {i q : Nat} {e : va_E} (hq : (mv_idk K)[q]? = some i) (hM : ∀ j, j ≠ i → M' j = M j) (he : mv_ce ad cA M' i = e) : (mv_ws K ad cA M).set q (ad i, e) = mv_ws K ad cA M' := by
  apply List.ext_getElem?
  intro k
  have hl : q < (mv_ws K ad cA M).length := by unfold mv_ws; rw [List.length_map]; exact (List.getElem?_eq_some_iff.mp hq).1
  by_cases hk : k = q
  · subst hk
    rw [List.getElem?_set_self hl]
    unfold mv_ws
    rw [List.getElem?_map, hq, ← he]; rfl
  · rw [List.getElem?_set_ne (Ne.symm hk)]
    unfold mv_ws
    rw [List.getElem?_map, List.getElem?_map]
    cases hj : (mv_idk K)[k]? with
    | none => rfl
    | some j =>
      have hne : j ≠ i := fun z => hk (va_nd_inj (mv_idk K) (mv_idk_nd K) k q i (by rw [hj, z]) hq)
      show some (ad j, mv_ce ad cA M j) = some (ad j, mv_ce ad cA M' j)
      rw [mv_ce_st (hM j hne)]
theorem mv_tyat {K : Nat} {cA : Nat → ClassId} {i : Nat} (h : i ∈ mv_aids) (hB : mv_B K i = true) : ∃ t : Nat, (mv_tys K cA)[t]? = some (cA i, mv_ty i) := by
  obtain ⟨q, hq⟩ := List.getElem?_of_mem (show i ∈ mv_aids.filter (mv_B K) from List.mem_filter.mpr ⟨h, hB⟩)
  exact ⟨q, by unfold mv_tys; rw [List.getElem?_map, hq]; rfl⟩
theorem mv_B200 {K i : Nat} (h : 200 ≤ i) : mv_B K i = true := by
  match K with
  | 0 => simp only [mv_B, Bool.or_eq_true]; exact Or.inr (Nat.ble_eq_true_of_le h)
  | 1 => exact Nat.ble_eq_true_of_le (by omega)
  | K + 2 => rfl
/-- references of a cell that is there lead to cells that are there -/
theorem mv_Bref {K i b : Nat} (hc : mv_cls i < 7) (hb : b < mv_nf (mv_cls i)) (hk : mv_fk (mv_cls i) b = 1) (hB : mv_B K i = true) : mv_B K (mv_ref i b) = true := by
  have hi : i < 200 := (mv_cls_in rfl hc).2.2
  have hb42 : b < 42 := by
    have h0 : ∀ a, a < 7 → mv_nf a ≤ 42 := by decide +kernel
    have := h0 _ hc
    omega
  match K, hB with
  | 0, hB =>
    have h0 : ∀ i, i < 200 → ∀ b, b < 42 → (mv_cls i < 7 ∧ b < mv_nf (mv_cls i) ∧ mv_fk (mv_cls i) b = 1 ∧ mv_B 0 i = true) → mv_B 0 (mv_ref i b) = true := by decide +kernel
    exact h0 i hi b hb42 ⟨hc, hb, hk, hB⟩
  | 1, hB =>
    have h0 : ∀ i, i < 200 → ∀ b, b < 42 → (mv_cls i < 7 ∧ b < mv_nf (mv_cls i) ∧ mv_fk (mv_cls i) b = 1 ∧ mv_B 1 i = true) → mv_B 1 (mv_ref i b) = true := by decide +kernel
    exact h0 i hi b hb42 ⟨hc, hb, hk, hB⟩
  | K + 2, _ => rfl
theorem mv_Bel {K i j : Nat} (hk : mv_ak i = 3) (hj : j < mv_len i) (hB : mv_B K i = true) : mv_B K (mv_el i j) = true := by
  have hi : i < 200 := (mv_ak_in (Or.inr (Or.inr hk))).2.2
  match K, hB with
  | 0, hB =>
    have h0 : ∀ i, i < 200 → mv_ak i = 3 → ∀ j, j < mv_len i → mv_B 0 i = true → mv_B 0 (mv_el i j) = true := by decide +kernel
    exact h0 i hi hk j hj hB
  | 1, hB =>
    have h0 : ∀ i, i < 200 → mv_ak i = 3 → ∀ j, j < mv_len i → mv_B 1 i = true → mv_B 1 (mv_el i j) = true := by decide +kernel
    exact h0 i hi hk j hj hB
  | K + 2, _ => rfl
/-! what is given of static fields, String constants, the script -/
def mv_sl : List Nat := mv_strs.map List.length
def mv_sb : List (List Int32) := mv_strs.map (fun l => l.map Int32.ofInt)
def mv_F (ad : Nat → Nat) (x0 : Value) (L : Nat) (xs : Nat → Int32) (A : Nat → Prop) (U : State) (H : Heap) : Prop :=
  va_Z "UnclesByWard" "ABOVE" "[I" (.ref (ad 200)) A U H ∧ va_T .int (ad 200) 6 (fun j => .int (Int32.ofInt (mv_ro 200 j))) A U H ∧
  va_Z "UnclesByWard" "TENS" "[I" (.ref (ad 201)) A U H ∧ va_T .int (ad 201) 6 (fun j => .int (Int32.ofInt (mv_ro 201 j))) A U H ∧
  va_Z "java/lang/String" "COMPACT_STRINGS" "Z" (.int 1) A U H ∧ va_Z "jdk/internal/util/Preconditions" "SIOOBE_FORMATTER" "Ljava/util/function/BiFunction;" x0 A U H ∧
  vk_S 14 mv_sl mv_sb (fun i => ad (210 + i)) (fun i => ad (230 + i)) A U H ∧ va_T .int (ad 202) L (fun j => .int (xs j)) A U H
def mv_Fr (ad : Nat → Nat) (U : State) : Prop := ∀ k, k < 14 → vk_R (mv_sk k).1 (mv_sk k).2.1 (mv_sk k).2.2 (ad (210 + k)) U
theorem mv_F.moved {ad : Nat → Nat} {x0 : Value} {L : Nat} {xs : Nat → Int32} {A : Nat → Prop} {u U : State} {H : Heap} (hvm : u.vm.Alike U.vm) (h : mv_F ad x0 L xs A u H) : mv_F ad x0 L xs A U H := by
  obtain ⟨h1, h2, h3, h4, h5, h6, h7, h8⟩ := h
  exact ⟨h1.moved hvm, h2.moved hvm, h3.moved hvm, h4.moved hvm, h5.moved hvm, h6.moved hvm, h7.moved hvm, h8.moved hvm⟩
theorem mv_F.kept {ad : Nat → Nat} {x0 : Value} {L : Nat} {xs : Nat → Int32} {A : Nat → Prop} {U : State} {H H1 : Heap} (h : mv_F ad x0 L xs A U H) (hq : ∀ a : Nat, a < H.size → ¬ A a → H1[a]? = H[a]?) : mv_F ad x0 L xs A U H1 := by
  obtain ⟨h1, h2, h3, h4, h5, h6, h7, h8⟩ := h
  exact ⟨h1.kept hq, h2.kept hq, h3.kept hq, h4.kept hq, h5.kept hq, h6.kept hq, h7.kept hq, h8.kept hq⟩
theorem mv_F.narrow {ad : Nat → Nat} {x0 : Value} {L : Nat} {xs : Nat → Int32} {A B : Nat → Prop} {U : State} {H : Heap} (h : mv_F ad x0 L xs A U H) (hAB : ∀ q, B q → A q) : mv_F ad x0 L xs B U H := by
  obtain ⟨h1, h2, h3, h4, h5, h6, h7, h8⟩ := h
  exact ⟨h1.narrow hAB, h2.narrow hAB, h3.narrow hAB, h4.narrow hAB, h5.narrow hAB, h6.narrow hAB, h7.narrow hAB, h8.narrow hAB⟩
theorem mv_Fr.warm {ad : Nat → Nat} {s U : State} (hW : s.WarmedH U.vm) (h : mv_Fr ad s) : mv_Fr ad U := fun k hk => (h k hk).warm hW
theorem mv_Fr.same {ad : Nat → Nat} {u U : State} (hv : U.vm = u.vm) (h : mv_Fr ad u) : mv_Fr ad U := fun k hk => (h k hk).same hv
/-- the tables' words, whatever the arguments -/
def mv_AW (U : State) : Prop := ∀ w ∈ mv_T, va_Nw w U
theorem mv_okt {w : Jvm.Cond} (h : mv_okw w = true) : w.onTables = true := by
  unfold mv_okw at h
  split at h
  · rfl
  · rfl
  · exact (Bool.and_eq_true _ _ ▸ h).1
theorem mv_Tok {w : Jvm.Cond} (h : w ∈ mv_T) : mv_okw w = true := (List.mem_filter.mp h).2
theorem mv_AW.use {args : Array Value} {U : State} (h : mv_AW U) : ∀ w ∈ mv_T, w.before args U = true := fun w hw => va_Nw.use (mv_okt (mv_Tok hw)) (h w hw)
theorem mv_AW.of {args : Array Value} {U : State} (h : ∀ w ∈ mv_T, w.before args U = true) : mv_AW U := fun w hw => va_Nw.of (mv_okt (mv_Tok hw)) (h w hw)
theorem mv_AW.same {u U : State} (hv : u.vm = U.vm) (h : mv_AW u) : mv_AW U := fun w hw => va_Nw.same (mv_okt (mv_Tok hw)) hv (h w hw)
theorem mv_AW.warm {s U : State} (hW : s.WarmedH U.vm) (h : mv_AW s) : mv_AW U := by
  intro w hw
  have hk := mv_Tok hw
  have h1 := h w hw
  unfold mv_okw at hk
  split at hk
  · exact va_Nw.warmM hW h1
  · exact va_Nw.warmF hW h1
  · exact word_at hW (Or.inl hk) h1
