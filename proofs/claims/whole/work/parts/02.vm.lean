/-! A small machine over Int: what the bytecode of the claim does, as a function. Cells have fixed numbers (ids); a heap is M : id -> place -> Int. -/
abbrev mv_V : Type := Int ⊕ (Int ⊕ (Nat ⊕ Nat))
abbrev mv_I (z : Int) : mv_V := .inl z
abbrev mv_L (z : Int) : mv_V := .inr (.inl z)
abbrev mv_R (i : Nat) : mv_V := .inr (.inr (.inl i))
abbrev mv_N : mv_V := .inr (.inr (.inr 0))
abbrev mv_U : mv_V := .inr (.inr (.inr 1))
abbrev mv_X : mv_V := .inr (.inr (.inr 2))
abbrev mv_M : Type := Nat → Nat → Int
def mv_up (f : Nat → Int) (k : Nat) (z : Int) : Nat → Int := fun j => if j = k then z else f j
def mv_st (M : mv_M) (i : Nat) (f : Nat → Int) : mv_M := fun a => bif Nat.beq a i then f else M a
def mv_cp (f g : Nat → Int) (sp dp n : Nat) : Nat → Int := fun k => if dp ≤ k ∧ k < dp + n then f (sp + (k - dp)) else g k
def mv_w (z : Int) : Int := (z + 2147483648) % 4294967296 - 2147483648
def mv_wl (z : Int) : Int := (z + 9223372036854775808) % 18446744073709551616 - 9223372036854775808
-- what is done by bits goes by the machine's own words
def mv_shl (x y : Int) : Int := (Int32.ofInt x <<< (Int32.ofInt y &&& 31)).toInt
def mv_shr (x y : Int) : Int := (Int32.ofInt x >>> (Int32.ofInt y &&& 31)).toInt
def mv_ushr (x y : Int) : Int := ((Int32.ofInt x).toUInt32 >>> ((Int32.ofInt y).toUInt32 &&& Int32.toUInt32 31)).toInt32.toInt
def mv_and (x y : Int) : Int := (Int32.ofInt x &&& Int32.ofInt y).toInt
def mv_or (x y : Int) : Int := (Int32.ofInt x ||| Int32.ofInt y).toInt
def mv_xor (x y : Int) : Int := (Int32.ofInt x ^^^ Int32.ofInt y).toInt
def mv_lshl (x y : Int) : Int := (Int64.ofInt x <<< ((Int32.ofInt y).toInt64 &&& 63)).toInt
def mv_lshr (x y : Int) : Int := (Int64.ofInt x >>> ((Int32.ofInt y).toInt64 &&& 63)).toInt
def mv_i2b (x : Int) : Int := ((Int32.ofInt x).toInt8.toInt32).toInt
def mv_i2s (x : Int) : Int := ((Int32.ofInt x).toInt16.toInt32).toInt
def mv_i2c (x : Int) : Int := (((Int32.ofInt x).toUInt32 % 65536).toInt32).toInt
def mv_lcmp (x y : Int) : Int := if x < y then -1 else if x = y then 0 else 1
def mv_nth : List mv_V → Nat → mv_V
  | [], _ => mv_U
  | v :: _, 0 => v
  | _ :: l, k + 1 => mv_nth l k
def mv_set : List mv_V → Nat → mv_V → List mv_V
  | [], _, _ => []
  | _ :: l, 0, v => v :: l
  | u :: l, k + 1, v => u :: mv_set l k v
def mv_nn {α : Type} (d : α) : List α → Nat → α
  | [], _ => d
  | v :: _, 0 => v
  | _ :: l, k + 1 => mv_nn d l k
def mv_isL : mv_V → Bool
  | .inr (.inl _) => true
  | _ => false
def mv_cat (v : mv_V) : Nat := bif mv_isL v then 2 else 1
def mv_cats : List mv_V → Nat
  | [] => 0
  | v :: l => mv_cat v + mv_cats l
def mv_lay : List mv_V → List mv_V
  | [] => []
  | .inr (.inl z) :: l => mv_L z :: mv_U :: mv_lay l
  | .inl z :: l => mv_I z :: mv_lay l
  | .inr (.inr z) :: l => .inr (.inr z) :: mv_lay l
def mv_pad : Nat → List mv_V → List mv_V
  | 0, l => l
  | n + 1, [] => mv_U :: mv_pad n []
  | n + 1, v :: l => v :: mv_pad n l
def mv_ent (nl : Nat) (vs : List mv_V) : List mv_V := mv_pad nl (mv_lay vs)
/-! the cells: which class an id is of (7: a String constant), what its fields are, which array -/
def mv_cls (i : Nat) : Nat :=
  bif Nat.blt i 28 then (bif Nat.beq i 0 then 5 else bif Nat.blt i 10 then 99 else bif Nat.beq (i % 3) 1 then 0 else 99)
  else bif Nat.blt i 60 then (bif Nat.beq i 28 then 1 else bif Nat.blt i 30 then 99 else bif Nat.beq (i % 10) 0 then 4 else 99)
  else bif Nat.blt i 100 then (bif Nat.beq i 60 then 3 else bif Nat.blt i 71 then 99 else bif Nat.blt 78 i then 99 else bif Nat.beq (i % 2) 1 then 2 else 99)
  else bif Nat.blt i 210 then (bif Nat.beq i 100 then 6 else 99)
  else bif Nat.blt i 224 then 7 else 99
/-- 0 an int, 1 a reference that stays, 2 the law of a reader, 3 a boolean, 4 a String's coder -/
def mv_fk (c k : Nat) : Nat := mv_nn 9 (mv_nn [] [[1, 1, 0], [1, 0, 0, 0, 0, 0, 0, 2], [1, 0, 0], [1, 1, 1, 1, 1, 1, 1, 1, 0, 0], [1, 1, 1, 1, 1, 1, 1, 1, 0, 0, 0, 0], [1, 1, 1, 1, 1, 1, 1, 0, 3],
  [0, 0, 1, 1, 1, 1, 1, 0, 1, 0, 1, 1, 0, 0, 3, 1, 1, 1, 1, 1, 1, 0, 0, 0, 0, 1, 1, 0, 0, 0, 1, 1, 1, 1, 1, 1, 0, 0, 0, 0, 1, 1], [1, 4]] c) k
def mv_ref (i k : Nat) : Nat :=
  bif Nat.blt i 10 then mv_nn 0 [1, 28, 30, 40, 50, 60, 70] k
  else bif Nat.blt i 28 then i + k + 1
  else bif Nat.blt i 30 then 29
  else bif Nat.blt i 60 then (bif Nat.beq k 0 then 1 else i + k)
  else bif Nat.blt i 70 then 61 + k
  else bif Nat.blt i 100 then i + 1
  else bif Nat.blt i 200 then 100 + k
  else i + 20
/-- 1 ints, 2 longs, 3 references, 4 ints of a constant row, 5 bytes of a String constant, 6 the script -/
def mv_ak (i : Nat) : Nat :=
  bif Nat.blt i 60 then (bif Nat.blt i 10 then (bif Nat.beq i 1 then 3 else 0) else bif Nat.blt i 28 then (bif Nat.beq (i % 3) 1 then 0 else 1) else bif Nat.beq i 28 then 0 else bif Nat.beq i 29 then 1 else bif Nat.beq (i % 10) 0 then 0 else bif Nat.blt (i % 10) 8 then 1 else 0)
  else bif Nat.blt i 100 then (bif Nat.beq i 60 then 0 else bif Nat.blt i 67 then 1 else bif Nat.blt i 69 then 2 else bif Nat.beq i 70 then 3 else bif Nat.blt i 71 then 0 else bif Nat.blt 78 i then 0 else bif Nat.beq (i % 2) 0 then 1 else 0)
  else bif Nat.blt i 200 then mv_nn 0 [0, 0, 1, 1, 1, 1, 1, 0, 1, 0, 1, 1, 0, 0, 0, 1, 1, 1, 1, 1, 1, 0, 0, 0, 0, 1, 1, 0, 0, 0, 1, 1, 1, 1, 1, 1, 0, 0, 0, 0, 1, 1] (i - 100)
  else bif Nat.blt i 202 then 4 else bif Nat.beq i 202 then 6 else bif Nat.blt i 230 then 0 else bif Nat.blt i 244 then 5 else 0
def mv_strs : List (List Int) := [[115, 117, 105, 116, 115, 32, 109, 97, 114, 107, 32, 42, 32, 110, 101, 101, 100, 32, 59, 32, 108, 105, 107, 101, 115, 32, 57, 32, 45, 32, 110, 101, 101, 100, 32, 59, 32, 116, 105, 114, 101, 115, 32, 121, 101, 97, 114, 32, 60, 32, 51, 32, 59], [115, 117, 105, 116, 115], [108, 105, 107, 101, 115], [116, 105, 114, 101, 115], [111, 114], [97, 110, 100], [110, 111, 116], [109, 97, 114, 107], [110, 101, 101, 100], [119, 104, 105, 99, 104], [121, 101, 97, 114], [104, 105, 114, 101, 100], [109, 111, 114, 101], [40, 41, 59, 43, 45, 42, 60, 61]]
def mv_len (i : Nat) : Nat :=
  bif Nat.blt i 60 then (bif Nat.blt i 10 then 6 else bif Nat.blt i 28 then (bif Nat.beq (i % 3) 2 then 160 else 3) else bif Nat.beq i 29 then 160 else mv_nn 0 [0, 24, 6, 24, 6, 6, 6, 64] (i % 10))
  else bif Nat.blt i 100 then (bif Nat.blt i 70 then mv_nn 0 [0, 36, 36, 6, 6, 6, 6, 64, 64] (i - 60) else bif Nat.beq i 70 then 4 else 40)
  else bif Nat.blt i 200 then mv_nn 0 [0, 0, 6, 6, 24, 24, 6, 0, 160, 0, 1200, 24, 0, 0, 0, 54, 4, 4, 4, 160, 53, 0, 0, 0, 0, 96, 200, 0, 0, 0, 200, 6, 48, 36, 6, 6, 0, 0, 0, 0, 6, 6] (i - 100)
  else bif Nat.blt i 230 then 6 else (mv_nn [] mv_strs (i - 230)).length
def mv_ln (M : mv_M) (i : Nat) : Int := bif Nat.beq i 202 then M 203 0 else (mv_len i : Int)
def mv_el (i t : Nat) : Nat := bif Nat.beq i 1 then 10 + 3 * t else 71 + 2 * t
/-- what a constant row holds -/
def mv_ro (i j : Nat) : Int := bif Nat.beq i 200 then mv_nn 0 [-1, 0, 0, 1, 2, 0] j else bif Nat.beq i 201 then mv_nn 0 [1, 10, 100, 1000, 10000, 100000] j else mv_nn 0 (mv_nn [] mv_strs (i - 230)) j
def mv_rd (M : mv_M) (i j : Nat) : Int := bif Nat.blt i 200 then M i j else bif Nat.beq i 202 then M i j else mv_ro i j
/-! the steps -/
abbrev mv_RI : Type := Instr × Nat × Nat × Nat × Nat × Nat × Int
abbrev mv_S : Type := Option (Nat × List mv_V × List mv_V × mv_M)
def mv_bad : Nat := 100000
def mv_bin (f : Int → Int → Int) (pc : Nat) (ls st : List mv_V) (M : mv_M) : mv_S :=
  match st with
  | .inl y :: .inl x :: r => some (pc, ls, mv_I (f x y) :: r, M)
  | _ => none
def mv_una (f : Int → Int) (pc : Nat) (ls st : List mv_V) (M : mv_M) : mv_S :=
  match st with
  | .inl x :: r => some (pc, ls, mv_I (f x) :: r, M)
  | _ => none
def mv_bnl (f : Int → Int → Int) (pc : Nat) (ls st : List mv_V) (M : mv_M) : mv_S :=
  match st with
  | .inr (.inl y) :: .inr (.inl x) :: r => some (pc, ls, mv_L (f x y) :: r, M)
  | _ => none
def mv_ldi (a pc : Nat) (ls st : List mv_V) (M : mv_M) : mv_S :=
  match mv_nth ls a with
  | .inl x => some (pc, ls, mv_I x :: st, M)
  | _ => none
def mv_ldl (a pc : Nat) (ls st : List mv_V) (M : mv_M) : mv_S :=
  match mv_nth ls a with
  | .inr (.inl x) => some (pc, ls, mv_L x :: st, M)
  | _ => none
def mv_lda (a pc : Nat) (ls st : List mv_V) (M : mv_M) : mv_S :=
  match mv_nth ls a with
  | .inr (.inr (.inl x)) => some (pc, ls, mv_R x :: st, M)
  | .inr (.inr (.inr 0)) => some (pc, ls, mv_N :: st, M)
  | _ => none
def mv_sti (a pc : Nat) (ls st : List mv_V) (M : mv_M) : mv_S :=
  match st with
  | .inl x :: r => bif mv_isL (mv_nth ls (a - 1)) then none else some (pc, mv_set ls a (mv_I x), r, M)
  | _ => none
def mv_stl (a pc : Nat) (ls st : List mv_V) (M : mv_M) : mv_S :=
  match st with
  | .inr (.inl x) :: r => bif mv_isL (mv_nth ls (a - 1)) then none else some (pc, mv_set (mv_set ls a (mv_L x)) (a + 1) mv_U, r, M)
  | _ => none
def mv_sta (a pc : Nat) (ls st : List mv_V) (M : mv_M) : mv_S :=
  match st with
  | .inr (.inr (.inl x)) :: r => bif mv_isL (mv_nth ls (a - 1)) then none else some (pc, mv_set ls a (mv_R x), r, M)
  | .inr (.inr (.inr 0)) :: r => bif mv_isL (mv_nth ls (a - 1)) then none else some (pc, mv_set ls a mv_N, r, M)
  | _ => none
def mv_inc (a : Nat) (z : Int) (pc : Nat) (ls st : List mv_V) (M : mv_M) : mv_S :=
  match mv_nth ls a with
  | .inl x => bif mv_isL (mv_nth ls (a - 1)) then none else some (pc, mv_set ls a (mv_I (mv_w (x + z))), st, M)
  | _ => none
def mv_cm2 (c : Jvm.ClassFile.Cond) (t e : Nat) (ls st : List mv_V) (M : mv_M) : mv_S :=
  match st with
  | .inl y :: .inl x :: r => some ((match c with
    | .eq => if x = y then t else e
    | .ne => if x = y then e else t
    | .lt => if x < y then t else e
    | .ge => if x < y then e else t
    | .gt => if y < x then t else e
    | .le => if y < x then e else t), ls, r, M)
  | _ => none
def mv_cm1 (c : Jvm.ClassFile.Cond) (t e : Nat) (ls st : List mv_V) (M : mv_M) : mv_S :=
  match st with
  | .inl x :: r => some ((match c with
    | .eq => if x = 0 then t else e
    | .ne => if x = 0 then e else t
    | .lt => if x < 0 then t else e
    | .ge => if x < 0 then e else t
    | .gt => if 0 < x then t else e
    | .le => if 0 < x then e else t), ls, r, M)
  | _ => none
def mv_nul (t e : Nat) (ls st : List mv_V) (M : mv_M) : mv_S :=
  match st with
  | .inr (.inr (.inl _)) :: r => some (e, ls, r, M)
  | .inr (.inr (.inr 0)) :: r => some (t, ls, r, M)
  | _ => none
def mv_swg : List (Int × Nat) → Nat → Int → Nat
  | [], d, _ => d
  | (k, t) :: l, d, x => if x = k then t else mv_swg l d x
def mv_swi (l : List (Int × Nat)) (d : Nat) (ls st : List mv_V) (M : mv_M) : mv_S :=
  match st with
  | .inl x :: r => some (mv_swg l d x, ls, r, M)
  | _ => none
def mv_gf (a b pc : Nat) (ls st : List mv_V) (M : mv_M) : mv_S :=
  match st with
  | .inr (.inr (.inl i)) :: r => bif Nat.beq (mv_cls i) a then (match mv_fk a b with
    | 0 => some (pc, ls, mv_I (M i b) :: r, M)
    | 1 => some (pc, ls, mv_R (mv_ref i b) :: r, M)
    | 2 => some (if 0 ≤ M i b then pc else mv_bad, ls, mv_R (M i b).toNat :: r, M)
    | 3 => some (pc, ls, mv_I (M i b) :: r, M)
    | 4 => some (pc, ls, mv_I 0 :: r, M)
    | _ => none) else none
  | _ => none
def mv_pf (a b pc : Nat) (ls st : List mv_V) (M : mv_M) : mv_S :=
  match st with
  | .inl x :: .inr (.inr (.inl i)) :: r => bif Nat.beq (mv_cls i) a then (match mv_fk a b with
    | 0 => some (pc, ls, r, mv_st M i (mv_up (M i) b x))
    | 3 => some (if x = 0 ∨ x = 1 then pc else mv_bad, ls, r, mv_st M i (mv_up (M i) b x))
    | _ => none) else none
  | .inr (.inr (.inl j)) :: .inr (.inr (.inl i)) :: r => bif Nat.beq (mv_cls i) a && Nat.beq (mv_cls j) 0 then (match mv_fk a b with
    | 2 => some (pc, ls, r, mv_st M i (mv_up (M i) b (j : Int)))
    | _ => none) else none
  | _ => none
def mv_ali (pc : Nat) (ls st : List mv_V) (M : mv_M) : mv_S :=
  match st with
  | .inl j :: .inr (.inr (.inl i)) :: r => (match mv_ak i with
    | 1 => some (if 0 ≤ j ∧ j < mv_ln M i then pc else mv_bad, ls, mv_I (mv_rd M i j.toNat) :: r, M)
    | 4 => some (if 0 ≤ j ∧ j < mv_ln M i then pc else mv_bad, ls, mv_I (mv_rd M i j.toNat) :: r, M)
    | 6 => some (if 0 ≤ j ∧ j < mv_ln M i then pc else mv_bad, ls, mv_I (mv_rd M i j.toNat) :: r, M)
    | _ => none)
  | _ => none
def mv_alb (pc : Nat) (ls st : List mv_V) (M : mv_M) : mv_S :=
  match st with
  | .inl j :: .inr (.inr (.inl i)) :: r => (match mv_ak i with
    | 5 => some (if 0 ≤ j ∧ j < mv_ln M i then pc else mv_bad, ls, mv_I (mv_rd M i j.toNat) :: r, M)
    | _ => none)
  | _ => none
def mv_all (pc : Nat) (ls st : List mv_V) (M : mv_M) : mv_S :=
  match st with
  | .inl j :: .inr (.inr (.inl i)) :: r => (match mv_ak i with
    | 2 => some (if 0 ≤ j ∧ j < mv_ln M i then pc else mv_bad, ls, mv_L (mv_rd M i j.toNat) :: r, M)
    | _ => none)
  | _ => none
def mv_ala (pc : Nat) (ls st : List mv_V) (M : mv_M) : mv_S :=
  match st with
  | .inl j :: .inr (.inr (.inl i)) :: r => (match mv_ak i with
    | 3 => some (if 0 ≤ j ∧ j < mv_ln M i then pc else mv_bad, ls, mv_R (mv_el i j.toNat) :: r, M)
    | _ => none)
  | _ => none
def mv_asi (pc : Nat) (ls st : List mv_V) (M : mv_M) : mv_S :=
  match st with
  | .inl x :: .inl j :: .inr (.inr (.inl i)) :: r => (match mv_ak i with
    | 1 => some (if 0 ≤ j ∧ j < mv_ln M i then pc else mv_bad, ls, r, mv_st M i (mv_up (M i) j.toNat x))
    | _ => none)
  | _ => none
def mv_asl (pc : Nat) (ls st : List mv_V) (M : mv_M) : mv_S :=
  match st with
  | .inr (.inl x) :: .inl j :: .inr (.inr (.inl i)) :: r => (match mv_ak i with
    | 2 => some (if 0 ≤ j ∧ j < mv_ln M i then pc else mv_bad, ls, r, mv_st M i (mv_up (M i) j.toNat x))
    | _ => none)
  | _ => none
def mv_aln (pc : Nat) (ls st : List mv_V) (M : mv_M) : mv_S :=
  match st with
  | .inr (.inr (.inl i)) :: r => (match mv_ak i with
    | 0 => none
    | _ => some (pc, ls, mv_I (mv_ln M i) :: r, M))
  | _ => none
def mv_cpy (pc : Nat) (ls st : List mv_V) (M : mv_M) : mv_S :=
  match st with
  | .inl n :: .inl dp :: .inr (.inr (.inl j)) :: .inl sp :: .inr (.inr (.inl i)) :: r =>
    (match mv_ak i, mv_ak j with
    | 1, 1 => bif Nat.ble (mv_cats r) 8 then some (if 0 ≤ sp ∧ 0 ≤ dp ∧ 0 ≤ n ∧ sp + n ≤ mv_ln M i ∧ dp + n ≤ mv_ln M j then pc else mv_bad, ls, r, mv_st M j (mv_cp (M i) (M j) sp.toNat dp.toNat n.toNat)) else none
    | _, _ => none)
  | _ => none
/-- arraycopy, Math.max, Math.min -/
def mv_ivs (a pc : Nat) (ls st : List mv_V) (M : mv_M) : mv_S :=
  match a with
  | 900 => mv_cpy pc ls st M
  | 901 => bif Nat.ble (mv_cats st) 12 then mv_bin (fun x y => if x < y then y else x) pc ls st M else none
  | 902 => bif Nat.ble (mv_cats st) 12 then mv_bin (fun x y => if y < x then y else x) pc ls st M else none
  | 903 => bif Nat.ble (mv_cats st) 12 then mv_bnl (fun x y => if y < x then x else y) pc ls st M else none
  | _ => none
def mv_sws (k : Nat) : List (Int × Nat) := mv_nn [] [[(20000, 40), (20001, 54), (20002, 68), (20003, 79), (20004, 90), (20005, 94)], [(0, 60), (1, 63), (2, 66), (3, 69), (4, 72), (5, 75), (6, 78), (7, 81), (8, 84), (9, 87), (10, 90)], [(1, 40), (2, 86), (3, 51), (4, 86), (5, 64)], [(1, 60), (2, 69), (3, 77), (4, 95)], [(2, 84), (3, 108), (4, 89), (5, 95)], [(0, 44), (1, 52), (2, 60), (3, 68), (4, 76), (5, 81), (6, 89)], [(0, 84), (1, 96), (2, 106), (3, 118), (4, 128), (5, 138)], [(0, 44), (1, 49), (2, 54), (3, 59), (4, 70), (5, 75), (6, 80)], [(11, 44), (12, 58), (13, 102), (14, 72), (15, 83), (16, 94), (17, 98)], [(0, 124), (1, 133)], [(1, 40), (2, 84), (3, 51), (4, 84), (5, 62)], [(1, 84), (2, 105), (3, 84), (4, 108)], [(0, 80), (1, 86), (2, 93), (3, 99), (4, 106), (5, 113)], [(0, 192), (1, 215), (2, 238), (3, 313), (4, 326), (5, 349), (6, 392), (7, 425), (8, 468), (9, 501), (10, 544), (11, 557), (12, 590), (13, 603), (14, 636), (15, 659), (16, 682), (17, 705), (18, 728), (19, 751), (20, 774), (21, 807), (22, 850), (23, 893), (24, 936), (25, 959), (26, 992), (27, 1025), (28, 1058), (29, 1112), (30, 1125), (31, 1138), (32, 1181), (33, 1224), (34, 1287), (35, 1340)]] k
def mv_step (i : Instr) (len a b : Nat) (z : Int) (pc : Nat) (ls st : List mv_V) (M : mv_M) : mv_S :=
  match i with
  | .iconst _ => some (pc + len, ls, mv_I z :: st, M)
  | .bipush _ => some (pc + len, ls, mv_I z :: st, M)
  | .sipush _ => some (pc + len, ls, mv_I z :: st, M)
  | .ldc _ => (match a with | 0 => some (pc + len, ls, mv_I z :: st, M) | _ => some (pc + len, ls, mv_R b :: st, M))
  | .ldc_w _ => some (pc + len, ls, mv_I z :: st, M)
  | .lconst _ => some (pc + len, ls, mv_L z :: st, M)
  | .ldc2_w _ => some (pc + len, ls, mv_L z :: st, M)
  | .aconst_null => some (pc + len, ls, mv_N :: st, M)
  | .iload_n _ => mv_ldi a (pc + len) ls st M
  | .iload _ => mv_ldi a (pc + len) ls st M
  | .lload_n _ => mv_ldl a (pc + len) ls st M
  | .lload _ => mv_ldl a (pc + len) ls st M
  | .aload_n _ => mv_lda a (pc + len) ls st M
  | .aload _ => mv_lda a (pc + len) ls st M
  | .istore_n _ => mv_sti a (pc + len) ls st M
  | .istore _ => mv_sti a (pc + len) ls st M
  | .lstore_n _ => mv_stl a (pc + len) ls st M
  | .lstore _ => mv_stl a (pc + len) ls st M
  | .astore_n _ => mv_sta a (pc + len) ls st M
  | .astore _ => mv_sta a (pc + len) ls st M
  | .iinc _ _ => mv_inc a z (pc + len) ls st M
  | .iadd => mv_bin (fun x y => mv_w (x + y)) (pc + len) ls st M
  | .isub => mv_bin (fun x y => mv_w (x - y)) (pc + len) ls st M
  | .imul => mv_bin (fun x y => mv_w (x * y)) (pc + len) ls st M
  | .iand => mv_bin mv_and (pc + len) ls st M
  | .ior => mv_bin mv_or (pc + len) ls st M
  | .ixor => mv_bin mv_xor (pc + len) ls st M
  | .ishl => mv_bin mv_shl (pc + len) ls st M
  | .ishr => mv_bin mv_shr (pc + len) ls st M
  | .iushr => mv_bin mv_ushr (pc + len) ls st M
  | .idiv => (match st with
    | .inl y :: .inl x :: r => some (if y = 0 then mv_bad else pc + len, ls, mv_I (mv_w (x.tdiv y)) :: r, M)
    | _ => none)
  | .irem => (match st with
    | .inl y :: .inl x :: r => some (if y = 0 then mv_bad else pc + len, ls, mv_I (mv_w (x.tmod y)) :: r, M)
    | _ => none)
  | .ineg => mv_una (fun x => mv_w (-x)) (pc + len) ls st M
  | .i2b => mv_una mv_i2b (pc + len) ls st M
  | .i2s => mv_una mv_i2s (pc + len) ls st M
  | .i2c => mv_una mv_i2c (pc + len) ls st M
  | .ladd => mv_bnl (fun x y => mv_wl (x + y)) (pc + len) ls st M
  | .lsub => mv_bnl (fun x y => mv_wl (x - y)) (pc + len) ls st M
  | .lmul => mv_bnl (fun x y => mv_wl (x * y)) (pc + len) ls st M
  | .ldiv => (match st with
    | .inr (.inl y) :: .inr (.inl x) :: r => some (if y = 0 then mv_bad else pc + len, ls, mv_L (mv_wl (x.tdiv y)) :: r, M)
    | _ => none)
  | .lrem => (match st with
    | .inr (.inl y) :: .inr (.inl x) :: r => some (if y = 0 then mv_bad else pc + len, ls, mv_L (mv_wl (x.tmod y)) :: r, M)
    | _ => none)
  | .lshl => (match st with
    | .inl y :: .inr (.inl x) :: r => some (pc + len, ls, mv_L (mv_lshl x y) :: r, M)
    | _ => none)
  | .lshr => (match st with
    | .inl y :: .inr (.inl x) :: r => some (pc + len, ls, mv_L (mv_lshr x y) :: r, M)
    | _ => none)
  | .lcmp => (match st with
    | .inr (.inl y) :: .inr (.inl x) :: r => some (pc + len, ls, mv_I (mv_lcmp x y) :: r, M)
    | _ => none)
  | .i2l => (match st with
    | .inl x :: r => some (pc + len, ls, mv_L x :: r, M)
    | _ => none)
  | .l2i => (match st with
    | .inr (.inl x) :: r => some (pc + len, ls, mv_I (mv_w x) :: r, M)
    | _ => none)
  | .dup => (match st with
    | v :: r => bif mv_isL v then none else some (pc + len, ls, v :: v :: r, M)
    | _ => none)
  | .dup2 => (match st with
    | u :: v :: r => bif mv_isL u || mv_isL v then none else some (pc + len, ls, u :: v :: u :: v :: r, M)
    | _ => none)
  | .pop => (match st with
    | v :: r => bif mv_isL v then none else some (pc + len, ls, r, M)
    | _ => none)
  | .goto _ => some (a, ls, st, M)
  | .if_icmp c _ => mv_cm2 c a (pc + len) ls st M
  | .ifCond c _ => mv_cm1 c a (pc + len) ls st M
  | .ifnull _ => mv_nul a (pc + len) ls st M
  | .ifnonnull _ => mv_nul (pc + len) a ls st M
  | .tableswitch _ _ _ _ => mv_swi (mv_sws a) b ls st M
  | .lookupswitch _ _ => mv_swi (mv_sws a) b ls st M
  | .getfield _ => mv_gf a b (pc + len) ls st M
  | .putfield _ => mv_pf a b (pc + len) ls st M
  | .iaload => mv_ali (pc + len) ls st M
  | .laload => mv_all (pc + len) ls st M
  | .aaload => mv_ala (pc + len) ls st M
  | .baload => mv_alb (pc + len) ls st M
  | .iastore => mv_asi (pc + len) ls st M
  | .lastore => mv_asl (pc + len) ls st M
  | .arraylength => mv_aln (pc + len) ls st M
  | .getstatic _ => (match a with
    | 0 => some (pc + len, ls, mv_R 200 :: st, M)
    | 1 => some (pc + len, ls, mv_R 201 :: st, M)
    | 2 => some (pc + len, ls, mv_I 1 :: st, M)
    | _ => some (pc + len, ls, mv_X :: st, M))
  | .invokestatic _ => mv_ivs a (pc + len) ls st M
  | _ => none
