/-! what holds at the law's entry -/
def cn_A0 (s : State) : Nat → Prop := fun q => s.heap.size ≤ q
theorem cn_A0_n {s : State} : ∀ a : Nat, a < s.heap.size → ¬ cn_A0 s a := fun a h g => by unfold cn_A0 at g; omega
def cn_fl : List Cond := flatC (Jvm.Cond.and given_1 narrow_1)
def cn_tm (i : Nat) : Term := .string (mv_sk i).1 (mv_sk i).2.1
theorem cn_s1 : ∀ i, i < 14 → mv_sl.getD i 0 < 2 ^ 31 := by decide +kernel
theorem cn_s2 : ∀ i, i < 14 → Cond.exactly (cn_tm i) "java/lang/String" ∈ cn_fl := by decide +kernel
theorem cn_s3 : ∀ i, i < 14 → Cond.eq (.field (cn_tm i) "java/lang/String" "coder" "B") (.int 0) ∈ cn_fl := by decide +kernel
theorem cn_s4 : ∀ i, i < 14 → Cond.arrayOf (.field (cn_tm i) "java/lang/String" "value" "[B") .byte ∈ cn_fl := by decide +kernel
theorem cn_s5 : ∀ i, i < 14 → Cond.eq (.length (.field (cn_tm i) "java/lang/String" "value" "[B")) (.int (Int32.ofNat (mv_sl.getD i 0))) ∈ cn_fl := by decide +kernel
theorem cn_s6 : ∀ i, i < 14 → ∀ j, j < mv_sl.getD i 0 → Cond.eq (.elem (.field (cn_tm i) "java/lang/String" "value" "[B") (.int (Int32.ofNat j))) (.int ((mv_sb.getD i []).getD j 0)) ∈ cn_fl := by decide +kernel
def cn_ps : List (List Nat) := [[0, 107, 117, 128, 137, 148, 160, 174, 189, 206, 223, 242, 261, 285], [0, 0, 118, 129, 138, 149, 161, 175, 190, 207, 224, 243, 262, 286], [0, 0, 0, 130, 139, 150, 162, 176, 191, 208, 225, 244, 263, 287], [0, 0, 0, 0, 140, 151, 163, 177, 192, 209, 226, 245, 264, 288], [0, 0, 0, 0, 0, 152, 164, 178, 193, 210, 227, 246, 265, 289], [0, 0, 0, 0, 0, 0, 165, 179, 194, 211, 228, 247, 266, 290], [0, 0, 0, 0, 0, 0, 0, 180, 195, 212, 229, 248, 267, 291], [0, 0, 0, 0, 0, 0, 0, 0, 196, 213, 230, 249, 268, 292], [0, 0, 0, 0, 0, 0, 0, 0, 0, 214, 231, 250, 269, 293], [0, 0, 0, 0, 0, 0, 0, 0, 0, 0, 232, 251, 270, 294], [0, 0, 0, 0, 0, 0, 0, 0, 0, 0, 0, 252, 271, 295], [0, 0, 0, 0, 0, 0, 0, 0, 0, 0, 0, 0, 272, 296], [0, 0, 0, 0, 0, 0, 0, 0, 0, 0, 0, 0, 0, 297], [0, 0, 0, 0, 0, 0, 0, 0, 0, 0, 0, 0, 0, 0]]
theorem cn_s7a : ∀ i, i < 14 → ∀ j, j < 14 → i < j → cn_fl[mv_nn 0 (mv_nn [] cn_ps i) j]? = some (Cond.not (Cond.eq (cn_tm i) (cn_tm j))) := by decide +kernel
theorem cn_s7 : ∀ i, i < 14 → ∀ j, j < 14 → i ≠ j → (Cond.not (Cond.eq (cn_tm i) (cn_tm j)) ∈ cn_fl ∨ Cond.not (Cond.eq (cn_tm j) (cn_tm i)) ∈ cn_fl) := fun i hi j hj hij => by
  rcases Nat.lt_or_gt_of_ne hij with h | h
  · exact Or.inl (List.mem_of_getElem? (cn_s7a i hi j hj h))
  · exact Or.inr (List.mem_of_getElem? (cn_s7a j hj i hi h))
theorem cn_s8 : ∀ i, i < 14 → Cond.stringRef (mv_sk i).1 (mv_sk i).2.1 (mv_sk i).2.2 ∈ lw_tbl := by decide +kernel
theorem cn_t1 : ∀ j, j < 6 → Cond.eq (.elem (.static "UnclesByWard" "ABOVE" "[I") (.int (Int32.ofNat j))) (.int (Int32.ofInt (mv_ro 200 j))) ∈ cn_fl := by decide +kernel
theorem cn_t2 : ∀ j, j < 6 → Cond.eq (.elem (.static "UnclesByWard" "TENS" "[I") (.int (Int32.ofNat j))) (.int (Int32.ofInt (mv_ro 201 j))) ∈ cn_fl := by decide +kernel
