/-! shifts of longs by 20; small bits -/
theorem mv_s20 : (((Int32.ofInt 20).toInt64 &&& 63).toBitVec.smod 64) = 20#64 := by decide
theorem mv_lshl20 {x : Int} (h1 : -1000000 ≤ x) (h2 : x ≤ 1000000) : mv_lshl x 20 = x * 1048576 := by
  unfold mv_lshl
  have e : (Int64.ofInt x <<< ((Int32.ofInt 20).toInt64 &&& 63)) = Int64.ofInt (x * 1048576) := by
    apply Int64.toBitVec_inj.mp
    show (Int64.ofInt x).toBitVec <<< (((Int32.ofInt 20).toInt64 &&& 63).toBitVec.smod 64) = _
    rw [mv_s20]
    show BitVec.ofInt 64 x <<< (20#64) = BitVec.ofInt 64 (x * 1048576)
    rw [BitVec.shiftLeft_eq', BitVec.shiftLeft_eq_mul_twoPow, BitVec.ofInt_mul]
    rfl
  rw [e]
  exact Int64.toInt_ofInt_of_le (by omega) (by omega)
theorem mv_lshr20 {x : Int} (h1 : -9223372036854775808 ≤ x) (h2 : x < 9223372036854775808) : mv_lshr x 20 = x / 1048576 := by
  unfold mv_lshr
  have e : ((Int64.ofInt x >>> ((Int32.ofInt 20).toInt64 &&& 63))).toInt = (Int64.ofInt x).toInt >>> 20 := by
    show (BitVec.sshiftRight' (Int64.ofInt x).toBitVec (((Int32.ofInt 20).toInt64 &&& 63).toBitVec.smod 64)).toInt = _
    rw [mv_s20]
    exact BitVec.toInt_sshiftRight
  rw [e, Int64.toInt_ofInt_of_le (by omega) (by omega), Int.shiftRight_eq_div_pow]
  rfl
theorem mv_xor_d : ∀ (a b : Fin 64), mv_xor ((a : Nat) : Int) ((b : Nat) : Int) = (((a : Nat) ^^^ (b : Nat) : Nat) : Int) := by decide +kernel
theorem mv_and_d : ∀ (a b : Fin 64), mv_and ((a : Nat) : Int) ((b : Nat) : Int) = (((a : Nat) &&& (b : Nat) : Nat) : Int) := by decide +kernel
theorem mv_shl_d : ∀ (a : Fin 7), mv_shl 1 ((a : Nat) : Int) = ((1 <<< (a : Nat) : Nat) : Int) := by decide +kernel
