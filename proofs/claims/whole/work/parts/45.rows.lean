section W1
theorem cutB (b : BitVec 32) : ((b <<< 24).sshiftRight 24).toInt = ((b.toNat : Int)).bmod (2 ^ 8) := by
  have hb := b.isLt
  rw [BitVec.toInt_sshiftRight, BitVec.toInt_shiftLeft, Int.shiftRight_eq_div_pow]
  have e : ((b.toNat <<< 24 : Nat) : Int) = (b.toNat : Int) * 16777216 := by rw [Nat.shiftLeft_eq]; omega
  rw [e]
  generalize (b.toNat : Int) = z
  unfold Int.bmod
  simp only [Nat.reducePow, Int.reducePow, Int.cast_ofNat_Int]
  (repeat' split) <;> omega
theorem cutS (b : BitVec 32) : ((b <<< 16).sshiftRight 16).toInt = ((b.toNat : Int)).bmod (2 ^ 16) := by
  have hb := b.isLt
  rw [BitVec.toInt_sshiftRight, BitVec.toInt_shiftLeft, Int.shiftRight_eq_div_pow]
  have e : ((b.toNat <<< 16 : Nat) : Int) = (b.toNat : Int) * 65536 := by rw [Nat.shiftLeft_eq]; omega
  rw [e]
  generalize (b.toNat : Int) = z
  unfold Int.bmod
  simp only [Nat.reducePow, Int.reducePow, Int.cast_ofNat_Int]
  (repeat' split) <;> omega
theorem cut8 (x : Int32) : (x <<< (zI 24 &&& 31)) >>> (zI 24 &&& 31) = x.toInt8.toInt32 := by
  have e24 : (zI 24 &&& 31).toBitVec.smod 32 = 24#32 := by decide +kernel
  apply Int32.toBitVec.inj
  show (x.toBitVec <<< ((zI 24 &&& 31).toBitVec.smod 32)).sshiftRight' ((zI 24 &&& 31).toBitVec.smod 32) = (x.toBitVec.signExtend 8).signExtend 32
  rw [e24]
  generalize x.toBitVec = b
  apply BitVec.eq_of_toInt_eq
  rw [BitVec.toInt_signExtend_of_le (by decide), BitVec.signExtend_eq_setWidth_of_le _ (by decide), BitVec.toInt_setWidth]
  exact cutB b
theorem cut16 (x : Int32) : (x <<< (zI 16 &&& 31)) >>> (zI 16 &&& 31) = x.toInt16.toInt32 := by
  have e24 : (zI 16 &&& 31).toBitVec.smod 32 = 16#32 := by decide +kernel
  apply Int32.toBitVec.inj
  show (x.toBitVec <<< ((zI 16 &&& 31).toBitVec.smod 32)).sshiftRight' ((zI 16 &&& 31).toBitVec.smod 32) = (x.toBitVec.signExtend 16).signExtend 32
  rw [e24]
  generalize x.toBitVec = b
  apply BitVec.eq_of_toInt_eq
  rw [BitVec.toInt_signExtend_of_le (by decide), BitVec.signExtend_eq_setWidth_of_le _ (by decide), BitVec.toInt_setWidth]
  exact cutS b
end W1
