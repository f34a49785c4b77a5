theorem sh32 (v : Int32) : (v <<< ((32 - 32 : Int32) &&& 31)) >>> ((32 - 32 : Int32) &&& 31) = v := by
  show (v <<< (0 : Int32)) >>> (0 : Int32) = v
  apply Int32.toBitVec_inj.mp
  simp
theorem shb (x : BitVec 32) (n w : Nat) (h : n + w = 32) (hw : 0 < w) : (x <<< n).sshiftRight n = (x.setWidth w).signExtend 32 := by
  apply BitVec.eq_of_getLsbD_eq
  intro i hi
  rw [BitVec.getLsbD_sshiftRight, BitVec.getLsbD_signExtend]
  by_cases c : i < w
  · have e : n + i < 32 := by omega
    have e2 : ¬ n + i < n := by omega
    simp [hi, c, e, e2, BitVec.getLsbD_shiftLeft, BitVec.getLsbD_setWidth]
  · have e : ¬ n + i < 32 := by omega
    have e3 : 31 - n = w - 1 := by omega
    have e4 : w - 1 < w := by omega
    have e5 : ¬ 31 < n := by omega
    have e6 : ¬ 32 ≤ i := by omega
    have e7 : w - 1 < 32 := by omega
    simp [hi, c, e, e3, e4, e5, e6, e7, hw, BitVec.getLsbD_eq_getElem, BitVec.msb_eq_getLsbD_last, BitVec.getLsbD_shiftLeft, BitVec.getLsbD_setWidth]
theorem sh24 (v : Int32) : (v <<< ((32 - 8 : Int32) &&& 31)) >>> ((32 - 8 : Int32) &&& 31) = v.toInt8.toInt32 := by
  apply Int32.toBitVec_inj.mp
  rw [Int32.toBitVec_shiftRight, Int32.toBitVec_shiftLeft]
  rw [show ((32 - 8 &&& 31 : Int32).toBitVec.smod 32) = 24#32 from by decide]
  refine Eq.trans (b := (v.toBitVec <<< 24).sshiftRight 24) ?_ (Eq.trans (shb v.toBitVec 24 8 rfl (by decide)) ?_)
  · simp [BitVec.sshiftRight']
  · simp only [Int32.toInt8, Int8.toInt32]
    exact congrArg (BitVec.signExtend 32) (by first | exact (BitVec.signExtend_eq_setWidth_of_le _ (by decide)).symm | exact (BitVec.signExtend_eq_setWidth_of_lt _ (by decide)).symm)
theorem sh16 (v : Int32) : (v <<< ((32 - 16 : Int32) &&& 31)) >>> ((32 - 16 : Int32) &&& 31) = v.toInt16.toInt32 := by
  apply Int32.toBitVec_inj.mp
  rw [Int32.toBitVec_shiftRight, Int32.toBitVec_shiftLeft]
  rw [show ((32 - 16 &&& 31 : Int32).toBitVec.smod 32) = 16#32 from by decide]
  refine Eq.trans (b := (v.toBitVec <<< 16).sshiftRight 16) ?_ (Eq.trans (shb v.toBitVec 16 16 rfl (by decide)) ?_)
  · simp [BitVec.sshiftRight']
  · simp only [Int32.toInt16, Int16.toInt32]
    exact congrArg (BitVec.signExtend 32) (by first | exact (BitVec.signExtend_eq_setWidth_of_le _ (by decide)).symm | exact (BitVec.signExtend_eq_setWidth_of_lt _ (by decide)).symm)
theorem put_wV {b v : Int32} (h : b = 8 ∨ b = 16 ∨ b = 32) : (v <<< ((32 - b) &&& 31)) >>> ((32 - b) &&& 31) = wV b v := by
  rcases h with rfl | rfl | rfl
  · exact (sh24 v).trans (if_pos rfl).symm
  · exact (sh16 v).trans rfl
  · exact (sh32 v).trans rfl
