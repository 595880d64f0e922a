/-! the bytes of a word -/
def by_c (w : Int64) (i : Int32) : Int32 := (w.toUInt64 >>> ((8 * i).toInt64.toUInt64 &&& Int64.toUInt64 63)).toInt64.toInt32 &&& 255
def by_m (w : Int64) (i : Int32) : Int32 := ((w >>> ((8 * i).toInt64 &&& 63)) &&& 255).toInt32
theorem by_l (x : BitVec 64) (k : Nat) (hk : k ≤ 56) : (BitVec.signExtend 32 (x >>> k)) &&& 255#32 = BitVec.signExtend 32 (x.sshiftRight k &&& 255#64) := by
  have e1 : ∀ i, i < 32 → (255#32).getLsbD i = decide (i < 8) := by decide
  have e2 : ∀ i, i < 32 → (255#64).getLsbD i = decide (i < 8) := by decide
  apply BitVec.eq_of_getLsbD_eq
  intro i hi
  rw [BitVec.getLsbD_and, BitVec.getLsbD_signExtend, BitVec.getLsbD_signExtend, BitVec.getLsbD_and, e1 i hi, e2 i hi, BitVec.getLsbD_ushiftRight, BitVec.getLsbD_sshiftRight]
  rw [if_pos (show i < 64 by omega), if_pos (show i < 64 by omega)]
  by_cases h8 : i < 8
  · rw [if_pos (show k + i < 64 by omega)]
    simp [h8, hi]
    omega
  · simp [h8]
theorem by_0 (w : Int64) : by_c w (nI 0) = by_m w (nI 0) := by
  apply Int32.toBitVec_inj.mp
  exact by_l w.toBitVec 0 (by decide)
theorem by_1 (w : Int64) : by_c w (nI 1) = by_m w (nI 1) := by
  apply Int32.toBitVec_inj.mp
  exact by_l w.toBitVec 8 (by decide)
theorem by_2 (w : Int64) : by_c w (nI 2) = by_m w (nI 2) := by
  apply Int32.toBitVec_inj.mp
  exact by_l w.toBitVec 16 (by decide)
theorem by_3 (w : Int64) : by_c w (nI 3) = by_m w (nI 3) := by
  apply Int32.toBitVec_inj.mp
  exact by_l w.toBitVec 24 (by decide)
theorem by_4 (w : Int64) : by_c w (nI 4) = by_m w (nI 4) := by
  apply Int32.toBitVec_inj.mp
  exact by_l w.toBitVec 32 (by decide)
theorem by_5 (w : Int64) : by_c w (nI 5) = by_m w (nI 5) := by
  apply Int32.toBitVec_inj.mp
  exact by_l w.toBitVec 40 (by decide)
theorem by_6 (w : Int64) : by_c w (nI 6) = by_m w (nI 6) := by
  apply Int32.toBitVec_inj.mp
  exact by_l w.toBitVec 48 (by decide)
theorem by_7 (w : Int64) : by_c w (nI 7) = by_m w (nI 7) := by
  apply Int32.toBitVec_inj.mp
  exact by_l w.toBitVec 56 (by decide)
theorem by_eq {w : Int64} {i : Nat} (h : i < 8) : by_c w (nI i) = by_m w (nI i) := by
  rcases (by omega : i = 0 ∨ i = 1 ∨ i = 2 ∨ i = 3 ∨ i = 4 ∨ i = 5 ∨ i = 6 ∨ i = 7) with rfl | rfl | rfl | rfl | rfl | rfl | rfl | rfl
  · exact by_0 w
  · exact by_1 w
  · exact by_2 w
  · exact by_3 w
  · exact by_4 w
  · exact by_5 w
  · exact by_6 w
  · exact by_7 w
theorem by_bd {w : Int64} {i : Int32} : 0 ≤ (by_c w i).toInt ∧ (by_c w i).toInt ≤ 255 := by
  have h : ∀ x : BitVec 32, 0 ≤ (x &&& 255#32).toInt ∧ (x &&& 255#32).toInt ≤ 255 := by
    intro x
    have h1 : (x &&& 255#32).toNat ≤ 255 := by
      rw [BitVec.toNat_and]
      exact Nat.and_le_right
    rw [BitVec.toInt_eq_toNat_of_lt (by omega)]
    omega
  exact h _
