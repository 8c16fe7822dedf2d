section P6
def p_byte (w : Int64) (k : Nat) : Int32 := ((w >>> ((nI (8 * k)).toInt64 &&& 63)) &&& 255).toInt32
theorem p_m32 : ∀ i, i < 32 → (255#32).getLsbD i = decide (i < 8) := by decide
theorem p_m64 : ∀ i, i < 32 → (255#64).getLsbD i = decide (i < 8) := by decide
theorem p_byte_bv (w : BitVec 64) (s : Nat) (hs : s ≤ 56) : ((w >>> s).signExtend 32) &&& 255#32 = ((w.sshiftRight s) &&& 255#64).signExtend 32 := by
  apply BitVec.eq_of_getLsbD_eq
  intro i hi
  have h6 : i < 64 := by omega
  rw [BitVec.getLsbD_and, BitVec.getLsbD_signExtend, BitVec.getLsbD_signExtend, if_pos h6, if_pos h6, BitVec.getLsbD_and, p_m32 i hi, p_m64 i hi, BitVec.getLsbD_ushiftRight, BitVec.getLsbD_sshiftRight]
  by_cases h : i < 8
  · have h2 : s + i < 64 := by omega
    have h3 : ¬ 64 ≤ i := by omega
    simp [h, hi, h2, h3]
  · simp [h]
theorem p_byte_eq (w : Int64) : ∀ k, k < 8 → (ge_lus w (nI (8 * k))).toInt32 &&& 255 = p_byte w k := by
  intro k hk
  apply Int32.toBitVec_inj.mp
  have hc : k = 0 ∨ k = 1 ∨ k = 2 ∨ k = 3 ∨ k = 4 ∨ k = 5 ∨ k = 6 ∨ k = 7 := by omega
  unfold ge_lus p_byte
  rcases hc with rfl | rfl | rfl | rfl | rfl | rfl | rfl | rfl
  · have e1 : ((nI (8 * 0)).toInt64.toUInt64 &&& Int64.toUInt64 63) = 0 := by decide
    have e2 : ((nI (8 * 0)).toInt64 &&& 63) = 0 := by decide
    rw [e1, e2]
    exact p_byte_bv w.toBitVec 0 (by decide)
  · have e1 : ((nI (8 * 1)).toInt64.toUInt64 &&& Int64.toUInt64 63) = 8 := by decide
    have e2 : ((nI (8 * 1)).toInt64 &&& 63) = 8 := by decide
    rw [e1, e2]
    exact p_byte_bv w.toBitVec 8 (by decide)
  · have e1 : ((nI (8 * 2)).toInt64.toUInt64 &&& Int64.toUInt64 63) = 16 := by decide
    have e2 : ((nI (8 * 2)).toInt64 &&& 63) = 16 := by decide
    rw [e1, e2]
    exact p_byte_bv w.toBitVec 16 (by decide)
  · have e1 : ((nI (8 * 3)).toInt64.toUInt64 &&& Int64.toUInt64 63) = 24 := by decide
    have e2 : ((nI (8 * 3)).toInt64 &&& 63) = 24 := by decide
    rw [e1, e2]
    exact p_byte_bv w.toBitVec 24 (by decide)
  · have e1 : ((nI (8 * 4)).toInt64.toUInt64 &&& Int64.toUInt64 63) = 32 := by decide
    have e2 : ((nI (8 * 4)).toInt64 &&& 63) = 32 := by decide
    rw [e1, e2]
    exact p_byte_bv w.toBitVec 32 (by decide)
  · have e1 : ((nI (8 * 5)).toInt64.toUInt64 &&& Int64.toUInt64 63) = 40 := by decide
    have e2 : ((nI (8 * 5)).toInt64 &&& 63) = 40 := by decide
    rw [e1, e2]
    exact p_byte_bv w.toBitVec 40 (by decide)
  · have e1 : ((nI (8 * 6)).toInt64.toUInt64 &&& Int64.toUInt64 63) = 48 := by decide
    have e2 : ((nI (8 * 6)).toInt64 &&& 63) = 48 := by decide
    rw [e1, e2]
    exact p_byte_bv w.toBitVec 48 (by decide)
  · have e1 : ((nI (8 * 7)).toInt64.toUInt64 &&& Int64.toUInt64 63) = 56 := by decide
    have e2 : ((nI (8 * 7)).toInt64 &&& 63) = 56 := by decide
    rw [e1, e2]
    exact p_byte_bv w.toBitVec 56 (by decide)
theorem p_us8 (x : Int32) : ∃ q, q < 2 ^ 24 ∧ ge_us x 8 = nI q := by
  refine ⟨x.toBitVec.toNat / 2 ^ 8, ?_, ?_⟩
  · have := x.toBitVec.isLt
    exact (Nat.div_lt_iff_lt_mul (by decide)).mpr (by omega)
  · apply Int32.toBitVec_inj.mp
    apply BitVec.eq_of_toNat_eq
    have h1 : (ge_us x 8).toBitVec = x.toBitVec >>> 8 := rfl
    rw [h1, BitVec.toNat_ushiftRight, Nat.shiftRight_eq_div_pow]
    have := x.toBitVec.isLt
    have h2 : x.toBitVec.toNat / 2 ^ 8 < 2 ^ 32 := Nat.lt_of_le_of_lt (Nat.div_le_self _ _) this
    exact (pk_tn h2).symm
end P6
