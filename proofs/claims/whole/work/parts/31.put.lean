/-! the characters of a number: the class's way and the reference's -/
def uC (c : Int64) (k : Nat) : Nat := c.toBitVec.toNat / 2 ^ (8 * k)
theorem uC_lN (c : Int64) : c = lN c.toBitVec.toNat := by
  apply Int64.toBitVec_inj.1
  show c.toBitVec = BitVec.ofNat 64 c.toBitVec.toNat
  rw [BitVec.ofNat_toNat, BitVec.setWidth_eq]
theorem mSh_u : ∀ k, k < 8 → ((nI (8 * k)).toInt64.toUInt64 &&& Int64.toUInt64 63) = UInt64.ofNat (8 * k) := by decide +kernel
theorem mSh_un : ∀ k, k < 8 → ((UInt64.ofNat (8 * k)).toBitVec % 64#64).toNat = 8 * k := by decide +kernel
theorem wb_shr' (c : Int64) {k : Nat} (hk : k < 8) : ((c.toUInt64 >>> ((nI (8 * k)).toInt64.toUInt64 &&& Int64.toUInt64 63)).toInt64) = lN (c.toBitVec.toNat / 2 ^ (8 * k)) := by
  rw [mSh_u k hk]
  apply Int64.toBitVec_inj.1
  apply BitVec.eq_of_toNat_eq
  show (c.toBitVec >>> ((UInt64.ofNat (8 * k)).toBitVec % 64#64)).toNat = (BitVec.ofNat 64 (c.toBitVec.toNat / 2 ^ (8 * k))).toNat
  rw [BitVec.ushiftRight_eq', BitVec.toNat_ushiftRight, mSh_un k hk, Nat.shiftRight_eq_div_pow, BitVec.toNat_ofNat]
  exact (Nat.mod_eq_of_lt (Nat.lt_of_le_of_lt (Nat.div_le_self _ _) c.toBitVec.isLt)).symm
theorem sTop_u (c : Int64) {k : Nat} (hk : k < 8) : sTop c (nI k) = lN (uC c k) := by
  unfold sTop
  rw [show nI k * 8 = nI (8 * k) by rw [show (8 : Int32) = nI 8 from rfl, pk_mul, Nat.mul_comm]]
  exact wb_shr' c hk
theorem sCode_u (c : Int64) {k : Nat} (hk : k < 8) : sCode c (nI k) = nI (uC c k % 256) := by
  have e : sCode c (nI k) = (sTop c (nI k)).toInt32 &&& 255 := rfl
  rw [e, sTop_u c hk, lN_i]
  rw [pk_and (nI (uC c k)) (m := 255) 8 (by decide)]
  congr 1
  show (BitVec.ofNat 32 (uC c k)).toNat % 256 = _
  rw [BitVec.toNat_ofNat]
  omega
theorem mSh_amt : ∀ k, k < 8 → ((8 * nI k).toInt64 &&& 63) = Int64.ofNat (8 * k) := by decide +kernel
theorem mSh_smod : ∀ k, k < 8 → ((Int64.ofNat (8 * k)).toBitVec.smod 64).toNat = 8 * k := by decide +kernel
theorem mCode_s (c : Int64) {k : Nat} (hk : k < 8) : mCode c (nI k) = sCode c (nI k) := by
  have e : sCode c (nI k) = (sTop c (nI k)).toInt32 &&& 255 := rfl
  rw [e, sTop_u c hk, lN_i]
  unfold mCode
  rw [mSh_amt k hk]
  apply Int32.toBitVec_inj.1
  apply BitVec.eq_of_getLsbD_eq
  intro i hi
  have h255 : ∀ j : Fin 32, (255 : Int32).toBitVec.getLsbD j.val = decide (j.val < 8) := by decide +kernel
  have h255l : ∀ j : Fin 64, (255 : Int64).toBitVec.getLsbD j.val = decide (j.val < 8) := by decide +kernel
  have h1 : (nI (uC c k) &&& 255).toBitVec.getLsbD i = ((nI (uC c k)).toBitVec.getLsbD i && (255 : Int32).toBitVec.getLsbD i) := by
    show ((nI (uC c k)).toBitVec &&& (255 : Int32).toBitVec).getLsbD i = _
    rw [BitVec.getLsbD_and]
  rw [h1, h255 ⟨i, hi⟩]
  have h2 : ((c >>> Int64.ofNat (8 * k) &&& 255).toInt32).toBitVec.getLsbD i = ((c >>> Int64.ofNat (8 * k)).toBitVec.getLsbD i && (255 : Int64).toBitVec.getLsbD i) := by
    show (((c >>> Int64.ofNat (8 * k)).toBitVec &&& (255 : Int64).toBitVec).signExtend 32).getLsbD i = _
    rw [BitVec.getLsbD_signExtend, if_pos (by omega), BitVec.getLsbD_and]
    simp [hi]
  rw [h2, h255l ⟨i, by omega⟩]
  by_cases h8 : i < 8
  · simp only [h8, decide_true, Bool.and_true]
    have h3 : (c >>> Int64.ofNat (8 * k)).toBitVec.getLsbD i = c.toBitVec.getLsbD (8 * k + i) := by
      show (c.toBitVec.sshiftRight' ((Int64.ofNat (8 * k)).toBitVec.smod 64)).getLsbD i = _
      rw [BitVec.sshiftRight', mSh_smod k hk, BitVec.getLsbD_sshiftRight]
      simp [show ¬ 64 ≤ i by omega, show 8 * k + i < 64 by omega]
    rw [h3]
    show _ = (BitVec.ofNat 32 (uC c k)).getLsbD i
    rw [BitVec.getLsbD_ofNat]
    unfold uC
    rw [Nat.testBit_div_two_pow]
    simp [hi, BitVec.getLsbD, Nat.add_comm]
  · simp [h8]
theorem mCode_u (c : Int64) {k : Nat} (hk : k < 8) : mCode c (nI k) = nI (uC c k % 256) := by rw [mCode_s c hk, sCode_u c hk]
