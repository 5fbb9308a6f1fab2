/-! bits of a long -/
section BI
theorem bit_or (x y : Int64) (e : Nat) : bit (x ||| y) e ↔ bit x e ∨ bit y e := by
  unfold bit
  rw [Int64.toBitVec_or, BitVec.getLsbD_or, Bool.or_eq_true]
theorem b_zero (e : Nat) : ¬ bit 0 e := by
  unfold bit
  simp
theorem sh_u : ∀ e, e < 64 → ((nI e).toInt64.toUInt64 &&& Int64.toUInt64 63).toBitVec % 64 = BitVec.ofNat 64 e := by decide +kernel
theorem sh_s : ∀ e, e < 64 → (((nI e).toInt64 &&& 63).toBitVec.smod 64) = BitVec.ofNat 64 e := by decide +kernel
theorem b_has (x : Int64) {e : Nat} (he : e < 64) : (((x.toUInt64 >>> ((nI e).toInt64.toUInt64 &&& Int64.toUInt64 63)).toInt64 &&& (1 : Int64)) = (0 : Int64)) ↔ ¬ bit x e := by
  rw [← Int64.toBitVec_inj]
  unfold bit
  rw [Int64.toBitVec_and]
  have hb : (x.toUInt64 >>> ((nI e).toInt64.toUInt64 &&& Int64.toUInt64 63)).toInt64.toBitVec = x.toBitVec >>> e := by
    show (x.toUInt64 >>> ((nI e).toInt64.toUInt64 &&& Int64.toUInt64 63)).toBitVec = _
    rw [UInt64.toBitVec_shiftRight, sh_u e he]
    show x.toBitVec >>> (BitVec.ofNat 64 e) = _
    rw [BitVec.ushiftRight_eq']
    have : (BitVec.ofNat 64 e).toNat = e := by
      rw [BitVec.toNat_ofNat]
      omega
    rw [this]
  rw [hb]
  constructor
  · intro z w
    have := congrArg (fun b => b.getLsbD 0) z
    simp [w] at this
  · intro z
    apply BitVec.eq_of_getLsbD_eq
    intro i hi
    rw [BitVec.getLsbD_and, BitVec.getLsbD_ushiftRight]
    by_cases e0 : i = 0
    · subst e0
      simp [z]
    · have : (1 : Int64).toBitVec.getLsbD i = false := by
        show (1#64).getLsbD i = false
        simp [e0]
      rw [this]
      simp
theorem b_take (x : Int64) {e : Nat} (he : e < 63) (i : Nat) : bit (x ||| ((1 : Int64) <<< ((nI e).toInt64 &&& 63))) i ↔ bit x i ∨ i = e := by
  rw [bit_or]
  have : bit ((1 : Int64) <<< ((nI e).toInt64 &&& 63)) i ↔ i = e := by
    unfold bit
    rw [Int64.toBitVec_shiftLeft, sh_s e (by omega), BitVec.shiftLeft_eq']
    have : (BitVec.ofNat 64 e).toNat = e := by
      rw [BitVec.toNat_ofNat]
      omega
    rw [this, BitVec.getLsbD_shiftLeft]
    show (decide (i < 64) && !decide (i < e) && (1#64).getLsbD (i - e)) = true ↔ _
    rw [BitVec.getLsbD_one]
    simp
    omega
  rw [this]
end BI
