theorem iI_shl (a : Int) (c : Nat) (h : c < 32) : iI a <<< (iI (c : Int) &&& 31) = iI (a * 2 ^ c) := by
  rw [iI_msk (by omega) (by omega)]
  apply Int32.toBitVec_inj.mp
  rw [Int32.toBitVec_shiftLeft, iI_bv, iI_bv, iI_bv]
  have h1 : ∀ c : Nat, c < 32 → ((BitVec.ofInt 32 (c : Int)).smod 32).toNat = c := by decide +kernel
  have h2 : ∀ c : Nat, c < 32 → BitVec.twoPow 32 c = BitVec.ofInt 32 (2 ^ c) := by decide +kernel
  rw [BitVec.shiftLeft_eq', h1 c h, BitVec.shiftLeft_eq_mul_twoPow, h2 c h, ← BitVec.ofInt_mul]
theorem iI_shr {a : Int} (ha : InR a) (c : Nat) (h : c < 32) : iI a >>> (iI (c : Int) &&& 31) = iI (a / 2 ^ c) := by
  rw [iI_msk (by omega) (by omega)]
  have h1 : ∀ c : Nat, c < 32 → ((BitVec.ofInt 32 (c : Int)).smod 32).toNat = c := by decide +kernel
  have hp : (0 : Int) < 2 ^ c := Int.pow_pos (by decide)
  have hb : InR (a / 2 ^ c) := by
    have q1 : a / 2 ^ c * 2 ^ c ≤ a := Int.ediv_mul_le a (by omega)
    have q2 : a < (a / 2 ^ c + 1) * 2 ^ c := Int.lt_ediv_add_one_mul_self a hp
    constructor
    · apply Int.le_ediv_of_mul_le hp
      have : (1 : Int) ≤ 2 ^ c := hp
      have : (-2147483648 : Int) * 2 ^ c ≤ -2147483648 * 1 := Int.mul_le_mul_of_nonpos_left (by omega) (by omega)
      omega
    · apply Int.lt_add_one_iff.mp
      apply Int.ediv_lt_of_lt_mul hp
      have : (2147483648 : Int) * 1 ≤ 2147483648 * 2 ^ c := Int.mul_le_mul_of_nonneg_left (by omega) (by omega)
      omega
  rw [← Int32.toInt_inj, iI_toInt hb]
  show ((iI a) >>> (iI (c : Int))).toBitVec.toInt = _
  rw [Int32.toBitVec_shiftRight, BitVec.sshiftRight_eq', iI_bv, iI_bv, h1 c h, BitVec.toInt_sshiftRight, Int.shiftRight_eq_div_pow]
  have e : (BitVec.ofInt 32 a).toInt = a := iI_toInt ha
  rw [e]
  norm_cast
theorem iI_emod {a b : Int} (ha : 0 ≤ a ∧ a ≤ 2147483647) (hb : 0 < b ∧ b ≤ 2147483647) : iI a % iI b = iI (a % b) := by
  have hm : InR (a % b) := by
    have := Int.emod_nonneg a (b := b) (by omega)
    have := Int.emod_lt_of_pos a hb.1
    omega
  rw [← Int32.toInt_inj, Int32.toInt_mod, iI_toInt ⟨by omega, ha.2⟩, iI_toInt ⟨by omega, hb.2⟩, iI_toInt hm, Int.tmod_eq_emod_of_nonneg ha.1]
theorem iI_tmod {a b : Int} (ha : InR a) (hb : InR b) (h0 : ¬ b = 0) : ∃ z : Int, iI a % iI b = iI z ∧ InR z ∧ (0 < b → -b < z ∧ z < b) ∧ (0 ≤ a → 0 ≤ z) := by
  have key : (iI a % iI b).toInt = Int.tmod a b := by rw [Int32.toInt_mod, iI_toInt ha, iI_toInt hb]
  obtain ⟨z, e, r⟩ := iI_any (iI a % iI b)
  have hz : z = Int.tmod a b := by rw [← key, e, iI_toInt r]
  refine ⟨z, e, r, fun hp => ?_, fun hn => ?_⟩
  · have h1 := Int.tmod_lt_of_pos a hp
    have h2 := Int.lt_tmod_of_pos a hp
    omega
  · have := Int.tmod_nonneg b hn
    omega
theorem iI_ediv {a b : Int} (ha : 0 ≤ a ∧ a ≤ 2147483647) (hb : 0 < b ∧ b ≤ 2147483647) : iI a / iI b = iI (a / b) := by
  have h1 := Int.ediv_nonneg ha.1 (by omega : 0 ≤ b)
  have h2 := Int.ediv_le_self b ha.1
  have hm : InR (a / b) := by omega
  rw [← Int32.toInt_inj, Int32.toInt_div_of_ne_left _ _ (by
    intro e
    have := congrArg Int32.toInt e
    rw [iI_toInt ⟨by omega, ha.2⟩] at this
    have k : Int32.minValue.toInt = -2147483648 := by decide +kernel
    omega), iI_toInt ⟨by omega, ha.2⟩, iI_toInt ⟨by omega, hb.2⟩, iI_toInt hm, Int.tdiv_eq_ediv_of_nonneg ha.1]
theorem iI_i8 (a : Int) : ∃ z : Int, (iI a).toInt8.toInt32 = iI z ∧ -128 ≤ z ∧ z ≤ 127 := by
  refine ⟨(iI a).toInt8.toInt, ?_, ?_⟩
  · rw [← Int32.toInt_inj, Int8.toInt_toInt32]
    have h1 := Int8.le_toInt (iI a).toInt8
    have h2 := Int8.toInt_lt (iI a).toInt8
    rw [iI_toInt (by omega)]
  · have h1 := Int8.le_toInt (iI a).toInt8
    have h2 := Int8.toInt_lt (iI a).toInt8
    omega
theorem lI_i {a : Int} (ha : InR a) : (iI a).toInt64 = lI a := by
  rw [← Int64.toInt_inj, Int32.toInt_toInt64, iI_toInt ha, lI_toInt (by omega)]
theorem iI_l {a : Int} (ha : InR a) : (lI a).toInt32 = iI a := by
  apply Int32.toBitVec_inj.mp
  show (BitVec.ofInt 64 a).signExtend 32 = BitVec.ofInt 32 a
  rw [BitVec.signExtend_eq_setWidth_of_le _ (by decide)]
  apply BitVec.eq_of_toNat_eq
  rw [BitVec.toNat_setWidth, BitVec.toNat_ofInt, BitVec.toNat_ofInt]
  omega
theorem lI_and (a : Int) {c : Int} (h0 : 0 ≤ c) (h1 : c ≤ 9223372036854775807) : ∃ z : Int, lI a &&& lI c = lI z ∧ 0 ≤ z ∧ z ≤ c := by
  refine ⟨(((BitVec.ofInt 64 a) &&& (BitVec.ofInt 64 c)).toNat : Int), ?_, by omega, ?_⟩
  · apply Int64.toBitVec_inj.mp
    show (BitVec.ofInt 64 a) &&& (BitVec.ofInt 64 c) = BitVec.ofInt 64 _
    rw [BitVec.ofInt_natCast]
    apply BitVec.eq_of_toNat_eq
    rw [BitVec.toNat_ofNat]
    have := ((BitVec.ofInt 64 a) &&& (BitVec.ofInt 64 c)).isLt
    omega
  · rw [BitVec.toNat_and]
    have e : (BitVec.ofInt 64 c).toNat = c.toNat := by rw [BitVec.toNat_ofInt]; omega
    rw [e]
    have := Nat.and_le_right (n := (BitVec.ofInt 64 a).toNat) (m := c.toNat)
    omega
