def iI (z : Int) : Int32 := Int32.ofInt z
def lI (z : Int) : Int64 := Int64.ofInt z
abbrev InR (z : Int) : Prop := -2147483648 ≤ z ∧ z ≤ 2147483647
abbrev InL (z : Int) : Prop := -9223372036854775808 ≤ z ∧ z ≤ 9223372036854775807
theorem iI_toInt {z : Int} (h : InR z) : (iI z).toInt = z := Int32.toInt_ofInt_of_le (by omega) (by omega)
theorem lI_toInt {z : Int} (h : InL z) : (lI z).toInt = z := Int64.toInt_ofInt_of_le (by omega) (by omega)
theorem iI_any (x : Int32) : ∃ z : Int, x = iI z ∧ InR z := ⟨x.toInt, (Int32.ofInt_toInt x).symm, by have := Int32.le_toInt x; have := Int32.toInt_lt x; omega⟩
theorem lI_any (x : Int64) : ∃ z : Int, x = lI z ∧ InL z := ⟨x.toInt, (Int64.ofInt_toInt x).symm, by have := Int64.le_toInt x; have := Int64.toInt_lt x; omega⟩
theorem iI_add (a b : Int) : iI a + iI b = iI (a + b) := (Int32.ofInt_add a b).symm
theorem iI_mul (a b : Int) : iI a * iI b = iI (a * b) := (Int32.ofInt_mul a b).symm
theorem iI_sub (a b : Int) : iI a - iI b = iI (a - b) := (Int32.ofInt_sub a b).symm
theorem iI_lt {a b : Int} (ha : InR a) (hb : InR b) : iI a < iI b ↔ a < b := by rw [Int32.lt_iff_toInt_lt, iI_toInt ha, iI_toInt hb]
theorem iI_le {a b : Int} (ha : InR a) (hb : InR b) : iI a ≤ iI b ↔ a ≤ b := by rw [Int32.le_iff_toInt_le, iI_toInt ha, iI_toInt hb]
theorem iI_eq {a b : Int} (ha : InR a) (hb : InR b) : iI a = iI b ↔ a = b := by rw [← Int32.toInt_inj, iI_toInt ha, iI_toInt hb]
theorem iI_nat {a : Int} (h0 : 0 ≤ a) (h : a ≤ 2147483647) : (iI a).toNatClampNeg = a.toNat := by
  show (iI a).toInt.toNat = a.toNat
  rw [iI_toInt ⟨by omega, h⟩]
theorem iI_ofNat (n : Nat) : Int32.ofNat n = iI (n : Int) := (Int32.ofInt_eq_ofNat).symm
theorem vp_iI {a : Int} {n : Nat} (h0 : 0 ≤ a) (h1 : a < n) (h2 : a ≤ 2147483647) : vp_in (iI a) n := by
  intro h
  rcases h with h | h
  · rw [Int32.lt_iff_toInt_lt, iI_toInt ⟨by omega, h2⟩] at h
    have e : (0 : Int32).toInt = 0 := by decide +kernel
    omega
  · rw [iI_nat h0 h2] at h
    omega
theorem iI_bv (z : Int) : (iI z).toBitVec = BitVec.ofInt 32 z := rfl
theorem bv_nat {z : Int} (h0 : 0 ≤ z) (h1 : z ≤ 2147483647) : (BitVec.ofInt 32 z).toNat = z.toNat := by
  rw [BitVec.toNat_ofInt]
  omega
theorem iI_of_bv {x : BitVec 32} {n : Nat} (h : x.toNat = n) : (⟨⟨x⟩⟩ : Int32) = iI (n : Int) := by
  apply Int32.toBitVec_inj.mp
  show x = BitVec.ofInt 32 (n : Int)
  rw [BitVec.ofInt_natCast]
  apply BitVec.eq_of_toNat_eq
  rw [BitVec.toNat_ofNat, h]
  have := x.isLt
  omega
theorem iI_and (a : Int) {c : Int} (h0 : 0 ≤ c) (h1 : c ≤ 2147483647) : ∃ z : Int, iI a &&& iI c = iI z ∧ 0 ≤ z ∧ z ≤ c := by
  refine ⟨(((BitVec.ofInt 32 a) &&& (BitVec.ofInt 32 c)).toNat : Int), iI_of_bv rfl, by omega, ?_⟩
  rw [BitVec.toNat_and, bv_nat h0 h1]
  have := Nat.and_le_right (n := (BitVec.ofInt 32 a).toNat) (m := c.toNat)
  omega
theorem iI_and' (a : Int) {c : Int} (h0 : 0 ≤ c) (h1 : c ≤ 2147483647) : ∃ z : Int, iI c &&& iI a = iI z ∧ 0 ≤ z ∧ z ≤ c := by
  obtain ⟨z, e, h⟩ := iI_and a h0 h1
  exact ⟨z, by rw [Int32.and_comm]; exact e, h⟩
theorem iI_or {a b : Int} (k : Nat) (hk : k ≤ 31) (ha : 0 ≤ a ∧ a < 2 ^ k) (hb : 0 ≤ b ∧ b < 2 ^ k) : ∃ z : Int, iI a ||| iI b = iI z ∧ 0 ≤ z ∧ z < 2 ^ k := by
  have hp : (2 : Nat) ^ k ≤ 2 ^ 31 := Nat.pow_le_pow_right (by decide) hk
  have hc : ((2 ^ k : Nat) : Int) = (2 : Int) ^ k := by simp
  refine ⟨(((BitVec.ofInt 32 a) ||| (BitVec.ofInt 32 b)).toNat : Int), iI_of_bv rfl, by omega, ?_⟩
  rw [BitVec.toNat_or, bv_nat ha.1 (by omega), bv_nat hb.1 (by omega)]
  have := Nat.or_lt_two_pow (n := k) (x := a.toNat) (y := b.toNat) (by omega) (by omega)
  omega
theorem iI_xor {a b : Int} (k : Nat) (hk : k ≤ 31) (ha : 0 ≤ a ∧ a < 2 ^ k) (hb : 0 ≤ b ∧ b < 2 ^ k) : ∃ z : Int, iI a ^^^ iI b = iI z ∧ 0 ≤ z ∧ z < 2 ^ k := by
  have hp : (2 : Nat) ^ k ≤ 2 ^ 31 := Nat.pow_le_pow_right (by decide) hk
  have hc : ((2 ^ k : Nat) : Int) = (2 : Int) ^ k := by simp
  refine ⟨(((BitVec.ofInt 32 a) ^^^ (BitVec.ofInt 32 b)).toNat : Int), iI_of_bv rfl, by omega, ?_⟩
  rw [BitVec.toNat_xor, bv_nat ha.1 (by omega), bv_nat hb.1 (by omega)]
  have := Nat.xor_lt_two_pow (n := k) (x := a.toNat) (y := b.toNat) (by omega) (by omega)
  omega
theorem iI_msk {c : Int} (h0 : 0 ≤ c) (h1 : c ≤ 31) : iI c &&& 31 = iI c := by
  have h : ∀ n : Nat, n < 32 → iI (n : Int) &&& 31 = iI (n : Int) := by decide +kernel
  have := h c.toNat (by omega)
  rwa [show ((c.toNat : Nat) : Int) = c by omega] at this
