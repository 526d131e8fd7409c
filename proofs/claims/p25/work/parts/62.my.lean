theorem lcmp_z {a b : Int} (ha : InL a) (hb : InL b) : ∃ z : Int, lg_cmp (lI a) (lI b) = iI z ∧ (-1 ≤ z ∧ z ≤ 1) ∧ (z = 0 ↔ a = b) := by
  by_cases h : a = b
  · subst h
    refine ⟨0, ?_, by omega, by omega⟩
    unfold lg_cmp
    rw [if_neg (fun q => absurd (Int64.lt_iff_toInt_lt.mp q) (by omega)), if_pos rfl]
    rfl
  · have hn : ¬ lI a = lI b := fun e => h (by have := congrArg Int64.toInt e; rwa [lI_toInt ha, lI_toInt hb] at this)
    by_cases g : lI a > lI b
    · refine ⟨1, ?_, by omega, by omega⟩
      unfold lg_cmp
      rw [if_pos g]
      rfl
    · refine ⟨-1, ?_, by omega, by omega⟩
      unfold lg_cmp
      rw [if_neg g, if_neg hn]
      decide
def bitA (v : Int64) (b : Int) : Prop := (v >>> lI b) &&& lI 1 = lI 1
theorem sh64 {c : Int} (hc : 0 ≤ c ∧ c ≤ 2147483647) : (iI c).toInt64 &&& 63 = lI (c % 64) := by
  rw [lI_i (by omega)]
  apply Int64.toBitVec_inj.mp
  show (BitVec.ofInt 64 c) &&& 63#64 = BitVec.ofInt 64 (c % 64)
  have e1 : BitVec.ofInt 64 c = BitVec.ofNat 64 c.toNat := by
    apply BitVec.eq_of_toNat_eq
    rw [BitVec.toNat_ofInt, BitVec.toNat_ofNat]
    omega
  have e2 : BitVec.ofInt 64 (c % 64) = BitVec.ofNat 64 (c.toNat % 64) := by
    apply BitVec.eq_of_toNat_eq
    rw [BitVec.toNat_ofInt, BitVec.toNat_ofNat]
    omega
  rw [e1, e2]
  apply BitVec.eq_of_toNat_eq
  rw [BitVec.toNat_and, BitVec.toNat_ofNat, BitVec.toNat_ofNat, BitVec.toNat_ofNat]
  have h1 : c.toNat % 2 ^ 64 = c.toNat := by omega
  have h2 : c.toNat % 64 % 2 ^ 64 = c.toNat % 64 := by omega
  rw [h1, h2]
  show c.toNat &&& (2 ^ 6 - 1) = c.toNat % 2 ^ 6
  exact Nat.and_two_pow_sub_one_eq_mod c.toNat 6
theorem lI_one {z : Int} (h : lI z = lI 1) (r : 0 ≤ z ∧ z ≤ 1) : z = 1 := by
  have := congrArg Int64.toInt h
  rwa [lI_toInt (by omega), lI_toInt (by omega)] at this
theorem hop_bit {y c b z1 z2 : Int} (hc : 0 ≤ c ∧ c ≤ 2147483647) (hb : bitA (lI y) b) (e1 : lI y >>> ((iI c).toInt64 &&& 63) = lI z1) (e2 : lI z1 &&& lI 1 = lI z2) (r2 : 0 ≤ z2 ∧ z2 ≤ 1) (hcb : c % 64 = b) : z2 = 1 := by
  rw [sh64 hc, hcb] at e1
  unfold bitA at hb
  rw [e1, e2] at hb
  exact lI_one hb r2
theorem hb_bit {v : Int64} (h : hb v) : ∃ b : Int, (0 ≤ b ∧ b ≤ 63) ∧ bitA v b := by
  apply Classical.byContradiction
  intro hn
  have hz : v = 0 := by
    apply Int64.toBitVec_inj.mp
    apply BitVec.eq_of_getLsbD_eq
    intro i hi
    show v.toBitVec.getLsbD i = (0#64).getLsbD i
    rw [BitVec.getLsbD_zero]
    cases hv : v.toBitVec.getLsbD i with
    | false => rfl
    | true =>
      exfalso
      apply hn
      refine ⟨(i : Int), by omega, ?_⟩
      unfold bitA
      apply Int64.toBitVec_inj.mp
      rw [Int64.toBitVec_and, Int64.toBitVec_shiftRight]
      have h1 : ∀ c : Nat, c < 64 → ((BitVec.ofInt 64 (c : Int)).smod 64).toNat = c := by decide +kernel
      show (v.toBitVec.sshiftRight' ((BitVec.ofInt 64 (i : Int)).smod 64)) &&& 1#64 = 1#64
      rw [BitVec.sshiftRight_eq', h1 i hi]
      apply BitVec.eq_of_getLsbD_eq
      intro j hj
      rw [BitVec.getLsbD_and, BitVec.getLsbD_sshiftRight, BitVec.getLsbD_one]
      by_cases e : j = 0
      · subst e
        simp [hv, hi]
      · simp [e]
  subst hz
  exact absurd h (by unfold hb; decide +kernel)
def AtH (σ : Nat → va_E) (a i : Nat) : Prop := ∀ (k : ClassId) (N : Nat) (f : Nat → Int64), σ a = .inl (k, N, .inr (.inl f)) → hb (f i)
theorem AtH.mk {σ : Nat → va_E} {a i : Nat} {k : ClassId} {N : Nat} {f : Nat → Int64} (e : σ a = .inl (k, N, .inr (.inl f))) (h : hb (f i)) : AtH σ a i := fun _ _ f' e' => by
  obtain rfl := arrL_inj (e.symm.trans e')
  exact h
def AtB (σ : Nat → va_E) (a i : Nat) (b : Int) : Prop := ∀ (k : ClassId) (N : Nat) (f : Nat → Int64), σ a = .inl (k, N, .inr (.inl f)) → bitA (f i) b
theorem AtB.mk {σ : Nat → va_E} {a i : Nat} {b : Int} {k : ClassId} {N : Nat} {f : Nat → Int64} (e : σ a = .inl (k, N, .inr (.inl f))) (h : bitA (f i) b) : AtB σ a i b := fun _ _ f' e' => by
  obtain rfl := arrL_inj (e.symm.trans e')
  exact h
