theorem u_ci {own : String} {i : Nat} {v : Int32} {z : Int} {Ts : List Cond} (h : Cond.constant own i v ∈ Ts) (e : v = iI z) : Cond.constant own i (iI z) ∈ Ts := e ▸ h
theorem u_cl {own : String} {i : Nat} {v : Int64} {z : Int} {Ts : List Cond} (h : Cond.constantLong own i v ∈ Ts) (e : v = lI z) : Cond.constantLong own i (lI z) ∈ Ts := e ▸ h
theorem iI_max {a b : Int} (ha : InR a) (hb : InR b) : ∃ z : Int, (if iI a < iI b then iI b else iI a) = iI z ∧ (a < b ∧ z = b ∨ b ≤ a ∧ z = a) := by
  by_cases h : a < b
  · exact ⟨b, if_pos ((iI_lt ha hb).mpr h), Or.inl ⟨h, rfl⟩⟩
  · exact ⟨a, if_neg (fun q => h ((iI_lt ha hb).mp q)), Or.inr ⟨by omega, rfl⟩⟩
theorem iI_min {a b : Int} (ha : InR a) (hb : InR b) : ∃ z : Int, (if iI b < iI a then iI b else iI a) = iI z ∧ (b < a ∧ z = b ∨ a ≤ b ∧ z = a) := by
  by_cases h : b < a
  · exact ⟨b, if_pos ((iI_lt hb ha).mpr h), Or.inl ⟨h, rfl⟩⟩
  · exact ⟨a, if_neg (fun q => h ((iI_lt hb ha).mp q)), Or.inr ⟨by omega, rfl⟩⟩
theorem iI_rem {a b : Int} (ha : 0 ≤ a ∧ a ≤ 2147483647) (hb : 0 < b ∧ b ≤ 2147483647) : iI a - iI a / iI b * iI b = iI (a % b) := by
  rw [iI_ediv ha hb, iI_mul, iI_sub, Int.emod_def, Int.mul_comm b]
theorem iI_tdiv {a b : Int} (ha : InR a) (hb : 0 < b ∧ b ≤ 2147483647) : iI a / iI b = iI (a.tdiv b) := by
  have hn : ¬ iI b = -1 := by
    intro e
    have := congrArg Int32.toInt e
    rw [iI_toInt ⟨by omega, hb.2⟩] at this
    have k : (-1 : Int32).toInt = -1 := by decide +kernel
    omega
  have q : (iI a / iI b).toInt = a.tdiv b := by rw [Int32.toInt_div_of_ne_right _ _ hn, iI_toInt ha, iI_toInt ⟨by omega, hb.2⟩]
  obtain ⟨z, e, r⟩ := iI_any (iI a / iI b)
  rw [e, iI_toInt r] at q
  rw [e, q]
theorem iI_remt {a b : Int} (ha : InR a) (hb : 0 < b ∧ b ≤ 2147483647) : ∃ z : Int, iI a - iI a / iI b * iI b = iI z ∧ (-b < z ∧ z < b) ∧ (0 ≤ a → 0 ≤ z) := by
  refine ⟨a.tmod b, ?_, ⟨?_, ?_⟩, fun h => Int.tmod_nonneg b h⟩
  · rw [iI_tdiv ha hb, iI_mul, iI_sub, Int.tmod_def, Int.mul_comm b]
  · exact Int.lt_tmod_of_pos a hb.1
  · exact Int.tmod_lt_of_pos a hb.1
section VR
variable {p : Program} {l : Launch} {e : Env} {R : Room} {s : State} {m : MethodId} {args : Array Value} {below : List Frame} {meth : Method} {c : Code} {cc : ByteArray} {nL : Nat} {own : String} {Ts : List Cond} {D : va_G} {tys : List (ClassId × FieldType)} {A : Nat → Prop} {Q : State → Prop} {cs : Nat × Nat} {w : va_W} {lv : List (Nat × Value)} {pc : Nat} {st : List Value}
theorem v_irem (B : Bx p s m args c cc nL own Ts D tys A) {x y v : Int32} (hd : decode cc pc = .ok (.irem, 1)) (hne : ¬ y = 0) (hv : x - x / y * y = v) (kk : V p l e R s m args below meth c nL D A Q cs w lv (pc + 1) (.int v :: st)) : V p l e R s m args below meth c nL D A Q cs w lv pc (.int y :: .int x :: st) := fun H locs ls hP hD hS hl => (by subst hv; exact lv_irem B.1 B.2.1 hd hne (kk H locs ls hP hD hS hl))
theorem v_idiv (B : Bx p s m args c cc nL own Ts D tys A) {x y v : Int32} (hd : decode cc pc = .ok (.idiv, 1)) (hne : ¬ y = 0) (hv : x / y = v) (kk : V p l e R s m args below meth c nL D A Q cs w lv (pc + 1) (.int v :: st)) : V p l e R s m args below meth c nL D A Q cs w lv pc (.int y :: .int x :: st) := fun H locs ls hP hD hS hl => (by subst hv; exact lv_idiv B.1 B.2.1 hd hne (kk H locs ls hP hD hS hl))
theorem u_tsw (B : Bx p s m args c cc nL own Ts D tys A) {dflt lo hi : Int} {offs : Array Int} {len : Nat} {z : Int} {tgtd : Nat} (ha : InR z) (hd : decode cc pc = .ok (.tableswitch dflt lo hi offs, len)) (ht : (pc : Int) + dflt = (tgtd : Int)) (k1 : ∀ (i : Nat) (off : Int) (tgt : Nat), offs[i]? = some off → z = lo + i → (pc : Int) + off = (tgt : Int) → V p l e R s m args below meth c nL D A Q cs w lv tgt st) (k2 : (z < lo ∨ hi < z ∨ offs[(z - lo).toNat]? = none ∨ ∃ off : Int, offs[(z - lo).toNat]? = some off ∧ (pc : Int) + off < 0) → V p l e R s m args below meth c nL D A Q cs w lv tgtd st) (hok : ∀ (i : Nat) (off : Int), offs[i]? = some off → 0 ≤ (pc : Int) + off) (hsz : hi - lo < offs.size) : V p l e R s m args below meth c nL D A Q cs w lv pc (.int (iI z) :: st) := by
  by_cases h1 : z < lo
  · exact v_tableOut B hd (by rw [iI_toInt ha]; exact Or.inl h1) ht (k2 (Or.inl h1))
  · by_cases h2 : hi < z
    · exact v_tableOut B hd (by rw [iI_toInt ha]; exact Or.inr h2) ht (k2 (Or.inr (Or.inl h2)))
    · have h3 : (z - lo).toNat < offs.size := by omega
      obtain ⟨off, ho⟩ : ∃ off, offs[(z - lo).toNat]? = some off := ⟨_, Array.getElem?_eq_getElem h3⟩
      have h4 := hok _ _ ho
      exact v_tableIn B (off := off) (tgt := ((pc : Int) + off).toNat) hd (by rw [iI_toInt ha]; exact h1) (by rw [iI_toInt ha]; exact h2) (by rw [iI_toInt ha]; exact ho) (by omega) (k1 _ off _ ho (by omega) (by omega))
theorem v_mmin (B : Bx p s m args c cc nL own Ts D tys A) {index : Nat} {x y v : Int32} (h1 : Cond.methodLink own index Lib.Math.min.name ∈ Ts) (h2 : Cond.static Lib.Math.min.name ∈ Ts) (h3 : Cond.initialized "java/lang/Math" ∈ Ts) (h4 : Cond.code Lib.Math.min.name Lib.Math.min.code 2 (some .int) ∈ Ts) (hf : 1 ≤ R.frames) (hlo : (st.map fun v => v.category).sum + 13 ≤ R.locals) (hc : cs.1 ≤ R.cells) (hs : cs.2 ≤ R.slots) (hv : (if y < x then y else x) = v) (hd : decode cc pc = .ok (.invokestatic index, 3)) (kk : V p l e R s m args below meth c nL D A Q cs w lv (pc + 3) (.int v :: st)) : V p l e R s m args below meth c nL D A Q cs w lv pc (.int y :: .int x :: st) := fun H locs ls hP hD hS hl => (by subst hv; exact va_mmin B.1 B.2.1 (by rw [B.2.2.1]; exact hl.1.symm) B.2.2.2.1 (B.2.2.2.2.1 _ h1) (B.2.2.2.2.1 _ h2) (B.2.2.2.2.1 _ h3) (B.2.2.2.2.1 _ h4) hf hlo hc hs hd (kk H locs ls hP hD hS hl))
theorem u_lookup (B : Bx p s m args c cc nL own Ts D tys A) {dflt : Int} {ps : Array (Int × Int)} {len : Nat} {z off : Int} {tgt : Nat} (ha : InR z) (hd : decode cc pc = .ok (.lookupswitch dflt ps, len)) (hp : (ps.toList.zip (ps.toList.drop 1)).all (fun (a, next) => a.1 < next.1) = true) (ho : Op.lookupswitch.offset ps.toList dflt z = off) (ht : (pc : Int) + off = (tgt : Int)) (kk : V p l e R s m args below meth c nL D A Q cs w lv tgt st) : V p l e R s m args below meth c nL D A Q cs w lv pc (.int (iI z) :: st) := fun H locs ls hP hD hS hl => lv_lookup B.1 B.2.1 hd hp (by rw [iI_toInt ha]; exact ho) ht (kk H locs ls hP hD hS hl)
variable {b L : Nat} {xs : Nat → Int32} {sa : Nat → Nat}
theorem u_gets3 (B : Bx p s m args c cc nL own Ts D tys A) (hz : ZL b L xs sa A s s.heap) {index : Nat} (hlk : Cond.fieldLink own index "LowEnergy$Cipher" "SBOX" "[I" ∈ Ts) (hd : decode cc pc = .ok (.getstatic index, 3)) (kk : V p l e R s m args below meth c nL D A Q cs w lv (pc + 3) (.ref (sa 3) :: st)) : V p l e R s m args below meth c nL D A Q cs w lv pc st := fun H locs ls hP hD hS hl => va_gets B.1 B.2.1 hz.2.2.2.2.2.2.2.1 hS B.2.2.2.1 (B.2.2.2.2.1 _ hlk) (fun _ h => h) hd (kk H locs ls hP hD hS hl)
theorem u_sbox (B : Bx p s m args c cc nL own Ts D tys A) (hz : ZL b L xs sa A s s.heap) {i : Int} (hi : 0 ≤ i ∧ i ≤ 255) (hd : decode cc pc = .ok (.iaload, 1)) (kk : ∀ z : Int, (0 ≤ z ∧ z ≤ 255) → V p l e R s m args below meth c nL D A Q cs w lv (pc + 1) (.int (iI z) :: st)) : V p l e R s m args below meth c nL D A Q cs w lv pc (.int (iI i) :: .ref (sa 3) :: st) := fun H locs ls hP hD hS hl => (by obtain ⟨f, hT, hf⟩ := hz.2.2.2.2.2.2.2.2.1; exact va_ti B.1 B.2.1 hT hS (vp_iI hi.1 (by omega) (by omega)) rfl hd (kk _ (hf _) H locs ls hP hD hS hl))
theorem u_gets4 (B : Bx p s m args c cc nL own Ts D tys A) (hz : ZL b L xs sa A s s.heap) {index : Nat} (hlk : Cond.fieldLink own index "LowEnergyModel" "FIRST_ACCESS" "[B" ∈ Ts) (hd : decode cc pc = .ok (.getstatic index, 3)) (kk : V p l e R s m args below meth c nL D A Q cs w lv (pc + 3) (.ref (sa 4) :: st)) : V p l e R s m args below meth c nL D A Q cs w lv pc st := fun H locs ls hP hD hS hl => va_gets B.1 B.2.1 hz.2.2.2.2.2.2.2.2.2.1 hS B.2.2.2.1 (B.2.2.2.2.1 _ hlk) (fun _ h => h) hd (kk H locs ls hP hD hS hl)
theorem u_facc (B : Bx p s m args c cc nL own Ts D tys A) (hz : ZL b L xs sa A s s.heap) {i : Int} (hi : 0 ≤ i ∧ i ≤ 3) (hd : decode cc pc = .ok (.baload, 1)) (kk : ∀ z : Int, (-128 ≤ z ∧ z ≤ 127) → V p l e R s m args below meth c nL D A Q cs w lv (pc + 1) (.int (iI z) :: st)) : V p l e R s m args below meth c nL D A Q cs w lv pc (.int (iI i) :: .ref (sa 4) :: st) := fun H locs ls hP hD hS hl => (by obtain ⟨f, hT, hf⟩ := hz.2.2.2.2.2.2.2.2.2.2; exact va_tb B.1 B.2.1 hT hS (vp_iI hi.1 (by omega) (by omega)) rfl hd (kk _ (hf _) H locs ls hP hD hS hl))
end VR
theorem iI_shlv {a c A : Int} (k : Nat) (hk : k < 32) (ha : 0 ≤ a ∧ a ≤ A) (hc : 0 ≤ c ∧ c ≤ k) : ∃ z : Int, iI a <<< (iI c &&& 31) = iI z ∧ 0 ≤ z ∧ z ≤ A * 2 ^ k := by
  refine ⟨a * 2 ^ c.toNat, ?_, ?_, ?_⟩
  · have h := iI_shl a c.toNat (by omega)
    rwa [show ((c.toNat : Nat) : Int) = c by omega] at h
  · exact Int.mul_nonneg ha.1 (Int.le_of_lt (Int.pow_pos (by decide)))
  · have h1 : (2 : Int) ^ c.toNat ≤ 2 ^ k := by
      have : (2 : Nat) ^ c.toNat ≤ 2 ^ k := Nat.pow_le_pow_right (by decide) (by omega)
      exact_mod_cast this
    have h2 : a * 2 ^ c.toNat ≤ A * 2 ^ c.toNat := Int.mul_le_mul_of_nonneg_right ha.2 (Int.le_of_lt (Int.pow_pos (by decide)))
    have h3 : A * 2 ^ c.toNat ≤ A * 2 ^ k := Int.mul_le_mul_of_nonneg_left h1 (by omega)
    omega
theorem iI_xt {c z : Int} (hc : 0 ≤ c ∧ c ≤ 255) (hz : z = c / 128) : ∃ w : Int, iI (2 * c) ^^^ iI (283 * z) = iI w ∧ 0 ≤ w ∧ w ≤ 255 := by
  have h : ∀ n : Nat, n < 256 → ((iI (2 * (n : Int)) ^^^ iI (283 * ((n : Int) / 128))).toInt ≤ 255 ∧ 0 ≤ (iI (2 * (n : Int)) ^^^ iI (283 * ((n : Int) / 128))).toInt) := by decide +kernel
  have h1 := h c.toNat (by omega)
  rw [show ((c.toNat : Nat) : Int) = c by omega, ← hz] at h1
  obtain ⟨w, e, r⟩ := iI_any (iI (2 * c) ^^^ iI (283 * z))
  rw [e, iI_toInt r] at h1
  exact ⟨w, e, h1.2, h1.1⟩
