section VX3
variable {p : Program} {l : Launch} {e : Env} {R : Room} {s : State} {m : MethodId} {args : Array Value} {below : List Frame} {meth : Method} {c : Code} {cc : ByteArray} {nL : Nat} {own : String} {Ts : List Cond} {D : va_G} {tys : List (ClassId × FieldType)} {A : Nat → Prop} {Q : State → Prop} {cs : Nat × Nat} {w : va_W} {lv : List (Nat × Value)} {pc : Nat} {st : List Value}
theorem v_tableIn (B : Bx p s m args c cc nL own Ts D tys A) {dflt lo hi : Int} {offs : Array Int} {len : Nat} {x : Int32} {off : Int} {tgt : Nat} (hd : decode cc pc = .ok (.tableswitch dflt lo hi offs, len)) (h1 : ¬ x.toInt < lo) (h2 : ¬ hi < x.toInt) (ho : offs[(x.toInt - lo).toNat]? = some off) (ht : (pc : Int) + off = (tgt : Int)) (kk : V p l e R s m args below meth c nL D A Q cs w lv tgt st) : V p l e R s m args below meth c nL D A Q cs w lv pc (.int x :: st) := fun H locs ls hP hD hS hl => lv_tableIn B.1 B.2.1 hd h1 h2 ho ht (kk H locs ls hP hD hS hl)
theorem v_tableOut (B : Bx p s m args c cc nL own Ts D tys A) {dflt lo hi : Int} {offs : Array Int} {len : Nat} {x : Int32} {tgt : Nat} (hd : decode cc pc = .ok (.tableswitch dflt lo hi offs, len)) (h : x.toInt < lo ∨ hi < x.toInt) (ht : (pc : Int) + dflt = (tgt : Int)) (kk : V p l e R s m args below meth c nL D A Q cs w lv tgt st) : V p l e R s m args below meth c nL D A Q cs w lv pc (.int x :: st) := fun H locs ls hP hD hS hl => lv_tableOut B.1 B.2.1 hd h ht (kk H locs ls hP hD hS hl)
end VX3
theorem rg_lt {w a b : Int32} (h : w < a) (hab : a.toInt ≤ b.toInt) : w < b := by
  rw [Int32.lt_iff_toInt_lt] at *
  omega
theorem rg_le {w a b : Int32} (h : w < a) (hab : a.toInt ≤ b.toInt + 1) : w ≤ b := by
  rw [Int32.lt_iff_toInt_lt] at h
  rw [Int32.le_iff_toInt_le]
  omega
theorem rg_ge {w a b : Int32} (h : a ≤ w) (hab : b.toInt ≤ a.toInt) : b ≤ w := by
  rw [Int32.le_iff_toInt_le] at *
  omega
theorem rg_gt {w a b : Int32} (h : a ≤ w) (hab : b.toInt < a.toInt) : b < w := by
  rw [Int32.le_iff_toInt_le] at h
  rw [Int32.lt_iff_toInt_lt]
  omega
theorem rg_nlt {w a b : Int32} (h : a ≤ w) (hab : b.toInt ≤ a.toInt) : ¬ w < b := Int32.not_lt.mpr (rg_ge h hab)
theorem rg_nle {w a b : Int32} (h : a ≤ w) (hab : b.toInt < a.toInt) : ¬ w ≤ b := Int32.not_le.mpr (rg_gt h hab)
theorem rg_nge {w a b : Int32} (h : w < a) (hab : a.toInt ≤ b.toInt) : ¬ b ≤ w := Int32.not_le.mpr (rg_lt h hab)
theorem rg_ngt {w a b : Int32} (h : w < a) (hab : a.toInt ≤ b.toInt + 1) : ¬ b < w := Int32.not_lt.mpr (rg_le h hab)
theorem rg_ne1 {w a b : Int32} (h : w < a) (hab : a.toInt ≤ b.toInt) : ¬ w = b := fun e => by
  subst e
  rw [Int32.lt_iff_toInt_lt] at h
  omega
theorem rg_ne2 {w a b : Int32} (h : a ≤ w) (hab : b.toInt < a.toInt) : ¬ w = b := fun e => by
  subst e
  rw [Int32.le_iff_toInt_le] at h
  omega
theorem rg_o1 {w a : Int32} {lo hi : Int} (h : w < a) (hab : a.toInt ≤ lo) : w.toInt < lo ∨ hi < w.toInt := by
  rw [Int32.lt_iff_toInt_lt] at h
  omega
theorem rg_o2 {w a : Int32} {lo hi : Int} (h : a ≤ w) (hab : hi < a.toInt) : w.toInt < lo ∨ hi < w.toInt := by
  rw [Int32.le_iff_toInt_le] at h
  omega
