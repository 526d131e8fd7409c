section VX2
variable {p : Program} {l : Launch} {e : Env} {R : Room} {s : State} {m : MethodId} {args : Array Value} {below : List Frame} {meth : Method} {c : Code} {cc : ByteArray} {nL : Nat} {own : String} {Ts : List Cond} {D : va_G} {tys : List (ClassId × FieldType)} {A : Nat → Prop} {Q : State → Prop} {cs : Nat × Nat} {w : va_W} {lv : List (Nat × Value)} {pc : Nat} {st : List Value}
theorem v_lcmp (B : Bx p s m args c cc nL own Ts D tys A) {x y : Int64} {v : Int32} (hd : decode cc pc = .ok (.lcmp, 1)) (hv : lg_cmp x y = v) (kk : V p l e R s m args below meth c nL D A Q cs w lv (pc + 1) (.int v :: st)) : V p l e R s m args below meth c nL D A Q cs w lv pc (.long y :: .long x :: st) := fun H locs ls hP hD hS hl => (by subst hv; exact W.lcmp B.1 B.2.1 hd (kk H locs ls hP hD hS hl))
theorem v_aload_nN (B : Bx p s m args c cc nL own Ts D tys A) {k : Fin 4} {i : Nat} (hd : decode cc pc = .ok (.aload_n k, 1)) (hi : (k : Nat) = i) (hg : lvg lv i = some .null) (kk : V p l e R s m args below meth c nL D A Q cs w lv (pc + 1) (.null :: st)) : V p l e R s m args below meth c nL D A Q cs w lv pc st := fun H locs ls hP hD hS hl => lv_aload_nN B.1 B.2.1 hd hi (lv_g hl hg) (kk H locs ls hP hD hS hl)
theorem v_aloadN (B : Bx p s m args c cc nL own Ts D tys A) {i : Nat} (hd : decode cc pc = .ok (.aload i, 2)) (hg : lvg lv i = some .null) (kk : V p l e R s m args below meth c nL D A Q cs w lv (pc + 2) (.null :: st)) : V p l e R s m args below meth c nL D A Q cs w lv pc st := fun H locs ls hP hD hS hl => lv_aloadN B.1 B.2.1 hd (lv_g hl hg) (kk H locs ls hP hD hS hl)
theorem v_astore_nN (B : Bx p s m args c cc nL own Ts D tys A) {k : Fin 4} {i : Nat} {lv' : List (Nat × Value)} (hd : decode cc pc = .ok (.astore_n k, 1)) (hi : (k : Nat) = i) (hn : i < nL) (hlv : (i, Value.null) :: lv.filter (fun q => !(q.1 == i) && !(q.1 + 1 == i && q.2.category == 2)) = lv') (kk : V p l e R s m args below meth c nL D A Q cs w lv' (pc + 1) st) : V p l e R s m args below meth c nL D A Q cs w lv pc (.null :: st) := fun H locs ls hP hD hS hl => lv_astore_nN B.1 B.2.1 hd hi hl hn hlv (fun ls hl => kk H locs ls hP hD hS hl)
theorem v_astoreN (B : Bx p s m args c cc nL own Ts D tys A) {i : Nat} {lv' : List (Nat × Value)} (hd : decode cc pc = .ok (.astore i, 2)) (hn : i < nL) (hlv : (i, Value.null) :: lv.filter (fun q => !(q.1 == i) && !(q.1 + 1 == i && q.2.category == 2)) = lv') (kk : V p l e R s m args below meth c nL D A Q cs w lv' (pc + 2) st) : V p l e R s m args below meth c nL D A Q cs w lv pc (.null :: st) := fun H locs ls hP hD hS hl => lv_astoreN B.1 B.2.1 hd hl hn hlv (fun ls hl => kk H locs ls hP hD hS hl)
theorem i_pos1 {n : Int32} (h : ¬ n < 1) : 0 < n := by
  rw [Int32.lt_iff_toInt_lt] at h ⊢
  have e1 : (1 : Int32).toInt = 1 := by decide +kernel
  have e0 : (0 : Int32).toInt = 0 := by decide +kernel
  omega
theorem i_ge2 {d : Int32} (h0 : ¬ d = 0) (h1 : ¬ d = 1) (h : ¬ d < 0) : 2 ≤ d := by
  rw [Int32.le_iff_toInt_le]
  rw [Int32.lt_iff_toInt_lt] at h
  rw [← Int32.toInt_inj] at h0 h1
  have e1 : (1 : Int32).toInt = 1 := by decide +kernel
  have e0 : (0 : Int32).toInt = 0 := by decide +kernel
  have e2 : (2 : Int32).toInt = 2 := by decide +kernel
  omega
end VX2
