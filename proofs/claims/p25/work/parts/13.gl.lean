abbrev tysA (K : Nat → ClassId) : List (ClassId × FieldType) := [(K 0, .int), (K 1, .long), (K 2, .byte), (K 3, .boolean), (K 4, .object "LowEnergy$Row"), (K 5, .object "LowEnergy$Device"), (K 6, .array .int)]
theorem goodIn_nil {big : List Cond} : GoodIn big [] := fun _ h => nomatch h
theorem goodIn_cls {big ws : List Cond} (hi : ∀ x ∈ ws, x ∈ big) (hg : ws.all goodWord = true) : GoodIn big ws := fun w h => ⟨hi w h, good_of_word (List.all_eq_true.mp hg w h)⟩
theorem gw_X0 : wsX00.all goodWord = true := by decide +kernel
theorem gw_X1 : wsX10.all goodWord = true := by decide +kernel
theorem gw_X2 : wsX20.all goodWord = true := by decide +kernel
theorem gw_X3 : wsX30.all goodWord = true := by decide +kernel
theorem gw_X4 : wsX40.all goodWord = true := by decide +kernel
theorem gw_X5 : wsX50.all goodWord = true := by decide +kernel
theorem gw_X6 : wsX60.all goodWord = true := by decide +kernel
theorem gw_X7 : wsX70.all goodWord = true := by decide +kernel
theorem gw_X8 : wsX80.all goodWord = true := by decide +kernel
theorem gw_X9 : wsX90.all goodWord = true := by decide +kernel
theorem gw_X10 : wsX100.all goodWord = true := by decide +kernel
theorem gw_X11 : wsX110.all goodWord = true := by decide +kernel
theorem gw_X12 : wsX120.all goodWord = true := by decide +kernel

/-! rows of numbers, written as lists -/
def gl (l : List Int32) : Nat → Int32 := fun k => l.getD k 0
def glL (l : List Int64) : Nat → Int64 := fun k => l.getD k 0
theorem gl_z2 : (fun _ => (0 : Int32)) = gl [0, 0] := by
  funext k
  match k with
  | 0 => rfl
  | 1 => rfl
  | k + 2 => rfl
theorem glL_z2 : (fun _ => (0 : Int64)) = glL [0, 0] := by
  funext k
  match k with
  | 0 => rfl
  | 1 => rfl
  | k + 2 => rfl
theorem gl_set {l : List Int32} {k : Nat} {x : Int32} (h : k < l.length) : upd (gl l) k x = gl (l.set k x) := by
  funext j
  unfold upd gl
  by_cases e : j = k
  · subst e
    simp [List.getD, h]
  · simp [List.getD, e, List.getElem?_set_ne (Ne.symm e)]
theorem glL_set {l : List Int64} {k : Nat} {x : Int64} (h : k < l.length) : vp_updL (glL l) k x = glL (l.set k x) := by
  funext j
  unfold vp_updL glL
  by_cases e : j = k
  · subst e
    simp [List.getD, h]
  · simp [List.getD, e, List.getElem?_set_ne (Ne.symm e)]
section VG
variable {p : Program} {l : Launch} {e : Env} {R : Room} {s : State} {m : MethodId} {args : Array Value} {below : List Frame} {meth : Method} {c : Code} {cc : ByteArray} {nL : Nat} {own : String} {Ts : List Cond} {D : va_G} {tys : List (ClassId × FieldType)} {A : Nat → Prop} {Q : State → Prop} {cs : Nat × Nat} {w : va_W} {lv : List (Nat × Value)} {pc : Nat} {st : List Value}
theorem v_iastL (B : Bx p s m args c cc nL own Ts D tys A) {k0 t0 : Nat} {a : Nat} {cA : ClassId} {n k : Nat} {l0 : List Int32} {i : Int32} {x y : Int32} {w' : va_W} (he : w[k0]? = some (a, .inl (cA, n, .inl (gl l0)))) (ht : tys[t0]? = some (cA, .int)) (hi : vp_in i n) (hk : i.toNatClampNeg = k) (hkl : k < l0.length) (hy : x = y) (hw : w.set k0 (a, .inl (cA, n, .inl (gl (l0.set k y)))) = w') (hd : decode cc pc = .ok (.iastore, 1)) (kk : V p l e R s m args below meth c nL D A Q cs w' lv (pc + 1) st) : V p l e R s m args below meth c nL D A Q cs w lv pc (.int x :: .int i :: .ref a :: st) := fun H locs ls hP hD hS hl => (by subst hy; subst hk; rw [← gl_set hkl] at hw; exact va_iast B.1 B.2.1 B.2.2.2.2.2.1.1 hP hD hS k0 t0 he ht hi hd (fun H1 locs1 h1 h2 h3 => kk H1 locs1 ls (hw ▸ h1) (hw ▸ h2) h3 hl))
theorem v_zastL (B : Bx p s m args c cc nL own Ts D tys A) {k0 t0 : Nat} {a : Nat} {cA : ClassId} {n k : Nat} {l0 : List Int32} {i : Int32} {x y : Int32} {w' : va_W} (he : w[k0]? = some (a, .inl (cA, n, .inl (gl l0)))) (ht : tys[t0]? = some (cA, .boolean)) (hi : vp_in i n) (hk : i.toNatClampNeg = k) (hkl : k < l0.length) (hy : vp_nar .boolean x = y) (hw : w.set k0 (a, .inl (cA, n, .inl (gl (l0.set k y)))) = w') (hd : decode cc pc = .ok (.bastore, 1)) (kk : V p l e R s m args below meth c nL D A Q cs w' lv (pc + 1) st) : V p l e R s m args below meth c nL D A Q cs w lv pc (.int x :: .int i :: .ref a :: st) := fun H locs ls hP hD hS hl => (by subst hy; subst hk; rw [← gl_set hkl] at hw; exact va_zast B.1 B.2.1 B.2.2.2.2.2.1.1 hP hD hS k0 t0 he ht hi hd (fun H1 locs1 h1 h2 h3 => kk H1 locs1 ls (hw ▸ h1) (hw ▸ h2) h3 hl))
theorem v_bastL (B : Bx p s m args c cc nL own Ts D tys A) {k0 t0 : Nat} {a : Nat} {cA : ClassId} {n k : Nat} {l0 : List Int32} {i : Int32} {x y : Int32} {w' : va_W} (he : w[k0]? = some (a, .inl (cA, n, .inl (gl l0)))) (ht : tys[t0]? = some (cA, .byte)) (hi : vp_in i n) (hk : i.toNatClampNeg = k) (hkl : k < l0.length) (hy : vp_nar .byte x = y) (hw : w.set k0 (a, .inl (cA, n, .inl (gl (l0.set k y)))) = w') (hd : decode cc pc = .ok (.bastore, 1)) (kk : V p l e R s m args below meth c nL D A Q cs w' lv (pc + 1) st) : V p l e R s m args below meth c nL D A Q cs w lv pc (.int x :: .int i :: .ref a :: st) := fun H locs ls hP hD hS hl => (by subst hy; subst hk; rw [← gl_set hkl] at hw; exact va_bast B.1 B.2.1 B.2.2.2.2.2.1.1 hP hD hS k0 t0 he ht hi hd (fun H1 locs1 h1 h2 h3 => kk H1 locs1 ls (hw ▸ h1) (hw ▸ h2) h3 hl))
theorem v_lastL (B : Bx p s m args c cc nL own Ts D tys A) {k0 t0 : Nat} {a : Nat} {cA : ClassId} {n k : Nat} {l0 : List Int64} {i : Int32} {x y : Int64} {w' : va_W} (he : w[k0]? = some (a, .inl (cA, n, .inr (.inl (glL l0))))) (ht : tys[t0]? = some (cA, .long)) (hi : vp_in i n) (hk : i.toNatClampNeg = k) (hkl : k < l0.length) (hy : x = y) (hw : w.set k0 (a, .inl (cA, n, .inr (.inl (glL (l0.set k y))))) = w') (hd : decode cc pc = .ok (.lastore, 1)) (kk : V p l e R s m args below meth c nL D A Q cs w' lv (pc + 1) st) : V p l e R s m args below meth c nL D A Q cs w lv pc (.long x :: .int i :: .ref a :: st) := fun H locs ls hP hD hS hl => (by subst hy; subst hk; rw [← glL_set hkl] at hw; exact va_last B.1 B.2.1 B.2.2.2.2.2.1.1 hP hD hS k0 t0 he ht hi hd (fun H1 locs1 h1 h2 h3 => kk H1 locs1 ls (hw ▸ h1) (hw ▸ h2) h3 hl))
theorem v_newa2_int (B : Bx p s m args c cc nL own Ts D tys A) {t0 : Nat} {cA : ClassId} (harr : Cond.arrayClass .int ∈ Ts) (ht : tys[t0]? = some (cA, .int)) (hcl : cs.1 + 1 ≤ R.cells) (hsl : cs.2 + 2 ≤ R.slots) (hd : decode cc pc = .ok (.newarray .int, 2)) (kk : ∀ q : Nat, V p l e R s m args below meth c nL D A Q (cs.1 + 1, cs.2 + 2) (w ++ [(q, .inl (cA, 2, .inl (gl [0, 0])))]) lv (pc + 2) (.ref q :: st)) : V p l e R s m args below meth c nL D A Q cs w lv pc (.int 2 :: st) := v_newa_int B (N' := 2) harr ht (by decide +kernel) (by decide +kernel) (by decide +kernel) hcl hsl hd (fun q => by rw [gl_z2]; exact kk q)
theorem v_newa2_boolean (B : Bx p s m args c cc nL own Ts D tys A) {t0 : Nat} {cA : ClassId} (harr : Cond.arrayClass .boolean ∈ Ts) (ht : tys[t0]? = some (cA, .boolean)) (hcl : cs.1 + 1 ≤ R.cells) (hsl : cs.2 + 2 ≤ R.slots) (hd : decode cc pc = .ok (.newarray .boolean, 2)) (kk : ∀ q : Nat, V p l e R s m args below meth c nL D A Q (cs.1 + 1, cs.2 + 2) (w ++ [(q, .inl (cA, 2, .inl (gl [0, 0])))]) lv (pc + 2) (.ref q :: st)) : V p l e R s m args below meth c nL D A Q cs w lv pc (.int 2 :: st) := v_newa_boolean B (N' := 2) harr ht (by decide +kernel) (by decide +kernel) (by decide +kernel) hcl hsl hd (fun q => by rw [gl_z2]; exact kk q)
theorem v_newa2_long (B : Bx p s m args c cc nL own Ts D tys A) {t0 : Nat} {cA : ClassId} (harr : Cond.arrayClass .long ∈ Ts) (ht : tys[t0]? = some (cA, .long)) (hcl : cs.1 + 1 ≤ R.cells) (hsl : cs.2 + 2 ≤ R.slots) (hd : decode cc pc = .ok (.newarray .long, 2)) (kk : ∀ q : Nat, V p l e R s m args below meth c nL D A Q (cs.1 + 1, cs.2 + 2) (w ++ [(q, .inl (cA, 2, .inr (.inl (glL [0, 0]))))]) lv (pc + 2) (.ref q :: st)) : V p l e R s m args below meth c nL D A Q cs w lv pc (.int 2 :: st) := v_newa_long B (N' := 2) harr ht (by decide +kernel) (by decide +kernel) (by decide +kernel) hcl hsl hd (fun q => by rw [glL_z2]; exact kk q)
theorem v_bast (B : Bx p s m args c cc nL own Ts D tys A) {k0 t0 : Nat} {a : Nat} {cA : ClassId} {n : Nat} {f : Nat → Int32} {i x y : Int32} {w' : va_W} (he : w[k0]? = some (a, .inl (cA, n, .inl f))) (ht : tys[t0]? = some (cA, .byte)) (hi : vp_in i n) (hy : vp_nar .byte x = y) (hw : w.set k0 (a, .inl (cA, n, .inl (upd f i.toNatClampNeg y))) = w') (hd : decode cc pc = .ok (.bastore, 1)) (kk : V p l e R s m args below meth c nL D A Q cs w' lv (pc + 1) st) : V p l e R s m args below meth c nL D A Q cs w lv pc (.int x :: .int i :: .ref a :: st) := fun H locs ls hP hD hS hl => (by subst hy; exact va_bast B.1 B.2.1 B.2.2.2.2.2.1.1 hP hD hS k0 t0 he ht hi hd (fun H1 locs1 h1 h2 h3 => kk H1 locs1 ls (hw ▸ h1) (hw ▸ h2) h3 hl))
theorem v_aaldA (B : Bx p s m args c cc nL own Ts D tys A) {k0 t0 : Nat} {a : Nat} {cA : ClassId} {t : FieldType} {n : Nat} {f : Nat → Option Nat} {i : Int32} {v : Value} (he : w[k0]? = some (a, .inl (cA, n, .inr (.inr (.inr (.inr f)))))) (ht : tys[t0]? = some (cA, .array t)) (hi : vp_in i n) (hv : va_rf (f i.toNatClampNeg) = v) (hd : decode cc pc = .ok (.aaload, 1)) (kk : V p l e R s m args below meth c nL D A Q cs w lv (pc + 1) (v :: st)) : V p l e R s m args below meth c nL D A Q cs w lv pc (.int i :: .ref a :: st) := fun H locs ls hP hD hS hl => (by subst hv; have hlt : i.toNatClampNeg < n := Nat.not_le.mp fun q => hi (Or.inr q); exact W.aald (v := va_rf (f i.toNatClampNeg)) (ty := .array t) B.1 B.2.1 (hP k0 _ he) ((B.2.2.2.2.2.1.1.2 t0 _ ht).1 n (fun j => va_rf (f j))) rfl (fun q => by cases q) (by show ¬ (i < 0 ∨ (arrV _ _ _).slots.size ≤ _); rw [arrV_size]; exact hi) (by show (arrV _ _ _).slots[_]? = _; rw [arrV_read _ _ hlt]) rfl rfl hd (kk H locs ls hP hD hS hl))
theorem v_lv {lv' : List (Nat × Value)} (ks : List Nat) (h : lv_pick lv ks = lv') (kk : V p l e R s m args below meth c nL D A Q cs w lv' pc st) : V p l e R s m args below meth c nL D A Q cs w lv pc st := fun H locs ls hP hD hS hl => kk H locs ls hP hD hS (lv_sub hl ks h)
/-- a loop that counts up to N -/
theorem v_nat {α : Type} (lf : Nat → α → List (Nat × Value)) (wf : Nat → α → va_W) (N : Nat) (hs : ∀ (i : Nat) (a : α), i < N → (∀ a' : α, V p l e R s m args below meth c nL D A Q cs (wf (i + 1) a') (lf (i + 1) a') pc st) → V p l e R s m args below meth c nL D A Q cs (wf i a) (lf i a) pc st) (he : ∀ a : α, V p l e R s m args below meth c nL D A Q cs (wf N a) (lf N a) pc st) : ∀ (i : Nat) (a : α), i ≤ N → V p l e R s m args below meth c nL D A Q cs (wf i a) (lf i a) pc st := by
  intro i
  induction hm : N - i generalizing i with
  | zero =>
    intro a hi
    have e : i = N := by omega
    subst e
    exact he a
  | succ n ih =>
    intro a hi
    exact hs i a (by omega) (fun a' => ih (i + 1) (by omega) a' (by omega))
theorem v_inst {α : Type} (wf : α → va_W) (lf : α → List (Nat × Value)) (sf : α → List Value) (a : α) (kk : ∀ a : α, V p l e R s m args below meth c nL D A Q cs (wf a) (lf a) pc (sf a)) : V p l e R s m args below meth c nL D A Q cs (wf a) (lf a) pc (sf a) := kk a
theorem nI_lt_not {i N : Nat} (h : i < N) (hN : N < 2 ^ 31) : ¬ nI N ≤ nI i := nI_ge h hN
end VG
/-- the fields of the reference: its rows' addresses, and five numbers -/
def fsM (q : Nat → Nat) (th tp t pk an : Int32) : List Value := [.int th, .ref (q 1), .int tp, .ref (q 3), .ref (q 4), .ref (q 5), .ref (q 6), .ref (q 7), .ref (q 8), .ref (q 9), .ref (q 10), .ref (q 11), .ref (q 12), .ref (q 13), .ref (q 14), .ref (q 15), .ref (q 16), .ref (q 17), .ref (q 18), .ref (q 19), .ref (q 20), .ref (q 21), .ref (q 22), .ref (q 23), .ref (q 24), .ref (q 25), .ref (q 26), .ref (q 27), .ref (q 28), .ref (q 29), .ref (q 30), .ref (q 31), .ref (q 32), .ref (q 33), .ref (q 34), .ref (q 35), .ref (q 36), .ref (q 37), .ref (q 38), .ref (q 39), .ref (q 40), .ref (q 41), .ref (q 42), .int t, .ref (q 44), .ref (q 45), .ref (q 46), .ref (q 47), .ref (q 48), .ref (q 49), .ref (q 50), .int pk, .ref (q 52), .ref (q 53), .ref (q 54), .ref (q 55), .ref (q 56), .ref (q 57), .ref (q 58), .ref (q 59), .ref (q 60), .ref (q 61), .ref (q 62), .ref (q 63), .ref (q 64), .ref (q 65), .ref (q 66), .ref (q 67), .ref (q 68), .ref (q 69), .ref (q 70), .ref (q 71), .ref (q 72), .ref (q 73), .ref (q 74), .ref (q 75), .ref (q 76), .ref (q 77), .ref (q 78), .ref (q 79), .ref (q 80), .ref (q 81), .ref (q 82), .ref (q 83), .ref (q 84), .ref (q 85), .ref (q 86), .ref (q 87), .ref (q 88), .ref (q 89), .ref (q 90), .ref (q 91), .ref (q 92), .ref (q 93), .ref (q 94), .ref (q 95), .ref (q 96), .ref (q 97), .ref (q 98), .ref (q 99), .ref (q 100), .ref (q 101), .ref (q 102), .ref (q 103), .ref (q 104), .ref (q 105), .ref (q 106), .ref (q 107), .ref (q 108), .ref (q 109), .ref (q 110), .ref (q 111), .ref (q 112), .ref (q 113), .ref (q 114), .int an, .ref (q 116), .ref (q 117), .ref (q 118), .ref (q 119), .ref (q 120), .ref (q 121), .ref (q 122)]
