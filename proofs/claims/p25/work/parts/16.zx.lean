def tIA : String := "java/lang/IllegalArgumentException"
def tNS : String := "java/util/NoSuchElementException"
def ups : List String := ["java/lang/RuntimeException", "java/lang/Exception"]
def wDR : Cond := .declares (Bundle.initS "java/lang/RuntimeException")
def wDE : Cond := .declares (Bundle.initS "java/lang/Exception")
def wDT : Cond := .declares (Bundle.initS Bundle.tN)
/-- words that no method's own list may hold -/
def Nx (U : State) : Prop := va_Nw (.castable tIA tIA) U ∧ va_Nw (.castable tNS tNS) U ∧ va_Nw wDR U ∧ va_Nw wDE U ∧ va_Nw wDT U
theorem Nx.warm {s U : State} (hW : s.WarmedH U.vm) (h : Nx s) : Nx U := ⟨va_Nw.warmC hW h.1, va_Nw.warmC hW h.2.1, va_Nw.warmD hW h.2.2.1, va_Nw.warmD hW h.2.2.2.1, va_Nw.warmD hW h.2.2.2.2⟩
theorem Nx.same {u U : State} (h9 : u.vm = U.vm) (h : Nx u) : Nx U := ⟨va_Nw.same rfl h9 h.1, va_Nw.same rfl h9 h.2.1, va_Nw.same rfl h9 h.2.2.1, va_Nw.same rfl h9 h.2.2.2.1, va_Nw.same rfl h9 h.2.2.2.2⟩
/-- the two static rows: the box of the cipher, the reference's first access -/
def ZB (sa : Nat → Nat) (A : Nat → Prop) (U : State) (H : Heap) : Prop :=
  va_Z "LowEnergy$Cipher" "SBOX" "[I" (.ref (sa 3)) A U H ∧ (∃ f : Nat → Int, va_T .int (sa 3) 256 (fun j => .int (iI (f j))) A U H ∧ ∀ j : Nat, 0 ≤ f j ∧ f j ≤ 255) ∧ va_Z "LowEnergyModel" "FIRST_ACCESS" "[B" (.ref (sa 4)) A U H ∧ (∃ f : Nat → Int, va_T .byte (sa 4) 4 (fun j => .int (iI (f j))) A U H ∧ ∀ j : Nat, -128 ≤ f j ∧ f j ≤ 127)
theorem ZB.moved {sa : Nat → Nat} {A : Nat → Prop} {u U : State} {H : Heap} (hvm : u.vm.Alike U.vm) (h : ZB sa A u H) : ZB sa A U H := by
  obtain ⟨h1, ⟨f, h2, h3⟩, h4, g, h5, h6⟩ := h
  exact ⟨va_Z.moved hvm h1, ⟨f, va_T.moved hvm h2, h3⟩, va_Z.moved hvm h4, g, va_T.moved hvm h5, h6⟩
theorem ZB.kept {sa : Nat → Nat} {A : Nat → Prop} {U : State} {H H1 : Heap} (h : ZB sa A U H) (hq : ∀ a : Nat, a < H.size → ¬ A a → H1[a]? = H[a]?) : ZB sa A U H1 := by
  obtain ⟨h1, ⟨f, h2, h3⟩, h4, g, h5, h6⟩ := h
  exact ⟨va_Z.kept h1 hq, ⟨f, va_T.kept h2 hq, h3⟩, va_Z.kept h4 hq, g, va_T.kept h5 hq, h6⟩
theorem ZB.narrow {sa : Nat → Nat} {A A' : Nat → Prop} {U : State} {H : Heap} (h : ZB sa A U H) (hAB : ∀ q, A' q → A q) : ZB sa A' U H := by
  obtain ⟨h1, ⟨f, h2, h3⟩, h4, g, h5, h6⟩ := h
  exact ⟨va_Z.narrow h1 hAB, ⟨f, va_T.narrow h2 hAB, h3⟩, va_Z.narrow h4 hAB, g, va_T.narrow h5 hAB, h6⟩
/-- what the worlds do not hold: the script at b, two statics of Throwable, two words on casts, three strings -/
def ZL (b L : Nat) (xs : Nat → Int32) (sa : Nat → Nat) (A : Nat → Prop) (U : State) (H : Heap) : Prop :=
  (va_X b L xs U H ∧ b < H.size ∧ ¬ A b) ∧ vx_Zq Bundle.tN "UNASSIGNED_STACK" Bundle.steD A U H ∧ vx_Zq Bundle.tN "SUPPRESSED_SENTINEL" Bundle.listD A U H ∧ Nx U ∧ vk_R RX11 390 "ticks are 1 to 1000" (sa 0) U ∧ vk_R RX11 284 "no such packet or byte" (sa 1) U ∧ vk_R RX11 289 "no such value or byte" (sa 2) U ∧ ZB sa A U H
theorem ZL.warm {b L : Nat} {xs : Nat → Int32} {sa : Nat → Nat} {A : Nat → Prop} {s U : State} {H : Heap} (hW : s.WarmedH U.vm) (h : ZL b L xs sa A s H) : ZL b L xs sa A U H :=
  ⟨⟨va_X.moved hW.alike h.1.1, h.1.2⟩, vx_Zq.moved hW.alike h.2.1, vx_Zq.moved hW.alike h.2.2.1, Nx.warm hW h.2.2.2.1, vk_R.warm hW h.2.2.2.2.1, vk_R.warm hW h.2.2.2.2.2.1, vk_R.warm hW h.2.2.2.2.2.2.1, ZB.moved hW.alike h.2.2.2.2.2.2.2⟩
theorem ZL.kept {b L : Nat} {xs : Nat → Int32} {sa : Nat → Nat} {A : Nat → Prop} {U : State} {H H1 : Heap} (h : ZL b L xs sa A U H) (hz : H.size ≤ H1.size) (hq : ∀ a : Nat, a < H.size → ¬ A a → H1[a]? = H[a]?) : ZL b L xs sa A U H1 :=
  ⟨⟨va_X.kept h.1.1 (hq b h.1.2.1 h.1.2.2), Nat.lt_of_lt_of_le h.1.2.1 hz, h.1.2.2⟩, vx_Zq.kept h.2.1 hq, vx_Zq.kept h.2.2.1 hq, h.2.2.2.1, h.2.2.2.2.1, h.2.2.2.2.2.1, h.2.2.2.2.2.2.1, ZB.kept h.2.2.2.2.2.2.2 hq⟩
theorem ZL.narrow {b L : Nat} {xs : Nat → Int32} {sa : Nat → Nat} {A A' : Nat → Prop} {U : State} {H : Heap} (h : ZL b L xs sa A U H) (hAB : ∀ q, A' q → A q) : ZL b L xs sa A' U H :=
  ⟨⟨h.1.1, h.1.2.1, fun z => h.1.2.2 (hAB _ z)⟩, vx_Zq.narrow h.2.1 hAB, vx_Zq.narrow h.2.2.1 hAB, h.2.2.2.1, h.2.2.2.2.1, h.2.2.2.2.2.1, h.2.2.2.2.2.2.1, ZB.narrow h.2.2.2.2.2.2.2 hAB⟩
theorem ZL.calling {b L : Nat} {xs : Nat → Int32} {sa : Nat → Nat} {A : Nat → Prop} {U : State} {H : Heap} {g : JFrame} {mk : MethodId} {a : Array Value} (h : ZL b L xs sa A U H) : ZL b L xs sa A (U.calling g mk a) H :=
  ⟨⟨va_X.moved (u := U) (U := U.calling g mk a) (Vm.Alike.refl U.vm) h.1.1, h.1.2⟩, vx_Zq.moved (u := U) (U := U.calling g mk a) (Vm.Alike.refl U.vm) h.2.1, vx_Zq.moved (u := U) (U := U.calling g mk a) (Vm.Alike.refl U.vm) h.2.2.1, Nx.same (u := U) (U := U.calling g mk a) rfl h.2.2.2.1, vk_R.same (u := U) (U := U.calling g mk a) rfl h.2.2.2.2.1, vk_R.same (u := U) (U := U.calling g mk a) rfl h.2.2.2.2.2.1, vk_R.same (u := U) (U := U.calling g mk a) rfl h.2.2.2.2.2.2.1, ZB.moved (u := U) (U := U.calling g mk a) (Vm.Alike.refl U.vm) h.2.2.2.2.2.2.2⟩
def Pz (D : va_G) (tys : List (ClassId × FieldType)) (w : va_W) (b L : Nat) (xs : Nat → Int32) (sa : Nat → Nat) (sz : Nat) (U : State) : Prop := Pw D tys w sz U ∧ ZL b L xs sa (va_A w sz) U U.heap
theorem Pz.blind {D : va_G} {tys : List (ClassId × FieldType)} {w : va_W} {b L : Nat} {xs : Nat → Int32} {sa : Nat → Nat} {sz : Nat} {av : List Value} : FrameBlind (va_Pc av (Pz D tys w b L xs sa sz)) := fun _ _ _ _ q => ⟨q.1, ⟨q.2.1.1, q.2.1.2.1, Cx.calling q.2.1.2.2.1, q.2.1.2.2.2⟩, ZL.calling q.2.2⟩
def MZ (l : Launch) (y : MethodName) (ws : List Cond) (rm : Room) (D : va_G) (tys : List (ClassId × FieldType)) (av : List Value) (w : va_W) (b L : Nat) (xs : Nat → Int32) (sa : Nat → Nat) (Qf : (Nat → Prop) → Array Value → State → Outcome → State → Prop) (mc ms : Nat) : Prop :=
  ∀ sz : Nat, Met l y ws rm (va_Pc av (Pz D tys w b L xs sa sz)) (Qf (va_A w sz)) mc ms (va_A w sz)
/-- a method that always throws E -/
def MX (l : Launch) (y : MethodName) (ws : List Cond) (rm : Room) (D : va_G) (tys : List (ClassId × FieldType)) (av : List Value) (w : va_W) (b L : Nat) (xs : Nat → Int32) (sa : Nat → Nat) (E : String) (mc ms : Nat) : Prop :=
  ∀ sz : Nat, vx_Met l y ws rm (va_Pc av (Pz D tys w b L xs sa sz)) (va_Qi (fun (_ : Int32) (_ : Unit) => False) (fun _ _ => True) (va_A w sz)) (vx_X (fun _ : Unit => True) (fun E' _ _ => E' = E) (va_A w sz)) mc ms (va_A w sz)
theorem mz_of {l : Launch} {y : MethodName} {ws ws' : List Cond} {rm : Room} {D : va_G} {tys : List (ClassId × FieldType)} {av : List Value} {w : va_W} {b L : Nat} {xs : Nat → Int32} {sa : Nat → Nat} {Qf : (Nat → Prop) → Array Value → State → Outcome → State → Prop} {mc ms : Nat} {cc : ByteArray} {maxL : Nat} {ret : Option FieldType} (hy : plainName y.cls = true) (hw : ws = Cond.code y cc maxL ret :: ws') (hn : (lg_sl av).length ≤ maxL)
    (body : ∀ (p : Program) (e : Env) (s : State) (m : MethodId) (below : List Frame) (meth : Method) (c : Code) (A : Nat → Prop), Bx p s m av.toArray c cc maxL y.cls ws D tys A → meth.sig.returnType = ret → meth.locks = false → True → ZL b L xs sa A s s.heap → V p l e rm s m av.toArray below meth c maxL D A (MQ below (Qf A) av.toArray s mc ms A) (0, 0) w (lv_args 0 av) 0 []) : MZ l y ws rm D tys av w b L xs sa Qf mc ms := by
  intro sz
  refine Met.ofW (cc := cc) (maxL := maxL) (ret := ret) hy hw ?_
  intro p e s m args below meth c s₁ B hml hv
  obtain ⟨rfl, ⟨hsz, hP, hC, hD0⟩, hZ⟩ := hv
  have hts := atoms_spec (ws := ws) B.pre
  have hown : s.vm.findClass y.cls = some m.cls := findClass_of_methodNamed B.named
  subst hsz
  have hD := hD0.self (sz := s.heap.size)
  generalize hAe : va_A w s.heap.size = A at hD hZ ⊢
  have hA : ∀ q : Nat, s.heap.size ≤ q → A q := fun q h => by rw [← hAe]; exact Or.inr h
  have hl := lv_entry av (n := maxL) hn
  rw [lg_entry_eq]
  exact body p e s m below meth c A ⟨B.exec, B.bytes, hml, hown, hts, hC, hA⟩ B.returns B.notSynchronized trivial hZ s.heap [] _ hP hD va_S.rf hl
theorem mzw_of {l : Launch} {y : MethodName} {ws ws' : List Cond} {rm : Room} {D : va_G} {tys : List (ClassId × FieldType)} {av : List Value} {w : va_W} {b L : Nat} {xs : Nat → Int32} {sa : Nat → Nat} {Qf : (Nat → Prop) → Array Value → State → Outcome → State → Prop} {mc ms : Nat} {cc : ByteArray} {maxL : Nat} {ret : Option FieldType} {hh : List (Nat × Nat × Nat × Nat)} (hy : plainName y.cls = true) (hw : ws = Cond.codeWith y cc maxL ret hh :: ws') (hn : (lg_sl av).length ≤ maxL)
    (body : ∀ (p : Program) (e : Env) (s : State) (m : MethodId) (below : List Frame) (meth : Method) (c : Code) (A : Nat → Prop), Bx p s m av.toArray c cc maxL y.cls ws D tys A → meth.sig.returnType = ret → meth.locks = false → c.exceptionTable.toList = tableOf hh → ZL b L xs sa A s s.heap → V p l e rm s m av.toArray below meth c maxL D A (MQ below (Qf A) av.toArray s mc ms A) (0, 0) w (lv_args 0 av) 0 []) : MZ l y ws rm D tys av w b L xs sa Qf mc ms := by
  intro sz
  refine va_MetW (cc := cc) (maxL := maxL) (ret := ret) (hh := hh) hy hw ?_
  intro p e s m args below meth c s₁ B hml hv
  have htb : c.exceptionTable.toList = tableOf hh := vx_table (x := y) B (atoms_spec (ws := ws) B.pre _ (by rw [hw]; exact List.mem_cons_self))
  obtain ⟨rfl, ⟨hsz, hP, hC, hD0⟩, hZ⟩ := hv
  have hts := atoms_spec (ws := ws) B.pre
  have hown : s.vm.findClass y.cls = some m.cls := findClass_of_methodNamed B.named
  subst hsz
  have hD := hD0.self (sz := s.heap.size)
  generalize hAe : va_A w s.heap.size = A at hD hZ ⊢
  have hA : ∀ q : Nat, s.heap.size ≤ q → A q := fun q h => by rw [← hAe]; exact Or.inr h
  have hl := lv_entry av (n := maxL) hn
  rw [lg_entry_eq]
  exact body p e s m below meth c A ⟨B.exec, B.bytes, hml, hown, hts, hC, hA⟩ B.returns B.notSynchronized htb hZ s.heap [] _ hP hD va_S.rf hl
theorem mx_of {l : Launch} {y : MethodName} {ws ws' : List Cond} {rm : Room} {D : va_G} {tys : List (ClassId × FieldType)} {av : List Value} {w : va_W} {b L : Nat} {xs : Nat → Int32} {sa : Nat → Nat} {E : String} {mc ms : Nat} {cc : ByteArray} {maxL : Nat} {ret : Option FieldType} (hy : plainName y.cls = true) (hw : ws = Cond.code y cc maxL ret :: ws') (hn : (lg_sl av).length ≤ maxL)
    (body : ∀ (p : Program) (e : Env) (s : State) (m : MethodId) (below : List Frame) (meth : Method) (c : Code) (A : Nat → Prop), Bx p s m av.toArray c cc maxL y.cls ws D tys A → meth.sig.returnType = ret → meth.locks = false → (∀ x ∈ c.exceptionTable.toList, False) → ZL b L xs sa A s s.heap → V p l e rm s m av.toArray below meth c maxL D A (vx_MQ below (va_Qi (fun (_ : Int32) (_ : Unit) => False) (fun _ _ => True) A) (vx_X (fun _ : Unit => True) (fun E' _ _ => E' = E) A) av.toArray s mc ms A) (0, 0) w (lv_args 0 av) 0 []) : MX l y ws rm D tys av w b L xs sa E mc ms := by
  intro sz
  refine vx_ofW (cc := cc) (maxL := maxL) (ret := ret) hy hw ?_
  intro p e s m args below meth c s₁ B hml htb hv
  obtain ⟨rfl, ⟨hsz, hP, hC, hD0⟩, hZ⟩ := hv
  have hts := atoms_spec (ws := ws) B.pre
  have hown : s.vm.findClass y.cls = some m.cls := findClass_of_methodNamed B.named
  subst hsz
  have hD := hD0.self (sz := s.heap.size)
  generalize hAe : va_A w s.heap.size = A at hD hZ ⊢
  have hA : ∀ q : Nat, s.heap.size ≤ q → A q := fun q h => by rw [← hAe]; exact Or.inr h
  have hl := lv_entry av (n := maxL) hn
  rw [lg_entry_eq]
  exact body p e s m below meth c A ⟨B.exec, B.bytes, hml, hown, hts, hC, hA⟩ B.returns B.notSynchronized htb hZ s.heap [] _ hP hD va_S.rf hl
section VZ
variable {p : Program} {l : Launch} {e : Env} {R : Room} {s : State} {m : MethodId} {args : Array Value} {below : List Frame} {meth : Method} {c : Code} {cc : ByteArray} {nL : Nat} {own : String} {Ts : List Cond} {D : va_G} {tys : List (ClassId × FieldType)} {A : Nat → Prop} {Q : State → Prop} {cs : Nat × Nat} {w : va_W} {lv : List (Nat × Value)} {pc : Nat} {st : List Value}
variable {b L : Nat} {xs : Nat → Int32} {sa : Nat → Nat}
theorem v_throwSW (B : Bx p s m args c cc nL own Ts D tys A) (hz : ZL b L xs sa A s s.heap) (hl0 : l.stackTraces = false) (htb : ∀ x ∈ c.exceptionTable.toList, False) (hlk : meth.locks = false) {E text : String} {ik is ic mc ms sp : Nat} (hE : Bundle.fit E = true) (hk : Cond.classLink own ik E ∈ Ts) (hini : Cond.initialized E ∈ Ts) (hstr : vk_R own is text sp s) (hin : ∀ w ∈ (vx_atS own ic E ups).filter goodWord, w ∈ Ts) (hng : ∀ w ∈ (vx_atS own ic E ups).filter (fun w => !goodWord w), w ∈ [Cond.castable E E, wDR, wDE, wDT]) (hca : va_Nw (.castable E E) s) (hgood : ∀ w ∈ Cond.classLink own ik E :: Cond.initialized E :: vx_atS own ic E ups, vx_ot w = true)
    (d0 : decode cc pc = .ok (.new ik, 3)) (d3 : decode cc (pc + 3) = .ok (.dup, 1)) (d4 : decode cc (pc + 4) = .ok (.ldc_w is, 3)) (d7 : decode cc (pc + 7) = .ok (.invokespecial ic, 3)) (d10 : decode cc (pc + 10) = .ok (.athrow, 1))
    (hRf : 5 < R.frames) (hRl : (st.map fun v => v.category).sum + 82 ≤ R.locals) (hRc : cs.1 + 1 ≤ R.cells) (hRs : cs.2 + 6 ≤ R.slots) (hc : cs.1 + 1 ≤ mc) (hs : cs.2 + 6 ≤ ms) : V p l e R s m args below meth c nL D A (vx_MQ below (va_Qi (fun (_ : Int32) (_ : Unit) => False) (fun _ _ => True) A) (vx_X (fun _ : Unit => True) (fun E' _ _ => E' = E) A) args s mc ms A) cs w lv pc st := by
  intro H locs ls hP hD hS hl
  refine vx_throwSW (A := A) B.1 B.2.1 hl0 B.2.2.2.1 hE (names := ups) (by decide +kernel) (B.2.2.2.2.1 _ hk) (B.2.2.2.2.1 _ hini) hstr (vx_hat (fun w hw => B.2.2.2.2.1 _ (hin w hw)) hng (vx_c (va_Nw.use rfl hca) (vx_c (va_Nw.use rfl hz.2.2.2.1.2.2.1) (vx_c (va_Nw.use rfl hz.2.2.2.1.2.2.2.1) (vx_c (va_Nw.use rfl hz.2.2.2.1.2.2.2.2) vx_n))))) hgood hz.2.1 hz.2.2.1 hS (by rw [B.2.2.1]; exact hl.1) d0 d3 d4 d7 d10 (fun x hx => (htb x hx).elim) hRf hRl hRc hRs hlk ?_ hS.2.2 hc hs
  intro t _ h1 h2
  exact ⟨(), trivial, rfl, Nat.le_trans hS.1 h1, fun q hq hA => (h2 q (Nat.lt_of_lt_of_le hq hS.1)).trans (hS.2.1 q hq hA)⟩
theorem v_catchV (B : Bx p s m args c cc nL own Ts D tys A) (hz : ZL b L xs sa A s s.heap) {y : MethodName} {ws ws' : List Cond} {rm : Room} {C E : String} {a : Nat} {index : Nat} {bytes : ByteArray} {maxL mc ms n : Nat} {ret : Option FieldType} {As rest : List Value} {wc wr : va_W} (hM : MX l y ws rm D tys (.ref a :: As) wc b L xs sa E mc ms) (hG : GoodIn Ts (wsV own index C y ws)) (hw : ws = Cond.code y bytes maxL ret :: ws') (hrc : rm.cells = mc) (hrs : rm.slots = ms) (hdd : y.cls = C ∧ y.cls ≠ "java/lang/invoke/MethodHandle" ∧ y.cls ≠ "java/lang/invoke/VarHandle" ∧ (parseMethodDescriptor y.desc).map (fun d => d.parameters.length) = some n) (hR : rm.frames + 1 ≤ R.frames ∧ 8 + (maxL + 11) + rm.locals ≤ R.locals) (k0 : Nat) {ci : Nat} {q0 : vw_C} {fs : List Value} (hrv : wc[k0]? = some (a, .inr (ci, fs))) (hcl : vwCl[ci]? = some q0) (hq0 : q0.1 = C) (hsp : Sp w wc wr) (hn : As.length = n) (hst : st = As.reverse ++ .ref a :: rest) (hW : (rest.map fun v => v.category).sum ≤ 8) (hd : decode cc pc = .ok (.invokevirtual index, 3)) (hf : cs.1 + mc ≤ R.cells ∧ cs.2 + ms ≤ R.slots)
    {x : ExceptionTableEntry} (hT : c.exceptionTable.toList = [x]) (hcov : covers x pc = true) (h0 : x.catchType ≠ 0) (hlink : Cond.classLink own x.catchType E ∈ Ts) (hca : va_Nw (.castable E E) s) {tgt : Nat} (ht : x.handlerPc = tgt) (kk : ∀ q : Nat, V p l e R s m args below meth c nL D A Q (cs.1 + mc, cs.2 + ms) [] lv tgt [.ref q]) : V p l e R s m args below meth c nL D A Q cs w lv pc st := by
  subst hst
  subst ht
  intro H locs ls hP hD hS hl
  obtain ⟨isC, isR, hC1, hR1, hnC, hnR, hdis⟩ := hsp
  have hPc := pl_P hP hC1
  have hDc := hD.sub isC hnC hC1
  have hFc := va_free (wc := wc) hD hS B.2.2.2.2.2.2 isC hC1
  refine vx_calli (vx_runV (As := As) (rest := rest) ⟨B.1, B.2.1, B.2.2.1, B.2.2.2.1, B.2.2.2.2.1⟩ (hM H.size) (cwV n B.2.2.2.2.1 hG hw hrc hrs hdd hR) ⟨Pz.blind, (by subst hq0; exact va_recv B.2.2.2.2.2.1.1 hPc hcl hrv), fun U hU hW => ⟨rfl, ⟨by rw [hU], by rw [hU]; exact hPc, Cx.warm hW B.2.2.2.2.2.1, hDc.weaken (fun _ _ _ _ => trivial)⟩, by rw [hU]; exact ZL.warm hW ((hz.kept hS.1 hS.2.1).narrow hFc)⟩⟩ rfl hn hl.1 rfl (lv_room hW) hd hf) hS (fun q _ h => hFc q h) hFc (fun q _ h => hFc q h) (fun E' ce q9 u t H1 locs1 ht hvm _ hE hz1 hk1 hS1 hcell hcv hcl9 => ?_) (fun r u t H1 locs1 _ _ hF _ _ _ _ => hF.elim)
  subst hE
  exact vx_catch B.2.2.2.1 [] x [] hT (fun _ h => nomatch h) hcov h0 (B.2.2.2.2.1 _ hlink) (va_Nw.use rfl hca) hcell hcv hcl9 (kk q9 H1 locs1 ls (fun _ _ h => nomatch h) ⟨fun _ _ _ _ h => (nomatch h), fun _ _ h => (nomatch h)⟩ hS1 hl)
theorem v_callSiW (B : Bx p s m args c cc nL own Ts D tys A) (hz : ZL b L xs sa A s s.heap) {y : MethodName} {ws ws' : List Cond} {rm : Room} {index : Nat} {bytes : ByteArray} {maxL mc ms n : Nat} {ret : Option FieldType} {hh : List (Nat × Nat × Nat × Nat)} {As rest : List Value} {S : Type} {post : Int32 → S → Prop} {w' : S → va_W} {wc wr : va_W} (hM : MZ l y ws rm D tys As wc b L xs sa (Qi D post w') mc ms) (hG : GoodIn Ts (va_wsS own index y ws)) (hw : ws = Cond.codeWith y bytes maxL ret hh :: ws') (hrc : rm.cells = mc) (hrs : rm.slots = ms) (hdd : y.cls ≠ "java/lang/invoke/MethodHandle" ∧ y.cls ≠ "java/lang/invoke/VarHandle" ∧ (parseMethodDescriptor y.desc).map (fun d => d.parameters.length) = some n) (hR : rm.frames + 1 ≤ R.frames ∧ 8 + (maxL + 11) + rm.locals ≤ R.locals) (hsp : Sp w wc wr) (hn : As.length = n) (hst : st = As.reverse ++ rest) (hW : (rest.map fun v => v.category).sum ≤ 8) (hd : decode cc pc = .ok (.invokestatic index, 3)) (hf : cs.1 + mc ≤ R.cells ∧ cs.2 + ms ≤ R.slots) (kk : ∀ (r : Int32) (u : S), post r u → V p l e R s m args below meth c nL D A Q (cs.1 + mc, cs.2 + ms) (wr ++ w' u) lv (pc + 3) (.int r :: rest)) : V p l e R s m args below meth c nL D A Q cs w lv pc st := by
  subst hst
  intro H locs ls hP hD hS hl
  obtain ⟨isC, isR, hC1, hR1, hnC, hnR, hdis⟩ := hsp
  have hPc := pl_P hP hC1
  have hDc := hD.sub isC hnC hC1
  have hFc := va_free (wc := wc) hD hS B.2.2.2.2.2.2 isC hC1
  refine va_calli (vx_runSW (As := As) (rest := rest) ⟨B.1, B.2.1, B.2.2.1, B.2.2.2.1, B.2.2.2.2.1⟩ (hM H.size) (vx_cwSW n B.2.2.2.2.1 hG hw hrc hrs hdd hR) ⟨Pz.blind, fun U hU hW => ⟨rfl, ⟨by rw [hU], by rw [hU]; exact hPc, Cx.warm hW B.2.2.2.2.2.1, hDc.weaken (fun _ _ _ _ => trivial)⟩, by rw [hU]; exact ZL.warm hW ((hz.kept hS.1 hS.2.1).narrow hFc)⟩⟩ rfl hn hl.1 rfl (lv_room hW) hd hf) hS (fun q _ h => hFc q h) hFc (fun r u t H1 locs1 ht hvm hw2 hB hz1 hk1 hS1 => ?_)
  obtain ⟨hP1, hD1⟩ := hB
  rw [ht] at hP1
  obtain ⟨hP2, hD2⟩ := va_join (wr := wr) (w1 := w' u) hP hD isC isR hC1 hR1 hnR hdis hk1 hFc hP1 hD1
  exact kk r u hw2 H1 locs1 ls hP2 hD2 hS1 hl
theorem v_callViZ (B : Bx p s m args c cc nL own Ts D tys A) (hz : ZL b L xs sa A s s.heap) {y : MethodName} {ws ws' : List Cond} {rm : Room} {C : String} {a : Nat} {index : Nat} {bytes : ByteArray} {maxL mc ms n : Nat} {ret : Option FieldType} {As rest : List Value} {S : Type} {post : Int32 → S → Prop} {w' : S → va_W} {wc wr : va_W} (hM : MZ l y ws rm D tys (.ref a :: As) wc b L xs sa (Qi D post w') mc ms) (hG : GoodIn Ts (wsV own index C y ws)) (hw : ws = Cond.code y bytes maxL ret :: ws') (hrc : rm.cells = mc) (hrs : rm.slots = ms) (hdd : y.cls = C ∧ y.cls ≠ "java/lang/invoke/MethodHandle" ∧ y.cls ≠ "java/lang/invoke/VarHandle" ∧ (parseMethodDescriptor y.desc).map (fun d => d.parameters.length) = some n) (hR : rm.frames + 1 ≤ R.frames ∧ 8 + (maxL + 11) + rm.locals ≤ R.locals) {k0 ci : Nat} {q0 : vw_C} {fs : List Value} (hrv : wc[k0]? = some (a, .inr (ci, fs))) (hcl : vwCl[ci]? = some q0) (hq0 : q0.1 = C) (hsp : Sp w wc wr) (hn : As.length = n) (hst : st = As.reverse ++ .ref a :: rest) (hW : (rest.map fun v => v.category).sum ≤ 8) (hd : decode cc pc = .ok (.invokevirtual index, 3)) (hf : cs.1 + mc ≤ R.cells ∧ cs.2 + ms ≤ R.slots) (kk : ∀ (r : Int32) (u : S), post r u → V p l e R s m args below meth c nL D A Q (cs.1 + mc, cs.2 + ms) (wr ++ w' u) lv (pc + 3) (.int r :: rest)) : V p l e R s m args below meth c nL D A Q cs w lv pc st := by
  subst hst
  intro H locs ls hP hD hS hl
  obtain ⟨isC, isR, hC1, hR1, hnC, hnR, hdis⟩ := hsp
  have hPc := pl_P hP hC1
  have hDc := hD.sub isC hnC hC1
  have hFc := va_free (wc := wc) hD hS B.2.2.2.2.2.2 isC hC1
  refine va_calli (va_runV (As := As) (rest := rest) ⟨B.1, B.2.1, B.2.2.1, B.2.2.2.1, B.2.2.2.2.1⟩ (hM H.size) (cwV n B.2.2.2.2.1 hG hw hrc hrs hdd hR) ⟨Pz.blind, (by subst hq0; exact va_recv B.2.2.2.2.2.1.1 hPc hcl hrv), fun U hU hW => ⟨rfl, ⟨by rw [hU], by rw [hU]; exact hPc, Cx.warm hW B.2.2.2.2.2.1, hDc.weaken (fun _ _ _ _ => trivial)⟩, by rw [hU]; exact ZL.warm hW ((hz.kept hS.1 hS.2.1).narrow hFc)⟩⟩ rfl hn hl.1 rfl (lv_room hW) hd hf) hS (fun q _ h => hFc q h) hFc (fun r u t H1 locs1 ht hvm hw2 hB hz1 hk1 hS1 => ?_)
  obtain ⟨hP1, hD1⟩ := hB
  rw [ht] at hP1
  obtain ⟨hP2, hD2⟩ := va_join (wr := wr) (w1 := w' u) hP hD isC isR hC1 hR1 hnR hdis hk1 hFc hP1 hD1
  exact kk r u hw2 H1 locs1 ls hP2 hD2 hS1 hl
theorem v_callVlZ (B : Bx p s m args c cc nL own Ts D tys A) (hz : ZL b L xs sa A s s.heap) {y : MethodName} {ws ws' : List Cond} {rm : Room} {C : String} {a : Nat} {index : Nat} {bytes : ByteArray} {maxL mc ms n : Nat} {ret : Option FieldType} {As rest : List Value} {S : Type} {post : Int64 → S → Prop} {w' : S → va_W} {wc wr : va_W} (hM : MZ l y ws rm D tys (.ref a :: As) wc b L xs sa (Ql D post w') mc ms) (hG : GoodIn Ts (wsV own index C y ws)) (hw : ws = Cond.code y bytes maxL ret :: ws') (hrc : rm.cells = mc) (hrs : rm.slots = ms) (hdd : y.cls = C ∧ y.cls ≠ "java/lang/invoke/MethodHandle" ∧ y.cls ≠ "java/lang/invoke/VarHandle" ∧ (parseMethodDescriptor y.desc).map (fun d => d.parameters.length) = some n) (hR : rm.frames + 1 ≤ R.frames ∧ 8 + (maxL + 11) + rm.locals ≤ R.locals) {k0 ci : Nat} {q0 : vw_C} {fs : List Value} (hrv : wc[k0]? = some (a, .inr (ci, fs))) (hcl : vwCl[ci]? = some q0) (hq0 : q0.1 = C) (hsp : Sp w wc wr) (hn : As.length = n) (hst : st = As.reverse ++ .ref a :: rest) (hW : (rest.map fun v => v.category).sum ≤ 8) (hd : decode cc pc = .ok (.invokevirtual index, 3)) (hf : cs.1 + mc ≤ R.cells ∧ cs.2 + ms ≤ R.slots) (kk : ∀ (r : Int64) (u : S), post r u → V p l e R s m args below meth c nL D A Q (cs.1 + mc, cs.2 + ms) (wr ++ w' u) lv (pc + 3) (.long r :: rest)) : V p l e R s m args below meth c nL D A Q cs w lv pc st := by
  subst hst
  intro H locs ls hP hD hS hl
  obtain ⟨isC, isR, hC1, hR1, hnC, hnR, hdis⟩ := hsp
  have hPc := pl_P hP hC1
  have hDc := hD.sub isC hnC hC1
  have hFc := va_free (wc := wc) hD hS B.2.2.2.2.2.2 isC hC1
  refine va_calll (va_runV (As := As) (rest := rest) ⟨B.1, B.2.1, B.2.2.1, B.2.2.2.1, B.2.2.2.2.1⟩ (hM H.size) (cwV n B.2.2.2.2.1 hG hw hrc hrs hdd hR) ⟨Pz.blind, (by subst hq0; exact va_recv B.2.2.2.2.2.1.1 hPc hcl hrv), fun U hU hW => ⟨rfl, ⟨by rw [hU], by rw [hU]; exact hPc, Cx.warm hW B.2.2.2.2.2.1, hDc.weaken (fun _ _ _ _ => trivial)⟩, by rw [hU]; exact ZL.warm hW ((hz.kept hS.1 hS.2.1).narrow hFc)⟩⟩ rfl hn hl.1 rfl (lv_room hW) hd hf) hS (fun q _ h => hFc q h) hFc (fun r u t H1 locs1 ht hvm hw2 hB hz1 hk1 hS1 => ?_)
  obtain ⟨hP1, hD1⟩ := hB
  rw [ht] at hP1
  obtain ⟨hP2, hD2⟩ := va_join (wr := wr) (w1 := w' u) hP hD isC isR hC1 hR1 hnR hdis hk1 hFc hP1 hD1
  exact kk r u hw2 H1 locs1 ls hP2 hD2 hS1 hl
theorem v_callVvZ (B : Bx p s m args c cc nL own Ts D tys A) (hz : ZL b L xs sa A s s.heap) {y : MethodName} {ws ws' : List Cond} {rm : Room} {C : String} {a : Nat} {index : Nat} {bytes : ByteArray} {maxL mc ms n : Nat} {ret : Option FieldType} {As rest : List Value} {S : Type} {post : S → Prop} {w' : S → va_W} {wc wr : va_W} (hM : MZ l y ws rm D tys (.ref a :: As) wc b L xs sa (Qv D post w') mc ms) (hG : GoodIn Ts (wsV own index C y ws)) (hw : ws = Cond.code y bytes maxL ret :: ws') (hrc : rm.cells = mc) (hrs : rm.slots = ms) (hdd : y.cls = C ∧ y.cls ≠ "java/lang/invoke/MethodHandle" ∧ y.cls ≠ "java/lang/invoke/VarHandle" ∧ (parseMethodDescriptor y.desc).map (fun d => d.parameters.length) = some n) (hR : rm.frames + 1 ≤ R.frames ∧ 8 + (maxL + 11) + rm.locals ≤ R.locals) {k0 ci : Nat} {q0 : vw_C} {fs : List Value} (hrv : wc[k0]? = some (a, .inr (ci, fs))) (hcl : vwCl[ci]? = some q0) (hq0 : q0.1 = C) (hsp : Sp w wc wr) (hn : As.length = n) (hst : st = As.reverse ++ .ref a :: rest) (hW : (rest.map fun v => v.category).sum ≤ 8) (hd : decode cc pc = .ok (.invokevirtual index, 3)) (hf : cs.1 + mc ≤ R.cells ∧ cs.2 + ms ≤ R.slots) (kk : ∀ (u : S), post u → V p l e R s m args below meth c nL D A Q (cs.1 + mc, cs.2 + ms) (wr ++ w' u) lv (pc + 3) rest) : V p l e R s m args below meth c nL D A Q cs w lv pc st := by
  subst hst
  intro H locs ls hP hD hS hl
  obtain ⟨isC, isR, hC1, hR1, hnC, hnR, hdis⟩ := hsp
  have hPc := pl_P hP hC1
  have hDc := hD.sub isC hnC hC1
  have hFc := va_free (wc := wc) hD hS B.2.2.2.2.2.2 isC hC1
  refine va_callv (va_runV (As := As) (rest := rest) ⟨B.1, B.2.1, B.2.2.1, B.2.2.2.1, B.2.2.2.2.1⟩ (hM H.size) (cwV n B.2.2.2.2.1 hG hw hrc hrs hdd hR) ⟨Pz.blind, (by subst hq0; exact va_recv B.2.2.2.2.2.1.1 hPc hcl hrv), fun U hU hW => ⟨rfl, ⟨by rw [hU], by rw [hU]; exact hPc, Cx.warm hW B.2.2.2.2.2.1, hDc.weaken (fun _ _ _ _ => trivial)⟩, by rw [hU]; exact ZL.warm hW ((hz.kept hS.1 hS.2.1).narrow hFc)⟩⟩ rfl hn hl.1 rfl (lv_room hW) hd hf) hS (fun q _ h => hFc q h) hFc (fun u t H1 locs1 ht hvm hw2 hB hz1 hk1 hS1 => ?_)
  obtain ⟨hP1, hD1⟩ := hB
  rw [ht] at hP1
  obtain ⟨hP2, hD2⟩ := va_join (wr := wr) (w1 := w' u) hP hD isC isR hC1 hR1 hnR hdis hk1 hFc hP1 hD1
  exact kk u hw2 H1 locs1 ls hP2 hD2 hS1 hl
theorem v_callVqZ (B : Bx p s m args c cc nL own Ts D tys A) (hz : ZL b L xs sa A s s.heap) {y : MethodName} {ws ws' : List Cond} {rm : Room} {C : String} {a : Nat} {index : Nat} {bytes : ByteArray} {maxL mc ms n : Nat} {ret : Option FieldType} {As rest : List Value} {S : Type} {post : Option Nat → S → Prop} {w' : S → va_W} {wc wr : va_W} (hM : MZ l y ws rm D tys (.ref a :: As) wc b L xs sa (Qq D post w') mc ms) (hG : GoodIn Ts (wsV own index C y ws)) (hw : ws = Cond.code y bytes maxL ret :: ws') (hrc : rm.cells = mc) (hrs : rm.slots = ms) (hdd : y.cls = C ∧ y.cls ≠ "java/lang/invoke/MethodHandle" ∧ y.cls ≠ "java/lang/invoke/VarHandle" ∧ (parseMethodDescriptor y.desc).map (fun d => d.parameters.length) = some n) (hR : rm.frames + 1 ≤ R.frames ∧ 8 + (maxL + 11) + rm.locals ≤ R.locals) {k0 ci : Nat} {q0 : vw_C} {fs : List Value} (hrv : wc[k0]? = some (a, .inr (ci, fs))) (hcl : vwCl[ci]? = some q0) (hq0 : q0.1 = C) (hsp : Sp w wc wr) (hn : As.length = n) (hst : st = As.reverse ++ .ref a :: rest) (hW : (rest.map fun v => v.category).sum ≤ 8) (hd : decode cc pc = .ok (.invokevirtual index, 3)) (hf : cs.1 + mc ≤ R.cells ∧ cs.2 + ms ≤ R.slots) (kk : ∀ (r : Option Nat) (u : S), post r u → V p l e R s m args below meth c nL D A Q (cs.1 + mc, cs.2 + ms) (wr ++ w' u) lv (pc + 3) (va_rf r :: rest)) : V p l e R s m args below meth c nL D A Q cs w lv pc st := by
  subst hst
  intro H locs ls hP hD hS hl
  obtain ⟨isC, isR, hC1, hR1, hnC, hnR, hdis⟩ := hsp
  have hPc := pl_P hP hC1
  have hDc := hD.sub isC hnC hC1
  have hFc := va_free (wc := wc) hD hS B.2.2.2.2.2.2 isC hC1
  refine va_callq (va_runV (As := As) (rest := rest) ⟨B.1, B.2.1, B.2.2.1, B.2.2.2.1, B.2.2.2.2.1⟩ (hM H.size) (cwV n B.2.2.2.2.1 hG hw hrc hrs hdd hR) ⟨Pz.blind, (by subst hq0; exact va_recv B.2.2.2.2.2.1.1 hPc hcl hrv), fun U hU hW => ⟨rfl, ⟨by rw [hU], by rw [hU]; exact hPc, Cx.warm hW B.2.2.2.2.2.1, hDc.weaken (fun _ _ _ _ => trivial)⟩, by rw [hU]; exact ZL.warm hW ((hz.kept hS.1 hS.2.1).narrow hFc)⟩⟩ rfl hn hl.1 rfl (lv_room hW) hd hf) hS (fun q _ h => hFc q h) hFc (fun r u t H1 locs1 ht hvm hw2 hB hz1 hk1 hS1 => ?_)
  obtain ⟨hP1, hD1⟩ := hB
  rw [ht] at hP1
  obtain ⟨hP2, hD2⟩ := va_join (wr := wr) (w1 := w' u) hP hD isC isR hC1 hR1 hnR hdis hk1 hFc hP1 hD1
  exact kk r u hw2 H1 locs1 ls hP2 hD2 hS1 hl
theorem v_callSiZ (B : Bx p s m args c cc nL own Ts D tys A) (hz : ZL b L xs sa A s s.heap) {y : MethodName} {ws ws' : List Cond} {rm : Room} {index : Nat} {bytes : ByteArray} {maxL mc ms n : Nat} {ret : Option FieldType} {As rest : List Value} {S : Type} {post : Int32 → S → Prop} {w' : S → va_W} {wc wr : va_W} (hM : MZ l y ws rm D tys (As) wc b L xs sa (Qi D post w') mc ms) (hG : GoodIn Ts (va_wsS own index y ws)) (hw : ws = Cond.code y bytes maxL ret :: ws') (hrc : rm.cells = mc) (hrs : rm.slots = ms) (hdd : y.cls ≠ "java/lang/invoke/MethodHandle" ∧ y.cls ≠ "java/lang/invoke/VarHandle" ∧ (parseMethodDescriptor y.desc).map (fun d => d.parameters.length) = some n) (hR : rm.frames + 1 ≤ R.frames ∧ 8 + (maxL + 11) + rm.locals ≤ R.locals) (hsp : Sp w wc wr) (hn : As.length = n) (hst : st = As.reverse ++ rest) (hW : (rest.map fun v => v.category).sum ≤ 8) (hd : decode cc pc = .ok (.invokestatic index, 3)) (hf : cs.1 + mc ≤ R.cells ∧ cs.2 + ms ≤ R.slots) (kk : ∀ (r : Int32) (u : S), post r u → V p l e R s m args below meth c nL D A Q (cs.1 + mc, cs.2 + ms) (wr ++ w' u) lv (pc + 3) (.int r :: rest)) : V p l e R s m args below meth c nL D A Q cs w lv pc st := by
  subst hst
  intro H locs ls hP hD hS hl
  obtain ⟨isC, isR, hC1, hR1, hnC, hnR, hdis⟩ := hsp
  have hPc := pl_P hP hC1
  have hDc := hD.sub isC hnC hC1
  have hFc := va_free (wc := wc) hD hS B.2.2.2.2.2.2 isC hC1
  refine va_calli (va_runS (As := As) (rest := rest) ⟨B.1, B.2.1, B.2.2.1, B.2.2.2.1, B.2.2.2.2.1⟩ (hM H.size) (va_cwS n B.2.2.2.2.1 hG hw hrc hrs hdd hR) ⟨Pz.blind, fun U hU hW => ⟨rfl, ⟨by rw [hU], by rw [hU]; exact hPc, Cx.warm hW B.2.2.2.2.2.1, hDc.weaken (fun _ _ _ _ => trivial)⟩, by rw [hU]; exact ZL.warm hW ((hz.kept hS.1 hS.2.1).narrow hFc)⟩⟩ rfl hn hl.1 rfl (lv_room hW) hd hf) hS (fun q _ h => hFc q h) hFc (fun r u t H1 locs1 ht hvm hw2 hB hz1 hk1 hS1 => ?_)
  obtain ⟨hP1, hD1⟩ := hB
  rw [ht] at hP1
  obtain ⟨hP2, hD2⟩ := va_join (wr := wr) (w1 := w' u) hP hD isC isR hC1 hR1 hnR hdis hk1 hFc hP1 hD1
  exact kk r u hw2 H1 locs1 ls hP2 hD2 hS1 hl
theorem v_callSlZ (B : Bx p s m args c cc nL own Ts D tys A) (hz : ZL b L xs sa A s s.heap) {y : MethodName} {ws ws' : List Cond} {rm : Room} {index : Nat} {bytes : ByteArray} {maxL mc ms n : Nat} {ret : Option FieldType} {As rest : List Value} {S : Type} {post : Int64 → S → Prop} {w' : S → va_W} {wc wr : va_W} (hM : MZ l y ws rm D tys (As) wc b L xs sa (Ql D post w') mc ms) (hG : GoodIn Ts (va_wsS own index y ws)) (hw : ws = Cond.code y bytes maxL ret :: ws') (hrc : rm.cells = mc) (hrs : rm.slots = ms) (hdd : y.cls ≠ "java/lang/invoke/MethodHandle" ∧ y.cls ≠ "java/lang/invoke/VarHandle" ∧ (parseMethodDescriptor y.desc).map (fun d => d.parameters.length) = some n) (hR : rm.frames + 1 ≤ R.frames ∧ 8 + (maxL + 11) + rm.locals ≤ R.locals) (hsp : Sp w wc wr) (hn : As.length = n) (hst : st = As.reverse ++ rest) (hW : (rest.map fun v => v.category).sum ≤ 8) (hd : decode cc pc = .ok (.invokestatic index, 3)) (hf : cs.1 + mc ≤ R.cells ∧ cs.2 + ms ≤ R.slots) (kk : ∀ (r : Int64) (u : S), post r u → V p l e R s m args below meth c nL D A Q (cs.1 + mc, cs.2 + ms) (wr ++ w' u) lv (pc + 3) (.long r :: rest)) : V p l e R s m args below meth c nL D A Q cs w lv pc st := by
  subst hst
  intro H locs ls hP hD hS hl
  obtain ⟨isC, isR, hC1, hR1, hnC, hnR, hdis⟩ := hsp
  have hPc := pl_P hP hC1
  have hDc := hD.sub isC hnC hC1
  have hFc := va_free (wc := wc) hD hS B.2.2.2.2.2.2 isC hC1
  refine va_calll (va_runS (As := As) (rest := rest) ⟨B.1, B.2.1, B.2.2.1, B.2.2.2.1, B.2.2.2.2.1⟩ (hM H.size) (va_cwS n B.2.2.2.2.1 hG hw hrc hrs hdd hR) ⟨Pz.blind, fun U hU hW => ⟨rfl, ⟨by rw [hU], by rw [hU]; exact hPc, Cx.warm hW B.2.2.2.2.2.1, hDc.weaken (fun _ _ _ _ => trivial)⟩, by rw [hU]; exact ZL.warm hW ((hz.kept hS.1 hS.2.1).narrow hFc)⟩⟩ rfl hn hl.1 rfl (lv_room hW) hd hf) hS (fun q _ h => hFc q h) hFc (fun r u t H1 locs1 ht hvm hw2 hB hz1 hk1 hS1 => ?_)
  obtain ⟨hP1, hD1⟩ := hB
  rw [ht] at hP1
  obtain ⟨hP2, hD2⟩ := va_join (wr := wr) (w1 := w' u) hP hD isC isR hC1 hR1 hnR hdis hk1 hFc hP1 hD1
  exact kk r u hw2 H1 locs1 ls hP2 hD2 hS1 hl
theorem v_callSvZ (B : Bx p s m args c cc nL own Ts D tys A) (hz : ZL b L xs sa A s s.heap) {y : MethodName} {ws ws' : List Cond} {rm : Room} {index : Nat} {bytes : ByteArray} {maxL mc ms n : Nat} {ret : Option FieldType} {As rest : List Value} {S : Type} {post : S → Prop} {w' : S → va_W} {wc wr : va_W} (hM : MZ l y ws rm D tys (As) wc b L xs sa (Qv D post w') mc ms) (hG : GoodIn Ts (va_wsS own index y ws)) (hw : ws = Cond.code y bytes maxL ret :: ws') (hrc : rm.cells = mc) (hrs : rm.slots = ms) (hdd : y.cls ≠ "java/lang/invoke/MethodHandle" ∧ y.cls ≠ "java/lang/invoke/VarHandle" ∧ (parseMethodDescriptor y.desc).map (fun d => d.parameters.length) = some n) (hR : rm.frames + 1 ≤ R.frames ∧ 8 + (maxL + 11) + rm.locals ≤ R.locals) (hsp : Sp w wc wr) (hn : As.length = n) (hst : st = As.reverse ++ rest) (hW : (rest.map fun v => v.category).sum ≤ 8) (hd : decode cc pc = .ok (.invokestatic index, 3)) (hf : cs.1 + mc ≤ R.cells ∧ cs.2 + ms ≤ R.slots) (kk : ∀ (u : S), post u → V p l e R s m args below meth c nL D A Q (cs.1 + mc, cs.2 + ms) (wr ++ w' u) lv (pc + 3) rest) : V p l e R s m args below meth c nL D A Q cs w lv pc st := by
  subst hst
  intro H locs ls hP hD hS hl
  obtain ⟨isC, isR, hC1, hR1, hnC, hnR, hdis⟩ := hsp
  have hPc := pl_P hP hC1
  have hDc := hD.sub isC hnC hC1
  have hFc := va_free (wc := wc) hD hS B.2.2.2.2.2.2 isC hC1
  refine va_callv (va_runS (As := As) (rest := rest) ⟨B.1, B.2.1, B.2.2.1, B.2.2.2.1, B.2.2.2.2.1⟩ (hM H.size) (va_cwS n B.2.2.2.2.1 hG hw hrc hrs hdd hR) ⟨Pz.blind, fun U hU hW => ⟨rfl, ⟨by rw [hU], by rw [hU]; exact hPc, Cx.warm hW B.2.2.2.2.2.1, hDc.weaken (fun _ _ _ _ => trivial)⟩, by rw [hU]; exact ZL.warm hW ((hz.kept hS.1 hS.2.1).narrow hFc)⟩⟩ rfl hn hl.1 rfl (lv_room hW) hd hf) hS (fun q _ h => hFc q h) hFc (fun u t H1 locs1 ht hvm hw2 hB hz1 hk1 hS1 => ?_)
  obtain ⟨hP1, hD1⟩ := hB
  rw [ht] at hP1
  obtain ⟨hP2, hD2⟩ := va_join (wr := wr) (w1 := w' u) hP hD isC isR hC1 hR1 hnR hdis hk1 hFc hP1 hD1
  exact kk u hw2 H1 locs1 ls hP2 hD2 hS1 hl
theorem v_callSqZ (B : Bx p s m args c cc nL own Ts D tys A) (hz : ZL b L xs sa A s s.heap) {y : MethodName} {ws ws' : List Cond} {rm : Room} {index : Nat} {bytes : ByteArray} {maxL mc ms n : Nat} {ret : Option FieldType} {As rest : List Value} {S : Type} {post : Option Nat → S → Prop} {w' : S → va_W} {wc wr : va_W} (hM : MZ l y ws rm D tys (As) wc b L xs sa (Qq D post w') mc ms) (hG : GoodIn Ts (va_wsS own index y ws)) (hw : ws = Cond.code y bytes maxL ret :: ws') (hrc : rm.cells = mc) (hrs : rm.slots = ms) (hdd : y.cls ≠ "java/lang/invoke/MethodHandle" ∧ y.cls ≠ "java/lang/invoke/VarHandle" ∧ (parseMethodDescriptor y.desc).map (fun d => d.parameters.length) = some n) (hR : rm.frames + 1 ≤ R.frames ∧ 8 + (maxL + 11) + rm.locals ≤ R.locals) (hsp : Sp w wc wr) (hn : As.length = n) (hst : st = As.reverse ++ rest) (hW : (rest.map fun v => v.category).sum ≤ 8) (hd : decode cc pc = .ok (.invokestatic index, 3)) (hf : cs.1 + mc ≤ R.cells ∧ cs.2 + ms ≤ R.slots) (kk : ∀ (r : Option Nat) (u : S), post r u → V p l e R s m args below meth c nL D A Q (cs.1 + mc, cs.2 + ms) (wr ++ w' u) lv (pc + 3) (va_rf r :: rest)) : V p l e R s m args below meth c nL D A Q cs w lv pc st := by
  subst hst
  intro H locs ls hP hD hS hl
  obtain ⟨isC, isR, hC1, hR1, hnC, hnR, hdis⟩ := hsp
  have hPc := pl_P hP hC1
  have hDc := hD.sub isC hnC hC1
  have hFc := va_free (wc := wc) hD hS B.2.2.2.2.2.2 isC hC1
  refine va_callq (va_runS (As := As) (rest := rest) ⟨B.1, B.2.1, B.2.2.1, B.2.2.2.1, B.2.2.2.2.1⟩ (hM H.size) (va_cwS n B.2.2.2.2.1 hG hw hrc hrs hdd hR) ⟨Pz.blind, fun U hU hW => ⟨rfl, ⟨by rw [hU], by rw [hU]; exact hPc, Cx.warm hW B.2.2.2.2.2.1, hDc.weaken (fun _ _ _ _ => trivial)⟩, by rw [hU]; exact ZL.warm hW ((hz.kept hS.1 hS.2.1).narrow hFc)⟩⟩ rfl hn hl.1 rfl (lv_room hW) hd hf) hS (fun q _ h => hFc q h) hFc (fun r u t H1 locs1 ht hvm hw2 hB hz1 hk1 hS1 => ?_)
  obtain ⟨hP1, hD1⟩ := hB
  rw [ht] at hP1
  obtain ⟨hP2, hD2⟩ := va_join (wr := wr) (w1 := w' u) hP hD isC isR hC1 hR1 hnR hdis hk1 hFc hP1 hD1
  exact kk r u hw2 H1 locs1 ls hP2 hD2 hS1 hl
theorem v_sld (B : Bx p s m args c cc nL own Ts D tys A) (hz : ZL b L xs sa A s s.heap) {i v : Int32} (hi : vp_in i L) (hv : xs i.toNatClampNeg = v) (hd : decode cc pc = .ok (.iaload, 1)) (kk : V p l e R s m args below meth c nL D A Q cs w lv (pc + 1) (.int v :: st)) : V p l e R s m args below meth c nL D A Q cs w lv pc (.int i :: .ref b :: st) := fun H locs ls hP hD hS hl => (by subst hv; exact va_sld B.1 B.2.1 hz.1.1 hz.1.2.1 hz.1.2.2 hS hi hd (kk H locs ls hP hD hS hl))
theorem v_slen (B : Bx p s m args c cc nL own Ts D tys A) (hz : ZL b L xs sa A s s.heap) (hd : decode cc pc = .ok (.arraylength, 1)) (kk : V p l e R s m args below meth c nL D A Q cs w lv (pc + 1) (.int (Int32.ofNat L) :: st)) : V p l e R s m args below meth c nL D A Q cs w lv pc (.ref b :: st) := fun H locs ls hP hD hS hl => va_slen B.1 B.2.1 hz.1.1 hz.1.2.1 hz.1.2.2 hS hd (kk H locs ls hP hD hS hl)
theorem v_eq0 {cs' : Nat × Nat} {w' : va_W} {st' : List Value} (h1 : cs = cs') (h2 : w = w') (h3 : st = st') (kk : V p l e R s m args below meth c nL D A Q cs' w' lv pc st') : V p l e R s m args below meth c nL D A Q cs w lv pc st := by
  subst h1; subst h2; subst h3
  exact kk
end VZ
def wsE00 : List Cond := (vx_atS RX11 392 tIA ups).filter goodWord
theorem gw_E0 : wsE00.all goodWord = true := List.all_eq_true.mpr fun _ h => (List.mem_filter.mp h).2
theorem ng_E0 : ∀ w ∈ (vx_atS RX11 392 tIA ups).filter (fun w => !goodWord w), w ∈ [Cond.castable tIA tIA, wDR, wDE, wDT] := by decide +kernel
theorem ot_E0 (ik : Nat) : ∀ w ∈ Cond.classLink RX11 ik tIA :: Cond.initialized tIA :: vx_atS RX11 392 tIA ups, vx_ot w = true := fun w h => (List.mem_cons.mp h).elim (fun e => by rw [e]; rfl) (fun h => (List.mem_cons.mp h).elim (fun e => by rw [e]; rfl) (fun h => (by decide +kernel : ∀ w ∈ vx_atS RX11 392 tIA ups, vx_ot w = true) w h))
