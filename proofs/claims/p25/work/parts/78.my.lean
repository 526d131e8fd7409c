/-- a call that returns, or throws E: its cells are known either way -/
def MY (l : Launch) (y : MethodName) (ws : List Cond) (rm : Room) (D : va_G) (tys : List (ClassId × FieldType)) (av : List Value) (w : va_W) (b L : Nat) (xs : Nat → Int32) (sa : Nat → Nat) (E : String) {S : Type} (post : Int32 → S → Prop) (px : S → Prop) (w' : S → va_W) (mc ms : Nat) : Prop :=
  ∀ sz : Nat, vx_Met l y ws rm (va_Pc av (Pz D tys w b L xs sa sz)) (va_Qi post (fun u t => Qw D (va_A w sz) (w' u) t) (va_A w sz)) (vx_X px (fun E' u t => E' = E ∧ Qw D (va_A w sz) (w' u) t) (va_A w sz)) mc ms (va_A w sz)
theorem my_of {l : Launch} {y : MethodName} {ws ws' : List Cond} {rm : Room} {D : va_G} {tys : List (ClassId × FieldType)} {av : List Value} {w : va_W} {b L : Nat} {xs : Nat → Int32} {sa : Nat → Nat} {E : String} {S : Type} {post : Int32 → S → Prop} {px : S → Prop} {w' : S → va_W} {mc ms : Nat} {cc : ByteArray} {maxL : Nat} {ret : Option FieldType} (hy : plainName y.cls = true) (hw : ws = Cond.code y cc maxL ret :: ws') (hn : (lg_sl av).length ≤ maxL)
    (body : ∀ (p : Program) (e : Env) (s : State) (m : MethodId) (below : List Frame) (meth : Method) (c : Code) (A : Nat → Prop), Bx p s m av.toArray c cc maxL y.cls ws D tys A → meth.sig.returnType = ret → meth.locks = false → (∀ x ∈ c.exceptionTable.toList, False) → ZL b L xs sa A s s.heap → V p l e rm s m av.toArray below meth c maxL D A (vx_MQ below (va_Qi post (fun u t => Qw D A (w' u) t) A) (vx_X px (fun E' u t => E' = E ∧ Qw D A (w' u) t) A) av.toArray s mc ms A) (0, 0) w (lv_args 0 av) 0 []) : MY l y ws rm D tys av w b L xs sa E post px w' mc ms := by
  intro sz
  refine vx_ofW (cc := cc) (maxL := maxL) (ret := ret) hy hw ?_
  intro p e s m args below meth c s₁ B hml htb hv
  obtain ⟨rfl, ⟨hsz, hP, hC, hD0⟩, hZ⟩ := hv
  have hts := atoms_spec (ws := ws) B.pre
  have hown : s.vm.findClass y.cls = some m.cls := findClass_of_methodNamed B.named
  subst hsz
  have hD := hD0.self (sz := s.heap.size)
  generalize hAe : va_A w s.heap.size = A at hD hZ ⊢
  have hA : ∀ q : Nat, s.heap.size ≤ q → A q := fun q h => by rw [← hAe]; exact Or.inr h
  have hl := lv_entry av (n := maxL) hn
  rw [lg_entry_eq]
  exact body p e s m below meth c A ⟨B.exec, B.bytes, hml, hown, hts, hC, hA⟩ B.returns B.notSynchronized htb hZ s.heap [] _ hP hD va_S.rf hl
section VY
variable {p : Program} {l : Launch} {e : Env} {R : Room} {s : State} {m : MethodId} {args : Array Value} {below : List Frame} {meth : Method} {c : Code} {cc : ByteArray} {nL : Nat} {own : String} {Ts : List Cond} {D : va_G} {tys : List (ClassId × FieldType)} {A : Nat → Prop} {Q : State → Prop} {cs : Nat × Nat} {w : va_W} {lv : List (Nat × Value)} {pc : Nat} {st : List Value}
variable {b L : Nat} {xs : Nat → Int32} {sa : Nat → Nat} {S : Type} {post : Int32 → S → Prop} {px : S → Prop} {w' : S → va_W}
theorem v_throwSY (B : Bx p s m args c cc nL own Ts D tys A) (hz : ZL b L xs sa A s s.heap) (hl0 : l.stackTraces = false) (htb : ∀ x ∈ c.exceptionTable.toList, False) (hlk : meth.locks = false) (u : S) (hpx : px u) (hwu : w' u = w) {E text : String} {ik is ic mc ms sp : Nat} (hE : Bundle.fit E = true) (hk : Cond.classLink own ik E ∈ Ts) (hini : Cond.initialized E ∈ Ts) (hstr : vk_R own is text sp s) (hin : ∀ w ∈ (vx_atS own ic E ups).filter goodWord, w ∈ Ts) (hng : ∀ w ∈ (vx_atS own ic E ups).filter (fun w => !goodWord w), w ∈ [Cond.castable E E, wDR, wDE, wDT]) (hca : va_Nw (.castable E E) s) (hgood : ∀ w ∈ Cond.classLink own ik E :: Cond.initialized E :: vx_atS own ic E ups, vx_ot w = true)
    (d0 : decode cc pc = .ok (.new ik, 3)) (d3 : decode cc (pc + 3) = .ok (.dup, 1)) (d4 : decode cc (pc + 4) = .ok (.ldc_w is, 3)) (d7 : decode cc (pc + 7) = .ok (.invokespecial ic, 3)) (d10 : decode cc (pc + 10) = .ok (.athrow, 1))
    (hRf : 5 < R.frames) (hRl : (st.map fun v => v.category).sum + 82 ≤ R.locals) (hRc : cs.1 + 1 ≤ R.cells) (hRs : cs.2 + 6 ≤ R.slots) (hc : cs.1 + 1 ≤ mc) (hs : cs.2 + 6 ≤ ms) : V p l e R s m args below meth c nL D A (vx_MQ below (va_Qi post (fun u t => Qw D A (w' u) t) A) (vx_X px (fun E' u t => E' = E ∧ Qw D A (w' u) t) A) args s mc ms A) cs w lv pc st := by
  intro H locs ls hP hD hS hl
  refine vx_throwSW (A := A) B.1 B.2.1 hl0 B.2.2.2.1 hE (names := ups) (by decide +kernel) (B.2.2.2.2.1 _ hk) (B.2.2.2.2.1 _ hini) hstr (vx_hat (fun w hw => B.2.2.2.2.1 _ (hin w hw)) hng (vx_c (va_Nw.use rfl hca) (vx_c (va_Nw.use rfl hz.2.2.2.1.2.2.1) (vx_c (va_Nw.use rfl hz.2.2.2.1.2.2.2.1) (vx_c (va_Nw.use rfl hz.2.2.2.1.2.2.2.2) vx_n))))) hgood hz.2.1 hz.2.2.1 hS (by rw [B.2.2.1]; exact hl.1) d0 d3 d4 d7 d10 (fun x hx => (htb x hx).elim) hRf hRl hRc hRs hlk ?_ hS.2.2 hc hs
  intro t _ h1 h2
  exact ⟨u, hpx, ⟨rfl, by rw [hwu]; exact hP.kept (fun k q hk => h2 q.1 (hP k q hk).lt), by rw [hwu]; exact hD⟩, Nat.le_trans hS.1 h1, fun q hq hA => (h2 q (Nat.lt_of_lt_of_le hq hS.1)).trans (hS.2.1 q hq hA)⟩
theorem v_throwNY (B : Bx p s m args c cc nL RX11 Ts D tys A) (hz : ZL b L xs sa A s s.heap) (hl0 : l.stackTraces = false) (htb : ∀ x ∈ c.exceptionTable.toList, False) (hlk : meth.locks = false) (u : S) (hpx : px u) (hwu : w' u = w) {text : String} {is mc ms sp : Nat} (hk : Cond.classLink RX11 282 tNS ∈ Ts) (hini : Cond.initialized tNS ∈ Ts) (hstr : vk_R RX11 is text sp s) (hin : ∀ w ∈ wsE10, w ∈ Ts)
    (d0 : decode cc pc = .ok (.new 282, 3)) (d3 : decode cc (pc + 3) = .ok (.dup, 1)) (d4 : decode cc (pc + 4) = .ok (.ldc_w is, 3)) (d7 : decode cc (pc + 7) = .ok (.invokespecial 286, 3)) (d10 : decode cc (pc + 10) = .ok (.athrow, 1))
    (hRf : 5 < R.frames) (hRl : (st.map fun v => v.category).sum + 82 ≤ R.locals) (hRc : cs.1 + 1 ≤ R.cells) (hRs : cs.2 + 6 ≤ R.slots) (hc : cs.1 + 1 ≤ mc) (hs : cs.2 + 6 ≤ ms) : V p l e R s m args below meth c nL D A (vx_MQ below (va_Qi post (fun u t => Qw D A (w' u) t) A) (vx_X px (fun E' u t => E' = tNS ∧ Qw D A (w' u) t) A) args s mc ms A) cs w lv pc st := by
  intro H locs ls hP hD hS hl
  refine nx_throwSW (A := A) (r := ["java/lang/Exception"]) (Y := "java/lang/RuntimeException") (ix := 13) (rx := thirteen) B.1 B.2.1 hl0 (by decide +kernel) (by decide +kernel) (by decide +kernel) (by decide +kernel) B.2.2.2.1 (by decide +kernel) (by decide +kernel) (by decide +kernel) (B.2.2.2.2.1 _ hk) (B.2.2.2.2.1 _ hini) hstr (vx_hat (L := nxw) (fun w hw => B.2.2.2.2.1 _ (hin w hw)) ng_E1 (vx_c (va_Nw.use rfl hz.2.2.2.1.2.1) (vx_c (va_Nw.use rfl hz.2.2.2.1.2.2.1) (vx_c (va_Nw.use rfl hz.2.2.2.1.2.2.2.1) (vx_c (va_Nw.use rfl hz.2.2.2.1.2.2.2.2) vx_n))))) ot_E1 hz.2.1 hz.2.2.1 hS (by rw [B.2.2.1]; exact hl.1) d0 d3 d4 d7 d10 (fun x hx => (htb x hx).elim) hRf hRl hRc hRs hlk ?_ hS.2.2 hc hs
  intro t _ h1 h2
  exact ⟨u, hpx, ⟨rfl, by rw [hwu]; exact hP.kept (fun k q hk => h2 q.1 (hP k q hk).lt), by rw [hwu]; exact hD⟩, Nat.le_trans hS.1 h1, fun q hq hA => (h2 q (Nat.lt_of_lt_of_le hq hS.1)).trans (hS.2.1 q hq hA)⟩
theorem v_iretY (B : Bx p s m args c cc nL own Ts D tys A) {XC : String → State → State → Prop} {mc ms : Nat} {v : Int32} (hr : meth.sig.returnType = some .int) (hlk : meth.locks = false) (u : S) (hp : post v u) (hw : w' u = w) (h1 : cs.1 ≤ mc) (h2 : cs.2 ≤ ms) (hd : decode cc pc = .ok (.ireturn, 1)) : V p l e R s m args below meth c nL D A (vx_MQ below (va_Qi post (fun u t => Qw D A (w' u) t) A) XC args s mc ms A) cs w lv pc [.int v] := fun H locs ls hP hD hS hl => vx_ret (v_iret B hr hlk u hp hw h1 h2 hd H locs ls hP hD hS hl)
theorem v_catchY (B : Bx p s m args c cc nL own Ts D tys A) (hz : ZL b L xs sa A s s.heap) {y : MethodName} {ws ws' : List Cond} {rm : Room} {C E : String} {a : Nat} {index : Nat} {bytes : ByteArray} {maxL mc ms n : Nat} {ret : Option FieldType} {As rest : List Value} {wc wr : va_W} (hM : MY l y ws rm D tys (.ref a :: As) wc b L xs sa E post px w' mc ms) (hG : GoodIn Ts (wsV own index C y ws)) (hw : ws = Cond.code y bytes maxL ret :: ws') (hrc : rm.cells = mc) (hrs : rm.slots = ms) (hdd : y.cls = C ∧ y.cls ≠ "java/lang/invoke/MethodHandle" ∧ y.cls ≠ "java/lang/invoke/VarHandle" ∧ (parseMethodDescriptor y.desc).map (fun d => d.parameters.length) = some n) (hR : rm.frames + 1 ≤ R.frames ∧ 8 + (maxL + 11) + rm.locals ≤ R.locals) (k0 : Nat) {ci : Nat} {q0 : vw_C} {fs : List Value} (hrv : wc[k0]? = some (a, .inr (ci, fs))) (hcl : vwCl[ci]? = some q0) (hq0 : q0.1 = C) (hsp : Sp w wc wr) (hn : As.length = n) (hst : st = As.reverse ++ .ref a :: rest) (hW : (rest.map fun v => v.category).sum ≤ 8) (hd : decode cc pc = .ok (.invokevirtual index, 3)) (hf : cs.1 + mc ≤ R.cells ∧ cs.2 + ms ≤ R.slots)
    {x : ExceptionTableEntry} (hT : c.exceptionTable.toList = [x]) (hcov : covers x pc = true) (h0 : x.catchType ≠ 0) (hlink : Cond.classLink own x.catchType E ∈ Ts) (hca : va_Nw (.castable E E) s) {tgt : Nat} (ht : x.handlerPc = tgt) (kx : ∀ (q : Nat) (u : S), px u → V p l e R s m args below meth c nL D A Q (cs.1 + mc, cs.2 + ms) (wr ++ w' u) lv tgt [.ref q]) (kn : ∀ (r : Int32) (u : S), post r u → V p l e R s m args below meth c nL D A Q (cs.1 + mc, cs.2 + ms) (wr ++ w' u) lv (pc + 3) (.int r :: rest)) : V p l e R s m args below meth c nL D A Q cs w lv pc st := by
  subst hst
  subst ht
  intro H locs ls hP hD hS hl
  obtain ⟨isC, isR, hC1, hR1, hnC, hnR, hdis⟩ := hsp
  have hPc := pl_P hP hC1
  have hDc := hD.sub isC hnC hC1
  have hFc := va_free (wc := wc) hD hS B.2.2.2.2.2.2 isC hC1
  refine vx_calli (vx_runV (As := As) (rest := rest) ⟨B.1, B.2.1, B.2.2.1, B.2.2.2.1, B.2.2.2.2.1⟩ (hM H.size) (cwV n B.2.2.2.2.1 hG hw hrc hrs hdd hR) ⟨Pz.blind, (by subst hq0; exact va_recv B.2.2.2.2.2.1.1 hPc hcl hrv), fun U hU hW => ⟨rfl, ⟨by rw [hU], by rw [hU]; exact hPc, Cx.warm hW B.2.2.2.2.2.1, hDc.weaken (fun _ _ _ _ => trivial)⟩, by rw [hU]; exact ZL.warm hW ((hz.kept hS.1 hS.2.1).narrow hFc)⟩⟩ rfl hn hl.1 rfl (lv_room hW) hd hf) hS (fun q _ h => hFc q h) hFc (fun q _ h => hFc q h) (fun E' ce q9 u t H1 locs1 ht hvm hpx hE hz1 hk1 hS1 hcell hcv hcl9 => ?_) (fun r u t H1 locs1 ht hvm hw2 hB hz1 hk1 hS1 => ?_)
  · obtain ⟨hE, hP1, hD1⟩ := hE
    subst hE
    rw [ht] at hP1
    obtain ⟨hP2, hD2⟩ := va_join (wr := wr) (w1 := w' u) hP hD isC isR hC1 hR1 hnR hdis hk1 hFc hP1 hD1
    exact vx_catch B.2.2.2.1 [] x [] hT (fun _ h => nomatch h) hcov h0 (B.2.2.2.2.1 _ hlink) (va_Nw.use rfl hca) hcell hcv hcl9 (kx q9 u hpx H1 locs1 ls hP2 hD2 hS1 hl)
  · obtain ⟨hP1, hD1⟩ := hB
    rw [ht] at hP1
    obtain ⟨hP2, hD2⟩ := va_join (wr := wr) (w1 := w' u) hP hD isC isR hC1 hR1 hnR hdis hk1 hFc hP1 hD1
    exact kn r u hw2 H1 locs1 ls hP2 hD2 hS1 hl
end VY
