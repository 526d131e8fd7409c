theorem mg_of {l : Launch} {y : MethodName} {ws ws' : List Cond} {rm : Room} {D : va_G} {tys : List (ClassId × FieldType)} {av : List Value} {w : va_W} {Qf : (Nat → Prop) → Array Value → State → Outcome → State → Prop} {mc ms : Nat} {cc : ByteArray} {maxL : Nat} {ret : Option FieldType} (hy : plainName y.cls = true) (hw : ws = Cond.code y cc maxL ret :: ws') (hn : (lg_sl av).length ≤ maxL)
    (body : ∀ (p : Program) (e : Env) (s : State) (m : MethodId) (below : List Frame) (meth : Method) (c : Code) (A : Nat → Prop), Bx p s m av.toArray c cc maxL y.cls ws D tys A → meth.sig.returnType = ret → meth.locks = false → meth.name = y.name → V p l e rm s m av.toArray below meth c maxL D A (MQ below (Qf A) av.toArray s mc ms A) (0, 0) w (lv_args 0 av) 0 []) : MG l y ws rm D tys av w Qf mc ms := by
  intro sz
  refine Met.ofW (cc := cc) (maxL := maxL) (ret := ret) hy hw ?_
  intro p e s m args below meth c s₁ B hml hv
  obtain ⟨rfl, hsz, hP, hC, hD0⟩ := hv
  have hts := atoms_spec (ws := ws) B.pre
  have hown : s.vm.findClass y.cls = some m.cls := findClass_of_methodNamed B.named
  subst hsz
  have hD := hD0.self (sz := s.heap.size)
  generalize hAe : va_A w s.heap.size = A at hD ⊢
  have hA : ∀ q : Nat, s.heap.size ≤ q → A q := fun q h => by rw [← hAe]; exact Or.inr h
  have hl := lv_entry av (n := maxL) hn
  rw [lg_entry_eq]
  exact body p e s m below meth c A ⟨B.exec, B.bytes, hml, hown, hts, hC, hA⟩ B.returns B.notSynchronized (name_of_methodNamed B.named B.method).1 s.heap [] _ hP hD va_S.rf hl
/-! a world cut in two: the callee's cells, and the rest -/
def Sp (w wc wr : va_W) : Prop := ∃ isC isR : List Nat, isC.map (fun i => w[i]?) = wc.map some ∧ isR.map (fun i => w[i]?) = wr.map some ∧ va_nd isC = true ∧ va_nd isR = true ∧ ∀ i ∈ isR, i ∉ isC
theorem va_nd_of : ∀ l : List Nat, l.Nodup → va_nd l = true
  | [], _ => rfl
  | a :: l, h => by
    have h2 := List.nodup_cons.mp h
    simp [va_nd, h2.1, va_nd_of l h2.2]
theorem rg_all (w : va_W) : (List.range w.length).map (fun i => w[i]?) = w.map some := by
  apply List.ext_getElem?
  intro i
  by_cases h : i < w.length
  · simp [h]
  · rw [List.getElem?_eq_none (by simp; omega), List.getElem?_eq_none (by simp; omega)]
theorem sp_whole (w : va_W) : Sp w w [] := ⟨List.range w.length, [], rg_all w, rfl, va_nd_of _ List.nodup_range, rfl, fun _ h => nomatch h⟩
theorem sp_pl {w wc wr : va_W} (isC isR : List Nat) (h1 : isC.map (fun i => w[i]?) = wc.map some) (h2 : isR.map (fun i => w[i]?) = wr.map some) (h3 : va_nd isC = true) (h4 : va_nd isR = true) (h5 : isR.all (fun i => !isC.contains i) = true) : Sp w wc wr := ⟨isC, isR, h1, h2, h3, h4, fun i hi hc => by
  have := List.all_eq_true.mp h5 i hi
  simp [hc] at this⟩
theorem sp_app (a b : va_W) : Sp (a ++ b) a b := by
  refine ⟨List.range a.length, (List.range b.length).map (fun i => a.length + i), ?_, ?_, va_nd_of _ List.nodup_range, va_nd_of _ ?_, ?_⟩
  · rw [← rg_all a]
    apply List.map_congr_left
    intro i hi
    rw [List.getElem?_append_left (List.mem_range.mp hi)]
  · rw [List.map_map, ← rg_all b]
    apply List.map_congr_left
    intro i _
    show (a ++ b)[a.length + i]? = b[i]?
    rw [List.getElem?_append_right (by omega), Nat.add_sub_cancel_left]
  · exact List.Pairwise.map _ (fun x y h => by omega) List.nodup_range
  · intro i hi hc
    obtain ⟨j, -, rfl⟩ := List.mem_map.mp hi
    have := List.mem_range.mp hc
    omega
theorem sp_app' (a b : va_W) : Sp (a ++ b) b a := by
  obtain ⟨i1, i2, h1, h2, h3, h4, h5⟩ := sp_app a b
  exact ⟨i2, i1, h2, h1, h4, h3, fun i hi hc => h5 i hc hi⟩
theorem pl_P {D : va_G} {cl : List vw_C} {w wc : va_W} {H : Heap} {isC : List Nat} (hP : va_P D cl w H) (hC : isC.map (fun i => w[i]?) = wc.map some) : va_P D cl wc H := by
  intro k q hk
  have h1 : (isC.map (fun i => w[i]?))[k]? = some (some q) := by rw [hC, List.getElem?_map, hk]; rfl
  rw [List.getElem?_map] at h1
  cases hi : isC[k]? with
  | none => rw [hi] at h1; cases h1
  | some i => rw [hi] at h1; exact hP i q (Option.some.inj h1)
def Qq (D : va_G) {S : Type} (post : Option Nat → S → Prop) (w' : S → va_W) (A : Nat → Prop) : Array Value → State → Outcome → State → Prop := va_Qq post (fun u t => Qw D A (w' u) t) A
section VC
variable {p : Program} {l : Launch} {e : Env} {R : Room} {s : State} {m : MethodId} {args : Array Value} {below : List Frame} {meth : Method} {c : Code} {cc : ByteArray} {nL : Nat} {own : String} {Ts : List Cond} {D : va_G} {tys : List (ClassId × FieldType)} {A : Nat → Prop} {Q : State → Prop} {cs : Nat × Nat} {w : va_W} {lv : List (Nat × Value)} {pc : Nat} {st : List Value}
theorem v_forget {wc wr : va_W} (hsp : Sp w wc wr) (kk : V p l e R s m args below meth c nL D A Q cs wc lv pc st) : V p l e R s m args below meth c nL D A Q cs w lv pc st := fun H locs ls hP hD hS hl => (by obtain ⟨i1, i2, h1, h2, h3, h4, h5⟩ := hsp; exact kk H locs ls (pl_P hP h1) (hD.sub i1 h3 h1) hS hl)
theorem v_widen {k n : Nat} (h1 : cs.1 ≤ k) (h2 : cs.2 ≤ n) (kk : V p l e R s m args below meth c nL D A Q (k, n) w lv pc st) : V p l e R s m args below meth c nL D A Q cs w lv pc st := fun H locs ls hP hD hS hl => W.widen h1 h2 (kk H locs ls hP hD hS hl)
theorem v_iret (B : Bx p s m args c cc nL own Ts D tys A) {S : Type} {post : Int32 → S → Prop} {w' : S → va_W} {mc ms : Nat} {v : Int32} (hr : meth.sig.returnType = some .int) (hlk : meth.locks = false) (u : S) (hp : post v u) (hw : w' u = w) (h1 : cs.1 ≤ mc) (h2 : cs.2 ≤ ms) (hd : decode cc pc = .ok (.ireturn, 1)) : V p l e R s m args below meth c nL D A (MQ below (Qi D post w' A) args s mc ms A) cs w lv pc [.int v] := fun H locs ls hP hD hS hl => W.widen h1 h2 (W.iret B.1 B.2.1 hr (fun t ht _ => ⟨⟨v, u, rfl, hp, by rw [ht, hw]; exact hP, by rw [hw]; exact hD⟩, hS.F ht⟩) hS.2.2 hd hlk)
theorem v_lret (B : Bx p s m args c cc nL own Ts D tys A) {S : Type} {post : Int64 → S → Prop} {w' : S → va_W} {mc ms : Nat} {v : Int64} (hr : meth.sig.returnType = some .long) (hlk : meth.locks = false) (u : S) (hp : post v u) (hw : w' u = w) (h1 : cs.1 ≤ mc) (h2 : cs.2 ≤ ms) (hd : decode cc pc = .ok (.lreturn, 1)) : V p l e R s m args below meth c nL D A (MQ below (Ql D post w' A) args s mc ms A) cs w lv pc [.long v] := fun H locs ls hP hD hS hl => W.widen h1 h2 (W.lret B.1 B.2.1 hr (fun t ht _ => ⟨⟨v, u, rfl, hp, by rw [ht, hw]; exact hP, by rw [hw]; exact hD⟩, hS.F ht⟩) hS.2.2 hd hlk)
theorem v_zret (B : Bx p s m args c cc nL own Ts D tys A) {S : Type} {post : Int32 → S → Prop} {w' : S → va_W} {mc ms : Nat} {v : Int32} {ty : FieldType} (hr : meth.sig.returnType = some ty) (hlk : meth.locks = false) (hn : narrow ty (.int v) = .int v) (u : S) (hp : post v u) (hw : w' u = w) (h1 : cs.1 ≤ mc) (h2 : cs.2 ≤ ms) (hd : decode cc pc = .ok (.ireturn, 1)) : V p l e R s m args below meth c nL D A (MQ below (Qi D post w' A) args s mc ms A) cs w lv pc [.int v] := fun H locs ls hP hD hS hl => W.widen h1 h2 (W.zret B.1 B.2.1 hr hn (fun t ht _ => ⟨⟨v, u, rfl, hp, by rw [ht, hw]; exact hP, by rw [hw]; exact hD⟩, hS.F ht⟩) hS.2.2 hd hlk)
theorem v_vret (B : Bx p s m args c cc nL own Ts D tys A) {S : Type} {post : S → Prop} {w' : S → va_W} {mc ms : Nat} (hr : meth.sig.returnType = none) (hlk : meth.locks = false) (u : S) (hp : post u) (hw : w' u = w) (h1 : cs.1 ≤ mc) (h2 : cs.2 ≤ ms) (hd : decode cc pc = .ok (.return_, 1)) : V p l e R s m args below meth c nL D A (MQ below (Qv D post w' A) args s mc ms A) cs w lv pc [] := fun H locs ls hP hD hS hl => W.widen h1 h2 (W.vret B.1 B.2.1 hr (fun t ht _ => ⟨⟨u, rfl, hp, by rw [ht, hw]; exact hP, by rw [hw]; exact hD⟩, hS.F ht⟩) hS.2.2 hd hlk)
theorem v_aret (B : Bx p s m args c cc nL own Ts D tys A) {S : Type} {post : Option Nat → S → Prop} {w' : S → va_W} {mc ms : Nat} {C : String} (r : Option Nat) (hr : meth.sig.returnType = some (.object C)) (hlk : meth.locks = false) (u : S) (hp : post r u) (hw : w' u = w) (h1 : cs.1 ≤ mc) (h2 : cs.2 ≤ ms) (hd : decode cc pc = .ok (.areturn, 1)) : V p l e R s m args below meth c nL D A (MQ below (Qq D post w' A) args s mc ms A) cs w lv pc [va_rf r] := fun H locs ls hP hD hS hl => W.widen h1 h2 (W.aret B.1 B.2.1 hr (Or.inl ⟨C, rfl⟩) (by cases r with | none => exact Or.inl rfl | some a => exact Or.inr ⟨a, rfl⟩) (fun t ht _ => ⟨⟨r, u, rfl, hp, by rw [ht, hw]; exact hP, by rw [hw]; exact hD⟩, hS.F ht⟩) hS.2.2 hd hlk)
theorem v_callVi (B : Bx p s m args c cc nL own Ts D tys A) {y : MethodName} {ws ws' : List Cond} {rm : Room} {C : String} {b : Nat} {index : Nat} {bytes : ByteArray} {maxL mc ms n : Nat} {ret : Option FieldType} {As rest : List Value} {S : Type} {post : Int32 → S → Prop} {w' : S → va_W} {wc wr : va_W} (hM : MG l y ws rm D tys (.ref b :: As) wc (Qi D post w') mc ms) (hG : GoodIn Ts (wsV own index C y ws)) (hw : ws = Cond.code y bytes maxL ret :: ws') (hrc : rm.cells = mc) (hrs : rm.slots = ms) (hdd : y.cls = C ∧ y.cls ≠ "java/lang/invoke/MethodHandle" ∧ y.cls ≠ "java/lang/invoke/VarHandle" ∧ (parseMethodDescriptor y.desc).map (fun d => d.parameters.length) = some n) (hR : rm.frames + 1 ≤ R.frames ∧ 8 + (maxL + 11) + rm.locals ≤ R.locals) (k0 : Nat) {ci : Nat} {q0 : vw_C} {fs : List Value} (hrv : wc[k0]? = some (b, .inr (ci, fs))) (hcl : vwCl[ci]? = some q0) (hq0 : q0.1 = C) (hsp : Sp w wc wr) (hn : As.length = n) (hst : st = As.reverse ++ .ref b :: rest) (hW : (rest.map fun v => v.category).sum ≤ 8) (hd : decode cc pc = .ok (.invokevirtual index, 3)) (hf : cs.1 + mc ≤ R.cells ∧ cs.2 + ms ≤ R.slots) (kk : ∀ (r : Int32) (u : S), post r u → V p l e R s m args below meth c nL D A Q (cs.1 + mc, cs.2 + ms) (wr ++ w' u) lv (pc + 3) (.int r :: rest)) : V p l e R s m args below meth c nL D A Q cs w lv pc st := by
  subst hst
  intro H locs ls hP hD hS hl
  obtain ⟨isC, isR, hC1, hR1, hnC, hnR, hdis⟩ := hsp
  have hPc := pl_P hP hC1
  have hDc := hD.sub isC hnC hC1
  have hFc := va_free (wc := wc) hD hS B.2.2.2.2.2.2 isC hC1
  refine va_calli (va_runV (As := As) (rest := rest) ⟨B.1, B.2.1, B.2.2.1, B.2.2.2.1, B.2.2.2.2.1⟩ (hM H.size) (cwV n B.2.2.2.2.1 hG hw hrc hrs hdd hR) ⟨Pw.blind, (by subst hq0; exact va_recv B.2.2.2.2.2.1.1 hPc hcl hrv), fun U hU hW => ⟨rfl, by rw [hU], by rw [hU]; exact hPc, Cx.warm hW B.2.2.2.2.2.1, hDc.weaken (fun _ _ _ _ => trivial)⟩⟩ rfl hn hl.1 rfl (lv_room hW) hd hf) hS (fun q _ h => hFc q h) hFc (fun r u t H1 locs1 ht hvm hw2 hB hz1 hk1 hS1 => ?_)
  obtain ⟨hP1, hD1⟩ := hB
  rw [ht] at hP1
  obtain ⟨hP2, hD2⟩ := va_join (wr := wr) (w1 := w' u) hP hD isC isR hC1 hR1 hnR hdis hk1 hFc hP1 hD1
  exact kk r u hw2 H1 locs1 ls hP2 hD2 hS1 hl
theorem v_callVl (B : Bx p s m args c cc nL own Ts D tys A) {y : MethodName} {ws ws' : List Cond} {rm : Room} {C : String} {b : Nat} {index : Nat} {bytes : ByteArray} {maxL mc ms n : Nat} {ret : Option FieldType} {As rest : List Value} {S : Type} {post : Int64 → S → Prop} {w' : S → va_W} {wc wr : va_W} (hM : MG l y ws rm D tys (.ref b :: As) wc (Ql D post w') mc ms) (hG : GoodIn Ts (wsV own index C y ws)) (hw : ws = Cond.code y bytes maxL ret :: ws') (hrc : rm.cells = mc) (hrs : rm.slots = ms) (hdd : y.cls = C ∧ y.cls ≠ "java/lang/invoke/MethodHandle" ∧ y.cls ≠ "java/lang/invoke/VarHandle" ∧ (parseMethodDescriptor y.desc).map (fun d => d.parameters.length) = some n) (hR : rm.frames + 1 ≤ R.frames ∧ 8 + (maxL + 11) + rm.locals ≤ R.locals) (k0 : Nat) {ci : Nat} {q0 : vw_C} {fs : List Value} (hrv : wc[k0]? = some (b, .inr (ci, fs))) (hcl : vwCl[ci]? = some q0) (hq0 : q0.1 = C) (hsp : Sp w wc wr) (hn : As.length = n) (hst : st = As.reverse ++ .ref b :: rest) (hW : (rest.map fun v => v.category).sum ≤ 8) (hd : decode cc pc = .ok (.invokevirtual index, 3)) (hf : cs.1 + mc ≤ R.cells ∧ cs.2 + ms ≤ R.slots) (kk : ∀ (r : Int64) (u : S), post r u → V p l e R s m args below meth c nL D A Q (cs.1 + mc, cs.2 + ms) (wr ++ w' u) lv (pc + 3) (.long r :: rest)) : V p l e R s m args below meth c nL D A Q cs w lv pc st := by
  subst hst
  intro H locs ls hP hD hS hl
  obtain ⟨isC, isR, hC1, hR1, hnC, hnR, hdis⟩ := hsp
  have hPc := pl_P hP hC1
  have hDc := hD.sub isC hnC hC1
  have hFc := va_free (wc := wc) hD hS B.2.2.2.2.2.2 isC hC1
  refine va_calll (va_runV (As := As) (rest := rest) ⟨B.1, B.2.1, B.2.2.1, B.2.2.2.1, B.2.2.2.2.1⟩ (hM H.size) (cwV n B.2.2.2.2.1 hG hw hrc hrs hdd hR) ⟨Pw.blind, (by subst hq0; exact va_recv B.2.2.2.2.2.1.1 hPc hcl hrv), fun U hU hW => ⟨rfl, by rw [hU], by rw [hU]; exact hPc, Cx.warm hW B.2.2.2.2.2.1, hDc.weaken (fun _ _ _ _ => trivial)⟩⟩ rfl hn hl.1 rfl (lv_room hW) hd hf) hS (fun q _ h => hFc q h) hFc (fun r u t H1 locs1 ht hvm hw2 hB hz1 hk1 hS1 => ?_)
  obtain ⟨hP1, hD1⟩ := hB
  rw [ht] at hP1
  obtain ⟨hP2, hD2⟩ := va_join (wr := wr) (w1 := w' u) hP hD isC isR hC1 hR1 hnR hdis hk1 hFc hP1 hD1
  exact kk r u hw2 H1 locs1 ls hP2 hD2 hS1 hl
theorem v_callVv (B : Bx p s m args c cc nL own Ts D tys A) {y : MethodName} {ws ws' : List Cond} {rm : Room} {C : String} {b : Nat} {index : Nat} {bytes : ByteArray} {maxL mc ms n : Nat} {ret : Option FieldType} {As rest : List Value} {S : Type} {post : S → Prop} {w' : S → va_W} {wc wr : va_W} (hM : MG l y ws rm D tys (.ref b :: As) wc (Qv D post w') mc ms) (hG : GoodIn Ts (wsV own index C y ws)) (hw : ws = Cond.code y bytes maxL ret :: ws') (hrc : rm.cells = mc) (hrs : rm.slots = ms) (hdd : y.cls = C ∧ y.cls ≠ "java/lang/invoke/MethodHandle" ∧ y.cls ≠ "java/lang/invoke/VarHandle" ∧ (parseMethodDescriptor y.desc).map (fun d => d.parameters.length) = some n) (hR : rm.frames + 1 ≤ R.frames ∧ 8 + (maxL + 11) + rm.locals ≤ R.locals) (k0 : Nat) {ci : Nat} {q0 : vw_C} {fs : List Value} (hrv : wc[k0]? = some (b, .inr (ci, fs))) (hcl : vwCl[ci]? = some q0) (hq0 : q0.1 = C) (hsp : Sp w wc wr) (hn : As.length = n) (hst : st = As.reverse ++ .ref b :: rest) (hW : (rest.map fun v => v.category).sum ≤ 8) (hd : decode cc pc = .ok (.invokevirtual index, 3)) (hf : cs.1 + mc ≤ R.cells ∧ cs.2 + ms ≤ R.slots) (kk : ∀ (u : S), post u → V p l e R s m args below meth c nL D A Q (cs.1 + mc, cs.2 + ms) (wr ++ w' u) lv (pc + 3) rest) : V p l e R s m args below meth c nL D A Q cs w lv pc st := by
  subst hst
  intro H locs ls hP hD hS hl
  obtain ⟨isC, isR, hC1, hR1, hnC, hnR, hdis⟩ := hsp
  have hPc := pl_P hP hC1
  have hDc := hD.sub isC hnC hC1
  have hFc := va_free (wc := wc) hD hS B.2.2.2.2.2.2 isC hC1
  refine va_callv (va_runV (As := As) (rest := rest) ⟨B.1, B.2.1, B.2.2.1, B.2.2.2.1, B.2.2.2.2.1⟩ (hM H.size) (cwV n B.2.2.2.2.1 hG hw hrc hrs hdd hR) ⟨Pw.blind, (by subst hq0; exact va_recv B.2.2.2.2.2.1.1 hPc hcl hrv), fun U hU hW => ⟨rfl, by rw [hU], by rw [hU]; exact hPc, Cx.warm hW B.2.2.2.2.2.1, hDc.weaken (fun _ _ _ _ => trivial)⟩⟩ rfl hn hl.1 rfl (lv_room hW) hd hf) hS (fun q _ h => hFc q h) hFc (fun u t H1 locs1 ht hvm hw2 hB hz1 hk1 hS1 => ?_)
  obtain ⟨hP1, hD1⟩ := hB
  rw [ht] at hP1
  obtain ⟨hP2, hD2⟩ := va_join (wr := wr) (w1 := w' u) hP hD isC isR hC1 hR1 hnR hdis hk1 hFc hP1 hD1
  exact kk u hw2 H1 locs1 ls hP2 hD2 hS1 hl
theorem v_callVq (B : Bx p s m args c cc nL own Ts D tys A) {y : MethodName} {ws ws' : List Cond} {rm : Room} {C : String} {b : Nat} {index : Nat} {bytes : ByteArray} {maxL mc ms n : Nat} {ret : Option FieldType} {As rest : List Value} {S : Type} {post : Option Nat → S → Prop} {w' : S → va_W} {wc wr : va_W} (hM : MG l y ws rm D tys (.ref b :: As) wc (Qq D post w') mc ms) (hG : GoodIn Ts (wsV own index C y ws)) (hw : ws = Cond.code y bytes maxL ret :: ws') (hrc : rm.cells = mc) (hrs : rm.slots = ms) (hdd : y.cls = C ∧ y.cls ≠ "java/lang/invoke/MethodHandle" ∧ y.cls ≠ "java/lang/invoke/VarHandle" ∧ (parseMethodDescriptor y.desc).map (fun d => d.parameters.length) = some n) (hR : rm.frames + 1 ≤ R.frames ∧ 8 + (maxL + 11) + rm.locals ≤ R.locals) (k0 : Nat) {ci : Nat} {q0 : vw_C} {fs : List Value} (hrv : wc[k0]? = some (b, .inr (ci, fs))) (hcl : vwCl[ci]? = some q0) (hq0 : q0.1 = C) (hsp : Sp w wc wr) (hn : As.length = n) (hst : st = As.reverse ++ .ref b :: rest) (hW : (rest.map fun v => v.category).sum ≤ 8) (hd : decode cc pc = .ok (.invokevirtual index, 3)) (hf : cs.1 + mc ≤ R.cells ∧ cs.2 + ms ≤ R.slots) (kk : ∀ (r : Option Nat) (u : S), post r u → V p l e R s m args below meth c nL D A Q (cs.1 + mc, cs.2 + ms) (wr ++ w' u) lv (pc + 3) (va_rf r :: rest)) : V p l e R s m args below meth c nL D A Q cs w lv pc st := by
  subst hst
  intro H locs ls hP hD hS hl
  obtain ⟨isC, isR, hC1, hR1, hnC, hnR, hdis⟩ := hsp
  have hPc := pl_P hP hC1
  have hDc := hD.sub isC hnC hC1
  have hFc := va_free (wc := wc) hD hS B.2.2.2.2.2.2 isC hC1
  refine va_callq (va_runV (As := As) (rest := rest) ⟨B.1, B.2.1, B.2.2.1, B.2.2.2.1, B.2.2.2.2.1⟩ (hM H.size) (cwV n B.2.2.2.2.1 hG hw hrc hrs hdd hR) ⟨Pw.blind, (by subst hq0; exact va_recv B.2.2.2.2.2.1.1 hPc hcl hrv), fun U hU hW => ⟨rfl, by rw [hU], by rw [hU]; exact hPc, Cx.warm hW B.2.2.2.2.2.1, hDc.weaken (fun _ _ _ _ => trivial)⟩⟩ rfl hn hl.1 rfl (lv_room hW) hd hf) hS (fun q _ h => hFc q h) hFc (fun r u t H1 locs1 ht hvm hw2 hB hz1 hk1 hS1 => ?_)
  obtain ⟨hP1, hD1⟩ := hB
  rw [ht] at hP1
  obtain ⟨hP2, hD2⟩ := va_join (wr := wr) (w1 := w' u) hP hD isC isR hC1 hR1 hnR hdis hk1 hFc hP1 hD1
  exact kk r u hw2 H1 locs1 ls hP2 hD2 hS1 hl
theorem v_callSi (B : Bx p s m args c cc nL own Ts D tys A) {y : MethodName} {ws ws' : List Cond} {rm : Room} {index : Nat} {bytes : ByteArray} {maxL mc ms n : Nat} {ret : Option FieldType} {As rest : List Value} {S : Type} {post : Int32 → S → Prop} {w' : S → va_W} {wc wr : va_W} (hM : MG l y ws rm D tys (As) wc (Qi D post w') mc ms) (hG : GoodIn Ts (va_wsS own index y ws)) (hw : ws = Cond.code y bytes maxL ret :: ws') (hrc : rm.cells = mc) (hrs : rm.slots = ms) (hdd : y.cls ≠ "java/lang/invoke/MethodHandle" ∧ y.cls ≠ "java/lang/invoke/VarHandle" ∧ (parseMethodDescriptor y.desc).map (fun d => d.parameters.length) = some n) (hR : rm.frames + 1 ≤ R.frames ∧ 8 + (maxL + 11) + rm.locals ≤ R.locals) (hsp : Sp w wc wr) (hn : As.length = n) (hst : st = As.reverse ++ rest) (hW : (rest.map fun v => v.category).sum ≤ 8) (hd : decode cc pc = .ok (.invokestatic index, 3)) (hf : cs.1 + mc ≤ R.cells ∧ cs.2 + ms ≤ R.slots) (kk : ∀ (r : Int32) (u : S), post r u → V p l e R s m args below meth c nL D A Q (cs.1 + mc, cs.2 + ms) (wr ++ w' u) lv (pc + 3) (.int r :: rest)) : V p l e R s m args below meth c nL D A Q cs w lv pc st := by
  subst hst
  intro H locs ls hP hD hS hl
  obtain ⟨isC, isR, hC1, hR1, hnC, hnR, hdis⟩ := hsp
  have hPc := pl_P hP hC1
  have hDc := hD.sub isC hnC hC1
  have hFc := va_free (wc := wc) hD hS B.2.2.2.2.2.2 isC hC1
  refine va_calli (va_runS (As := As) (rest := rest) ⟨B.1, B.2.1, B.2.2.1, B.2.2.2.1, B.2.2.2.2.1⟩ (hM H.size) (va_cwS n B.2.2.2.2.1 hG hw hrc hrs hdd hR) ⟨Pw.blind, fun U hU hW => ⟨rfl, by rw [hU], by rw [hU]; exact hPc, Cx.warm hW B.2.2.2.2.2.1, hDc.weaken (fun _ _ _ _ => trivial)⟩⟩ rfl hn hl.1 rfl (lv_room hW) hd hf) hS (fun q _ h => hFc q h) hFc (fun r u t H1 locs1 ht hvm hw2 hB hz1 hk1 hS1 => ?_)
  obtain ⟨hP1, hD1⟩ := hB
  rw [ht] at hP1
  obtain ⟨hP2, hD2⟩ := va_join (wr := wr) (w1 := w' u) hP hD isC isR hC1 hR1 hnR hdis hk1 hFc hP1 hD1
  exact kk r u hw2 H1 locs1 ls hP2 hD2 hS1 hl
theorem v_callSl (B : Bx p s m args c cc nL own Ts D tys A) {y : MethodName} {ws ws' : List Cond} {rm : Room} {index : Nat} {bytes : ByteArray} {maxL mc ms n : Nat} {ret : Option FieldType} {As rest : List Value} {S : Type} {post : Int64 → S → Prop} {w' : S → va_W} {wc wr : va_W} (hM : MG l y ws rm D tys (As) wc (Ql D post w') mc ms) (hG : GoodIn Ts (va_wsS own index y ws)) (hw : ws = Cond.code y bytes maxL ret :: ws') (hrc : rm.cells = mc) (hrs : rm.slots = ms) (hdd : y.cls ≠ "java/lang/invoke/MethodHandle" ∧ y.cls ≠ "java/lang/invoke/VarHandle" ∧ (parseMethodDescriptor y.desc).map (fun d => d.parameters.length) = some n) (hR : rm.frames + 1 ≤ R.frames ∧ 8 + (maxL + 11) + rm.locals ≤ R.locals) (hsp : Sp w wc wr) (hn : As.length = n) (hst : st = As.reverse ++ rest) (hW : (rest.map fun v => v.category).sum ≤ 8) (hd : decode cc pc = .ok (.invokestatic index, 3)) (hf : cs.1 + mc ≤ R.cells ∧ cs.2 + ms ≤ R.slots) (kk : ∀ (r : Int64) (u : S), post r u → V p l e R s m args below meth c nL D A Q (cs.1 + mc, cs.2 + ms) (wr ++ w' u) lv (pc + 3) (.long r :: rest)) : V p l e R s m args below meth c nL D A Q cs w lv pc st := by
  subst hst
  intro H locs ls hP hD hS hl
  obtain ⟨isC, isR, hC1, hR1, hnC, hnR, hdis⟩ := hsp
  have hPc := pl_P hP hC1
  have hDc := hD.sub isC hnC hC1
  have hFc := va_free (wc := wc) hD hS B.2.2.2.2.2.2 isC hC1
  refine va_calll (va_runS (As := As) (rest := rest) ⟨B.1, B.2.1, B.2.2.1, B.2.2.2.1, B.2.2.2.2.1⟩ (hM H.size) (va_cwS n B.2.2.2.2.1 hG hw hrc hrs hdd hR) ⟨Pw.blind, fun U hU hW => ⟨rfl, by rw [hU], by rw [hU]; exact hPc, Cx.warm hW B.2.2.2.2.2.1, hDc.weaken (fun _ _ _ _ => trivial)⟩⟩ rfl hn hl.1 rfl (lv_room hW) hd hf) hS (fun q _ h => hFc q h) hFc (fun r u t H1 locs1 ht hvm hw2 hB hz1 hk1 hS1 => ?_)
  obtain ⟨hP1, hD1⟩ := hB
  rw [ht] at hP1
  obtain ⟨hP2, hD2⟩ := va_join (wr := wr) (w1 := w' u) hP hD isC isR hC1 hR1 hnR hdis hk1 hFc hP1 hD1
  exact kk r u hw2 H1 locs1 ls hP2 hD2 hS1 hl
theorem v_callSv (B : Bx p s m args c cc nL own Ts D tys A) {y : MethodName} {ws ws' : List Cond} {rm : Room} {index : Nat} {bytes : ByteArray} {maxL mc ms n : Nat} {ret : Option FieldType} {As rest : List Value} {S : Type} {post : S → Prop} {w' : S → va_W} {wc wr : va_W} (hM : MG l y ws rm D tys (As) wc (Qv D post w') mc ms) (hG : GoodIn Ts (va_wsS own index y ws)) (hw : ws = Cond.code y bytes maxL ret :: ws') (hrc : rm.cells = mc) (hrs : rm.slots = ms) (hdd : y.cls ≠ "java/lang/invoke/MethodHandle" ∧ y.cls ≠ "java/lang/invoke/VarHandle" ∧ (parseMethodDescriptor y.desc).map (fun d => d.parameters.length) = some n) (hR : rm.frames + 1 ≤ R.frames ∧ 8 + (maxL + 11) + rm.locals ≤ R.locals) (hsp : Sp w wc wr) (hn : As.length = n) (hst : st = As.reverse ++ rest) (hW : (rest.map fun v => v.category).sum ≤ 8) (hd : decode cc pc = .ok (.invokestatic index, 3)) (hf : cs.1 + mc ≤ R.cells ∧ cs.2 + ms ≤ R.slots) (kk : ∀ (u : S), post u → V p l e R s m args below meth c nL D A Q (cs.1 + mc, cs.2 + ms) (wr ++ w' u) lv (pc + 3) rest) : V p l e R s m args below meth c nL D A Q cs w lv pc st := by
  subst hst
  intro H locs ls hP hD hS hl
  obtain ⟨isC, isR, hC1, hR1, hnC, hnR, hdis⟩ := hsp
  have hPc := pl_P hP hC1
  have hDc := hD.sub isC hnC hC1
  have hFc := va_free (wc := wc) hD hS B.2.2.2.2.2.2 isC hC1
  refine va_callv (va_runS (As := As) (rest := rest) ⟨B.1, B.2.1, B.2.2.1, B.2.2.2.1, B.2.2.2.2.1⟩ (hM H.size) (va_cwS n B.2.2.2.2.1 hG hw hrc hrs hdd hR) ⟨Pw.blind, fun U hU hW => ⟨rfl, by rw [hU], by rw [hU]; exact hPc, Cx.warm hW B.2.2.2.2.2.1, hDc.weaken (fun _ _ _ _ => trivial)⟩⟩ rfl hn hl.1 rfl (lv_room hW) hd hf) hS (fun q _ h => hFc q h) hFc (fun u t H1 locs1 ht hvm hw2 hB hz1 hk1 hS1 => ?_)
  obtain ⟨hP1, hD1⟩ := hB
  rw [ht] at hP1
  obtain ⟨hP2, hD2⟩ := va_join (wr := wr) (w1 := w' u) hP hD isC isR hC1 hR1 hnR hdis hk1 hFc hP1 hD1
  exact kk u hw2 H1 locs1 ls hP2 hD2 hS1 hl
theorem v_callSq (B : Bx p s m args c cc nL own Ts D tys A) {y : MethodName} {ws ws' : List Cond} {rm : Room} {index : Nat} {bytes : ByteArray} {maxL mc ms n : Nat} {ret : Option FieldType} {As rest : List Value} {S : Type} {post : Option Nat → S → Prop} {w' : S → va_W} {wc wr : va_W} (hM : MG l y ws rm D tys (As) wc (Qq D post w') mc ms) (hG : GoodIn Ts (va_wsS own index y ws)) (hw : ws = Cond.code y bytes maxL ret :: ws') (hrc : rm.cells = mc) (hrs : rm.slots = ms) (hdd : y.cls ≠ "java/lang/invoke/MethodHandle" ∧ y.cls ≠ "java/lang/invoke/VarHandle" ∧ (parseMethodDescriptor y.desc).map (fun d => d.parameters.length) = some n) (hR : rm.frames + 1 ≤ R.frames ∧ 8 + (maxL + 11) + rm.locals ≤ R.locals) (hsp : Sp w wc wr) (hn : As.length = n) (hst : st = As.reverse ++ rest) (hW : (rest.map fun v => v.category).sum ≤ 8) (hd : decode cc pc = .ok (.invokestatic index, 3)) (hf : cs.1 + mc ≤ R.cells ∧ cs.2 + ms ≤ R.slots) (kk : ∀ (r : Option Nat) (u : S), post r u → V p l e R s m args below meth c nL D A Q (cs.1 + mc, cs.2 + ms) (wr ++ w' u) lv (pc + 3) (va_rf r :: rest)) : V p l e R s m args below meth c nL D A Q cs w lv pc st := by
  subst hst
  intro H locs ls hP hD hS hl
  obtain ⟨isC, isR, hC1, hR1, hnC, hnR, hdis⟩ := hsp
  have hPc := pl_P hP hC1
  have hDc := hD.sub isC hnC hC1
  have hFc := va_free (wc := wc) hD hS B.2.2.2.2.2.2 isC hC1
  refine va_callq (va_runS (As := As) (rest := rest) ⟨B.1, B.2.1, B.2.2.1, B.2.2.2.1, B.2.2.2.2.1⟩ (hM H.size) (va_cwS n B.2.2.2.2.1 hG hw hrc hrs hdd hR) ⟨Pw.blind, fun U hU hW => ⟨rfl, by rw [hU], by rw [hU]; exact hPc, Cx.warm hW B.2.2.2.2.2.1, hDc.weaken (fun _ _ _ _ => trivial)⟩⟩ rfl hn hl.1 rfl (lv_room hW) hd hf) hS (fun q _ h => hFc q h) hFc (fun r u t H1 locs1 ht hvm hw2 hB hz1 hk1 hS1 => ?_)
  obtain ⟨hP1, hD1⟩ := hB
  rw [ht] at hP1
  obtain ⟨hP2, hD2⟩ := va_join (wr := wr) (w1 := w' u) hP hD isC isR hC1 hR1 hnR hdis hk1 hFc hP1 hD1
  exact kk r u hw2 H1 locs1 ls hP2 hD2 hS1 hl
theorem v_callIv (B : Bx p s m args c cc nL own Ts D tys A) {y : MethodName} {ws ws' : List Cond} {rm : Room} {b : Nat} {index : Nat} {bytes : ByteArray} {maxL mc ms n : Nat} {As rest : List Value} {S : Type} {post : S → Prop} {w' : S → va_W} {wc wr : va_W} (hM : MG l y ws rm D tys (.ref b :: As) wc (Qv D post w') mc ms) (hG : GoodIn Ts ws) (hw : ws = Cond.code y bytes maxL none :: ws') (hrc : rm.cells = mc) (hrs : rm.slots = ms) (hdd : y.cls ≠ "java/lang/invoke/MethodHandle" ∧ y.cls ≠ "java/lang/invoke/VarHandle" ∧ (parseMethodDescriptor y.desc).map (fun d => d.parameters.length) = some n) (hR : rm.frames + 1 ≤ R.frames ∧ 8 + (maxL + 11) + rm.locals ≤ R.locals) (hni : Cond.initialized y.cls ∈ Ts) (hml : Cond.methodLink own index y ∈ Ts) (him : Cond.instanceMethod y ∈ Ts) (hy1 : y.name = "<init>") (hsp : Sp w wc wr) (hn : As.length = n) (hst : st = As.reverse ++ .ref b :: rest) (hW : (rest.map fun v => v.category).sum ≤ 8) (hd : decode cc pc = .ok (.invokespecial index, 3)) (hf : cs.1 + mc ≤ R.cells ∧ cs.2 + ms ≤ R.slots) (kk : ∀ (u : S), post u → V p l e R s m args below meth c nL D A Q (cs.1 + mc, cs.2 + ms) (wr ++ w' u) lv (pc + 3) rest) : V p l e R s m args below meth c nL D A Q cs w lv pc st := by
  subst hst
  intro H locs ls hP hD hS hl
  obtain ⟨isC, isR, hC1, hR1, hnC, hnR, hdis⟩ := hsp
  have hPc := pl_P hP hC1
  have hDc := hD.sub isC hnC hC1
  have hFc := va_free (wc := wc) hD hS B.2.2.2.2.2.2 isC hC1
  refine va_callv (va_runI (As := As) (rest := rest) ⟨B.1, B.2.1, B.2.2.1, B.2.2.2.1, B.2.2.2.2.1⟩ (hM H.size) (cwI n B.2.2.2.2.1 hG hw hrc hrs (B.2.2.2.2.1 _ hni) (B.2.2.2.2.1 _ hml) (B.2.2.2.2.1 _ him) hy1 hdd hR) ⟨Pw.blind, fun U hU hW => ⟨rfl, by rw [hU], by rw [hU]; exact hPc, Cx.warm hW B.2.2.2.2.2.1, hDc.weaken (fun _ _ _ _ => trivial)⟩⟩ rfl hn hl.1 rfl (lv_room hW) hd hf) hS (fun q _ h => hFc q h) hFc (fun u t H1 locs1 ht hvm hw2 hB hz1 hk1 hS1 => ?_)
  obtain ⟨hP1, hD1⟩ := hB
  rw [ht] at hP1
  obtain ⟨hP2, hD2⟩ := va_join (wr := wr) (w1 := w' u) hP hD isC isR hC1 hR1 hnR hdis hk1 hFc hP1 hD1
  exact kk u hw2 H1 locs1 ls hP2 hD2 hS1 hl
theorem v_callINv (B : Bx p s m args c cc nL own Ts D tys A) {y : MethodName} {ws ws' : List Cond} {rm : Room} {b : Nat} {host : String} {index : Nat} {bytes : ByteArray} {maxL mc ms n : Nat} {As rest : List Value} {S : Type} {post : S → Prop} {w' : S → va_W} {wc wr : va_W} (hM : MG l y ws rm D tys (.ref b :: As) wc (Qv D post w') mc ms) (hG : GoodIn Ts ws) (hw : ws = Cond.code y bytes maxL none :: ws') (hrc : rm.cells = mc) (hrs : rm.slots = ms) (hdd : y.cls ≠ "java/lang/invoke/MethodHandle" ∧ y.cls ≠ "java/lang/invoke/VarHandle" ∧ (parseMethodDescriptor y.desc).map (fun d => d.parameters.length) = some n) (hR : rm.frames + 1 ≤ R.frames ∧ 8 + (maxL + 11) + rm.locals ≤ R.locals) (hni : Cond.initialized y.cls ∈ Ts) (hml : Cond.methodLinkNest own index y host ∈ nestL) (him : Cond.instanceMethod y ∈ Ts) (hy1 : y.name = "<init>") (hsp : Sp w wc wr) (hn : As.length = n) (hst : st = As.reverse ++ .ref b :: rest) (hW : (rest.map fun v => v.category).sum ≤ 8) (hd : decode cc pc = .ok (.invokespecial index, 3)) (hf : cs.1 + mc ≤ R.cells ∧ cs.2 + ms ≤ R.slots) (kk : ∀ (u : S), post u → V p l e R s m args below meth c nL D A Q (cs.1 + mc, cs.2 + ms) (wr ++ w' u) lv (pc + 3) rest) : V p l e R s m args below meth c nL D A Q cs w lv pc st := by
  subst hst
  intro H locs ls hP hD hS hl
  obtain ⟨isC, isR, hC1, hR1, hnC, hnR, hdis⟩ := hsp
  have hPc := pl_P hP hC1
  have hDc := hD.sub isC hnC hC1
  have hFc := va_free (wc := wc) hD hS B.2.2.2.2.2.2 isC hC1
  refine va_callv (va_runIN (As := As) (rest := rest) ⟨B.1, B.2.1, B.2.2.1, B.2.2.2.1, B.2.2.2.2.1⟩ (hM H.size) ⟨va_cnB n B.2.2.2.2.1 hG hw hrc hrs (B.2.2.2.2.2.1.2.1 _ hml) (B.2.2.2.2.1 _ hni) hdd hR, hy1, B.2.2.2.2.1 _ him⟩ ⟨Pw.blind, fun U hU hW => ⟨rfl, by rw [hU], by rw [hU]; exact hPc, Cx.warm hW B.2.2.2.2.2.1, hDc.weaken (fun _ _ _ _ => trivial)⟩⟩ rfl hn hl.1 rfl (lv_room hW) hd hf) hS (fun q _ h => hFc q h) hFc (fun u t H1 locs1 ht hvm hw2 hB hz1 hk1 hS1 => ?_)
  obtain ⟨hP1, hD1⟩ := hB
  rw [ht] at hP1
  obtain ⟨hP2, hD2⟩ := va_join (wr := wr) (w1 := w' u) hP hD isC isR hC1 hR1 hnR hdis hk1 hFc hP1 hD1
  exact kk u hw2 H1 locs1 ls hP2 hD2 hS1 hl
theorem v_objInit (B : Bx p s m args c cc nL own Ts D tys A) {index : Nat} {a : Nat} (h1 : Cond.methodLink own index Lib.objectInit ∈ Ts) (h2 : Cond.instanceMethod Lib.objectInit ∈ Ts) (h3 : Cond.code Lib.objectInit ⟨#[0xb1]⟩ 1 none ∈ Ts) (hd : decode cc pc = .ok (.invokespecial index, 3)) (hf : 1 ≤ R.frames) (hlo : (st.map fun v => v.category).sum + 12 ≤ R.locals) (kk : V p l e R s m args below meth c nL D A Q cs w lv (pc + 3) st) : V p l e R s m args below meth c nL D A Q cs w lv pc (.ref a :: st) := fun H locs ls hP hD hS hl => W.objInit B.1 B.2.1 B.2.2.2.1 (B.2.2.2.2.1 _ h1) (B.2.2.2.2.1 _ h2) (B.2.2.2.2.1 _ h3) rfl (by rw [B.2.2.1]; exact hl.1) rfl hd hf (by show 2 * 0 + _ + 12 ≤ _; omega) (kk H locs ls hP hD hS hl)
theorem v_mmax (B : Bx p s m args c cc nL own Ts D tys A) {index : Nat} {x y v : Int32} (h1 : Cond.methodLink own index Lib.Math.max.name ∈ Ts) (h2 : Cond.static Lib.Math.max.name ∈ Ts) (h3 : Cond.initialized "java/lang/Math" ∈ Ts) (h4 : Cond.code Lib.Math.max.name Lib.Math.max.code 2 (some .int) ∈ Ts) (hf : 1 ≤ R.frames) (hlo : (st.map fun v => v.category).sum + 13 ≤ R.locals) (hc : cs.1 ≤ R.cells) (hs : cs.2 ≤ R.slots) (hv : (if x < y then y else x) = v) (hd : decode cc pc = .ok (.invokestatic index, 3)) (kk : V p l e R s m args below meth c nL D A Q cs w lv (pc + 3) (.int v :: st)) : V p l e R s m args below meth c nL D A Q cs w lv pc (.int y :: .int x :: st) := fun H locs ls hP hD hS hl => (by subst hv; exact va_mmax B.1 B.2.1 (by rw [B.2.2.1]; exact hl.1.symm) B.2.2.2.1 (B.2.2.2.2.1 _ h1) (B.2.2.2.2.1 _ h2) (B.2.2.2.2.1 _ h3) (B.2.2.2.2.1 _ h4) hf hlo hc hs hd (kk H locs ls hP hD hS hl))
theorem v_new (B : Bx p s m args c cc nL own Ts D tys A) {C : String} {T : u_T} {N ci index : Nat} {fs : List Value} (hin : ∀ x ∈ u_ws C T N, x ∈ Ts) (ty : Nat → FieldType) (hty : ∀ k, k < N → parseFieldDescriptor (T k).2.2.1 = some (ty k)) (h1 : Cond.classLink own index C ∈ Ts) (h2 : Cond.instantiable C N ∈ Ts) (h3 : Cond.initialized C ∈ Ts) (hc : vwCl[ci]? = some (C, T, N)) (hfs : ∀ j, j < N → defaultValue (ty j) = vp_V fs j) (hcl : cs.1 + 1 ≤ R.cells) (hsl : cs.2 + N ≤ R.slots) (hd : decode cc pc = .ok (.new index, 3)) (kk : ∀ q : Nat, V p l e R s m args below meth c nL D A Q (cs.1 + 1, cs.2 + N) (w ++ [(q, .inr (ci, fs))]) lv (pc + 3) (.ref q :: st)) : V p l e R s m args below meth c nL D A Q cs w lv pc st := fun H locs ls hP hD hS hl => va_new B.1 B.2.1 B.2.2.2.2.1 hin ty hty B.2.2.2.1 (B.2.2.2.2.1 _ h1) (B.2.2.2.2.1 _ h2) (B.2.2.2.2.1 _ h3) B.2.2.2.2.2.1.1 hP hD hS B.2.2.2.2.2.2 hc hfs hcl hsl hd (fun q H1 a1 a2 a3 => kk q H1 locs ls a1 a2 a3 hl)
theorem v_newa (B : Bx p s m args c cc nL own Ts D tys A) {atype : ArrayType} {ty : FieldType} {t0 : Nat} {cA : ClassId} {n : Int32} {N' : Nat} {a0 : vp_A} (harr : Cond.arrayClass (newarray.typeOf atype) ∈ Ts) (hty : newarray.typeOf atype = ty) (ht : tys[t0]? = some (cA, ty)) (hob : ∀ C, ty ≠ .object C) (ha : ∀ cA : ClassId, vp_cell cA a0 = arrV cA N' (fun _ => defaultValue ty)) (hn : ¬ n < 0) (hN : n.toNatClampNeg = N') (hby : N' * componentBytes ty ≤ 536870912) (hcl : cs.1 + 1 ≤ R.cells) (hsl : cs.2 + N' ≤ R.slots) (hd : decode cc pc = .ok (.newarray atype, 2)) (kk : ∀ q : Nat, V p l e R s m args below meth c nL D A Q (cs.1 + 1, cs.2 + N') (w ++ [(q, .inl (cA, a0))]) lv (pc + 2) (.ref q :: st)) : V p l e R s m args below meth c nL D A Q cs w lv pc (.int n :: st) := fun H locs ls hP hD hS hl => (by
  have hK := B.2.2.2.2.2.1.1
  refine va_newa B.1 B.2.1 (B.2.2.2.2.1 _ harr) hty hK hP hD hS B.2.2.2.2.2.2 ha hn hN hby hcl hsl hd (fun q cA' H1 hK1 a1 a2 a3 => ?_)
  have e1 : va_RA s cA' ty := (hK1.2 tys.length (cA', ty) (by simp)).2
  have e2 : va_RA s cA ty := (hK.2 t0 _ ht).2
  have e3 : cA' = cA := by
    cases ty with
    | object C => exact absurd rfl (hob C)
    | _ => exact Option.some.inj (e1.symm.trans e2)
  subst e3
  exact kk q H1 locs ls a1 a2 a3 hl)
theorem v_newa_int (B : Bx p s m args c cc nL own Ts D tys A) {t0 : Nat} {cA : ClassId} {n : Int32} {N' : Nat} (harr : Cond.arrayClass .int ∈ Ts) (ht : tys[t0]? = some (cA, .int)) (hn : ¬ n < 0) (hN : n.toNatClampNeg = N') (hby : N' * 8 ≤ 536870912) (hcl : cs.1 + 1 ≤ R.cells) (hsl : cs.2 + N' ≤ R.slots) (hd : decode cc pc = .ok (.newarray .int, 2)) (kk : ∀ q : Nat, V p l e R s m args below meth c nL D A Q (cs.1 + 1, cs.2 + N') (w ++ [(q, .inl (cA, N', .inl (fun _ => 0)))]) lv (pc + 2) (.ref q :: st)) : V p l e R s m args below meth c nL D A Q cs w lv pc (.int n :: st) := v_newa B (atype := .int) (ty := .int) (a0 := (N', .inl (fun _ => 0))) harr rfl ht (fun _ h => by cases h) (fun _ => rfl) hn hN (by simp [componentBytes]; omega) hcl hsl hd kk
theorem v_newa_byte (B : Bx p s m args c cc nL own Ts D tys A) {t0 : Nat} {cA : ClassId} {n : Int32} {N' : Nat} (harr : Cond.arrayClass .byte ∈ Ts) (ht : tys[t0]? = some (cA, .byte)) (hn : ¬ n < 0) (hN : n.toNatClampNeg = N') (hby : N' * 8 ≤ 536870912) (hcl : cs.1 + 1 ≤ R.cells) (hsl : cs.2 + N' ≤ R.slots) (hd : decode cc pc = .ok (.newarray .byte, 2)) (kk : ∀ q : Nat, V p l e R s m args below meth c nL D A Q (cs.1 + 1, cs.2 + N') (w ++ [(q, .inl (cA, N', .inl (fun _ => 0)))]) lv (pc + 2) (.ref q :: st)) : V p l e R s m args below meth c nL D A Q cs w lv pc (.int n :: st) := v_newa B (atype := .byte) (ty := .byte) (a0 := (N', .inl (fun _ => 0))) harr rfl ht (fun _ h => by cases h) (fun _ => rfl) hn hN (by simp [componentBytes]; omega) hcl hsl hd kk
theorem v_newa_boolean (B : Bx p s m args c cc nL own Ts D tys A) {t0 : Nat} {cA : ClassId} {n : Int32} {N' : Nat} (harr : Cond.arrayClass .boolean ∈ Ts) (ht : tys[t0]? = some (cA, .boolean)) (hn : ¬ n < 0) (hN : n.toNatClampNeg = N') (hby : N' * 8 ≤ 536870912) (hcl : cs.1 + 1 ≤ R.cells) (hsl : cs.2 + N' ≤ R.slots) (hd : decode cc pc = .ok (.newarray .boolean, 2)) (kk : ∀ q : Nat, V p l e R s m args below meth c nL D A Q (cs.1 + 1, cs.2 + N') (w ++ [(q, .inl (cA, N', .inl (fun _ => 0)))]) lv (pc + 2) (.ref q :: st)) : V p l e R s m args below meth c nL D A Q cs w lv pc (.int n :: st) := v_newa B (atype := .boolean) (ty := .boolean) (a0 := (N', .inl (fun _ => 0))) harr rfl ht (fun _ h => by cases h) (fun _ => rfl) hn hN (by simp [componentBytes]; omega) hcl hsl hd kk
theorem v_newa_long (B : Bx p s m args c cc nL own Ts D tys A) {t0 : Nat} {cA : ClassId} {n : Int32} {N' : Nat} (harr : Cond.arrayClass .long ∈ Ts) (ht : tys[t0]? = some (cA, .long)) (hn : ¬ n < 0) (hN : n.toNatClampNeg = N') (hby : N' * 8 ≤ 536870912) (hcl : cs.1 + 1 ≤ R.cells) (hsl : cs.2 + N' ≤ R.slots) (hd : decode cc pc = .ok (.newarray .long, 2)) (kk : ∀ q : Nat, V p l e R s m args below meth c nL D A Q (cs.1 + 1, cs.2 + N') (w ++ [(q, .inl (cA, N', .inr (.inl (fun _ => 0))))]) lv (pc + 2) (.ref q :: st)) : V p l e R s m args below meth c nL D A Q cs w lv pc (.int n :: st) := v_newa B (atype := .long) (ty := .long) (a0 := (N', .inr (.inl (fun _ => 0)))) harr rfl ht (fun _ h => by cases h) (fun _ => rfl) hn hN (by simp [componentBytes]; omega) hcl hsl hd kk
theorem v_newq (B : Bx p s m args c cc nL own Ts D tys A) {C : String} {index t0 : Nat} {cA : ClassId} {n : Int32} {N' : Nat} (hlk : Cond.classLink own index C ∈ Ts) (hov : va_AO C s) (ht : tys[t0]? = some (cA, .object C)) (hn : ¬ n < 0) (hN : n.toNatClampNeg = N') (hby : N' * 4 ≤ 536870912) (hcl : cs.1 + 1 ≤ R.cells) (hsl : cs.2 + N' ≤ R.slots) (hd : decode cc pc = .ok (.anewarray index, 3)) (kk : ∀ q : Nat, V p l e R s m args below meth c nL D A Q (cs.1 + 1, cs.2 + N') (w ++ [(q, .inl (cA, N', .inr (.inr (.inr (.inr (fun _ => none))))))]) lv (pc + 3) (.ref q :: st)) : V p l e R s m args below meth c nL D A Q cs w lv pc (.int n :: st) := fun H locs ls hP hD hS hl => (by
  have hK := B.2.2.2.2.2.1.1
  refine va_newq B.1 B.2.1 B.2.2.2.1 (B.2.2.2.2.1 _ hlk) hov hK hP hD hS B.2.2.2.2.2.2 hn hN hby hcl hsl hd (fun q cA' H1 hK1 a1 a2 a3 => ?_)
  have e1 : va_RA s cA' (.object C) := (hK1.2 tys.length (cA', .object C) (by simp)).2
  have e2 : va_RA s cA (.object C) := (hK.2 t0 _ ht).2
  have e3 : cA' = cA := by
    obtain ⟨_, _, _, _, _, g1⟩ := e1
    obtain ⟨_, _, _, _, _, g2⟩ := e2
    exact Option.some.inj (g1.symm.trans g2)
  subst e3
  exact kk q H1 locs ls a1 a2 a3 hl)
theorem v_aast (B : Bx p s m args c cc nL own Ts D tys A) {k0 t0 k1 ci : Nat} {a v : Nat} {cA : ClassId} {r : vw_C} {n : Nat} {vs : List Value} {f : Nat → Option Nat} {i : Int32} {w' : va_W} (he : w[k0]? = some (a, .inl (cA, n, .inr (.inr (.inr (.inr f)))))) (ht : tys[t0]? = some (cA, .object r.1)) (hv : w[k1]? = some (v, .inr (ci, vs))) (hc : vwCl[ci]? = some r) (hi : vp_in i n) (hw : w.set k0 (a, .inl (cA, n, .inr (.inr (.inr (.inr (va_up f i.toNatClampNeg (some v))))))) = w') (hd : decode cc pc = .ok (.aastore, 1)) (kk : V p l e R s m args below meth c nL D A Q cs w' lv (pc + 1) st) : V p l e R s m args below meth c nL D A Q cs w lv pc (.ref v :: .int i :: .ref a :: st) := fun H locs ls hP hD hS hl => va_astq B.1 B.2.1 B.2.2.2.2.2.1.1 hP hD hS k0 t0 k1 ci he ht hv hc hi hd (fun H1 locs1 h1 h2 h3 => kk H1 locs1 ls (hw ▸ h1) (hw ▸ h2) h3 hl)
end VC
