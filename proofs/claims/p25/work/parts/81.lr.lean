def wL (K : Nat → ClassId) (dx dm : List Nat) (ho : Nat) (σx σm : Nat → va_E) (g : Nat → Int64) : va_W := fd dx σx ++ (fd dm σm ++ [(ho, .inl (K 1, 1, .inr (.inl g)))])
theorem pL1 (A B C : va_W) : (A ++ (B ++ C)).Perm (B ++ (A ++ C)) := by
  rw [← List.append_assoc, ← List.append_assoc]
  exact List.Perm.append_right C List.perm_append_comm
theorem pL3 (A B C : va_W) : (A ++ (B ++ C)).Perm ((A ++ C) ++ B) := by
  rw [List.append_assoc]
  exact List.Perm.append_left A List.perm_append_comm
theorem pL4 (B A : va_W) (x : Nat × va_E) : (B ++ (x :: A)).Perm (A ++ (B ++ [x])) := by
  refine (List.perm_append_comm (l₁ := B) (l₂ := x :: A)).trans ?_
  rw [← List.append_assoc]
  refine List.Perm.trans (l₂ := [x] ++ (A ++ B)) ?_ List.perm_append_comm
  exact List.Perm.refl _
section VLR
variable {p : Program} {l : Launch} {e : Env} {R : Room} {s : State} {m : MethodId} {args : Array Value} {below : List Frame} {meth : Method} {c : Code} {cc : ByteArray} {nL : Nat} {own : String} {Ts : List Cond} {D : va_G} {tys : List (ClassId × FieldType)} {A : Nat → Prop} {Q : State → Prop} {cs : Nat × Nat} {w : va_W} {lv : List (Nat × Value)} {pc : Nat} {st : List Value}
variable {b L : Nat} {xs : Nat → Int32} {sa : Nat → Nat} {τ : Nat → Option Ty} {dom : List Nat} {σ : Nat → va_E}
theorem v_pop2 (B : Bx p s m args c cc nL own Ts D tys A) {a : Value} (hd : decode cc pc = .ok (.pop2, 1)) (ha : a.category = 2) (kk : V p l e R s m args below meth c nL D A Q cs w lv (pc + 1) st) : V p l e R s m args below meth c nL D A Q cs w lv pc (a :: st) := fun H locs ls hP hD hS hl => lv_pop2_2 B.1 B.2.1 hd ha (kk H locs ls hP hD hS hl)
theorem u_sld (B : Bx p s m args c cc nL own Ts D tys A) (hz : ZL b L xs sa A s s.heap) {z v : Int} (hi : 0 ≤ z ∧ z < (L : Int) ∧ z ≤ 2147483647) (hv : xs z.toNat = iI v) (hd : decode cc pc = .ok (.iaload, 1)) (kk : V p l e R s m args below meth c nL D A Q cs w lv (pc + 1) (.int (iI v) :: st)) : V p l e R s m args below meth c nL D A Q cs w lv pc (.int (iI z) :: .ref b :: st) := v_sld B hz (vp_iI hi.1 hi.2.1 hi.2.2) (by rw [iI_nat hi.1 hi.2.2]; exact hv) hd kk
theorem u_slen (B : Bx p s m args c cc nL own Ts D tys A) (hz : ZL b L xs sa A s s.heap) (hd : decode cc pc = .ok (.arraylength, 1)) (kk : V p l e R s m args below meth c nL D A Q cs w lv (pc + 1) (.int (iI (L : Int)) :: st)) : V p l e R s m args below meth c nL D A Q cs w lv pc (.ref b :: st) := v_slen B hz hd (by rw [iI_ofNat]; exact kk)
theorem l_calli (B : Bx p s m args c cc nL own Ts D tys A) (hz : ZL b L xs sa A s s.heap) (Z : Sk τ dom) {y : MethodName} {ws ws' : List Cond} {rm : Room} {C : String} {a ci index : Nat} {t : Ty} {q0 : vw_C} {bytes : ByteArray} {maxL n : Nat} {ret : Option FieldType} {As rest : List Value} {post : Int32 → (Nat → va_E) → Prop} {wo : va_W} {w2 : (Nat → va_E) → va_W} (hp : w.Perm (fd dom σ ++ wo)) (hM : MZ l y ws rm D tys (.ref a :: As) (fd dom σ) b L xs sa (Qi D post (fun σ' => fd dom σ')) 0 0) (hG : GoodIn Ts (wsV own index C y ws)) (hw : ws = Cond.code y bytes maxL ret :: ws') (hrc : rm.cells = 0) (hrs : rm.slots = 0) (hdd : y.cls = C ∧ y.cls ≠ "java/lang/invoke/MethodHandle" ∧ y.cls ≠ "java/lang/invoke/VarHandle" ∧ (parseMethodDescriptor y.desc).map (fun d => d.parameters.length) = some n) (hR : rm.frames + 1 ≤ R.frames ∧ 8 + (maxL + 11) + rm.locals ≤ R.locals) (ht : τ a = some t) (he : ∃ fs : List Value, σ a = .inr (ci, fs)) (hcl : vwCl[ci]? = some q0) (hq0 : q0.1 = C) (hn : As.length = n) (hst : st = As.reverse ++ .ref a :: rest) (hW : (rest.map fun v => v.category).sum ≤ 8) (hd : decode cc pc = .ok (.invokevirtual index, 3)) (hf : cs.1 ≤ R.cells ∧ cs.2 ≤ R.slots) (hp2 : ∀ σ' : Nat → va_E, (wo ++ fd dom σ').Perm (w2 σ')) (kk : ∀ (r : Int32) (σ' : Nat → va_E), post r σ' → V p l e R s m args below meth c nL D A Q cs (w2 σ') lv (pc + 3) (.int r :: rest)) : V p l e R s m args below meth c nL D A Q cs w lv pc st := by
  obtain ⟨k, h1, h2⟩ := Z.ix ht
  obtain ⟨fs, he⟩ := he
  have hlt : k < (fd dom σ).length := (List.getElem?_eq_some_iff.mp (h1 σ)).1
  exact v_perm hp (v_callViZ B hz (wr := wo) hM hG hw hrc hrs hdd hR (k0 := k) (by rw [h1 σ, he]) hcl hq0 (sp_app _ _) hn hst hW hd hf (fun r σ' hpo => v_perm (hp2 σ') (kk r σ' hpo)))
theorem l_calll (B : Bx p s m args c cc nL own Ts D tys A) (hz : ZL b L xs sa A s s.heap) (Z : Sk τ dom) {y : MethodName} {ws ws' : List Cond} {rm : Room} {C : String} {a ci index : Nat} {t : Ty} {q0 : vw_C} {bytes : ByteArray} {maxL n : Nat} {ret : Option FieldType} {As rest : List Value} {post : Int64 → (Nat → va_E) → Prop} {wo : va_W} {w2 : (Nat → va_E) → va_W} (hp : w.Perm (fd dom σ ++ wo)) (hM : MZ l y ws rm D tys (.ref a :: As) (fd dom σ) b L xs sa (Ql D post (fun σ' => fd dom σ')) 0 0) (hG : GoodIn Ts (wsV own index C y ws)) (hw : ws = Cond.code y bytes maxL ret :: ws') (hrc : rm.cells = 0) (hrs : rm.slots = 0) (hdd : y.cls = C ∧ y.cls ≠ "java/lang/invoke/MethodHandle" ∧ y.cls ≠ "java/lang/invoke/VarHandle" ∧ (parseMethodDescriptor y.desc).map (fun d => d.parameters.length) = some n) (hR : rm.frames + 1 ≤ R.frames ∧ 8 + (maxL + 11) + rm.locals ≤ R.locals) (ht : τ a = some t) (he : ∃ fs : List Value, σ a = .inr (ci, fs)) (hcl : vwCl[ci]? = some q0) (hq0 : q0.1 = C) (hn : As.length = n) (hst : st = As.reverse ++ .ref a :: rest) (hW : (rest.map fun v => v.category).sum ≤ 8) (hd : decode cc pc = .ok (.invokevirtual index, 3)) (hf : cs.1 ≤ R.cells ∧ cs.2 ≤ R.slots) (hp2 : ∀ σ' : Nat → va_E, (wo ++ fd dom σ').Perm (w2 σ')) (kk : ∀ (r : Int64) (σ' : Nat → va_E), post r σ' → V p l e R s m args below meth c nL D A Q cs (w2 σ') lv (pc + 3) (.long r :: rest)) : V p l e R s m args below meth c nL D A Q cs w lv pc st := by
  obtain ⟨k, h1, h2⟩ := Z.ix ht
  obtain ⟨fs, he⟩ := he
  have hlt : k < (fd dom σ).length := (List.getElem?_eq_some_iff.mp (h1 σ)).1
  exact v_perm hp (v_callVlZ B hz (wr := wo) hM hG hw hrc hrs hdd hR (k0 := k) (by rw [h1 σ, he]) hcl hq0 (sp_app _ _) hn hst hW hd hf (fun r σ' hpo => v_perm (hp2 σ') (kk r σ' hpo)))
theorem v_callIvZ (B : Bx p s m args c cc nL own Ts D tys A) (hz : ZL b L xs sa A s s.heap) {y : MethodName} {ws ws' : List Cond} {rm : Room} {b' : Nat} {index : Nat} {bytes : ByteArray} {maxL mc ms n : Nat} {As rest : List Value} {S : Type} {post : S → Prop} {w' : S → va_W} {wc wr : va_W} (hM : MZ l y ws rm D tys (.ref b' :: As) wc b L xs sa (Qv D post w') mc ms) (hG : GoodIn Ts ws) (hw : ws = Cond.code y bytes maxL none :: ws') (hrc : rm.cells = mc) (hrs : rm.slots = ms) (hdd : y.cls ≠ "java/lang/invoke/MethodHandle" ∧ y.cls ≠ "java/lang/invoke/VarHandle" ∧ (parseMethodDescriptor y.desc).map (fun d => d.parameters.length) = some n) (hR : rm.frames + 1 ≤ R.frames ∧ 8 + (maxL + 11) + rm.locals ≤ R.locals) (hni : Cond.initialized y.cls ∈ Ts) (hml : Cond.methodLink own index y ∈ Ts) (him : Cond.instanceMethod y ∈ Ts) (hy1 : y.name = "<init>") (hsp : Sp w wc wr) (hn : As.length = n) (hst : st = As.reverse ++ .ref b' :: rest) (hW : (rest.map fun v => v.category).sum ≤ 8) (hd : decode cc pc = .ok (.invokespecial index, 3)) (hf : cs.1 + mc ≤ R.cells ∧ cs.2 + ms ≤ R.slots) (kk : ∀ (u : S), post u → V p l e R s m args below meth c nL D A Q (cs.1 + mc, cs.2 + ms) (wr ++ w' u) lv (pc + 3) rest) : V p l e R s m args below meth c nL D A Q cs w lv pc st := by
  subst hst
  intro H locs ls hP hD hS hl
  obtain ⟨isC, isR, hC1, hR1, hnC, hnR, hdis⟩ := hsp
  have hPc := pl_P hP hC1
  have hDc := hD.sub isC hnC hC1
  have hFc := va_free (wc := wc) hD hS B.2.2.2.2.2.2 isC hC1
  refine va_callv (va_runI (As := As) (rest := rest) ⟨B.1, B.2.1, B.2.2.1, B.2.2.2.1, B.2.2.2.2.1⟩ (hM H.size) (cwI n B.2.2.2.2.1 hG hw hrc hrs (B.2.2.2.2.1 _ hni) (B.2.2.2.2.1 _ hml) (B.2.2.2.2.1 _ him) hy1 hdd hR) ⟨Pz.blind, fun U hU hW => ⟨rfl, ⟨by rw [hU], by rw [hU]; exact hPc, Cx.warm hW B.2.2.2.2.2.1, hDc.weaken (fun _ _ _ _ => trivial)⟩, by rw [hU]; exact ZL.warm hW ((hz.kept hS.1 hS.2.1).narrow hFc)⟩⟩ rfl hn hl.1 rfl (lv_room hW) hd hf) hS (fun q _ h => hFc q h) hFc (fun u t H1 locs1 ht hvm hw2 hB hz1 hk1 hS1 => ?_)
  obtain ⟨hP1, hD1⟩ := hB
  rw [ht] at hP1
  obtain ⟨hP2, hD2⟩ := va_join (wr := wr) (w1 := w' u) hP hD isC isR hC1 hR1 hnR hdis hk1 hFc hP1 hD1
  exact kk u hw2 H1 locs1 ls hP2 hD2 hS1 hl
end VLR
def wp_lk_cell : List Cond := .code yL_cell cL_cell 2 (some .int) :: []
set_option maxRecDepth 100000 in
theorem lk_cell (l : Launch) (D : va_G) (K : Nat → ClassId) (zb zL : Nat) (zx : Nat → Int32) (zs : Nat → Nat) (k : Int) (hk : 0 ≤ k ∧ k ≤ 1) (hL : (zL : Int) ≤ 4610) : MZ l yL_cell wp_lk_cell { frames := 0, cells := 0, slots := 0, locals := 0 } D (tysA K) [.ref zb, .int (iI k)] [] zb zL zx zs (Qi D (fun (_ : Int32) (_ : Unit) => True) (fun _ => [])) 0 0 := by
  refine mz_of (cc := cL_cell) (maxL := 2) (ret := (some .int)) (by decide +kernel) rfl (Nat.le_of_ble_eq_true rfl) ?_
  intro p e s m below meth c A B hr hlk _ hz
  show V _ _ _ _ _ _ _ _ _ _ _ _ _ _ _ _ [(0, .ref zb), (1, .int (iI k))] _ _
  refine v_iload_n B dL_cell_0 rfl rfl ?_
  refine v_aload_n B dL_cell_1 rfl rfl ?_
  refine u_slen B hz dL_cell_2 ?_
  refine u_icmp_ge B (tgt := 12) (by omega) (by omega) dL_cell_3 (by decide +kernel) (fun c1 => ?_) (fun c1 => ?_)
  · refine v_iconst B (v := 0) dL_cell_12 rfl ?_
    exact v_iret B hr hlk () trivial rfl (by decide +kernel) (by decide +kernel) dL_cell_13
  · refine v_aload_n B dL_cell_6 rfl rfl ?_
    refine v_iload_n B dL_cell_7 rfl rfl ?_
    obtain ⟨x, ex, rx⟩ := iI_any (zx (k : Int).toNat)
    refine u_sld B hz (z := k) (v := x) (by omega) ex dL_cell_8 ?_
    refine v_goto B (tgt := 13) dL_cell_9 (by decide +kernel) ?_
    exact v_iret B hr hlk () trivial rfl (by decide +kernel) (by decide +kernel) dL_cell_13
