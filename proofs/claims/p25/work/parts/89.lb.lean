section VCE
variable {p : Program} {l : Launch} {e : Env} {R : Room} {s : State} {m : MethodId} {args : Array Value} {below : List Frame} {meth : Method} {c : Code} {cc : ByteArray} {nL : Nat} {own : String} {Ts : List Cond} {D : va_G} {tys : List (ClassId × FieldType)} {A : Nat → Prop} {Q : State → Prop} {cs : Nat × Nat} {w : va_W} {lv : List (Nat × Value)} {pc : Nat} {st : List Value}
variable {b L : Nat} {xs : Nat → Int32} {sa : Nat → Nat} {K : Nat → ClassId}
theorem v_cell (B : Bx p s m args c cc nL own Ts D (tysA K) A) (hz : ZL b L xs sa A s s.heap) (hL : (L : Int) ≤ 4610) {k : Int} {index : Nat} {rest : List Value} (hk : 0 ≤ k ∧ k ≤ 1) (hG : GoodIn Ts (va_wsS own index yL_cell wp_lk_cell)) (hR : 1 ≤ R.frames ∧ 21 ≤ R.locals) (hW : (rest.map fun v => v.category).sum ≤ 8) (hd : decode cc pc = .ok (.invokestatic index, 3)) (hf : cs.1 + 0 ≤ R.cells ∧ cs.2 + 0 ≤ R.slots) (kk : ∀ r : Int, InR r → V p l e R s m args below meth c nL D A Q cs w lv (pc + 3) (.int (iI r) :: rest)) : V p l e R s m args below meth c nL D A Q cs w lv pc (.int (iI k) :: .ref b :: rest) := by
  refine v_callSiZ B hz (n := 2) (As := [.ref b, .int (iI k)]) (rest := rest) (wc := []) (wr := w) (lk_cell l D K b L xs sa k hk hL) hG rfl rfl rfl (by decide +kernel) ⟨Nat.le_trans (by decide +kernel) hR.1, Nat.le_trans (by decide +kernel) hR.2⟩ (sp_app [] w) rfl rfl hW hd hf (fun r u _ => ?_)
  obtain ⟨z, rfl, hz9⟩ : ∃ z : Int, r = iI z ∧ InR z := iI_any r
  rw [List.append_nil]
  exact kk z hz9
end VCE
set_option maxHeartbeats 8000000 in
set_option maxRecDepth 100000 in
theorem law_body {p : Program} {l : Launch} {e : Env} {s : State} {m : MethodId} {below : List Frame} {meth : Method} {c : Code} {D : va_G} {A : Nat → Prop} {zb zL : Nat} {zx : Nat → Int32} {zs : Nat → Nat} (hl0 : l.stackTraces = false) {K : Nat → ClassId} (hzl : (zL : Int) ≤ 4610) (B : Bx p s m #[.ref zb] c cL_law 7 RL lw_tbl D (tysA K) A) (hz : ZL zb zL zx zs A s s.heap) (hA : ∀ q : Nat, A q → s.heap.size ≤ q) (hr : meth.sig.returnType = ret) (hlk : meth.locks = false) : V p l e room_1 s m #[.ref zb] below meth c 7 D A (lw_Z below #[Value.ref zb] s) (0, 0) [] [(0, .ref zb)] 0 [] := by
  refine v_new B (C := RX11) (T := TX11) (N := 5) (ci := 11) (fs := [.null, .null, .null, .null, .int (iI 0)]) in_X11 tyX11 tyX11_ok tw_1481 tw_1482 tw_3 rfl (by decide +kernel) (by decide +kernel) (by decide +kernel) dL_law_0 (fun hx => ?_)
  refine v_dup B dL_law_3 rfl ?_
  refine v_aload_n B dL_law_4 rfl rfl ?_
  refine v_iconst B (v := iI 0) dL_law_5 rfl ?_
  refine v_cell B hz hzl (k := 0) (by decide) gl_cell ⟨by decide +kernel, by decide +kernel⟩ (Nat.le_of_ble_eq_true rfl) dL_law_6 ⟨by decide +kernel, by decide +kernel⟩ (fun r0 hr0 => ?_)
  refine v_i2l B (v := lI r0) dL_law_9 (lI_i hr0) ?_
  refine v_aload_n B dL_law_10 rfl rfl ?_
  refine v_iconst B (v := iI 1) dL_law_11 rfl ?_
  refine v_cell B hz hzl (k := 1) (by decide) gl_cell ⟨by decide +kernel, by decide +kernel⟩ (Nat.le_of_ble_eq_true rfl) dL_law_12 ⟨by decide +kernel, by decide +kernel⟩ (fun r1 hr1 => ?_)
  refine v_i2l B (v := lI r1) dL_law_15 (lI_i hr1) ?_
  have Z0 : Sk (fun _ => none) [] := ⟨List.nodup_nil, fun _ _ h => by cases h⟩
  have G0 : Good K (fun _ => none) (fun _ => (.inr (0, []) : va_E)) := fun _ _ h => by cases h
  refine v_callIv B (b := hx) (n := 2) (As := [.long (lI r0), .long (lI r1)]) (rest := [.ref hx]) (wc := (hx, .inr (11, [.null, .null, .null, .null, .int (iI 0)])) :: fd [] (fun _ => (.inr (0, []) : va_E))) (wr := []) (k_Low l D K Z0 G0 hx (lI r0) (lI r1)) gl_k_Low rfl rfl rfl (by decide +kernel) ⟨by decide +kernel, by decide +kernel⟩ tw_3 tw_1485 tw_1486 rfl (sp_whole _) rfl rfl (Nat.le_of_ble_eq_true rfl) dL_law_16 ⟨by decide +kernel, by decide +kernel⟩ (fun u hp => ?_)
  obtain ⟨dx, σx, τx⟩ := u
  obtain ⟨Zx, Gx, tx, -⟩ := hp
  show V _ _ _ _ _ _ _ _ _ _ _ _ _ _ (479, 10003) (fd dx σx) _ _ _
  refine v_astore_n B (lv' := [(1, .ref hx), (0, .ref zb)]) dL_law_19 rfl (by decide +kernel) rfl ?_
  refine v_new B (C := RX12) (T := TX12) (N := 123) (ci := 12) (fs := [.int 0, .null, .int 0, .null, .null, .null, .null, .null, .null, .null, .null, .null, .null, .null, .null, .null, .null, .null, .null, .null, .null, .null, .null, .null, .null, .null, .null, .null, .null, .null, .null, .null, .null, .null, .null, .null, .null, .null, .null, .null, .null, .null, .null, .int 0, .null, .null, .null, .null, .null, .null, .null, .int 0, .null, .null, .null, .null, .null, .null, .null, .null, .null, .null, .null, .null, .null, .null, .null, .null, .null, .null, .null, .null, .null, .null, .null, .null, .null, .null, .null, .null, .null, .null, .null, .null, .null, .null, .null, .null, .null, .null, .null, .null, .null, .null, .null, .null, .null, .null, .null, .null, .null, .null, .null, .null, .null, .null, .null, .null, .null, .null, .null, .null, .null, .null, .null, .int 0, .null, .null, .null, .null, .null, .null, .null]) in_X12 tyX12 tyX12_ok tw_1483 tw_1484 tw_16 rfl (by decide +kernel) (by decide +kernel) (by decide +kernel) dL_law_20 (fun hm => ?_)
  refine v_dup B dL_law_23 rfl ?_
  refine v_aload_n B dL_law_24 rfl rfl ?_
  refine v_iconst B (v := iI 0) dL_law_25 rfl ?_
  refine v_cell B hz hzl (k := 0) (by decide) gl_cell ⟨by decide +kernel, by decide +kernel⟩ (Nat.le_of_ble_eq_true rfl) dL_law_26 ⟨by decide +kernel, by decide +kernel⟩ (fun r2 hr2 => ?_)
  refine v_i2l B (v := lI r2) dL_law_29 (lI_i hr2) ?_
  refine v_aload_n B dL_law_30 rfl rfl ?_
  refine v_iconst B (v := iI 1) dL_law_31 rfl ?_
  refine v_cell B hz hzl (k := 1) (by decide) gl_cell ⟨by decide +kernel, by decide +kernel⟩ (Nat.le_of_ble_eq_true rfl) dL_law_32 ⟨by decide +kernel, by decide +kernel⟩ (fun r3 hr3 => ?_)
  refine v_i2l B (v := lI r3) dL_law_35 (lI_i hr3) ?_
  refine v_callIvZ B hz (b' := hm) (n := 2) (As := [.long (lI r2), .long (lI r3)]) (rest := [.ref hm]) (wc := [(hm, .inr (12, [.int 0, .null, .int 0, .null, .null, .null, .null, .null, .null, .null, .null, .null, .null, .null, .null, .null, .null, .null, .null, .null, .null, .null, .null, .null, .null, .null, .null, .null, .null, .null, .null, .null, .null, .null, .null, .null, .null, .null, .null, .null, .null, .null, .null, .int 0, .null, .null, .null, .null, .null, .null, .null, .int 0, .null, .null, .null, .null, .null, .null, .null, .null, .null, .null, .null, .null, .null, .null, .null, .null, .null, .null, .null, .null, .null, .null, .null, .null, .null, .null, .null, .null, .null, .null, .null, .null, .null, .null, .null, .null, .null, .null, .null, .null, .null, .null, .null, .null, .null, .null, .null, .null, .null, .null, .null, .null, .null, .null, .null, .null, .null, .null, .null, .null, .null, .null, .null, .int 0, .null, .null, .null, .null, .null, .null, .null]))]) (wr := fd dx σx) (m_init l D K hm (lI r2) (lI r3) zb zL zx zs) gl_m_init rfl rfl rfl (by decide +kernel) ⟨by decide +kernel, by decide +kernel⟩ tw_16 tw_1571 tw_1572 rfl (sp_app' _ _) rfl rfl (Nat.le_of_ble_eq_true rfl) dL_law_36 ⟨by decide +kernel, by decide +kernel⟩ (fun u hf => ?_)
  obtain ⟨q, f⟩ := u
  show V _ _ _ _ _ _ _ _ _ _ _ _ _ _ (598, 20554) (fd dx σx ++ mW0 K hm q f (lI r2) (lI r3)) _ _ _
  refine v_mgood hf (fun τm dm σm Zm Y Gm => ?_)
  refine v_astore_n B (lv' := [(2, .ref hm), (1, .ref hx), (0, .ref zb)]) dL_law_39 rfl (by decide +kernel) rfl ?_
  refine v_iconst B (v := 1) dL_law_40 rfl ?_
  refine v_newa_long B (cA := K 1) (t0 := 1) (N' := 1) tw_1578 rfl (by decide +kernel) (by decide +kernel) (by decide +kernel) (by decide +kernel) (by decide +kernel) dL_law_41 (fun ho => ?_)
  refine v_astore_n B (lv' := [(3, .ref ho), (2, .ref hm), (1, .ref hx), (0, .ref zb)]) dL_law_43 rfl (by decide +kernel) rfl ?_
  refine v_iconst B (v := iI 2) dL_law_44 rfl ?_
  refine v_istore B (lv' := [(4, .int (iI 2)), (3, .ref ho), (2, .ref hm), (1, .ref hx), (0, .ref zb)]) dL_law_45 (by decide +kernel) rfl ?_
  refine v_perm (w' := wL K dx dm ho σx σm (fun _ => 0)) (by unfold wL; rw [List.append_assoc]) ?_
  refine v_widen (k := 2000 + 0) (n := 40000 + 6 * 0) (by decide +kernel) (by decide +kernel) ?_
  exact law_loop hl0 Zx Zm tx Y B hz hA hr hlk hzl _ 0 2 σx σm _ (Nat.le_refl _) (by omega) (by omega) Gx Gm
