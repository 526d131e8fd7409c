theorem arr_of {args : Array Value} {s : State} {t : FieldType} (ho : ∀ C, t ≠ .object C) (h : (Cond.arrayClass t).before args s = true) : ∃ cA : ClassId, ArrOfT s cA t ∧ va_RA s cA t := by
  obtain ⟨cA, kA, comp, hf, hk, hkind⟩ := Cond.arrayClass_spec h
  refine ⟨cA, fun N z => ⟨(fun k h => by cases h), kA, hk, comp, hkind⟩, ?_⟩
  cases t with
  | object C => exact absurd rfl (ho C)
  | _ => exact hf
theorem arr_ov {args : Array Value} {s : State} {C : String} (h : (Cond.arrayOver (.object C)).before args s = true) : ∃ cA : ClassId, ArrOfT s cA (.object C) ∧ va_RA s cA (.object C) := by
  obtain ⟨comp, c, k, h1, h2, h3, h4, h5⟩ := Cond.arrayOver_spec h
  exact ⟨c, fun N z => ⟨(fun k h => by cases h), k, h3, comp, h4⟩, k, comp, h3, h4, h1, h5⟩
theorem arr_oa {args : Array Value} {s : State} {t : FieldType} (h : (Cond.arrayOver (.array t)).before args s = true) : ∃ cA : ClassId, ArrOfT s cA (.array t) ∧ va_RA s cA (.array t) := by
  unfold Cond.before Cond.holds at h
  simp only [Cond.value, beq_iff_eq] at h
  cases hc : s.vm.findClass (FieldType.array t).toString with
  | none => simp [hc] at h
  | some comp =>
    simp only [hc, Option.bind_some, Option.bind_eq_some_iff, Option.map_eq_some_iff] at h
    obtain ⟨c, hi, k, hk, hb⟩ := h
    cases hkind : k.kind with
    | array comp' ty =>
      simp only [hkind, Bool.and_eq_true, decide_eq_true_eq] at hb
      obtain ⟨rfl, h6⟩ := hb
      exact ⟨c, fun N z => ⟨(fun k h => by cases h), k, hk, comp', hkind⟩, h6⟩
    | _ => simp [hkind] at hb
set_option maxRecDepth 100000 in
theorem cx_of {args : Array Value} {s : State} (hts : ∀ w ∈ lw_tbl, w.before args s = true) : ∃ (D : va_G) (K : Nat → ClassId), Cx D (tysA K) s := by
  obtain ⟨c0, i0, k0⟩ := u_known (C := RX0) (T := TX0) (N := 10) hts in_X0 (hts _ tw_1493)
  obtain ⟨c1, i1, k1⟩ := u_known (C := RX1) (T := TX1) (N := 2) hts in_X1 (hts _ tw_1509)
  obtain ⟨c2, i2, k2⟩ := u_known (C := RX2) (T := TX2) (N := 6) hts in_X2 (hts _ tw_1543)
  obtain ⟨c3, i3, k3⟩ := u_known (C := RX3) (T := TX3) (N := 19) hts in_X3 (hts _ tw_1513)
  obtain ⟨c4, i4, k4⟩ := u_known (C := RX4) (T := TX4) (N := 6) hts in_X4 (hts _ tw_1550)
  obtain ⟨c5, i5, k5⟩ := u_known (C := RX5) (T := TX5) (N := 16) hts in_X5 (hts _ tw_1560)
  obtain ⟨c6, i6, k6⟩ := u_known (C := RX6) (T := TX6) (N := 20) hts in_X6 (hts _ tw_1522)
  obtain ⟨c7, i7, k7⟩ := u_known (C := RX7) (T := TX7) (N := 16) hts in_X7 (hts _ tw_1527)
  obtain ⟨c8, i8, k8⟩ := u_known (C := RX8) (T := TX8) (N := 8) hts in_X8 (hts _ tw_1566)
  obtain ⟨c9, i9, k9⟩ := u_known (C := RX9) (T := TX9) (N := 2) hts in_X9 (hts _ tw_1501)
  obtain ⟨c10, i10, k10⟩ := u_known (C := RX10) (T := TX10) (N := 10) hts in_X10 (hts _ tw_1535)
  obtain ⟨c11, i11, k11⟩ := u_known (C := RX11) (T := TX11) (N := 5) hts in_X11 (hts _ tw_1482)
  obtain ⟨c12, i12, k12⟩ := u_known (C := RX12) (T := TX12) (N := 123) hts in_X12 (hts _ tw_1484)
  obtain ⟨a0, b0⟩ := arr_of (t := .int) (fun _ h => by cases h) (hts _ tw_1499)
  obtain ⟨a1, b1⟩ := arr_of (t := .long) (fun _ h => by cases h) (hts _ tw_1578)
  obtain ⟨a2, b2⟩ := arr_of (t := .byte) (fun _ h => by cases h) (hts _ tw_1577)
  obtain ⟨a3, b3⟩ := arr_of (t := .boolean) (fun _ h => by cases h) (hts _ tw_1579)
  have o4 : (Cond.arrayOver (.object "LowEnergy$Row")).before args s = true := hts _ (t1_in (List.mem_of_getElem? (i := 38) rfl))
  have o5 : (Cond.arrayOver (.object "LowEnergy$Device")).before args s = true := hts _ (t1_in (List.mem_of_getElem? (i := 30) rfl))
  have o6 : (Cond.arrayOver (.array .int)).before args s = true := hts _ (t1_in (List.mem_of_getElem? (i := 40) rfl))
  obtain ⟨a4, b4⟩ := arr_ov o4
  obtain ⟨a5, b5⟩ := arr_ov o5
  obtain ⟨a6, b6⟩ := arr_oa o6
  refine ⟨(fun k => [c0, c1, c2, c3, c4, c5, c6, c7, c8, c9, c10, c11, c12].getD k 0, fun k => [i0, i1, i2, i3, i4, i5, i6, i7, i8, i9, i10, i11, i12].getD k (fun _ => 0)), fun k => [a0, a1, a2, a3, a4, a5, a6].getD k 0, ⟨?_, ?_⟩, ?_, ?_⟩
  · intro k q hq
    match k, hq with
    | 0, hq => cases hq; exact k0
    | 1, hq => cases hq; exact k1
    | 2, hq => cases hq; exact k2
    | 3, hq => cases hq; exact k3
    | 4, hq => cases hq; exact k4
    | 5, hq => cases hq; exact k5
    | 6, hq => cases hq; exact k6
    | 7, hq => cases hq; exact k7
    | 8, hq => cases hq; exact k8
    | 9, hq => cases hq; exact k9
    | 10, hq => cases hq; exact k10
    | 11, hq => cases hq; exact k11
    | 12, hq => cases hq; exact k12
    | k + 13, hq => simp [vwCl] at hq
  · intro k q hq
    match k, hq with
    | 0, hq => cases hq; exact b0
    | 1, hq => cases hq; exact b1
    | 2, hq => cases hq; exact b2
    | 3, hq => cases hq; exact b3
    | 4, hq => cases hq; exact b4
    | 5, hq => cases hq; exact b5
    | 6, hq => cases hq; exact b6
    | k + 7, hq => simp [tysA] at hq
  · intro w hw
    exact va_Nw.of (isN_tab (nestL_ok w hw)) (hts w (in_nest w hw))
  · exact ⟨va_AO.of o4, va_AO.of o5, o6⟩
set_option maxRecDepth 100000 in
theorem zl_of {b L : Nat} {xs : Nat → Int32} {s : State} (hts : ∀ w ∈ lw_tbl, w.before #[Value.ref b] s = true) (hgv : (Jvm.Cond.and given_1 narrow_1).before #[Value.ref b] s = true) (hX : va_X b L xs s s.heap) (hbl : b < s.heap.size) : ∃ zs : Nat → Nat, ZL b L xs zs (fun q => s.heap.size ≤ q) s s.heap := by
  have hf := flat_of_before _ hgv
  have hU : (Cond.isRef (.static Bundle.tN "UNASSIGNED_STACK" Bundle.steD)).before #[Value.ref b] s = true := hf _ (by decide +kernel)
  have hN : (Cond.isRef (.static Bundle.tN "SUPPRESSED_SENTINEL" Bundle.listD)).before #[Value.ref b] s = true := hf _ (by decide +kernel)
  have lU : (Cond.laysStatic Bundle.tN "UNASSIGNED_STACK" Bundle.steD).before #[Value.ref b] s = true := hts _ (t4_in (List.mem_of_getElem? (i := 206) rfl))
  have lN : (Cond.laysStatic Bundle.tN "SUPPRESSED_SENTINEL" Bundle.listD).before #[Value.ref b] s = true := hts _ (t4_in (List.mem_of_getElem? (i := 208) rfl))
  have iT : (Cond.initialized Bundle.tN).before #[Value.ref b] s = true := hts _ (t1_in (List.mem_of_getElem? (i := 16) rfl))
  have q0 : (Cond.stringRef RX11 390 "ticks are 1 to 1000").before #[Value.ref b] s = true := hts _ (t4_in (List.mem_of_getElem? (i := 219) rfl))
  have q1 : (Cond.stringRef RX11 284 "no such packet or byte").before #[Value.ref b] s = true := hts _ (t6_in (List.mem_of_getElem? (i := 234) rfl))
  have q2 : (Cond.stringRef RX11 289 "no such value or byte").before #[Value.ref b] s = true := hts _ (t7_in (List.mem_of_getElem? (i := 8) rfl))
  have c0 : (Cond.castable tIA tIA).before #[Value.ref b] s = true := hts _ (t4_in (List.mem_of_getElem? (i := 181) rfl))
  have c1 : (Cond.castable tNS tNS).before #[Value.ref b] s = true := hts _ (t6_in (List.mem_of_getElem? (i := 227) rfl))
  have d0 : wDR.before #[Value.ref b] s = true := hts _ (t4_in (List.mem_of_getElem? (i := 183) rfl))
  have d1 : wDE.before #[Value.ref b] s = true := hts _ (t4_in (List.mem_of_getElem? (i := 185) rfl))
  have d2 : wDT.before #[Value.ref b] s = true := hts _ (t4_in (List.mem_of_getElem? (i := 187) rfl))
  obtain ⟨cx, -, hcur, -⟩ := Cond.instantiable_spec (hts _ tw_1482)
  obtain ⟨-, -, -, a0, -, -, -, -, -, e0⟩ := Cond.stringRef_spec hcur q0
  obtain ⟨-, -, -, a1, -, -, -, -, -, e1⟩ := Cond.stringRef_spec hcur q1
  obtain ⟨-, -, -, a2, -, -, -, -, -, e2⟩ := Cond.stringRef_spec hcur q2
  have hA : ∀ a : Nat, a < s.heap.size → ¬ (fun q : Nat => s.heap.size ≤ q) a := fun a h => Nat.not_le.mpr h
  obtain ⟨a3, ev3, hT3⟩ := va_Tof (tm := tSB) (ty := .int) (N := 256) (f := fun j => .int (iI (sbv j))) (A := fun q => s.heap.size ≤ q) (by decide) (hf _ (by decide +kernel)) (va_eqt (hf _ (by decide +kernel))) (fun j hj => va_eqt (hf _ (sb_mem j hj))) hA
  obtain ⟨a4, ev4, hT4⟩ := va_Tof (tm := tFA) (ty := .byte) (N := 4) (f := fun j => .int (iI (fav j))) (A := fun q => s.heap.size ≤ q) (by decide) (hf _ (by decide +kernel)) (va_eqt (hf _ (by decide +kernel))) (fun j hj => va_eqt (hf _ (fa_mem j hj))) hA
  have l3 : (Cond.laysStatic "LowEnergy$Cipher" "SBOX" "[I").before #[Value.ref b] s = true := hts _ (t5_in (List.mem_of_getElem? (i := 148) rfl))
  have l4 : (Cond.laysStatic "LowEnergyModel" "FIRST_ACCESS" "[B").before #[Value.ref b] s = true := hts _ (t8_in (List.mem_of_getElem? (i := 208) rfl))
  have n3 : (Cond.initialized "LowEnergy$Cipher").before #[Value.ref b] s = true := hts _ (t1_in (List.mem_of_getElem? (i := 5) rfl))
  have n4 : (Cond.initialized "LowEnergyModel").before #[Value.ref b] s = true := hts _ (t1_in (List.mem_of_getElem? (i := 14) rfl))
  exact ⟨fun k => [a0, a1, a2, a3, a4].getD k 0, ⟨hX, hbl, Nat.not_le.mpr hbl⟩, vx_Zqof lU iT hU hA, vx_Zqof lN iT hN hA, ⟨va_Nw.of rfl c0, va_Nw.of rfl c1, va_Nw.of rfl d0, va_Nw.of rfl d1, va_Nw.of rfl d2⟩, vk_R.of q0 e0, vk_R.of q1 e1, vk_R.of q2 e2, va_Zof l3 n3 ev3 hA, ⟨sbv, hT3, sb_rng⟩, va_Zof l4 n4 ev4 hA, ⟨fav, hT4, fa_rng⟩⟩
theorem whole_start {p : Program} {e : Env} {s : State} {m : MethodId} {below : List Frame} {meth : Method} {c : Code} (l : Launch) (hl0 : l.stackTraces = false) {b L : Nat} {xs : Nat → Int32} (hL : L ≤ 4610) (C0 : lw_At p s m meth c b L xs) : W p l e room_1 s m #[Value.ref b] below meth c s.heap [] 0 0 (lw_Z below #[Value.ref b] s) (entryFrame m ([Value.ref b] : List Value).toArray 7) := by
  obtain ⟨hx, hb, hr, hml, hown, hts, hX, hbl, hlocks, hgv⟩ := C0
  obtain ⟨D, K, hC⟩ := cx_of hts
  obtain ⟨zs, hz⟩ := zl_of hts hgv hX hbl
  have B : Bx p s m #[Value.ref b] c cL_law 7 RL lw_tbl D (tysA K) (fun q => s.heap.size ≤ q) := ⟨hx, hb, hml, hown, hts, hC, fun _ h => h⟩
  have hl := lv_entry ([.ref b]) (n := 7) (Nat.le_of_ble_eq_true rfl)
  rw [lg_entry_eq]
  exact law_body (l := l) (e := e) (below := below) (meth := meth) hl0 (by omega) B hz (fun _ h => h) hr hlocks s.heap [] _ (fun k q h => by simp at h) ⟨fun i j p q h => by simp at h, fun k q h => by simp at h⟩ va_S.rf hl
set_option maxHeartbeats 4000000 in
theorem lw_walk (l : Launch) (hl0 : l.stackTraces = false) (b : Addr) (xs : List Int32) : MetFree l x (headSpec (Jvm.Cond.code x code maxLocals ret :: tables_1) room_1) (lw_P b xs) (fun _ _ _ _ _ => True) lw_Q := by
  refine MetFree.of_bodyS (code := code) (maxLocals := maxLocals) (ret := ret) (by decide) ?_ ?_
  · intro args s m h hn
    obtain ⟨meth, c, h1, h2, h3, h4, h5, h6, -, -⟩ := Cond.code_spec hn (atoms_spec (ws := Jvm.Cond.code x code maxLocals ret :: tables_1) h _ List.mem_cons_self)
    exact ⟨meth, c, h1, h2, h3, h4, h5, h6⟩
  · intro p e s m args below meth c s₁ B hml0 hP _
    obtain ⟨rfl, hx, hbd, hgv⟩ := hP
    obtain ⟨scr, harrAt, hlist, hof, hsmall⟩ := hx
    obtain ⟨hcb, hkn, -, -⟩ := State.arrayAt?_spec harrAt
    have hown : s.vm.findClass R_law = some m.cls := findClass_of_methodNamed B.named
    have hts0 : ∀ c ∈ (Jvm.Cond.code x code maxLocals ret :: tables_1), c.before #[Value.ref b] s = true := atoms_spec (ws := Jvm.Cond.code x code maxLocals ret :: tables_1) B.pre
    have hts : ∀ w ∈ lw_tbl, w.before #[Value.ref b] s = true := k2_hts_sels lw_privs (fun w hw => hts0 w (List.mem_cons_of_mem _ hw)) lw_privs_ok
    have hml : c.maxLocals = 7 := B.maxLocals_eq (hts0 _ List.mem_cons_self)
    have X₀ : Stand p l e room_1 s m #[Value.ref b] below meth c s₁ [] 0 0 := Stand.of_body B
    have hh0 : s₁.heap = s.heap := by rw [B.state]; rfl
    have hsz : scr.slots.size = xs.length := by rw [← Array.length_toList, hlist, List.length_map]
    have hval : ∀ j : Nat, j < xs.length → scr.slots[j]? = some (.int (xs.getD j 0)) := fun j hj => by
      rw [← Array.getElem?_toList, hlist]
      simp [hj]
    have hbl : b < s.heap.size := (Array.getElem?_eq_some_iff.mp hcb).1
    have hX : va_X b xs.length (fun j => xs.getD j 0) s s.heap := ⟨scr, hcb, hof, hkn, hsz, hval⟩
    have K : W p l e room_1 s m #[Value.ref b] below meth c s₁.heap [] 0 0 (lw_Z below #[Value.ref b] s) (entryFrame m ([Value.ref b] : List Value).toArray 7) := by
      rw [hh0]
      exact whole_start l hl0 hbd ⟨B.exec, B.bytes, B.returns, hml, hown, hts, hX, hbl, B.notSynchronized, hgv⟩
    obtain ⟨t, a1, o, b1, b2, b3⟩ := K s₁ rfl X₀
    exact ⟨t, o, a1, b1, b2, b3⟩
theorem lw_pre_spec {args : Array Value} {s : State} (h : (Jvm.Cond.and given_1 narrow_1).before args s = true) (hr : rest_1_c.before args s = true) : ∃ (b : Addr) (xs : List Int32), lw_P b xs args s := by
  have hs := flat_of_before _ h
  have hq := flat_of_before _ hr
  have hc : (Cond.count 1).before args s = true := hs _ (by decide +kernel)
  have harr : (Cond.arrayOf (.arg 0) .int).before args s = true := hs _ (by decide +kernel)
  have hle : (Cond.le (.length (.arg 0)) (.int 4610)).before args s = true := hs _ (by decide +kernel)
  have hlen : (Cond.isInt (.length (.arg 0))).before args s = true := hq _ (by decide +kernel)
  have hall : (Cond.all (.arg 0) (.isInt (.elem (.arg 0) (.index 0)))).before args s = true := hq _ (by decide +kernel)
  obtain ⟨b, xs, hb, hx⟩ := State.ints_of_pre rfl harr hlen hall
  have hsm : xs.length < 2 ^ 31 := hx.choose_spec.2.2.2
  have hev : (Term.length (.arg 0)).eval args s none [] s = some (.int xs.length.toInt32) := hx.length_eval hb
  have hv := Cond.le_ints hev (show (Term.int 4610).eval args s none [] s = some (.int 4610) from rfl)
  have hd : xs.length.toInt32 ≤ 4610 := by
    simpa [Cond.before, Cond.holds, hv] using hle
  have hN : xs.length ≤ 4610 := (Int32.ofNat_le_ofNat hsm (by decide)).mp (show Int32.ofNat xs.length ≤ Int32.ofNat 4610 from hd)
  exact ⟨b, xs, Cond.one_arg hc (show args[0]? = some (.ref b) from hb), hx, hN, h⟩
theorem lw_comes (l : Launch) (hl0 : l.stackTraces = false) : Comes l x (Jvm.Cond.code x code maxLocals ret :: tables_1) room_1 (fun tb e args s => Calls_1 tb e args s ∧ rest_1 tb e args s ∧ Pre_1 tb e args s)
    (fun _ _ args s o t => lw_Q args s o t) := by
  intro p e ha hc hk s m args below hf hfit hheap happ hpre
  obtain ⟨b, xs, hP⟩ := lw_pre_spec hpre.2.2 hpre.2.1
  obtain ⟨k, o, h1, h2, h3, hQ⟩ := lw_walk l hl0 b xs p e ha hc hk s m args below hf ((Spec.applies_iff_loose hf).mp happ).1 hP trivial
  exact ⟨k, o, h1, h2, h3, hQ⟩
theorem lw_frame {s t : State} {o : Outcome} {args : Array Value} (h : Framed s o t [] 601024 7293000) :
    Framed s o t (fieldLocs frame_1_writes args s ++ arrayLocs frame_1_arrays args s ++ staticLocs frame_1_statics s) 601024 7293000 := h
theorem lw_limb (L : Cond) (hL : ∀ (args : Array Value) (s t : State), L.after args s (.returned (some (.int 1))) t = true) :
    ArmFor flags0 classFile x code maxLocals ret World_1 tables_1 room_1 Calls_1 rest_1 Pre_1
      (fun tb e a s o t => postC L tb e a s o t ∧ Framed s o t (fieldLocs frame_1_writes a s ++ arrayLocs frame_1_arrays a s ++ staticLocs frame_1_statics s) 601024 7293000) := by
  intro l hfl _ _ p e ha hc hk s m args below hf hfit hheap happ hpre
  obtain ⟨k, o, h1, h2, h3, rfl, hF⟩ := lw_comes l (by unfold Launch.stackTraces; rw [hfl]; decide +kernel) p e ha hc hk s m args below hf hfit hheap happ hpre
  exact ⟨k, _, h1, h2, h3, hL args s _, lw_frame hF⟩
theorem i_vc : Claimed_1_1 ∧ Claimed_1_2 := ⟨lw_limb limb_1_1 (fun args s t => by simp [limb_1_1, Cond.after, Cond.holds, Cond.value]), lw_limb limb_1_2 (fun args s t => Cond.after_iff.mpr (by
  first | (rw [show limb_1_2 = Cond.eq .result (.int 1) from rfl, Cond.eq_ints (x := 1) (y := 1) rfl rfl]; simp; done) | (simp [limb_1_2, Cond.value, Term.eval]; done)))⟩

