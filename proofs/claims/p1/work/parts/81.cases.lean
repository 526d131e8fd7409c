set_option maxHeartbeats 4000000 in
set_option maxRecDepth 100000 in
theorem lc_tick {p : Program} {l : Launch} {e : Env} {s : State} {m : MethodId} {below : List Frame} {meth : Method} {c : Code} {D : va_G} {A : Nat → Prop} {Q : State → Prop} {zb : Nat} {zx : Nat → Int32} {zs : Nat → Nat} (hl0 : l.stackTraces = false) (K : Nat → ClassId) (hx : Nat) (xa : Nat → Nat) (xf xg : Nat → Option Nat) (fa sa : Int64) (hm : Nat) (q : Nat → Nat) (ho : Nat) (B : Bx p s m #[.ref zb] c cL_law 7 RL lw_tbl D (tysA K) A) (hz : ZL zb 11 zx zs A s s.heap) (kk : V p l e room_1 s m #[.ref zb] below meth c 7 D A Q (600002, 7302198) [] [(4, .int 2), (0, .ref zb)] 1540 []) : V p l e room_1 s m #[.ref zb] below meth c 7 D A Q (599, 20555) (WXM K hx xa xf xg fa sa hm q ho) [(4, .int 2), (3, .ref ho), (2, .ref hm), (1, .ref hx), (0, .ref zb)] 569 [] := by
  rcases tick_split (zx 3) with hb | ⟨N, h1, h2, eN⟩
  · skip
    refine v_forget (wc := [(hx, .inr (11, [.ref (xa 0), .ref (xa 1), .ref (xa 2), .ref (xa 3), .int 0])), (hm, .inr (12, fsM q 0 0 0 0 0)), ((q 7), .inl (K 0, 2, .inl (gl [0, 0]))), ((q 42), .inl (K 3, 2, .inl (gl [0, 0])))]) (wr := []) (sp_pl [0, 40, 41, 64] [] rfl rfl rfl rfl rfl) ?_
    refine v_aload_n B dL_law_569 rfl rfl ?_
    refine v_aload_n B dL_law_570 rfl rfl ?_
    refine v_iload B dL_law_571 rfl ?_
    refine v_iconst B (v := 1) dL_law_573 (by decide +kernel) ?_
    refine v_iadd B (v := 3) dL_law_574 (by decide +kernel) ?_
    refine v_sld B hz (i := 3) (v := (zx 3)) (vpi (by decide +kernel)) (congrArg zx (by decide +kernel)) dL_law_575 ?_
    refine v_aload_n B dL_law_576 rfl rfl ?_
    refine v_callSiW B hz (n := 3) (As := [.ref hx, .int (zx 3), .ref ho]) (rest := []) (wc := [(hx, .inr (11, [.ref (xa 0), .ref (xa 1), .ref (xa 2), .ref (xa 3), .int 0]))]) (wr := [(hm, .inr (12, fsM q 0 0 0 0 0)), ((q 7), .inl (K 0, 2, .inl (gl [0, 0]))), ((q 42), .inl (K 3, 2, .inl (gl [0, 0])))]) (l_tick_bad l hl0 D K zb 11 zx zs hx xa xf xg fa sa ho (zx 3) hb) gd_law_l_tick_bad_71 rfl rfl rfl (by decide +kernel) ⟨by decide +kernel, by decide +kernel⟩ (sp_pl [0] [1, 2, 3] rfl rfl rfl rfl rfl) rfl rfl (Nat.le_of_ble_eq_true rfl) dL_law_577 ⟨by decide +kernel, by decide +kernel⟩ (fun r_67 u_65 hp_66 => ?_)
    subst hp_66
    show V _ _ _ _ _ _ _ _ _ _ _ _ _ _ (600, 20561) [(hm, .inr (12, fsM q 0 0 0 0 0)), ((q 7), .inl (K 0, 2, .inl (gl [0, 0]))), ((q 42), .inl (K 3, 2, .inl (gl [0, 0])))] _ _ [.int 1]
    show V _ _ _ _ _ _ _ _ _ _ _ _ _ _ (600, 20561) [(hm, .inr (12, fsM q 0 0 0 0 0)), ((q 7), .inl (K 0, 2, .inl (gl [0, 0]))), ((q 42), .inl (K 3, 2, .inl (gl [0, 0])))] _ _ _
    refine v_istore B (lv' := [(5, .int 1), (4, .int 2), (3, .ref ho), (2, .ref hm), (1, .ref hx), (0, .ref zb)]) dL_law_580 (by decide +kernel) rfl ?_
    refine v_aload_n B dL_law_582 rfl rfl ?_
    refine v_aload_n B dL_law_583 rfl rfl ?_
    refine v_iload B dL_law_584 rfl ?_
    refine v_iconst B (v := 1) dL_law_586 (by decide +kernel) ?_
    refine v_iadd B (v := 3) dL_law_587 (by decide +kernel) ?_
    refine v_sld B hz (i := 3) (v := (zx 3)) (vpi (by decide +kernel)) (congrArg zx (by decide +kernel)) dL_law_588 ?_
    refine v_callVi B (b := hm) (n := 1) (As := [.int (zx 3)]) (rest := []) (wc := [(hm, .inr (12, fsM q 0 0 0 0 0)), ((q 7), .inl (K 0, 2, .inl (gl [0, 0]))), ((q 42), .inl (K 3, 2, .inl (gl [0, 0])))]) (wr := []) (y_tick_bad l D K hm q (zx 3) hb) gd_law_y_tick_bad_74 rfl rfl rfl (by decide +kernel) ⟨by decide +kernel, by decide +kernel⟩ 0 rfl rfl rfl (sp_pl [0, 1, 2] [] rfl rfl rfl rfl rfl) rfl rfl (Nat.le_of_ble_eq_true rfl) dL_law_589 ⟨by decide +kernel, by decide +kernel⟩ (fun r_70 u_68 hp_69 => ?_)
    subst hp_69
    show V _ _ _ _ _ _ _ _ _ _ _ _ _ _ (600, 20561) [(hm, .inr (12, fsM q 1 0 0 0 0))] _ _ [.int 0]
    show V _ _ _ _ _ _ _ _ _ _ _ _ _ _ (600, 20561) [(hm, .inr (12, fsM q 1 0 0 0 0))] _ _ _
    refine v_istore B (lv' := [(6, .int 0), (5, .int 1), (4, .int 2), (3, .ref ho), (2, .ref hm), (1, .ref hx), (0, .ref zb)]) dL_law_592 (by decide +kernel) rfl ?_
    refine v_aload_n B dL_law_594 rfl rfl ?_
    refine v_callVi B (b := hm) (n := 0) (As := []) (rest := []) (wc := [(hm, .inr (12, fsM q 1 0 0 0 0))]) (wr := []) (y_thrown l D K hm q 1 0 0 0 0) gd_law_y_thrown_75 rfl rfl rfl (by decide +kernel) ⟨by decide +kernel, by decide +kernel⟩ 0 rfl rfl rfl (sp_pl [0] [] rfl rfl rfl rfl rfl) rfl rfl (Nat.le_of_ble_eq_true rfl) dL_law_595 ⟨by decide +kernel, by decide +kernel⟩ (fun r_73 u_71 hp_72 => ?_)
    subst hp_72
    show V _ _ _ _ _ _ _ _ _ _ _ _ _ _ (600, 20561) [(hm, .inr (12, fsM q 1 0 0 0 0))] _ _ [.int 1]
    show V _ _ _ _ _ _ _ _ _ _ _ _ _ _ (600, 20561) [(hm, .inr (12, fsM q 1 0 0 0 0))] _ _ _
    refine v_iload B dL_law_598 rfl ?_
    refine v_icmp_eq B (tgt := 605) dL_law_600 (by decide +kernel) (fun _ => ?_) (fun h => absurd (by decide +kernel) h)
    refine v_iload B dL_law_605 rfl ?_
    refine v_if_ne B (tgt := 622) dL_law_607 (by decide +kernel) (fun _ => ?_) (fun h => absurd h (by decide +kernel))
    refine v_goto B (tgt := 1540) dL_law_622 (by decide +kernel) ?_
    refine v_forget (wc := []) (wr := []) (sp_pl [] [] rfl rfl rfl rfl rfl) ?_
    refine v_lv [2, 6] rfl ?_
    refine v_widen (k := 600002) (n := 7302198) (by decide +kernel) (by decide +kernel) ?_
    exact kk
  · skip
    refine v_forget (wc := [(hx, .inr (11, [.ref (xa 0), .ref (xa 1), .ref (xa 2), .ref (xa 3), .int 0])), ((xa 0), .inl (K 5, 2, .inr (.inr (.inr (.inr (va_up (va_up (fun _ => none) (0 : Int32).toNatClampNeg (some (xa 4))) (1 : Int32).toNatClampNeg (some (xa 5)))))))), ((xa 4), .inr (3, [.int 0, .long (fa &&& 281474976710655), .int 0, .int 0, .int 0, .int 0, .ref (xa 16), .int 0, .long 0, .ref (xa 17), .long 0, .ref (xa 18), .ref (xa 19), .ref (xa 20), .ref (xa 21), .ref (xa 22), .ref (xa 23), .ref (xa 24), .ref (xa 25)])), ((xa 5), .inr (3, [.int 1, .long (sa &&& 281474976710655), .int 0, .int 1, .int 0, .int 0, .ref (xa 58), .int 0, .long 0, .ref (xa 59), .long 0, .ref (xa 60), .ref (xa 61), .ref (xa 62), .ref (xa 63), .ref (xa 64), .ref (xa 65), .ref (xa 66), .ref (xa 67)])), ((xa 1), .inr (0, [.ref (xa 6), .ref (xa 7), .ref (xa 8), .ref (xa 9), .ref (xa 10), .ref (xa 11), .ref (xa 12), .int 0, .int 0, .int 0])), (ho, .inl (K 1, 1, .inr (.inl (fun _ => 0)))), (hm, .inr (12, fsM q 0 0 0 0 0)), ((q 7), .inl (K 0, 2, .inl (gl [0, 0]))), ((q 42), .inl (K 3, 2, .inl (gl [0, 0])))]) (wr := []) (sp_pl [0, 1, 10, 25, 2, 96, 40, 41, 64] [] rfl rfl rfl rfl rfl) ?_
    refine v_aload_n B dL_law_569 rfl rfl ?_
    refine v_aload_n B dL_law_570 rfl rfl ?_
    refine v_iload B dL_law_571 rfl ?_
    refine v_iconst B (v := 1) dL_law_573 (by decide +kernel) ?_
    refine v_iadd B (v := 3) dL_law_574 (by decide +kernel) ?_
    refine v_sld B hz (i := 3) (v := (nI N)) (vpi (by decide +kernel)) ((congrArg zx (by decide +kernel)).trans eN) dL_law_575 ?_
    refine v_aload_n B dL_law_576 rfl rfl ?_
    refine v_callSiW B hz (n := 3) (As := [.ref hx, .int (nI N), .ref ho]) (rest := []) (wc := [(hx, .inr (11, [.ref (xa 0), .ref (xa 1), .ref (xa 2), .ref (xa 3), .int 0])), ((xa 0), .inl (K 5, 2, .inr (.inr (.inr (.inr (va_up (va_up (fun _ => none) (0 : Int32).toNatClampNeg (some (xa 4))) (1 : Int32).toNatClampNeg (some (xa 5)))))))), ((xa 4), .inr (3, [.int 0, .long (fa &&& 281474976710655), .int 0, .int 0, .int 0, .int 0, .ref (xa 16), .int 0, .long 0, .ref (xa 17), .long 0, .ref (xa 18), .ref (xa 19), .ref (xa 20), .ref (xa 21), .ref (xa 22), .ref (xa 23), .ref (xa 24), .ref (xa 25)])), ((xa 5), .inr (3, [.int 1, .long (sa &&& 281474976710655), .int 0, .int 1, .int 0, .int 0, .ref (xa 58), .int 0, .long 0, .ref (xa 59), .long 0, .ref (xa 60), .ref (xa 61), .ref (xa 62), .ref (xa 63), .ref (xa 64), .ref (xa 65), .ref (xa 66), .ref (xa 67)])), ((xa 1), .inr (0, [.ref (xa 6), .ref (xa 7), .ref (xa 8), .ref (xa 9), .ref (xa 10), .ref (xa 11), .ref (xa 12), .int 0, .int 0, .int 0])), (ho, .inl (K 1, 1, .inr (.inl (fun _ => 0))))]) (wr := [(hm, .inr (12, fsM q 0 0 0 0 0)), ((q 7), .inl (K 0, 2, .inl (gl [0, 0]))), ((q 42), .inl (K 3, 2, .inl (gl [0, 0])))]) (l_tick_ok l D K zb 11 zx zs hx xa xf xg fa sa ho N h1 h2) gd_law_l_tick_ok_71 rfl rfl rfl (by decide +kernel) ⟨by decide +kernel, by decide +kernel⟩ (sp_pl [0, 1, 2, 3, 4, 5] [6, 7, 8] rfl rfl rfl rfl rfl) rfl rfl (Nat.le_of_ble_eq_true rfl) dL_law_577 ⟨by decide +kernel, by decide +kernel⟩ (fun r_76 u_74 hp_75 => ?_)
    subst hp_75
    show V _ _ _ _ _ _ _ _ _ _ _ _ _ _ (599, 20555) [(hm, .inr (12, fsM q 0 0 0 0 0)), ((q 7), .inl (K 0, 2, .inl (gl [0, 0]))), ((q 42), .inl (K 3, 2, .inl (gl [0, 0]))), (ho, .inl (K 1, 1, .inr (.inl (vp_updL (fun _ => 0) (0 : Int32).toNatClampNeg 0))))] _ _ [.int 0]
    show V _ _ _ _ _ _ _ _ _ _ _ _ _ _ (599, 20555) [(hm, .inr (12, fsM q 0 0 0 0 0)), ((q 7), .inl (K 0, 2, .inl (gl [0, 0]))), ((q 42), .inl (K 3, 2, .inl (gl [0, 0]))), (ho, .inl (K 1, 1, .inr (.inl (vp_updL (fun _ => 0) (0 : Int32).toNatClampNeg 0))))] _ _ _
    refine v_istore B (lv' := [(5, .int 0), (4, .int 2), (3, .ref ho), (2, .ref hm), (1, .ref hx), (0, .ref zb)]) dL_law_580 (by decide +kernel) rfl ?_
    refine v_aload_n B dL_law_582 rfl rfl ?_
    refine v_aload_n B dL_law_583 rfl rfl ?_
    refine v_iload B dL_law_584 rfl ?_
    refine v_iconst B (v := 1) dL_law_586 (by decide +kernel) ?_
    refine v_iadd B (v := 3) dL_law_587 (by decide +kernel) ?_
    refine v_sld B hz (i := 3) (v := (nI N)) (vpi (by decide +kernel)) ((congrArg zx (by decide +kernel)).trans eN) dL_law_588 ?_
    refine v_callVi B (b := hm) (n := 1) (As := [.int (nI N)]) (rest := []) (wc := [(hm, .inr (12, fsM q 0 0 0 0 0)), ((q 7), .inl (K 0, 2, .inl (gl [0, 0]))), ((q 42), .inl (K 3, 2, .inl (gl [0, 0])))]) (wr := [(ho, .inl (K 1, 1, .inr (.inl (vp_updL (fun _ => 0) (0 : Int32).toNatClampNeg 0))))]) (y_tick_ok l D K hm q N h1 h2) gd_law_y_tick_ok_74 rfl rfl rfl (by decide +kernel) ⟨by decide +kernel, by decide +kernel⟩ 0 rfl rfl rfl (sp_pl [0, 1, 2] [3] rfl rfl rfl rfl rfl) rfl rfl (Nat.le_of_ble_eq_true rfl) dL_law_589 ⟨by decide +kernel, by decide +kernel⟩ (fun r_79 u_77 hp_78 => ?_)
    obtain ⟨a_80, rfl⟩ : ∃ z, z = u_77 := ⟨_, rfl⟩
    subst hp_78
    show V _ _ _ _ _ _ _ _ _ _ _ _ _ _ (599, 20555) [(ho, .inl (K 1, 1, .inr (.inl (vp_updL (fun _ => 0) (0 : Int32).toNatClampNeg 0)))), (hm, .inr (12, fsM q 0 0 a_80 0 0))] _ _ [.int 0]
    show V _ _ _ _ _ _ _ _ _ _ _ _ _ _ (599, 20555) [(ho, .inl (K 1, 1, .inr (.inl (vp_updL (fun _ => 0) (0 : Int32).toNatClampNeg 0)))), (hm, .inr (12, fsM q 0 0 a_80 0 0))] _ _ _
    refine v_istore B (lv' := [(6, .int 0), (5, .int 0), (4, .int 2), (3, .ref ho), (2, .ref hm), (1, .ref hx), (0, .ref zb)]) dL_law_592 (by decide +kernel) rfl ?_
    refine v_aload_n B dL_law_594 rfl rfl ?_
    refine v_callVi B (b := hm) (n := 0) (As := []) (rest := []) (wc := [(hm, .inr (12, fsM q 0 0 a_80 0 0))]) (wr := [(ho, .inl (K 1, 1, .inr (.inl (vp_updL (fun _ => 0) (0 : Int32).toNatClampNeg 0))))]) (y_thrown l D K hm q 0 0 a_80 0 0) gd_law_y_thrown_75 rfl rfl rfl (by decide +kernel) ⟨by decide +kernel, by decide +kernel⟩ 0 rfl rfl rfl (sp_pl [1] [0] rfl rfl rfl rfl rfl) rfl rfl (Nat.le_of_ble_eq_true rfl) dL_law_595 ⟨by decide +kernel, by decide +kernel⟩ (fun r_83 u_81 hp_82 => ?_)
    subst hp_82
    show V _ _ _ _ _ _ _ _ _ _ _ _ _ _ (599, 20555) [(ho, .inl (K 1, 1, .inr (.inl (vp_updL (fun _ => 0) (0 : Int32).toNatClampNeg 0)))), (hm, .inr (12, fsM q 0 0 a_80 0 0))] _ _ [.int 0]
    show V _ _ _ _ _ _ _ _ _ _ _ _ _ _ (599, 20555) [(ho, .inl (K 1, 1, .inr (.inl (vp_updL (fun _ => 0) (0 : Int32).toNatClampNeg 0)))), (hm, .inr (12, fsM q 0 0 a_80 0 0))] _ _ _
    refine v_iload B dL_law_598 rfl ?_
    refine v_icmp_eq B (tgt := 605) dL_law_600 (by decide +kernel) (fun _ => ?_) (fun h => absurd (by decide +kernel) h)
    refine v_iload B dL_law_605 rfl ?_
    refine v_if_ne B (tgt := 622) dL_law_607 (by decide +kernel) (fun h => absurd (by decide +kernel) h) (fun _ => ?_)
    refine v_aload_n B dL_law_610 rfl rfl ?_
    refine v_iconst B (v := 0) dL_law_611 (by decide +kernel) ?_
    refine v_lald B (k0 := 0) (t0 := 1) (v := 0) rfl rfl (vpi (by decide +kernel)) (by decide +kernel) dL_law_612 ?_
    refine v_iload B dL_law_613 rfl ?_
    refine v_i2l B (v := 0) dL_law_615 (by decide +kernel) ?_
    refine v_lcmp B (v := (lg_cmp 0 0)) dL_law_616 rfl ?_
    refine v_if_eq B (tgt := 622) dL_law_617 (by decide +kernel) (fun _ => ?_) (fun h => absurd ((lg_cmp_eq _ _).mpr rfl) h)
    refine v_goto B (tgt := 1540) dL_law_622 (by decide +kernel) ?_
    refine v_forget (wc := []) (wr := []) (sp_pl [] [] rfl rfl rfl rfl rfl) ?_
    refine v_lv [2, 6] rfl ?_
    refine v_widen (k := 600002) (n := 7302198) (by decide +kernel) (by decide +kernel) ?_
    exact kk

set_option maxHeartbeats 4000000 in
set_option maxRecDepth 100000 in
theorem lc_noise {p : Program} {l : Launch} {e : Env} {s : State} {m : MethodId} {below : List Frame} {meth : Method} {c : Code} {D : va_G} {A : Nat → Prop} {Q : State → Prop} {zb : Nat} {zx : Nat → Int32} {zs : Nat → Nat} (hl0 : l.stackTraces = false) (K : Nat → ClassId) (hx : Nat) (xa : Nat → Nat) (xf xg : Nat → Option Nat) (fa sa : Int64) (hm : Nat) (q : Nat → Nat) (ho : Nat) (B : Bx p s m #[.ref zb] c cL_law 7 RL lw_tbl D (tysA K) A) (hz : ZL zb 11 zx zs A s s.heap) (kk : V p l e room_1 s m #[.ref zb] below meth c 7 D A Q (600002, 7302198) [] [(4, .int 2), (0, .ref zb)] 1540 []) : V p l e room_1 s m #[.ref zb] below meth c 7 D A Q (599, 20555) (WXM K hx xa xf xg fa sa hm q ho) [(4, .int 2), (3, .ref ho), (2, .ref hm), (1, .ref hx), (0, .ref zb)] 625 [] := by
  refine v_forget (wc := [(hx, .inr (11, [.ref (xa 0), .ref (xa 1), .ref (xa 2), .ref (xa 3), .int 0])), ((xa 0), .inl (K 5, 2, .inr (.inr (.inr (.inr (va_up (va_up (fun _ => none) (0 : Int32).toNatClampNeg (some (xa 4))) (1 : Int32).toNatClampNeg (some (xa 5)))))))), ((xa 4), .inr (3, [.int 0, .long (fa &&& 281474976710655), .int 0, .int 0, .int 0, .int 0, .ref (xa 16), .int 0, .long 0, .ref (xa 17), .long 0, .ref (xa 18), .ref (xa 19), .ref (xa 20), .ref (xa 21), .ref (xa 22), .ref (xa 23), .ref (xa 24), .ref (xa 25)])), ((xa 5), .inr (3, [.int 1, .long (sa &&& 281474976710655), .int 0, .int 1, .int 0, .int 0, .ref (xa 58), .int 0, .long 0, .ref (xa 59), .long 0, .ref (xa 60), .ref (xa 61), .ref (xa 62), .ref (xa 63), .ref (xa 64), .ref (xa 65), .ref (xa 66), .ref (xa 67)])), ((xa 1), .inr (0, [.ref (xa 6), .ref (xa 7), .ref (xa 8), .ref (xa 9), .ref (xa 10), .ref (xa 11), .ref (xa 12), .int 0, .int 0, .int 0])), ((xa 8), .inl (K 6, 2, .inr (.inr (.inr (.inr (va_up (va_up (fun _ => none) 0 (some (xa 13))) 1 (some (xa 14)))))))), ((xa 13), .inl (K 0, 64, .inl (fun _ => 0))), ((xa 14), .inl (K 0, 64, .inl (fun _ => 0))), ((xa 9), .inl (K 0, 2, .inl (fun _ => 0))), (hm, .inr (12, fsM q 0 0 0 0 0)), ((q 24), .inl (K 0, 2, .inl (gl [0, 0]))), ((q 25), .inl (K 0, 128, .inl (fun _ => 0)))]) (wr := []) (sp_pl [0, 1, 10, 25, 2, 3, 4, 5, 6, 40, 55, 56] [] rfl rfl rfl rfl rfl) ?_
  refine v_aload_n B dL_law_625 rfl rfl ?_
  refine v_aload_n B dL_law_626 rfl rfl ?_
  refine v_iload B dL_law_627 rfl ?_
  refine v_iconst B (v := 1) dL_law_629 (by decide +kernel) ?_
  refine v_iadd B (v := 3) dL_law_630 (by decide +kernel) ?_
  refine v_sld B hz (i := 3) (v := (zx 3)) (vpi (by decide +kernel)) (congrArg zx (by decide +kernel)) dL_law_631 ?_
  refine v_aload_n B dL_law_632 rfl rfl ?_
  refine v_iload B dL_law_633 rfl ?_
  refine v_iconst B (v := 2) dL_law_635 (by decide +kernel) ?_
  refine v_iadd B (v := 4) dL_law_636 (by decide +kernel) ?_
  refine v_sld B hz (i := 4) (v := (zx 4)) (vpi (by decide +kernel)) (congrArg zx (by decide +kernel)) dL_law_637 ?_
  refine v_callVi B (b := hx) (n := 2) (As := [.int (zx 3), .int (zx 4)]) (rest := []) (wc := [(hx, .inr (11, [.ref (xa 0), .ref (xa 1), .ref (xa 2), .ref (xa 3), .int 0])), ((xa 0), .inl (K 5, 2, .inr (.inr (.inr (.inr (va_up (va_up (fun _ => none) (0 : Int32).toNatClampNeg (some (xa 4))) (1 : Int32).toNatClampNeg (some (xa 5)))))))), ((xa 4), .inr (3, [.int 0, .long (fa &&& 281474976710655), .int 0, .int 0, .int 0, .int 0, .ref (xa 16), .int 0, .long 0, .ref (xa 17), .long 0, .ref (xa 18), .ref (xa 19), .ref (xa 20), .ref (xa 21), .ref (xa 22), .ref (xa 23), .ref (xa 24), .ref (xa 25)])), ((xa 5), .inr (3, [.int 1, .long (sa &&& 281474976710655), .int 0, .int 1, .int 0, .int 0, .ref (xa 58), .int 0, .long 0, .ref (xa 59), .long 0, .ref (xa 60), .ref (xa 61), .ref (xa 62), .ref (xa 63), .ref (xa 64), .ref (xa 65), .ref (xa 66), .ref (xa 67)])), ((xa 1), .inr (0, [.ref (xa 6), .ref (xa 7), .ref (xa 8), .ref (xa 9), .ref (xa 10), .ref (xa 11), .ref (xa 12), .int 0, .int 0, .int 0])), ((xa 8), .inl (K 6, 2, .inr (.inr (.inr (.inr (va_up (va_up (fun _ => none) 0 (some (xa 13))) 1 (some (xa 14)))))))), ((xa 13), .inl (K 0, 64, .inl (fun _ => 0))), ((xa 14), .inl (K 0, 64, .inl (fun _ => 0))), ((xa 9), .inl (K 0, 2, .inl (fun _ => 0)))]) (wr := [(hm, .inr (12, fsM q 0 0 0 0 0)), ((q 24), .inl (K 0, 2, .inl (gl [0, 0]))), ((q 25), .inl (K 0, 128, .inl (fun _ => 0)))]) (x_noise l D K hx xa xf xg fa sa (zx 3) (zx 4)) gd_law_x_noise_79 rfl rfl rfl (by decide +kernel) ⟨by decide +kernel, by decide +kernel⟩ 0 rfl rfl rfl (sp_pl [0, 1, 2, 3, 4, 5, 6, 7, 8] [9, 10, 11] rfl rfl rfl rfl rfl) rfl rfl (Nat.le_of_ble_eq_true rfl) dL_law_638 ⟨by decide +kernel, by decide +kernel⟩ (fun r_86 u_84 hp_85 => ?_)
  subst hp_85
  show V _ _ _ _ _ _ _ _ _ _ _ _ _ _ (599, 20555) [(hm, .inr (12, fsM q 0 0 0 0 0)), ((q 24), .inl (K 0, 2, .inl (gl [0, 0]))), ((q 25), .inl (K 0, 128, .inl (fun _ => 0)))] _ _ [.int (an_noise (zx 3) (zx 4))]
  show V _ _ _ _ _ _ _ _ _ _ _ _ _ _ (599, 20555) [(hm, .inr (12, fsM q 0 0 0 0 0)), ((q 24), .inl (K 0, 2, .inl (gl [0, 0]))), ((q 25), .inl (K 0, 128, .inl (fun _ => 0)))] _ _ _
  refine v_aload_n B dL_law_641 rfl rfl ?_
  refine v_aload_n B dL_law_642 rfl rfl ?_
  refine v_iload B dL_law_643 rfl ?_
  refine v_iconst B (v := 1) dL_law_645 (by decide +kernel) ?_
  refine v_iadd B (v := 3) dL_law_646 (by decide +kernel) ?_
  refine v_sld B hz (i := 3) (v := (zx 3)) (vpi (by decide +kernel)) (congrArg zx (by decide +kernel)) dL_law_647 ?_
  refine v_aload_n B dL_law_648 rfl rfl ?_
  refine v_iload B dL_law_649 rfl ?_
  refine v_iconst B (v := 2) dL_law_651 (by decide +kernel) ?_
  refine v_iadd B (v := 4) dL_law_652 (by decide +kernel) ?_
  refine v_sld B hz (i := 4) (v := (zx 4)) (vpi (by decide +kernel)) (congrArg zx (by decide +kernel)) dL_law_653 ?_
  refine v_callVi B (b := hm) (n := 2) (As := [.int (zx 3), .int (zx 4)]) (rest := [.int (an_noise (zx 3) (zx 4))]) (wc := [(hm, .inr (12, fsM q 0 0 0 0 0)), ((q 24), .inl (K 0, 2, .inl (gl [0, 0]))), ((q 25), .inl (K 0, 128, .inl (fun _ => 0)))]) (wr := []) (y_noise l D K hm q fa sa (zx 3) (zx 4)) gd_law_y_noise_82 rfl rfl rfl (by decide +kernel) ⟨by decide +kernel, by decide +kernel⟩ 0 rfl rfl rfl (sp_pl [0, 1, 2] [] rfl rfl rfl rfl rfl) rfl rfl (Nat.le_of_ble_eq_true rfl) dL_law_654 ⟨by decide +kernel, by decide +kernel⟩ (fun r_89 u_87 hp_88 => ?_)
  subst hp_88
  show V _ _ _ _ _ _ _ _ _ _ _ _ _ _ (599, 20555) [] _ _ [.int (an_noise (zx 3) (zx 4)), .int (an_noise (zx 3) (zx 4))]
  show V _ _ _ _ _ _ _ _ _ _ _ _ _ _ (599, 20555) [] _ _ _
  refine v_icmp_eq B (tgt := 1540) dL_law_657 (by decide +kernel) (fun _ => ?_) (fun h => absurd rfl h)
  refine v_lv [0, 4] rfl ?_
  refine v_widen (k := 600002) (n := 7302198) (by decide +kernel) (by decide +kernel) ?_
  exact kk

set_option maxHeartbeats 4000000 in
set_option maxRecDepth 100000 in
theorem lc_lose {p : Program} {l : Launch} {e : Env} {s : State} {m : MethodId} {below : List Frame} {meth : Method} {c : Code} {D : va_G} {A : Nat → Prop} {Q : State → Prop} {zb : Nat} {zx : Nat → Int32} {zs : Nat → Nat} (hl0 : l.stackTraces = false) (K : Nat → ClassId) (hx : Nat) (xa : Nat → Nat) (xf xg : Nat → Option Nat) (fa sa : Int64) (hm : Nat) (q : Nat → Nat) (ho : Nat) (B : Bx p s m #[.ref zb] c cL_law 7 RL lw_tbl D (tysA K) A) (hz : ZL zb 11 zx zs A s s.heap) (kk : V p l e room_1 s m #[.ref zb] below meth c 7 D A Q (600002, 7302198) [] [(4, .int 2), (0, .ref zb)] 1540 []) : V p l e room_1 s m #[.ref zb] below meth c 7 D A Q (599, 20555) (WXM K hx xa xf xg fa sa hm q ho) [(4, .int 2), (3, .ref ho), (2, .ref hm), (1, .ref hx), (0, .ref zb)] 662 [] := by
  refine v_forget (wc := [(hx, .inr (11, [.ref (xa 0), .ref (xa 1), .ref (xa 2), .ref (xa 3), .int 0])), ((xa 0), .inl (K 5, 2, .inr (.inr (.inr (.inr (va_up (va_up (fun _ => none) (0 : Int32).toNatClampNeg (some (xa 4))) (1 : Int32).toNatClampNeg (some (xa 5)))))))), ((xa 4), .inr (3, [.int 0, .long (fa &&& 281474976710655), .int 0, .int 0, .int 0, .int 0, .ref (xa 16), .int 0, .long 0, .ref (xa 17), .long 0, .ref (xa 18), .ref (xa 19), .ref (xa 20), .ref (xa 21), .ref (xa 22), .ref (xa 23), .ref (xa 24), .ref (xa 25)])), ((xa 5), .inr (3, [.int 1, .long (sa &&& 281474976710655), .int 0, .int 1, .int 0, .int 0, .ref (xa 58), .int 0, .long 0, .ref (xa 59), .long 0, .ref (xa 60), .ref (xa 61), .ref (xa 62), .ref (xa 63), .ref (xa 64), .ref (xa 65), .ref (xa 66), .ref (xa 67)])), ((xa 1), .inr (0, [.ref (xa 6), .ref (xa 7), .ref (xa 8), .ref (xa 9), .ref (xa 10), .ref (xa 11), .ref (xa 12), .int 0, .int 0, .int 0])), ((xa 10), .inl (K 0, 2, .inl (fun _ => 0))), (hm, .inr (12, fsM q 0 0 0 0 0)), ((q 23), .inl (K 0, 2, .inl (gl [0, 0])))]) (wr := []) (sp_pl [0, 1, 10, 25, 2, 7, 40, 54] [] rfl rfl rfl rfl rfl) ?_
  refine v_aload_n B dL_law_662 rfl rfl ?_
  refine v_aload_n B dL_law_663 rfl rfl ?_
  refine v_iload B dL_law_664 rfl ?_
  refine v_iconst B (v := 1) dL_law_666 (by decide +kernel) ?_
  refine v_iadd B (v := 3) dL_law_667 (by decide +kernel) ?_
  refine v_sld B hz (i := 3) (v := (zx 3)) (vpi (by decide +kernel)) (congrArg zx (by decide +kernel)) dL_law_668 ?_
  refine v_aload_n B dL_law_669 rfl rfl ?_
  refine v_iload B dL_law_670 rfl ?_
  refine v_iconst B (v := 2) dL_law_672 (by decide +kernel) ?_
  refine v_iadd B (v := 4) dL_law_673 (by decide +kernel) ?_
  refine v_sld B hz (i := 4) (v := (zx 4)) (vpi (by decide +kernel)) (congrArg zx (by decide +kernel)) dL_law_674 ?_
  refine v_callVi B (b := hx) (n := 2) (As := [.int (zx 3), .int (zx 4)]) (rest := []) (wc := [(hx, .inr (11, [.ref (xa 0), .ref (xa 1), .ref (xa 2), .ref (xa 3), .int 0])), ((xa 0), .inl (K 5, 2, .inr (.inr (.inr (.inr (va_up (va_up (fun _ => none) (0 : Int32).toNatClampNeg (some (xa 4))) (1 : Int32).toNatClampNeg (some (xa 5)))))))), ((xa 4), .inr (3, [.int 0, .long (fa &&& 281474976710655), .int 0, .int 0, .int 0, .int 0, .ref (xa 16), .int 0, .long 0, .ref (xa 17), .long 0, .ref (xa 18), .ref (xa 19), .ref (xa 20), .ref (xa 21), .ref (xa 22), .ref (xa 23), .ref (xa 24), .ref (xa 25)])), ((xa 5), .inr (3, [.int 1, .long (sa &&& 281474976710655), .int 0, .int 1, .int 0, .int 0, .ref (xa 58), .int 0, .long 0, .ref (xa 59), .long 0, .ref (xa 60), .ref (xa 61), .ref (xa 62), .ref (xa 63), .ref (xa 64), .ref (xa 65), .ref (xa 66), .ref (xa 67)])), ((xa 1), .inr (0, [.ref (xa 6), .ref (xa 7), .ref (xa 8), .ref (xa 9), .ref (xa 10), .ref (xa 11), .ref (xa 12), .int 0, .int 0, .int 0])), ((xa 10), .inl (K 0, 2, .inl (fun _ => 0)))]) (wr := [(hm, .inr (12, fsM q 0 0 0 0 0)), ((q 23), .inl (K 0, 2, .inl (gl [0, 0])))]) (x_lose l D K hx xa xf xg fa sa (zx 3) (zx 4)) gd_law_x_lose_83 rfl rfl rfl (by decide +kernel) ⟨by decide +kernel, by decide +kernel⟩ 0 rfl rfl rfl (sp_pl [0, 1, 2, 3, 4, 5] [6, 7] rfl rfl rfl rfl rfl) rfl rfl (Nat.le_of_ble_eq_true rfl) dL_law_675 ⟨by decide +kernel, by decide +kernel⟩ (fun r_92 u_90 hp_91 => ?_)
  subst hp_91
  show V _ _ _ _ _ _ _ _ _ _ _ _ _ _ (599, 20555) [(hm, .inr (12, fsM q 0 0 0 0 0)), ((q 23), .inl (K 0, 2, .inl (gl [0, 0])))] _ _ [.int (an_lose (zx 3) (zx 4))]
  show V _ _ _ _ _ _ _ _ _ _ _ _ _ _ (599, 20555) [(hm, .inr (12, fsM q 0 0 0 0 0)), ((q 23), .inl (K 0, 2, .inl (gl [0, 0])))] _ _ _
  refine v_aload_n B dL_law_678 rfl rfl ?_
  refine v_aload_n B dL_law_679 rfl rfl ?_
  refine v_iload B dL_law_680 rfl ?_
  refine v_iconst B (v := 1) dL_law_682 (by decide +kernel) ?_
  refine v_iadd B (v := 3) dL_law_683 (by decide +kernel) ?_
  refine v_sld B hz (i := 3) (v := (zx 3)) (vpi (by decide +kernel)) (congrArg zx (by decide +kernel)) dL_law_684 ?_
  refine v_aload_n B dL_law_685 rfl rfl ?_
  refine v_iload B dL_law_686 rfl ?_
  refine v_iconst B (v := 2) dL_law_688 (by decide +kernel) ?_
  refine v_iadd B (v := 4) dL_law_689 (by decide +kernel) ?_
  refine v_sld B hz (i := 4) (v := (zx 4)) (vpi (by decide +kernel)) (congrArg zx (by decide +kernel)) dL_law_690 ?_
  refine v_callVi B (b := hm) (n := 2) (As := [.int (zx 3), .int (zx 4)]) (rest := [.int (an_lose (zx 3) (zx 4))]) (wc := [(hm, .inr (12, fsM q 0 0 0 0 0)), ((q 23), .inl (K 0, 2, .inl (gl [0, 0])))]) (wr := []) (y_lose l D K hm q fa sa (zx 3) (zx 4)) gd_law_y_lose_86 rfl rfl rfl (by decide +kernel) ⟨by decide +kernel, by decide +kernel⟩ 0 rfl rfl rfl (sp_pl [0, 1] [] rfl rfl rfl rfl rfl) rfl rfl (Nat.le_of_ble_eq_true rfl) dL_law_691 ⟨by decide +kernel, by decide +kernel⟩ (fun r_95 u_93 hp_94 => ?_)
  subst hp_94
  show V _ _ _ _ _ _ _ _ _ _ _ _ _ _ (599, 20555) [] _ _ [.int (an_lose (zx 3) (zx 4)), .int (an_lose (zx 3) (zx 4))]
  show V _ _ _ _ _ _ _ _ _ _ _ _ _ _ (599, 20555) [] _ _ _
  refine v_icmp_eq B (tgt := 1540) dL_law_694 (by decide +kernel) (fun _ => ?_) (fun h => absurd rfl h)
  refine v_lv [0, 4] rfl ?_
  refine v_widen (k := 600002) (n := 7302198) (by decide +kernel) (by decide +kernel) ?_
  exact kk

set_option maxHeartbeats 4000000 in
set_option maxRecDepth 100000 in
theorem lc_air {p : Program} {l : Launch} {e : Env} {s : State} {m : MethodId} {below : List Frame} {meth : Method} {c : Code} {D : va_G} {A : Nat → Prop} {Q : State → Prop} {zb : Nat} {zx : Nat → Int32} {zs : Nat → Nat} (hl0 : l.stackTraces = false) (K : Nat → ClassId) (hx : Nat) (xa : Nat → Nat) (xf xg : Nat → Option Nat) (fa sa : Int64) (hm : Nat) (q : Nat → Nat) (ho : Nat) (B : Bx p s m #[.ref zb] c cL_law 7 RL lw_tbl D (tysA K) A) (hz : ZL zb 11 zx zs A s s.heap) (kk : V p l e room_1 s m #[.ref zb] below meth c 7 D A Q (600002, 7302198) [] [(4, .int 2), (0, .ref zb)] 1540 []) : V p l e room_1 s m #[.ref zb] below meth c 7 D A Q (599, 20555) (WXM K hx xa xf xg fa sa hm q ho) [(4, .int 2), (3, .ref ho), (2, .ref hm), (1, .ref hx), (0, .ref zb)] 699 [] := by
  refine v_forget (wc := [(hx, .inr (11, [.ref (xa 0), .ref (xa 1), .ref (xa 2), .ref (xa 3), .int 0])), ((xa 1), .inr (0, [.ref (xa 6), .ref (xa 7), .ref (xa 8), .ref (xa 9), .ref (xa 10), .ref (xa 11), .ref (xa 12), .int 0, .int 0, .int 0])), (hm, .inr (12, fsM q 0 0 0 0 0))]) (wr := []) (sp_pl [0, 2, 40] [] rfl rfl rfl rfl rfl) ?_
  refine v_aload_n B dL_law_699 rfl rfl ?_
  refine v_aload_n B dL_law_700 rfl rfl ?_
  refine v_iload B dL_law_701 rfl ?_
  refine v_iconst B (v := 1) dL_law_703 (by decide +kernel) ?_
  refine v_iadd B (v := 3) dL_law_704 (by decide +kernel) ?_
  refine v_sld B hz (i := 3) (v := (zx 3)) (vpi (by decide +kernel)) (congrArg zx (by decide +kernel)) dL_law_705 ?_
  refine v_aload_n B dL_law_706 rfl rfl ?_
  refine v_iload B dL_law_707 rfl ?_
  refine v_iconst B (v := 2) dL_law_709 (by decide +kernel) ?_
  refine v_iadd B (v := 4) dL_law_710 (by decide +kernel) ?_
  refine v_sld B hz (i := 4) (v := (zx 4)) (vpi (by decide +kernel)) (congrArg zx (by decide +kernel)) dL_law_711 ?_
  refine v_aload_n B dL_law_712 rfl rfl ?_
  refine v_callSiW B hz (n := 4) (As := [.ref hx, .int (zx 3), .int (zx 4), .ref ho]) (rest := []) (wc := [(hx, .inr (11, [.ref (xa 0), .ref (xa 1), .ref (xa 2), .ref (xa 3), .int 0])), ((xa 1), .inr (0, [.ref (xa 6), .ref (xa 7), .ref (xa 8), .ref (xa 9), .ref (xa 10), .ref (xa 11), .ref (xa 12), .int 0, .int 0, .int 0]))]) (wr := [(hm, .inr (12, fsM q 0 0 0 0 0))]) (l_air l hl0 D K zb 11 zx zs hx xa xf xg fa sa ho (zx 3) (zx 4)) gd_law_l_air_87 rfl rfl rfl (by decide +kernel) ⟨by decide +kernel, by decide +kernel⟩ (sp_pl [0, 1] [2] rfl rfl rfl rfl rfl) rfl rfl (Nat.le_of_ble_eq_true rfl) dL_law_713 ⟨by decide +kernel, by decide +kernel⟩ (fun r_98 u_96 hp_97 => ?_)
  subst hp_97
  show V _ _ _ _ _ _ _ _ _ _ _ _ _ _ (600, 20561) [(hm, .inr (12, fsM q 0 0 0 0 0))] _ _ [.int 1]
  show V _ _ _ _ _ _ _ _ _ _ _ _ _ _ (600, 20561) [(hm, .inr (12, fsM q 0 0 0 0 0))] _ _ _
  refine v_istore B (lv' := [(5, .int 1), (4, .int 2), (3, .ref ho), (2, .ref hm), (1, .ref hx), (0, .ref zb)]) dL_law_716 (by decide +kernel) rfl ?_
  refine v_aload_n B dL_law_718 rfl rfl ?_
  refine v_aload_n B dL_law_719 rfl rfl ?_
  refine v_iload B dL_law_720 rfl ?_
  refine v_iconst B (v := 1) dL_law_722 (by decide +kernel) ?_
  refine v_iadd B (v := 3) dL_law_723 (by decide +kernel) ?_
  refine v_sld B hz (i := 3) (v := (zx 3)) (vpi (by decide +kernel)) (congrArg zx (by decide +kernel)) dL_law_724 ?_
  refine v_aload_n B dL_law_725 rfl rfl ?_
  refine v_iload B dL_law_726 rfl ?_
  refine v_iconst B (v := 2) dL_law_728 (by decide +kernel) ?_
  refine v_iadd B (v := 4) dL_law_729 (by decide +kernel) ?_
  refine v_sld B hz (i := 4) (v := (zx 4)) (vpi (by decide +kernel)) (congrArg zx (by decide +kernel)) dL_law_730 ?_
  refine v_callVi B (b := hm) (n := 2) (As := [.int (zx 3), .int (zx 4)]) (rest := []) (wc := [(hm, .inr (12, fsM q 0 0 0 0 0))]) (wr := []) (y_air l D K hm q (zx 3) (zx 4)) gd_law_y_air_90 rfl rfl rfl (by decide +kernel) ⟨by decide +kernel, by decide +kernel⟩ 0 rfl rfl rfl (sp_pl [0] [] rfl rfl rfl rfl rfl) rfl rfl (Nat.le_of_ble_eq_true rfl) dL_law_731 ⟨by decide +kernel, by decide +kernel⟩ (fun r_101 u_99 hp_100 => ?_)
  subst hp_100
  show V _ _ _ _ _ _ _ _ _ _ _ _ _ _ (600, 20561) [(hm, .inr (12, fsM q 1 0 0 0 0))] _ _ [.int 0]
  show V _ _ _ _ _ _ _ _ _ _ _ _ _ _ (600, 20561) [(hm, .inr (12, fsM q 1 0 0 0 0))] _ _ _
  refine v_istore B (lv' := [(6, .int 0), (5, .int 1), (4, .int 2), (3, .ref ho), (2, .ref hm), (1, .ref hx), (0, .ref zb)]) dL_law_734 (by decide +kernel) rfl ?_
  refine v_aload_n B dL_law_736 rfl rfl ?_
  refine v_callVi B (b := hm) (n := 0) (As := []) (rest := []) (wc := [(hm, .inr (12, fsM q 1 0 0 0 0))]) (wr := []) (y_thrown l D K hm q 1 0 0 0 0) gd_law_y_thrown_75 rfl rfl rfl (by decide +kernel) ⟨by decide +kernel, by decide +kernel⟩ 0 rfl rfl rfl (sp_pl [0] [] rfl rfl rfl rfl rfl) rfl rfl (Nat.le_of_ble_eq_true rfl) dL_law_737 ⟨by decide +kernel, by decide +kernel⟩ (fun r_104 u_102 hp_103 => ?_)
  subst hp_103
  show V _ _ _ _ _ _ _ _ _ _ _ _ _ _ (600, 20561) [(hm, .inr (12, fsM q 1 0 0 0 0))] _ _ [.int 1]
  show V _ _ _ _ _ _ _ _ _ _ _ _ _ _ (600, 20561) [(hm, .inr (12, fsM q 1 0 0 0 0))] _ _ _
  refine v_iload B dL_law_740 rfl ?_
  refine v_icmp_eq B (tgt := 747) dL_law_742 (by decide +kernel) (fun _ => ?_) (fun h => absurd (by decide +kernel) h)
  refine v_iload B dL_law_747 rfl ?_
  refine v_if_ne B (tgt := 764) dL_law_749 (by decide +kernel) (fun _ => ?_) (fun h => absurd h (by decide +kernel))
  refine v_goto B (tgt := 1540) dL_law_764 (by decide +kernel) ?_
  refine v_forget (wc := []) (wr := []) (sp_pl [] [] rfl rfl rfl rfl rfl) ?_
  refine v_lv [2, 6] rfl ?_
  refine v_widen (k := 600002) (n := 7302198) (by decide +kernel) (by decide +kernel) ?_
  exact kk

set_option maxHeartbeats 4000000 in
set_option maxRecDepth 100000 in
theorem lc_device {p : Program} {l : Launch} {e : Env} {s : State} {m : MethodId} {below : List Frame} {meth : Method} {c : Code} {D : va_G} {A : Nat → Prop} {Q : State → Prop} {zb : Nat} {zx : Nat → Int32} {zs : Nat → Nat} (hl0 : l.stackTraces = false) (K : Nat → ClassId) (hx : Nat) (xa : Nat → Nat) (xf xg : Nat → Option Nat) (fa sa : Int64) (hm : Nat) (q : Nat → Nat) (ho : Nat) (B : Bx p s m #[.ref zb] c cL_law 7 RL lw_tbl D (tysA K) A) (hz : ZL zb 11 zx zs A s s.heap) (kk : V p l e room_1 s m #[.ref zb] below meth c 7 D A Q (600002, 7302198) [] [(4, .int 2), (0, .ref zb)] 1540 []) : V p l e room_1 s m #[.ref zb] below meth c 7 D A Q (599, 20555) (WXM K hx xa xf xg fa sa hm q ho) [(4, .int 2), (3, .ref ho), (2, .ref hm), (1, .ref hx), (0, .ref zb)] 767 [] := by
  refine v_forget (wc := [(hx, .inr (11, [.ref (xa 0), .ref (xa 1), .ref (xa 2), .ref (xa 3), .int 0])), ((xa 0), .inl (K 5, 2, .inr (.inr (.inr (.inr (va_up (va_up (fun _ => none) (0 : Int32).toNatClampNeg (some (xa 4))) (1 : Int32).toNatClampNeg (some (xa 5)))))))), ((xa 4), .inr (3, [.int 0, .long (fa &&& 281474976710655), .int 0, .int 0, .int 0, .int 0, .ref (xa 16), .int 0, .long 0, .ref (xa 17), .long 0, .ref (xa 18), .ref (xa 19), .ref (xa 20), .ref (xa 21), .ref (xa 22), .ref (xa 23), .ref (xa 24), .ref (xa 25)])), ((xa 5), .inr (3, [.int 1, .long (sa &&& 281474976710655), .int 0, .int 1, .int 0, .int 0, .ref (xa 58), .int 0, .long 0, .ref (xa 59), .long 0, .ref (xa 60), .ref (xa 61), .ref (xa 62), .ref (xa 63), .ref (xa 64), .ref (xa 65), .ref (xa 66), .ref (xa 67)])), ((xa 19), .inr (7, [.ref (xa 28), .int 0, .int 0, .ref (xa 29), .int 0, .int 0, .int 0, .ref (xa 30), .int 0, .int 0, .int 0, .ref (xa 31), .int 0, .ref (xa 32), .int 0, .ref (xa 33)])), ((xa 61), .inr (7, [.ref (xa 70), .int 0, .int 0, .ref (xa 71), .int 0, .int 0, .int 0, .ref (xa 72), .int 0, .int 0, .int 0, .ref (xa 73), .int 0, .ref (xa 74), .int 0, .ref (xa 75)])), ((xa 28), .inr (9, [.ref (xa 34), .int 0])), ((xa 70), .inr (9, [.ref (xa 76), .int 0])), ((xa 20), .inr (5, [.ref (xa 35), .ref (xa 36), .int 0, .ref (xa 37), .ref (xa 38), .ref (xa 39), .int 0, .int 0, .int 0, .int 0, .int 0, .int 0, .int 0, .int 0, .ref (xa 40), .ref (xa 41)])), ((xa 62), .inr (5, [.ref (xa 35), .ref (xa 77), .int 0, .ref (xa 78), .ref (xa 79), .ref (xa 80), .int 0, .int 0, .int 0, .int 0, .int 0, .int 0, .int 0, .int 0, .ref (xa 81), .ref (xa 82)])), ((xa 22), .inr (10, [.ref (xa 47), .ref (xa 48), .ref (xa 49), .int 0, .int 23, .int 23, .ref (xa 50), .int 0, .int 0, .ref (xa 51)])), ((xa 64), .inr (10, [.ref (xa 88), .ref (xa 89), .ref (xa 90), .int 0, .int 23, .int 23, .ref (xa 91), .int 0, .int 0, .ref (xa 92)])), ((xa 21), .inr (8, [.ref (xa 35), .int (-1), .int 0, .ref (xa 42), .ref (xa 43), .ref (xa 44), .ref (xa 45), .ref (xa 46)])), ((xa 63), .inr (8, [.ref (xa 35), .int (-1), .int 0, .ref (xa 83), .ref (xa 84), .ref (xa 85), .ref (xa 86), .ref (xa 87)])), ((xa 23), .inr (2, [.int (-1), .int 0, .int 0, .int 0, .int 0, .ref (xa 54)])), ((xa 65), .inr (2, [.int (-1), .int 0, .int 0, .int 0, .int 0, .ref (xa 95)])), ((xa 24), .inr (4, [.ref (xa 55), .ref (xa 56), .ref (xa 57), .int 0, .int 0, .int 0])), ((xa 66), .inr (4, [.ref (xa 96), .ref (xa 97), .ref (xa 98), .int 0, .int 0, .int 0])), ((xa 17), .inr (9, [.ref (xa 27), .int 0])), ((xa 59), .inr (9, [.ref (xa 69), .int 0])), ((xa 1), .inr (0, [.ref (xa 6), .ref (xa 7), .ref (xa 8), .ref (xa 9), .ref (xa 10), .ref (xa 11), .ref (xa 12), .int 0, .int 0, .int 0])), ((xa 10), .inl (K 0, 2, .inl (fun _ => 0))), (hm, .inr (12, fsM q 0 0 0 0 0)), ((q 7), .inl (K 0, 2, .inl (gl [0, 0]))), ((q 57), .inl (K 0, 2, .inl (gl [0, 0]))), ((q 85), .inl (K 0, 2, .inl (gl [0, 0]))), ((q 54), .inl (K 0, 2, .inl (gl [0, 0]))), ((q 55), .inl (K 0, 2, .inl (gl [0, 0]))), ((q 68), .inl (K 3, 2, .inl (gl [0, 0]))), ((q 73), .inl (K 3, 2, .inl (gl [0, 0]))), ((q 58), .inl (K 0, 2, .inl (gl [0, 0]))), ((q 59), .inl (K 0, 2, .inl (gl [0, 0]))), ((q 104), .inl (K 0, 2, .inl (gl [23, 23]))), ((q 92), .inl (K 0, 2, .inl (gl [0, 0]))), ((q 116), .inl (K 0, 2, .inl (gl [(-1), (-1)]))), ((q 106), .inl (K 0, 2, .inl (gl [0, 0]))), ((q 21), .inl (K 0, 2, .inl (gl [0, 0]))), ((q 22), .inl (K 0, 2, .inl (gl [0, 0]))), ((q 100), .inl (K 0, 2, .inl (gl [0, 0]))), ((q 45), .inl (K 0, 2, .inl (gl [0, 0]))), ((q 46), .inl (K 0, 2, .inl (gl [0, 0]))), ((q 23), .inl (K 0, 2, .inl (gl [0, 0]))), ((q 114), .inl (K 3, 2, .inl (gl [0, 0])))]) (wr := []) (sp_pl [0, 1, 10, 25, 14, 29, 15, 30, 16, 31, 18, 33, 17, 32, 23, 38, 24, 39, 12, 27, 2, 7, 40, 41, 70, 82, 67, 68, 73, 78, 71, 72, 91, 85, 95, 93, 52, 53, 87, 65, 66, 54, 94] [] rfl rfl rfl rfl rfl) ?_
  refine v_aload_n B dL_law_767 rfl rfl ?_
  refine v_aload_n B dL_law_768 rfl rfl ?_
  refine v_iload B dL_law_769 rfl ?_
  refine v_iconst B (v := 1) dL_law_771 (by decide +kernel) ?_
  refine v_iadd B (v := 3) dL_law_772 (by decide +kernel) ?_
  refine v_sld B hz (i := 3) (v := (zx 3)) (vpi (by decide +kernel)) (congrArg zx (by decide +kernel)) dL_law_773 ?_
  refine v_aload_n B dL_law_774 rfl rfl ?_
  refine v_iload B dL_law_775 rfl ?_
  refine v_iconst B (v := 2) dL_law_777 (by decide +kernel) ?_
  refine v_iadd B (v := 4) dL_law_778 (by decide +kernel) ?_
  refine v_sld B hz (i := 4) (v := (zx 4)) (vpi (by decide +kernel)) (congrArg zx (by decide +kernel)) dL_law_779 ?_
  refine v_callVi B (b := hx) (n := 2) (As := [.int (zx 3), .int (zx 4)]) (rest := []) (wc := [(hx, .inr (11, [.ref (xa 0), .ref (xa 1), .ref (xa 2), .ref (xa 3), .int 0])), ((xa 0), .inl (K 5, 2, .inr (.inr (.inr (.inr (va_up (va_up (fun _ => none) (0 : Int32).toNatClampNeg (some (xa 4))) (1 : Int32).toNatClampNeg (some (xa 5)))))))), ((xa 4), .inr (3, [.int 0, .long (fa &&& 281474976710655), .int 0, .int 0, .int 0, .int 0, .ref (xa 16), .int 0, .long 0, .ref (xa 17), .long 0, .ref (xa 18), .ref (xa 19), .ref (xa 20), .ref (xa 21), .ref (xa 22), .ref (xa 23), .ref (xa 24), .ref (xa 25)])), ((xa 5), .inr (3, [.int 1, .long (sa &&& 281474976710655), .int 0, .int 1, .int 0, .int 0, .ref (xa 58), .int 0, .long 0, .ref (xa 59), .long 0, .ref (xa 60), .ref (xa 61), .ref (xa 62), .ref (xa 63), .ref (xa 64), .ref (xa 65), .ref (xa 66), .ref (xa 67)])), ((xa 19), .inr (7, [.ref (xa 28), .int 0, .int 0, .ref (xa 29), .int 0, .int 0, .int 0, .ref (xa 30), .int 0, .int 0, .int 0, .ref (xa 31), .int 0, .ref (xa 32), .int 0, .ref (xa 33)])), ((xa 61), .inr (7, [.ref (xa 70), .int 0, .int 0, .ref (xa 71), .int 0, .int 0, .int 0, .ref (xa 72), .int 0, .int 0, .int 0, .ref (xa 73), .int 0, .ref (xa 74), .int 0, .ref (xa 75)])), ((xa 28), .inr (9, [.ref (xa 34), .int 0])), ((xa 70), .inr (9, [.ref (xa 76), .int 0])), ((xa 20), .inr (5, [.ref (xa 35), .ref (xa 36), .int 0, .ref (xa 37), .ref (xa 38), .ref (xa 39), .int 0, .int 0, .int 0, .int 0, .int 0, .int 0, .int 0, .int 0, .ref (xa 40), .ref (xa 41)])), ((xa 62), .inr (5, [.ref (xa 35), .ref (xa 77), .int 0, .ref (xa 78), .ref (xa 79), .ref (xa 80), .int 0, .int 0, .int 0, .int 0, .int 0, .int 0, .int 0, .int 0, .ref (xa 81), .ref (xa 82)])), ((xa 22), .inr (10, [.ref (xa 47), .ref (xa 48), .ref (xa 49), .int 0, .int 23, .int 23, .ref (xa 50), .int 0, .int 0, .ref (xa 51)])), ((xa 64), .inr (10, [.ref (xa 88), .ref (xa 89), .ref (xa 90), .int 0, .int 23, .int 23, .ref (xa 91), .int 0, .int 0, .ref (xa 92)])), ((xa 21), .inr (8, [.ref (xa 35), .int (-1), .int 0, .ref (xa 42), .ref (xa 43), .ref (xa 44), .ref (xa 45), .ref (xa 46)])), ((xa 63), .inr (8, [.ref (xa 35), .int (-1), .int 0, .ref (xa 83), .ref (xa 84), .ref (xa 85), .ref (xa 86), .ref (xa 87)])), ((xa 23), .inr (2, [.int (-1), .int 0, .int 0, .int 0, .int 0, .ref (xa 54)])), ((xa 65), .inr (2, [.int (-1), .int 0, .int 0, .int 0, .int 0, .ref (xa 95)])), ((xa 24), .inr (4, [.ref (xa 55), .ref (xa 56), .ref (xa 57), .int 0, .int 0, .int 0])), ((xa 66), .inr (4, [.ref (xa 96), .ref (xa 97), .ref (xa 98), .int 0, .int 0, .int 0])), ((xa 17), .inr (9, [.ref (xa 27), .int 0])), ((xa 59), .inr (9, [.ref (xa 69), .int 0])), ((xa 1), .inr (0, [.ref (xa 6), .ref (xa 7), .ref (xa 8), .ref (xa 9), .ref (xa 10), .ref (xa 11), .ref (xa 12), .int 0, .int 0, .int 0])), ((xa 10), .inl (K 0, 2, .inl (fun _ => 0)))]) (wr := [(hm, .inr (12, fsM q 0 0 0 0 0)), ((q 7), .inl (K 0, 2, .inl (gl [0, 0]))), ((q 57), .inl (K 0, 2, .inl (gl [0, 0]))), ((q 85), .inl (K 0, 2, .inl (gl [0, 0]))), ((q 54), .inl (K 0, 2, .inl (gl [0, 0]))), ((q 55), .inl (K 0, 2, .inl (gl [0, 0]))), ((q 68), .inl (K 3, 2, .inl (gl [0, 0]))), ((q 73), .inl (K 3, 2, .inl (gl [0, 0]))), ((q 58), .inl (K 0, 2, .inl (gl [0, 0]))), ((q 59), .inl (K 0, 2, .inl (gl [0, 0]))), ((q 104), .inl (K 0, 2, .inl (gl [23, 23]))), ((q 92), .inl (K 0, 2, .inl (gl [0, 0]))), ((q 116), .inl (K 0, 2, .inl (gl [(-1), (-1)]))), ((q 106), .inl (K 0, 2, .inl (gl [0, 0]))), ((q 21), .inl (K 0, 2, .inl (gl [0, 0]))), ((q 22), .inl (K 0, 2, .inl (gl [0, 0]))), ((q 100), .inl (K 0, 2, .inl (gl [0, 0]))), ((q 45), .inl (K 0, 2, .inl (gl [0, 0]))), ((q 46), .inl (K 0, 2, .inl (gl [0, 0]))), ((q 23), .inl (K 0, 2, .inl (gl [0, 0]))), ((q 114), .inl (K 3, 2, .inl (gl [0, 0])))]) (x_device l D K hx xa xf xg fa sa (zx 3) (zx 4)) gd_law_x_device_91 rfl rfl rfl (by decide +kernel) ⟨by decide +kernel, by decide +kernel⟩ 0 rfl rfl rfl (sp_pl [0, 1, 2, 3, 4, 5, 6, 7, 8, 9, 10, 11, 12, 13, 14, 15, 16, 17, 18, 19, 20, 21] [22, 23, 24, 25, 26, 27, 28, 29, 30, 31, 32, 33, 34, 35, 36, 37, 38, 39, 40, 41, 42] rfl rfl rfl rfl rfl) rfl rfl (Nat.le_of_ble_eq_true rfl) dL_law_780 ⟨by decide +kernel, by decide +kernel⟩ (fun r_107 u_105 hp_106 => ?_)
  subst hp_106
  show V _ _ _ _ _ _ _ _ _ _ _ _ _ _ (599, 20555) [(hm, .inr (12, fsM q 0 0 0 0 0)), ((q 7), .inl (K 0, 2, .inl (gl [0, 0]))), ((q 57), .inl (K 0, 2, .inl (gl [0, 0]))), ((q 85), .inl (K 0, 2, .inl (gl [0, 0]))), ((q 54), .inl (K 0, 2, .inl (gl [0, 0]))), ((q 55), .inl (K 0, 2, .inl (gl [0, 0]))), ((q 68), .inl (K 3, 2, .inl (gl [0, 0]))), ((q 73), .inl (K 3, 2, .inl (gl [0, 0]))), ((q 58), .inl (K 0, 2, .inl (gl [0, 0]))), ((q 59), .inl (K 0, 2, .inl (gl [0, 0]))), ((q 104), .inl (K 0, 2, .inl (gl [23, 23]))), ((q 92), .inl (K 0, 2, .inl (gl [0, 0]))), ((q 116), .inl (K 0, 2, .inl (gl [(-1), (-1)]))), ((q 106), .inl (K 0, 2, .inl (gl [0, 0]))), ((q 21), .inl (K 0, 2, .inl (gl [0, 0]))), ((q 22), .inl (K 0, 2, .inl (gl [0, 0]))), ((q 100), .inl (K 0, 2, .inl (gl [0, 0]))), ((q 45), .inl (K 0, 2, .inl (gl [0, 0]))), ((q 46), .inl (K 0, 2, .inl (gl [0, 0]))), ((q 23), .inl (K 0, 2, .inl (gl [0, 0]))), ((q 114), .inl (K 3, 2, .inl (gl [0, 0])))] _ _ [.int (an_device (zx 3) (zx 4))]
  show V _ _ _ _ _ _ _ _ _ _ _ _ _ _ (599, 20555) [(hm, .inr (12, fsM q 0 0 0 0 0)), ((q 7), .inl (K 0, 2, .inl (gl [0, 0]))), ((q 57), .inl (K 0, 2, .inl (gl [0, 0]))), ((q 85), .inl (K 0, 2, .inl (gl [0, 0]))), ((q 54), .inl (K 0, 2, .inl (gl [0, 0]))), ((q 55), .inl (K 0, 2, .inl (gl [0, 0]))), ((q 68), .inl (K 3, 2, .inl (gl [0, 0]))), ((q 73), .inl (K 3, 2, .inl (gl [0, 0]))), ((q 58), .inl (K 0, 2, .inl (gl [0, 0]))), ((q 59), .inl (K 0, 2, .inl (gl [0, 0]))), ((q 104), .inl (K 0, 2, .inl (gl [23, 23]))), ((q 92), .inl (K 0, 2, .inl (gl [0, 0]))), ((q 116), .inl (K 0, 2, .inl (gl [(-1), (-1)]))), ((q 106), .inl (K 0, 2, .inl (gl [0, 0]))), ((q 21), .inl (K 0, 2, .inl (gl [0, 0]))), ((q 22), .inl (K 0, 2, .inl (gl [0, 0]))), ((q 100), .inl (K 0, 2, .inl (gl [0, 0]))), ((q 45), .inl (K 0, 2, .inl (gl [0, 0]))), ((q 46), .inl (K 0, 2, .inl (gl [0, 0]))), ((q 23), .inl (K 0, 2, .inl (gl [0, 0]))), ((q 114), .inl (K 3, 2, .inl (gl [0, 0])))] _ _ _
  refine v_aload_n B dL_law_783 rfl rfl ?_
  refine v_aload_n B dL_law_784 rfl rfl ?_
  refine v_iload B dL_law_785 rfl ?_
  refine v_iconst B (v := 1) dL_law_787 (by decide +kernel) ?_
  refine v_iadd B (v := 3) dL_law_788 (by decide +kernel) ?_
  refine v_sld B hz (i := 3) (v := (zx 3)) (vpi (by decide +kernel)) (congrArg zx (by decide +kernel)) dL_law_789 ?_
  refine v_aload_n B dL_law_790 rfl rfl ?_
  refine v_iload B dL_law_791 rfl ?_
  refine v_iconst B (v := 2) dL_law_793 (by decide +kernel) ?_
  refine v_iadd B (v := 4) dL_law_794 (by decide +kernel) ?_
  refine v_sld B hz (i := 4) (v := (zx 4)) (vpi (by decide +kernel)) (congrArg zx (by decide +kernel)) dL_law_795 ?_
  refine v_callVi B (b := hm) (n := 2) (As := [.int (zx 3), .int (zx 4)]) (rest := [.int (an_device (zx 3) (zx 4))]) (wc := [(hm, .inr (12, fsM q 0 0 0 0 0)), ((q 7), .inl (K 0, 2, .inl (gl [0, 0]))), ((q 57), .inl (K 0, 2, .inl (gl [0, 0]))), ((q 85), .inl (K 0, 2, .inl (gl [0, 0]))), ((q 54), .inl (K 0, 2, .inl (gl [0, 0]))), ((q 55), .inl (K 0, 2, .inl (gl [0, 0]))), ((q 68), .inl (K 3, 2, .inl (gl [0, 0]))), ((q 73), .inl (K 3, 2, .inl (gl [0, 0]))), ((q 58), .inl (K 0, 2, .inl (gl [0, 0]))), ((q 59), .inl (K 0, 2, .inl (gl [0, 0]))), ((q 104), .inl (K 0, 2, .inl (gl [23, 23]))), ((q 92), .inl (K 0, 2, .inl (gl [0, 0]))), ((q 116), .inl (K 0, 2, .inl (gl [(-1), (-1)]))), ((q 106), .inl (K 0, 2, .inl (gl [0, 0]))), ((q 21), .inl (K 0, 2, .inl (gl [0, 0]))), ((q 22), .inl (K 0, 2, .inl (gl [0, 0]))), ((q 100), .inl (K 0, 2, .inl (gl [0, 0]))), ((q 45), .inl (K 0, 2, .inl (gl [0, 0]))), ((q 46), .inl (K 0, 2, .inl (gl [0, 0]))), ((q 23), .inl (K 0, 2, .inl (gl [0, 0]))), ((q 114), .inl (K 3, 2, .inl (gl [0, 0])))]) (wr := []) (y_device l D K hm q fa sa (zx 3) (zx 4)) gd_law_y_device_94 rfl rfl rfl (by decide +kernel) ⟨by decide +kernel, by decide +kernel⟩ 0 rfl rfl rfl (sp_pl [0, 1, 2, 3, 4, 5, 6, 7, 8, 9, 10, 11, 12, 13, 14, 15, 16, 17, 18, 19, 20] [] rfl rfl rfl rfl rfl) rfl rfl (Nat.le_of_ble_eq_true rfl) dL_law_796 ⟨by decide +kernel, by decide +kernel⟩ (fun r_110 u_108 hp_109 => ?_)
  subst hp_109
  show V _ _ _ _ _ _ _ _ _ _ _ _ _ _ (599, 20555) [] _ _ [.int (an_device (zx 3) (zx 4)), .int (an_device (zx 3) (zx 4))]
  show V _ _ _ _ _ _ _ _ _ _ _ _ _ _ (599, 20555) [] _ _ _
  refine v_icmp_eq B (tgt := 1540) dL_law_799 (by decide +kernel) (fun _ => ?_) (fun h => absurd rfl h)
  refine v_lv [0, 4] rfl ?_
  refine v_widen (k := 600002) (n := 7302198) (by decide +kernel) (by decide +kernel) ?_
  exact kk

set_option maxHeartbeats 4000000 in
set_option maxRecDepth 100000 in
theorem lc_number {p : Program} {l : Launch} {e : Env} {s : State} {m : MethodId} {below : List Frame} {meth : Method} {c : Code} {D : va_G} {A : Nat → Prop} {Q : State → Prop} {zb : Nat} {zx : Nat → Int32} {zs : Nat → Nat} (hl0 : l.stackTraces = false) (K : Nat → ClassId) (hx : Nat) (xa : Nat → Nat) (xf xg : Nat → Option Nat) (fa sa : Int64) (hm : Nat) (q : Nat → Nat) (ho : Nat) (B : Bx p s m #[.ref zb] c cL_law 7 RL lw_tbl D (tysA K) A) (hz : ZL zb 11 zx zs A s s.heap) (kk : V p l e room_1 s m #[.ref zb] below meth c 7 D A Q (600002, 7302198) [] [(4, .int 2), (0, .ref zb)] 1540 []) : V p l e room_1 s m #[.ref zb] below meth c 7 D A Q (599, 20555) (WXM K hx xa xf xg fa sa hm q ho) [(4, .int 2), (3, .ref ho), (2, .ref hm), (1, .ref hx), (0, .ref zb)] 804 [] := by
  refine v_forget (wc := [(hx, .inr (11, [.ref (xa 0), .ref (xa 1), .ref (xa 2), .ref (xa 3), .int 0])), ((xa 0), .inl (K 5, 2, .inr (.inr (.inr (.inr (va_up (va_up (fun _ => none) (0 : Int32).toNatClampNeg (some (xa 4))) (1 : Int32).toNatClampNeg (some (xa 5)))))))), ((xa 4), .inr (3, [.int 0, .long (fa &&& 281474976710655), .int 0, .int 0, .int 0, .int 0, .ref (xa 16), .int 0, .long 0, .ref (xa 17), .long 0, .ref (xa 18), .ref (xa 19), .ref (xa 20), .ref (xa 21), .ref (xa 22), .ref (xa 23), .ref (xa 24), .ref (xa 25)])), ((xa 5), .inr (3, [.int 1, .long (sa &&& 281474976710655), .int 0, .int 1, .int 0, .int 0, .ref (xa 58), .int 0, .long 0, .ref (xa 59), .long 0, .ref (xa 60), .ref (xa 61), .ref (xa 62), .ref (xa 63), .ref (xa 64), .ref (xa 65), .ref (xa 66), .ref (xa 67)])), ((xa 18), .inr (6, [.int 0, .int 0, .int 0, .int 0, .int 0, .long 0, .long 0, .int 0, .int 0, .int 0, .int 0, .int 0, .int (-1), .int 0, .int 0, .int 0, .int 0, .int (-1), .int (-1), .long 0])), ((xa 60), .inr (6, [.int 0, .int 0, .int 0, .int 0, .int 0, .long 0, .long 0, .int 0, .int 0, .int 0, .int 0, .int 0, .int (-1), .int 0, .int 0, .int 0, .int 0, .int (-1), .int (-1), .long 0])), (hm, .inr (12, fsM q 0 0 0 0 0)), ((q 7), .inl (K 0, 2, .inl (gl [0, 0]))), ((q 12), .inl (K 1, 2, .inr (.inl (glL [(fa &&& 281474976710655), (sa &&& 281474976710655)])))), ((q 18), .inl (K 1, 2, .inr (.inl (glL [0, 0]))))]) (wr := []) (sp_pl [0, 1, 10, 25, 13, 28, 40, 41, 47, 51] [] rfl rfl rfl rfl rfl) ?_
  refine v_aload_n B dL_law_804 rfl rfl ?_
  refine v_aload_n B dL_law_805 rfl rfl ?_
  refine v_iload B dL_law_806 rfl ?_
  refine v_iconst B (v := 1) dL_law_808 (by decide +kernel) ?_
  refine v_iadd B (v := 3) dL_law_809 (by decide +kernel) ?_
  refine v_sld B hz (i := 3) (v := (zx 3)) (vpi (by decide +kernel)) (congrArg zx (by decide +kernel)) dL_law_810 ?_
  refine v_aload_n B dL_law_811 rfl rfl ?_
  refine v_iload B dL_law_812 rfl ?_
  refine v_iconst B (v := 2) dL_law_814 (by decide +kernel) ?_
  refine v_iadd B (v := 4) dL_law_815 (by decide +kernel) ?_
  refine v_sld B hz (i := 4) (v := (zx 4)) (vpi (by decide +kernel)) (congrArg zx (by decide +kernel)) dL_law_816 ?_
  refine v_callVl B (b := hx) (n := 2) (As := [.int (zx 3), .int (zx 4)]) (rest := []) (wc := [(hx, .inr (11, [.ref (xa 0), .ref (xa 1), .ref (xa 2), .ref (xa 3), .int 0])), ((xa 0), .inl (K 5, 2, .inr (.inr (.inr (.inr (va_up (va_up (fun _ => none) (0 : Int32).toNatClampNeg (some (xa 4))) (1 : Int32).toNatClampNeg (some (xa 5)))))))), ((xa 4), .inr (3, [.int 0, .long (fa &&& 281474976710655), .int 0, .int 0, .int 0, .int 0, .ref (xa 16), .int 0, .long 0, .ref (xa 17), .long 0, .ref (xa 18), .ref (xa 19), .ref (xa 20), .ref (xa 21), .ref (xa 22), .ref (xa 23), .ref (xa 24), .ref (xa 25)])), ((xa 5), .inr (3, [.int 1, .long (sa &&& 281474976710655), .int 0, .int 1, .int 0, .int 0, .ref (xa 58), .int 0, .long 0, .ref (xa 59), .long 0, .ref (xa 60), .ref (xa 61), .ref (xa 62), .ref (xa 63), .ref (xa 64), .ref (xa 65), .ref (xa 66), .ref (xa 67)])), ((xa 18), .inr (6, [.int 0, .int 0, .int 0, .int 0, .int 0, .long 0, .long 0, .int 0, .int 0, .int 0, .int 0, .int 0, .int (-1), .int 0, .int 0, .int 0, .int 0, .int (-1), .int (-1), .long 0])), ((xa 60), .inr (6, [.int 0, .int 0, .int 0, .int 0, .int 0, .long 0, .long 0, .int 0, .int 0, .int 0, .int 0, .int 0, .int (-1), .int 0, .int 0, .int 0, .int 0, .int (-1), .int (-1), .long 0]))]) (wr := [(hm, .inr (12, fsM q 0 0 0 0 0)), ((q 7), .inl (K 0, 2, .inl (gl [0, 0]))), ((q 12), .inl (K 1, 2, .inr (.inl (glL [(fa &&& 281474976710655), (sa &&& 281474976710655)])))), ((q 18), .inl (K 1, 2, .inr (.inl (glL [0, 0]))))]) (x_number l D K hx xa xf xg fa sa (zx 3) (zx 4)) gd_law_x_number_95 rfl rfl rfl (by decide +kernel) ⟨by decide +kernel, by decide +kernel⟩ 0 rfl rfl rfl (sp_pl [0, 1, 2, 3, 4, 5] [6, 7, 8, 9] rfl rfl rfl rfl rfl) rfl rfl (Nat.le_of_ble_eq_true rfl) dL_law_817 ⟨by decide +kernel, by decide +kernel⟩ (fun r_113 u_111 hp_112 => ?_)
  subst hp_112
  show V _ _ _ _ _ _ _ _ _ _ _ _ _ _ (599, 20555) [(hm, .inr (12, fsM q 0 0 0 0 0)), ((q 7), .inl (K 0, 2, .inl (gl [0, 0]))), ((q 12), .inl (K 1, 2, .inr (.inl (glL [(fa &&& 281474976710655), (sa &&& 281474976710655)])))), ((q 18), .inl (K 1, 2, .inr (.inl (glL [0, 0]))))] _ _ [.long (an_number (zx 3) (zx 4) fa sa)]
  show V _ _ _ _ _ _ _ _ _ _ _ _ _ _ (599, 20555) [(hm, .inr (12, fsM q 0 0 0 0 0)), ((q 7), .inl (K 0, 2, .inl (gl [0, 0]))), ((q 12), .inl (K 1, 2, .inr (.inl (glL [(fa &&& 281474976710655), (sa &&& 281474976710655)])))), ((q 18), .inl (K 1, 2, .inr (.inl (glL [0, 0]))))] _ _ _
  refine v_aload_n B dL_law_820 rfl rfl ?_
  refine v_aload_n B dL_law_821 rfl rfl ?_
  refine v_iload B dL_law_822 rfl ?_
  refine v_iconst B (v := 1) dL_law_824 (by decide +kernel) ?_
  refine v_iadd B (v := 3) dL_law_825 (by decide +kernel) ?_
  refine v_sld B hz (i := 3) (v := (zx 3)) (vpi (by decide +kernel)) (congrArg zx (by decide +kernel)) dL_law_826 ?_
  refine v_aload_n B dL_law_827 rfl rfl ?_
  refine v_iload B dL_law_828 rfl ?_
  refine v_iconst B (v := 2) dL_law_830 (by decide +kernel) ?_
  refine v_iadd B (v := 4) dL_law_831 (by decide +kernel) ?_
  refine v_sld B hz (i := 4) (v := (zx 4)) (vpi (by decide +kernel)) (congrArg zx (by decide +kernel)) dL_law_832 ?_
  refine v_callVl B (b := hm) (n := 2) (As := [.int (zx 3), .int (zx 4)]) (rest := [.long (an_number (zx 3) (zx 4) fa sa)]) (wc := [(hm, .inr (12, fsM q 0 0 0 0 0)), ((q 7), .inl (K 0, 2, .inl (gl [0, 0]))), ((q 12), .inl (K 1, 2, .inr (.inl (glL [(fa &&& 281474976710655), (sa &&& 281474976710655)])))), ((q 18), .inl (K 1, 2, .inr (.inl (glL [0, 0]))))]) (wr := []) (y_number l D K hm q fa sa (zx 3) (zx 4)) gd_law_y_number_99 rfl rfl rfl (by decide +kernel) ⟨by decide +kernel, by decide +kernel⟩ 0 rfl rfl rfl (sp_pl [0, 1, 2, 3] [] rfl rfl rfl rfl rfl) rfl rfl (Nat.le_of_ble_eq_true rfl) dL_law_833 ⟨by decide +kernel, by decide +kernel⟩ (fun r_116 u_114 hp_115 => ?_)
  subst hp_115
  show V _ _ _ _ _ _ _ _ _ _ _ _ _ _ (599, 20555) [] _ _ [.long (an_number (zx 3) (zx 4) fa sa), .long (an_number (zx 3) (zx 4) fa sa)]
  show V _ _ _ _ _ _ _ _ _ _ _ _ _ _ (599, 20555) [] _ _ _
  refine v_lcmp B (v := (lg_cmp (an_number (zx 3) (zx 4) fa sa) (an_number (zx 3) (zx 4) fa sa))) dL_law_836 rfl ?_
  refine v_if_eq B (tgt := 1540) dL_law_837 (by decide +kernel) (fun _ => ?_) (fun h => absurd ((lg_cmp_eq _ _).mpr rfl) h)
  refine v_lv [0, 4] rfl ?_
  refine v_widen (k := 600002) (n := 7302198) (by decide +kernel) (by decide +kernel) ?_
  exact kk

set_option maxHeartbeats 4000000 in
set_option maxRecDepth 100000 in
theorem lc_byteOf {p : Program} {l : Launch} {e : Env} {s : State} {m : MethodId} {below : List Frame} {meth : Method} {c : Code} {D : va_G} {A : Nat → Prop} {Q : State → Prop} {zb : Nat} {zx : Nat → Int32} {zs : Nat → Nat} (hl0 : l.stackTraces = false) (K : Nat → ClassId) (hx : Nat) (xa : Nat → Nat) (xf xg : Nat → Option Nat) (fa sa : Int64) (hm : Nat) (q : Nat → Nat) (ho : Nat) (B : Bx p s m #[.ref zb] c cL_law 7 RL lw_tbl D (tysA K) A) (hz : ZL zb 11 zx zs A s s.heap) (kk : V p l e room_1 s m #[.ref zb] below meth c 7 D A Q (600002, 7302198) [] [(4, .int 2), (0, .ref zb)] 1540 []) : V p l e room_1 s m #[.ref zb] below meth c 7 D A Q (599, 20555) (WXM K hx xa xf xg fa sa hm q ho) [(4, .int 2), (3, .ref ho), (2, .ref hm), (1, .ref hx), (0, .ref zb)] 842 [] := by
  refine v_forget (wc := [(hx, .inr (11, [.ref (xa 0), .ref (xa 1), .ref (xa 2), .ref (xa 3), .int 0])), ((xa 0), .inl (K 5, 2, .inr (.inr (.inr (.inr (va_up (va_up (fun _ => none) (0 : Int32).toNatClampNeg (some (xa 4))) (1 : Int32).toNatClampNeg (some (xa 5)))))))), ((xa 4), .inr (3, [.int 0, .long (fa &&& 281474976710655), .int 0, .int 0, .int 0, .int 0, .ref (xa 16), .int 0, .long 0, .ref (xa 17), .long 0, .ref (xa 18), .ref (xa 19), .ref (xa 20), .ref (xa 21), .ref (xa 22), .ref (xa 23), .ref (xa 24), .ref (xa 25)])), ((xa 5), .inr (3, [.int 1, .long (sa &&& 281474976710655), .int 0, .int 1, .int 0, .int 0, .ref (xa 58), .int 0, .long 0, .ref (xa 59), .long 0, .ref (xa 60), .ref (xa 61), .ref (xa 62), .ref (xa 63), .ref (xa 64), .ref (xa 65), .ref (xa 66), .ref (xa 67)])), ((xa 17), .inr (9, [.ref (xa 27), .int 0])), ((xa 59), .inr (9, [.ref (xa 69), .int 0])), ((xa 20), .inr (5, [.ref (xa 35), .ref (xa 36), .int 0, .ref (xa 37), .ref (xa 38), .ref (xa 39), .int 0, .int 0, .int 0, .int 0, .int 0, .int 0, .int 0, .int 0, .ref (xa 40), .ref (xa 41)])), ((xa 62), .inr (5, [.ref (xa 35), .ref (xa 77), .int 0, .ref (xa 78), .ref (xa 79), .ref (xa 80), .int 0, .int 0, .int 0, .int 0, .int 0, .int 0, .int 0, .int 0, .ref (xa 81), .ref (xa 82)])), ((xa 2), .inr (9, [.ref (xa 15), .int 0])), (hm, .inr (12, fsM q 0 0 0 0 0)), ((q 22), .inl (K 0, 2, .inl (gl [0, 0]))), ((q 75), .inl (K 3, 2, .inl (gl [0, 0]))), ((q 74), .inl (K 3, 2, .inl (gl [0, 0])))]) (wr := []) (sp_pl [0, 1, 10, 25, 12, 27, 16, 31, 8, 40, 53, 80, 79] [] rfl rfl rfl rfl rfl) ?_
  refine v_aload_n B dL_law_842 rfl rfl ?_
  refine v_aload_n B dL_law_843 rfl rfl ?_
  refine v_iload B dL_law_844 rfl ?_
  refine v_iconst B (v := 1) dL_law_846 (by decide +kernel) ?_
  refine v_iadd B (v := 3) dL_law_847 (by decide +kernel) ?_
  refine v_sld B hz (i := 3) (v := (zx 3)) (vpi (by decide +kernel)) (congrArg zx (by decide +kernel)) dL_law_848 ?_
  refine v_aload_n B dL_law_849 rfl rfl ?_
  refine v_iload B dL_law_850 rfl ?_
  refine v_iconst B (v := 2) dL_law_852 (by decide +kernel) ?_
  refine v_iadd B (v := 4) dL_law_853 (by decide +kernel) ?_
  refine v_sld B hz (i := 4) (v := (zx 4)) (vpi (by decide +kernel)) (congrArg zx (by decide +kernel)) dL_law_854 ?_
  refine v_aload_n B dL_law_855 rfl rfl ?_
  refine v_iload B dL_law_856 rfl ?_
  refine v_iconst B (v := 3) dL_law_858 (by decide +kernel) ?_
  refine v_iadd B (v := 5) dL_law_859 (by decide +kernel) ?_
  refine v_sld B hz (i := 5) (v := (zx 5)) (vpi (by decide +kernel)) (congrArg zx (by decide +kernel)) dL_law_860 ?_
  refine v_callVi B (b := hx) (n := 3) (As := [.int (zx 3), .int (zx 4), .int (zx 5)]) (rest := []) (wc := [(hx, .inr (11, [.ref (xa 0), .ref (xa 1), .ref (xa 2), .ref (xa 3), .int 0])), ((xa 0), .inl (K 5, 2, .inr (.inr (.inr (.inr (va_up (va_up (fun _ => none) (0 : Int32).toNatClampNeg (some (xa 4))) (1 : Int32).toNatClampNeg (some (xa 5)))))))), ((xa 4), .inr (3, [.int 0, .long (fa &&& 281474976710655), .int 0, .int 0, .int 0, .int 0, .ref (xa 16), .int 0, .long 0, .ref (xa 17), .long 0, .ref (xa 18), .ref (xa 19), .ref (xa 20), .ref (xa 21), .ref (xa 22), .ref (xa 23), .ref (xa 24), .ref (xa 25)])), ((xa 5), .inr (3, [.int 1, .long (sa &&& 281474976710655), .int 0, .int 1, .int 0, .int 0, .ref (xa 58), .int 0, .long 0, .ref (xa 59), .long 0, .ref (xa 60), .ref (xa 61), .ref (xa 62), .ref (xa 63), .ref (xa 64), .ref (xa 65), .ref (xa 66), .ref (xa 67)])), ((xa 17), .inr (9, [.ref (xa 27), .int 0])), ((xa 59), .inr (9, [.ref (xa 69), .int 0])), ((xa 20), .inr (5, [.ref (xa 35), .ref (xa 36), .int 0, .ref (xa 37), .ref (xa 38), .ref (xa 39), .int 0, .int 0, .int 0, .int 0, .int 0, .int 0, .int 0, .int 0, .ref (xa 40), .ref (xa 41)])), ((xa 62), .inr (5, [.ref (xa 35), .ref (xa 77), .int 0, .ref (xa 78), .ref (xa 79), .ref (xa 80), .int 0, .int 0, .int 0, .int 0, .int 0, .int 0, .int 0, .int 0, .ref (xa 81), .ref (xa 82)])), ((xa 2), .inr (9, [.ref (xa 15), .int 0]))]) (wr := [(hm, .inr (12, fsM q 0 0 0 0 0)), ((q 22), .inl (K 0, 2, .inl (gl [0, 0]))), ((q 75), .inl (K 3, 2, .inl (gl [0, 0]))), ((q 74), .inl (K 3, 2, .inl (gl [0, 0])))]) (x_byteOf l D K hx xa xf xg fa sa (zx 3) (zx 4) (zx 5)) gd_law_x_byteOf_100 rfl rfl rfl (by decide +kernel) ⟨by decide +kernel, by decide +kernel⟩ 0 rfl rfl rfl (sp_pl [0, 1, 2, 3, 4, 5, 6, 7, 8] [9, 10, 11, 12] rfl rfl rfl rfl rfl) rfl rfl (Nat.le_of_ble_eq_true rfl) dL_law_861 ⟨by decide +kernel, by decide +kernel⟩ (fun r_119 u_117 hp_118 => ?_)
  subst hp_118
  show V _ _ _ _ _ _ _ _ _ _ _ _ _ _ (599, 20555) [(hm, .inr (12, fsM q 0 0 0 0 0)), ((q 22), .inl (K 0, 2, .inl (gl [0, 0]))), ((q 75), .inl (K 3, 2, .inl (gl [0, 0]))), ((q 74), .inl (K 3, 2, .inl (gl [0, 0])))] _ _ [.int (an_byteOf (zx 3) (zx 4) (zx 5))]
  show V _ _ _ _ _ _ _ _ _ _ _ _ _ _ (599, 20555) [(hm, .inr (12, fsM q 0 0 0 0 0)), ((q 22), .inl (K 0, 2, .inl (gl [0, 0]))), ((q 75), .inl (K 3, 2, .inl (gl [0, 0]))), ((q 74), .inl (K 3, 2, .inl (gl [0, 0])))] _ _ _
  refine v_aload_n B dL_law_864 rfl rfl ?_
  refine v_aload_n B dL_law_865 rfl rfl ?_
  refine v_iload B dL_law_866 rfl ?_
  refine v_iconst B (v := 1) dL_law_868 (by decide +kernel) ?_
  refine v_iadd B (v := 3) dL_law_869 (by decide +kernel) ?_
  refine v_sld B hz (i := 3) (v := (zx 3)) (vpi (by decide +kernel)) (congrArg zx (by decide +kernel)) dL_law_870 ?_
  refine v_aload_n B dL_law_871 rfl rfl ?_
  refine v_iload B dL_law_872 rfl ?_
  refine v_iconst B (v := 2) dL_law_874 (by decide +kernel) ?_
  refine v_iadd B (v := 4) dL_law_875 (by decide +kernel) ?_
  refine v_sld B hz (i := 4) (v := (zx 4)) (vpi (by decide +kernel)) (congrArg zx (by decide +kernel)) dL_law_876 ?_
  refine v_aload_n B dL_law_877 rfl rfl ?_
  refine v_iload B dL_law_878 rfl ?_
  refine v_iconst B (v := 3) dL_law_880 (by decide +kernel) ?_
  refine v_iadd B (v := 5) dL_law_881 (by decide +kernel) ?_
  refine v_sld B hz (i := 5) (v := (zx 5)) (vpi (by decide +kernel)) (congrArg zx (by decide +kernel)) dL_law_882 ?_
  refine v_callVi B (b := hm) (n := 3) (As := [.int (zx 3), .int (zx 4), .int (zx 5)]) (rest := [.int (an_byteOf (zx 3) (zx 4) (zx 5))]) (wc := [(hm, .inr (12, fsM q 0 0 0 0 0)), ((q 22), .inl (K 0, 2, .inl (gl [0, 0]))), ((q 75), .inl (K 3, 2, .inl (gl [0, 0]))), ((q 74), .inl (K 3, 2, .inl (gl [0, 0])))]) (wr := []) (y_byteOf l D K hm q fa sa (zx 3) (zx 4) (zx 5)) gd_law_y_byteOf_103 rfl rfl rfl (by decide +kernel) ⟨by decide +kernel, by decide +kernel⟩ 0 rfl rfl rfl (sp_pl [0, 1, 2, 3] [] rfl rfl rfl rfl rfl) rfl rfl (Nat.le_of_ble_eq_true rfl) dL_law_883 ⟨by decide +kernel, by decide +kernel⟩ (fun r_122 u_120 hp_121 => ?_)
  subst hp_121
  show V _ _ _ _ _ _ _ _ _ _ _ _ _ _ (599, 20555) [] _ _ [.int (an_byteOf (zx 3) (zx 4) (zx 5)), .int (an_byteOf (zx 3) (zx 4) (zx 5))]
  show V _ _ _ _ _ _ _ _ _ _ _ _ _ _ (599, 20555) [] _ _ _
  refine v_icmp_eq B (tgt := 1540) dL_law_886 (by decide +kernel) (fun _ => ?_) (fun h => absurd rfl h)
  refine v_lv [0, 4] rfl ?_
  refine v_widen (k := 600002) (n := 7302198) (by decide +kernel) (by decide +kernel) ?_
  exact kk

