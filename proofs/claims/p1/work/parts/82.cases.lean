set_option maxHeartbeats 4000000 in
set_option maxRecDepth 100000 in
theorem lc_control {p : Program} {l : Launch} {e : Env} {s : State} {m : MethodId} {below : List Frame} {meth : Method} {c : Code} {D : va_G} {A : Nat → Prop} {Q : State → Prop} {zb : Nat} {zx : Nat → Int32} {zs : Nat → Nat} (hl0 : l.stackTraces = false) (K : Nat → ClassId) (hx : Nat) (xa : Nat → Nat) (xf xg : Nat → Option Nat) (fa sa : Int64) (hm : Nat) (q : Nat → Nat) (ho : Nat) (B : Bx p s m #[.ref zb] c cL_law 7 RL lw_tbl D (tysA K) A) (hz : ZL zb 11 zx zs A s s.heap) (kk : V p l e room_1 s m #[.ref zb] below meth c 7 D A Q (600002, 7302198) [] [(4, .int 2), (0, .ref zb)] 1540 []) : V p l e room_1 s m #[.ref zb] below meth c 7 D A Q (599, 20555) (WXM K hx xa xf xg fa sa hm q ho) [(4, .int 2), (3, .ref ho), (2, .ref hm), (1, .ref hx), (0, .ref zb)] 891 [] := by
  refine v_forget (wc := [(hx, .inr (11, [.ref (xa 0), .ref (xa 1), .ref (xa 2), .ref (xa 3), .int 0])), ((xa 0), .inl (K 5, 2, .inr (.inr (.inr (.inr (va_up (va_up (fun _ => none) (0 : Int32).toNatClampNeg (some (xa 4))) (1 : Int32).toNatClampNeg (some (xa 5)))))))), ((xa 4), .inr (3, [.int 0, .long (fa &&& 281474976710655), .int 0, .int 0, .int 0, .int 0, .ref (xa 16), .int 0, .long 0, .ref (xa 17), .long 0, .ref (xa 18), .ref (xa 19), .ref (xa 20), .ref (xa 21), .ref (xa 22), .ref (xa 23), .ref (xa 24), .ref (xa 25)])), ((xa 5), .inr (3, [.int 1, .long (sa &&& 281474976710655), .int 0, .int 1, .int 0, .int 0, .ref (xa 58), .int 0, .long 0, .ref (xa 59), .long 0, .ref (xa 60), .ref (xa 61), .ref (xa 62), .ref (xa 63), .ref (xa 64), .ref (xa 65), .ref (xa 66), .ref (xa 67)])), (hm, .inr (12, fsM q 0 0 0 0 0)), ((q 7), .inl (K 0, 2, .inl (gl [0, 0])))]) (wr := []) (sp_pl [0, 1, 10, 25, 40, 41] [] rfl rfl rfl rfl rfl) ?_
  refine v_aload_n B dL_law_891 rfl rfl ?_
  refine v_aload_n B dL_law_892 rfl rfl ?_
  refine v_iload B dL_law_893 rfl ?_
  refine v_iconst B (v := 1) dL_law_895 (by decide +kernel) ?_
  refine v_iadd B (v := 3) dL_law_896 (by decide +kernel) ?_
  refine v_sld B hz (i := 3) (v := (zx 3)) (vpi (by decide +kernel)) (congrArg zx (by decide +kernel)) dL_law_897 ?_
  refine v_aload_n B dL_law_898 rfl rfl ?_
  refine v_iload B dL_law_899 rfl ?_
  refine v_iconst B (v := 2) dL_law_901 (by decide +kernel) ?_
  refine v_iadd B (v := 4) dL_law_902 (by decide +kernel) ?_
  refine v_sld B hz (i := 4) (v := (zx 4)) (vpi (by decide +kernel)) (congrArg zx (by decide +kernel)) dL_law_903 ?_
  refine v_callVi B (b := hx) (n := 2) (As := [.int (zx 3), .int (zx 4)]) (rest := []) (wc := [(hx, .inr (11, [.ref (xa 0), .ref (xa 1), .ref (xa 2), .ref (xa 3), .int 0])), ((xa 0), .inl (K 5, 2, .inr (.inr (.inr (.inr (va_up (va_up (fun _ => none) (0 : Int32).toNatClampNeg (some (xa 4))) (1 : Int32).toNatClampNeg (some (xa 5)))))))), ((xa 4), .inr (3, [.int 0, .long (fa &&& 281474976710655), .int 0, .int 0, .int 0, .int 0, .ref (xa 16), .int 0, .long 0, .ref (xa 17), .long 0, .ref (xa 18), .ref (xa 19), .ref (xa 20), .ref (xa 21), .ref (xa 22), .ref (xa 23), .ref (xa 24), .ref (xa 25)])), ((xa 5), .inr (3, [.int 1, .long (sa &&& 281474976710655), .int 0, .int 1, .int 0, .int 0, .ref (xa 58), .int 0, .long 0, .ref (xa 59), .long 0, .ref (xa 60), .ref (xa 61), .ref (xa 62), .ref (xa 63), .ref (xa 64), .ref (xa 65), .ref (xa 66), .ref (xa 67)]))]) (wr := [(hm, .inr (12, fsM q 0 0 0 0 0)), ((q 7), .inl (K 0, 2, .inl (gl [0, 0])))]) (x_control l D K hx xa xf xg fa sa (zx 3) (zx 4)) gd_law_x_control_104 rfl rfl rfl (by decide +kernel) ⟨by decide +kernel, by decide +kernel⟩ 0 rfl rfl rfl (sp_pl [0, 1, 2, 3] [4, 5] rfl rfl rfl rfl rfl) rfl rfl (Nat.le_of_ble_eq_true rfl) dL_law_904 ⟨by decide +kernel, by decide +kernel⟩ (fun r_125 u_123 hp_124 => ?_)
  subst hp_124
  show V _ _ _ _ _ _ _ _ _ _ _ _ _ _ (599, 20555) [(hm, .inr (12, fsM q 0 0 0 0 0)), ((q 7), .inl (K 0, 2, .inl (gl [0, 0])))] _ _ [.int (an_control (zx 3) (zx 4))]
  show V _ _ _ _ _ _ _ _ _ _ _ _ _ _ (599, 20555) [(hm, .inr (12, fsM q 0 0 0 0 0)), ((q 7), .inl (K 0, 2, .inl (gl [0, 0])))] _ _ _
  refine v_aload_n B dL_law_907 rfl rfl ?_
  refine v_aload_n B dL_law_908 rfl rfl ?_
  refine v_iload B dL_law_909 rfl ?_
  refine v_iconst B (v := 1) dL_law_911 (by decide +kernel) ?_
  refine v_iadd B (v := 3) dL_law_912 (by decide +kernel) ?_
  refine v_sld B hz (i := 3) (v := (zx 3)) (vpi (by decide +kernel)) (congrArg zx (by decide +kernel)) dL_law_913 ?_
  refine v_aload_n B dL_law_914 rfl rfl ?_
  refine v_iload B dL_law_915 rfl ?_
  refine v_iconst B (v := 2) dL_law_917 (by decide +kernel) ?_
  refine v_iadd B (v := 4) dL_law_918 (by decide +kernel) ?_
  refine v_sld B hz (i := 4) (v := (zx 4)) (vpi (by decide +kernel)) (congrArg zx (by decide +kernel)) dL_law_919 ?_
  refine v_callVi B (b := hm) (n := 2) (As := [.int (zx 3), .int (zx 4)]) (rest := [.int (an_control (zx 3) (zx 4))]) (wc := [(hm, .inr (12, fsM q 0 0 0 0 0)), ((q 7), .inl (K 0, 2, .inl (gl [0, 0])))]) (wr := []) (y_control l D K hm q fa sa (zx 3) (zx 4)) gd_law_y_control_107 rfl rfl rfl (by decide +kernel) ⟨by decide +kernel, by decide +kernel⟩ 0 rfl rfl rfl (sp_pl [0, 1] [] rfl rfl rfl rfl rfl) rfl rfl (Nat.le_of_ble_eq_true rfl) dL_law_920 ⟨by decide +kernel, by decide +kernel⟩ (fun r_128 u_126 hp_127 => ?_)
  subst hp_127
  show V _ _ _ _ _ _ _ _ _ _ _ _ _ _ (599, 20555) [] _ _ [.int (an_control (zx 3) (zx 4)), .int (an_control (zx 3) (zx 4))]
  show V _ _ _ _ _ _ _ _ _ _ _ _ _ _ (599, 20555) [] _ _ _
  refine v_icmp_eq B (tgt := 1540) dL_law_923 (by decide +kernel) (fun _ => ?_) (fun h => absurd rfl h)
  refine v_lv [0, 4] rfl ?_
  refine v_widen (k := 600002) (n := 7302198) (by decide +kernel) (by decide +kernel) ?_
  exact kk

set_option maxHeartbeats 4000000 in
set_option maxRecDepth 100000 in
theorem lc_map {p : Program} {l : Launch} {e : Env} {s : State} {m : MethodId} {below : List Frame} {meth : Method} {c : Code} {D : va_G} {A : Nat → Prop} {Q : State → Prop} {zb : Nat} {zx : Nat → Int32} {zs : Nat → Nat} (hl0 : l.stackTraces = false) (K : Nat → ClassId) (hx : Nat) (xa : Nat → Nat) (xf xg : Nat → Option Nat) (fa sa : Int64) (hm : Nat) (q : Nat → Nat) (ho : Nat) (B : Bx p s m #[.ref zb] c cL_law 7 RL lw_tbl D (tysA K) A) (hz : ZL zb 11 zx zs A s s.heap) (kk : V p l e room_1 s m #[.ref zb] below meth c 7 D A Q (600002, 7302198) [] [(4, .int 2), (0, .ref zb)] 1540 []) : V p l e room_1 s m #[.ref zb] below meth c 7 D A Q (599, 20555) (WXM K hx xa xf xg fa sa hm q ho) [(4, .int 2), (3, .ref ho), (2, .ref hm), (1, .ref hx), (0, .ref zb)] 928 [] := by
  refine v_forget (wc := [(hx, .inr (11, [.ref (xa 0), .ref (xa 1), .ref (xa 2), .ref (xa 3), .int 0])), ((xa 0), .inl (K 5, 2, .inr (.inr (.inr (.inr (va_up (va_up (fun _ => none) (0 : Int32).toNatClampNeg (some (xa 4))) (1 : Int32).toNatClampNeg (some (xa 5)))))))), ((xa 4), .inr (3, [.int 0, .long (fa &&& 281474976710655), .int 0, .int 0, .int 0, .int 0, .ref (xa 16), .int 0, .long 0, .ref (xa 17), .long 0, .ref (xa 18), .ref (xa 19), .ref (xa 20), .ref (xa 21), .ref (xa 22), .ref (xa 23), .ref (xa 24), .ref (xa 25)])), ((xa 5), .inr (3, [.int 1, .long (sa &&& 281474976710655), .int 0, .int 1, .int 0, .int 0, .ref (xa 58), .int 0, .long 0, .ref (xa 59), .long 0, .ref (xa 60), .ref (xa 61), .ref (xa 62), .ref (xa 63), .ref (xa 64), .ref (xa 65), .ref (xa 66), .ref (xa 67)])), (hm, .inr (12, fsM q 0 0 0 0 0)), ((q 7), .inl (K 0, 2, .inl (gl [0, 0])))]) (wr := []) (sp_pl [0, 1, 10, 25, 40, 41] [] rfl rfl rfl rfl rfl) ?_
  refine v_aload_n B dL_law_928 rfl rfl ?_
  refine v_aload_n B dL_law_929 rfl rfl ?_
  refine v_iload B dL_law_930 rfl ?_
  refine v_iconst B (v := 1) dL_law_932 (by decide +kernel) ?_
  refine v_iadd B (v := 3) dL_law_933 (by decide +kernel) ?_
  refine v_sld B hz (i := 3) (v := (zx 3)) (vpi (by decide +kernel)) (congrArg zx (by decide +kernel)) dL_law_934 ?_
  refine v_aload_n B dL_law_935 rfl rfl ?_
  refine v_iload B dL_law_936 rfl ?_
  refine v_iconst B (v := 2) dL_law_938 (by decide +kernel) ?_
  refine v_iadd B (v := 4) dL_law_939 (by decide +kernel) ?_
  refine v_sld B hz (i := 4) (v := (zx 4)) (vpi (by decide +kernel)) (congrArg zx (by decide +kernel)) dL_law_940 ?_
  refine v_i2l B (v := ((zx 4)).toInt64) dL_law_941 rfl ?_
  refine v_bipush B (v := 32) dL_law_942 (by decide +kernel) ?_
  refine v_lshl B (v := (((zx 4)).toInt64 <<< ((32 : Int32).toInt64 &&& 63))) dL_law_944 rfl ?_
  refine v_aload_n B dL_law_945 rfl rfl ?_
  refine v_iload B dL_law_946 rfl ?_
  refine v_iconst B (v := 3) dL_law_948 (by decide +kernel) ?_
  refine v_iadd B (v := 5) dL_law_949 (by decide +kernel) ?_
  refine v_sld B hz (i := 5) (v := (zx 5)) (vpi (by decide +kernel)) (congrArg zx (by decide +kernel)) dL_law_950 ?_
  refine v_i2l B (v := ((zx 5)).toInt64) dL_law_951 rfl ?_
  refine v_ldc2 B (v := 4294967295) tw_391 dL_law_952 ?_
  refine v_land B (v := (((zx 5)).toInt64 &&& 4294967295)) dL_law_955 rfl ?_
  refine v_lor B (v := ((((zx 4)).toInt64 <<< ((32 : Int32).toInt64 &&& 63)) ||| (((zx 5)).toInt64 &&& 4294967295))) dL_law_956 rfl ?_
  refine v_callVi B (b := hx) (n := 2) (As := [.int (zx 3), .long ((((zx 4)).toInt64 <<< ((32 : Int32).toInt64 &&& 63)) ||| (((zx 5)).toInt64 &&& 4294967295))]) (rest := []) (wc := [(hx, .inr (11, [.ref (xa 0), .ref (xa 1), .ref (xa 2), .ref (xa 3), .int 0])), ((xa 0), .inl (K 5, 2, .inr (.inr (.inr (.inr (va_up (va_up (fun _ => none) (0 : Int32).toNatClampNeg (some (xa 4))) (1 : Int32).toNatClampNeg (some (xa 5)))))))), ((xa 4), .inr (3, [.int 0, .long (fa &&& 281474976710655), .int 0, .int 0, .int 0, .int 0, .ref (xa 16), .int 0, .long 0, .ref (xa 17), .long 0, .ref (xa 18), .ref (xa 19), .ref (xa 20), .ref (xa 21), .ref (xa 22), .ref (xa 23), .ref (xa 24), .ref (xa 25)])), ((xa 5), .inr (3, [.int 1, .long (sa &&& 281474976710655), .int 0, .int 1, .int 0, .int 0, .ref (xa 58), .int 0, .long 0, .ref (xa 59), .long 0, .ref (xa 60), .ref (xa 61), .ref (xa 62), .ref (xa 63), .ref (xa 64), .ref (xa 65), .ref (xa 66), .ref (xa 67)]))]) (wr := [(hm, .inr (12, fsM q 0 0 0 0 0)), ((q 7), .inl (K 0, 2, .inl (gl [0, 0])))]) (x_map l D K hx xa xf xg fa sa (zx 3) ((((zx 4)).toInt64 <<< ((32 : Int32).toInt64 &&& 63)) ||| (((zx 5)).toInt64 &&& 4294967295))) gd_law_x_map_108 rfl rfl rfl (by decide +kernel) ⟨by decide +kernel, by decide +kernel⟩ 0 rfl rfl rfl (sp_pl [0, 1, 2, 3] [4, 5] rfl rfl rfl rfl rfl) rfl rfl (Nat.le_of_ble_eq_true rfl) dL_law_957 ⟨by decide +kernel, by decide +kernel⟩ (fun r_131 u_129 hp_130 => ?_)
  subst hp_130
  show V _ _ _ _ _ _ _ _ _ _ _ _ _ _ (599, 20555) [(hm, .inr (12, fsM q 0 0 0 0 0)), ((q 7), .inl (K 0, 2, .inl (gl [0, 0])))] _ _ [.int (an_map (zx 3) ((((zx 4)).toInt64 <<< ((32 : Int32).toInt64 &&& 63)) ||| (((zx 5)).toInt64 &&& 4294967295)))]
  show V _ _ _ _ _ _ _ _ _ _ _ _ _ _ (599, 20555) [(hm, .inr (12, fsM q 0 0 0 0 0)), ((q 7), .inl (K 0, 2, .inl (gl [0, 0])))] _ _ _
  refine v_aload_n B dL_law_960 rfl rfl ?_
  refine v_aload_n B dL_law_961 rfl rfl ?_
  refine v_iload B dL_law_962 rfl ?_
  refine v_iconst B (v := 1) dL_law_964 (by decide +kernel) ?_
  refine v_iadd B (v := 3) dL_law_965 (by decide +kernel) ?_
  refine v_sld B hz (i := 3) (v := (zx 3)) (vpi (by decide +kernel)) (congrArg zx (by decide +kernel)) dL_law_966 ?_
  refine v_aload_n B dL_law_967 rfl rfl ?_
  refine v_iload B dL_law_968 rfl ?_
  refine v_iconst B (v := 2) dL_law_970 (by decide +kernel) ?_
  refine v_iadd B (v := 4) dL_law_971 (by decide +kernel) ?_
  refine v_sld B hz (i := 4) (v := (zx 4)) (vpi (by decide +kernel)) (congrArg zx (by decide +kernel)) dL_law_972 ?_
  refine v_i2l B (v := ((zx 4)).toInt64) dL_law_973 rfl ?_
  refine v_bipush B (v := 32) dL_law_974 (by decide +kernel) ?_
  refine v_lshl B (v := (((zx 4)).toInt64 <<< ((32 : Int32).toInt64 &&& 63))) dL_law_976 rfl ?_
  refine v_aload_n B dL_law_977 rfl rfl ?_
  refine v_iload B dL_law_978 rfl ?_
  refine v_iconst B (v := 3) dL_law_980 (by decide +kernel) ?_
  refine v_iadd B (v := 5) dL_law_981 (by decide +kernel) ?_
  refine v_sld B hz (i := 5) (v := (zx 5)) (vpi (by decide +kernel)) (congrArg zx (by decide +kernel)) dL_law_982 ?_
  refine v_i2l B (v := ((zx 5)).toInt64) dL_law_983 rfl ?_
  refine v_ldc2 B (v := 4294967295) tw_391 dL_law_984 ?_
  refine v_land B (v := (((zx 5)).toInt64 &&& 4294967295)) dL_law_987 rfl ?_
  refine v_lor B (v := ((((zx 4)).toInt64 <<< ((32 : Int32).toInt64 &&& 63)) ||| (((zx 5)).toInt64 &&& 4294967295))) dL_law_988 rfl ?_
  refine v_callVi B (b := hm) (n := 2) (As := [.int (zx 3), .long ((((zx 4)).toInt64 <<< ((32 : Int32).toInt64 &&& 63)) ||| (((zx 5)).toInt64 &&& 4294967295))]) (rest := [.int (an_map (zx 3) ((((zx 4)).toInt64 <<< ((32 : Int32).toInt64 &&& 63)) ||| (((zx 5)).toInt64 &&& 4294967295)))]) (wc := [(hm, .inr (12, fsM q 0 0 0 0 0)), ((q 7), .inl (K 0, 2, .inl (gl [0, 0])))]) (wr := []) (y_map l D K hm q fa sa (zx 3) ((((zx 4)).toInt64 <<< ((32 : Int32).toInt64 &&& 63)) ||| (((zx 5)).toInt64 &&& 4294967295))) gd_law_y_map_112 rfl rfl rfl (by decide +kernel) ⟨by decide +kernel, by decide +kernel⟩ 0 rfl rfl rfl (sp_pl [0, 1] [] rfl rfl rfl rfl rfl) rfl rfl (Nat.le_of_ble_eq_true rfl) dL_law_989 ⟨by decide +kernel, by decide +kernel⟩ (fun r_134 u_132 hp_133 => ?_)
  subst hp_133
  show V _ _ _ _ _ _ _ _ _ _ _ _ _ _ (599, 20555) [] _ _ [.int (an_map (zx 3) ((((zx 4)).toInt64 <<< ((32 : Int32).toInt64 &&& 63)) ||| (((zx 5)).toInt64 &&& 4294967295))), .int (an_map (zx 3) ((((zx 4)).toInt64 <<< ((32 : Int32).toInt64 &&& 63)) ||| (((zx 5)).toInt64 &&& 4294967295)))]
  show V _ _ _ _ _ _ _ _ _ _ _ _ _ _ (599, 20555) [] _ _ _
  refine v_icmp_eq B (tgt := 1540) dL_law_992 (by decide +kernel) (fun _ => ?_) (fun h => absurd rfl h)
  refine v_lv [0, 4] rfl ?_
  refine v_widen (k := 600002) (n := 7302198) (by decide +kernel) (by decide +kernel) ?_
  exact kk

set_option maxHeartbeats 4000000 in
set_option maxRecDepth 100000 in
theorem lc_encrypt {p : Program} {l : Launch} {e : Env} {s : State} {m : MethodId} {below : List Frame} {meth : Method} {c : Code} {D : va_G} {A : Nat → Prop} {Q : State → Prop} {zb : Nat} {zx : Nat → Int32} {zs : Nat → Nat} (hl0 : l.stackTraces = false) (K : Nat → ClassId) (hx : Nat) (xa : Nat → Nat) (xf xg : Nat → Option Nat) (fa sa : Int64) (hm : Nat) (q : Nat → Nat) (ho : Nat) (B : Bx p s m #[.ref zb] c cL_law 7 RL lw_tbl D (tysA K) A) (hz : ZL zb 11 zx zs A s s.heap) (kk : V p l e room_1 s m #[.ref zb] below meth c 7 D A Q (600002, 7302198) [] [(4, .int 2), (0, .ref zb)] 1540 []) : V p l e room_1 s m #[.ref zb] below meth c 7 D A Q (599, 20555) (WXM K hx xa xf xg fa sa hm q ho) [(4, .int 2), (3, .ref ho), (2, .ref hm), (1, .ref hx), (0, .ref zb)] 997 [] := by
  refine v_forget (wc := [(hx, .inr (11, [.ref (xa 0), .ref (xa 1), .ref (xa 2), .ref (xa 3), .int 0])), ((xa 0), .inl (K 5, 2, .inr (.inr (.inr (.inr (va_up (va_up (fun _ => none) (0 : Int32).toNatClampNeg (some (xa 4))) (1 : Int32).toNatClampNeg (some (xa 5)))))))), ((xa 4), .inr (3, [.int 0, .long (fa &&& 281474976710655), .int 0, .int 0, .int 0, .int 0, .ref (xa 16), .int 0, .long 0, .ref (xa 17), .long 0, .ref (xa 18), .ref (xa 19), .ref (xa 20), .ref (xa 21), .ref (xa 22), .ref (xa 23), .ref (xa 24), .ref (xa 25)])), ((xa 5), .inr (3, [.int 1, .long (sa &&& 281474976710655), .int 0, .int 1, .int 0, .int 0, .ref (xa 58), .int 0, .long 0, .ref (xa 59), .long 0, .ref (xa 60), .ref (xa 61), .ref (xa 62), .ref (xa 63), .ref (xa 64), .ref (xa 65), .ref (xa 66), .ref (xa 67)])), ((xa 20), .inr (5, [.ref (xa 35), .ref (xa 36), .int 0, .ref (xa 37), .ref (xa 38), .ref (xa 39), .int 0, .int 0, .int 0, .int 0, .int 0, .int 0, .int 0, .int 0, .ref (xa 40), .ref (xa 41)])), ((xa 62), .inr (5, [.ref (xa 35), .ref (xa 77), .int 0, .ref (xa 78), .ref (xa 79), .ref (xa 80), .int 0, .int 0, .int 0, .int 0, .int 0, .int 0, .int 0, .int 0, .ref (xa 81), .ref (xa 82)])), (hm, .inr (12, fsM q 0 0 0 0 0)), ((q 7), .inl (K 0, 2, .inl (gl [0, 0])))]) (wr := []) (sp_pl [0, 1, 10, 25, 16, 31, 40, 41] [] rfl rfl rfl rfl rfl) ?_
  refine v_aload_n B dL_law_997 rfl rfl ?_
  refine v_aload_n B dL_law_998 rfl rfl ?_
  refine v_iload B dL_law_999 rfl ?_
  refine v_iconst B (v := 1) dL_law_1001 (by decide +kernel) ?_
  refine v_iadd B (v := 3) dL_law_1002 (by decide +kernel) ?_
  refine v_sld B hz (i := 3) (v := (zx 3)) (vpi (by decide +kernel)) (congrArg zx (by decide +kernel)) dL_law_1003 ?_
  refine v_callVi B (b := hx) (n := 1) (As := [.int (zx 3)]) (rest := []) (wc := [(hx, .inr (11, [.ref (xa 0), .ref (xa 1), .ref (xa 2), .ref (xa 3), .int 0])), ((xa 0), .inl (K 5, 2, .inr (.inr (.inr (.inr (va_up (va_up (fun _ => none) (0 : Int32).toNatClampNeg (some (xa 4))) (1 : Int32).toNatClampNeg (some (xa 5)))))))), ((xa 4), .inr (3, [.int 0, .long (fa &&& 281474976710655), .int 0, .int 0, .int 0, .int 0, .ref (xa 16), .int 0, .long 0, .ref (xa 17), .long 0, .ref (xa 18), .ref (xa 19), .ref (xa 20), .ref (xa 21), .ref (xa 22), .ref (xa 23), .ref (xa 24), .ref (xa 25)])), ((xa 5), .inr (3, [.int 1, .long (sa &&& 281474976710655), .int 0, .int 1, .int 0, .int 0, .ref (xa 58), .int 0, .long 0, .ref (xa 59), .long 0, .ref (xa 60), .ref (xa 61), .ref (xa 62), .ref (xa 63), .ref (xa 64), .ref (xa 65), .ref (xa 66), .ref (xa 67)])), ((xa 20), .inr (5, [.ref (xa 35), .ref (xa 36), .int 0, .ref (xa 37), .ref (xa 38), .ref (xa 39), .int 0, .int 0, .int 0, .int 0, .int 0, .int 0, .int 0, .int 0, .ref (xa 40), .ref (xa 41)])), ((xa 62), .inr (5, [.ref (xa 35), .ref (xa 77), .int 0, .ref (xa 78), .ref (xa 79), .ref (xa 80), .int 0, .int 0, .int 0, .int 0, .int 0, .int 0, .int 0, .int 0, .ref (xa 81), .ref (xa 82)]))]) (wr := [(hm, .inr (12, fsM q 0 0 0 0 0)), ((q 7), .inl (K 0, 2, .inl (gl [0, 0])))]) (x_encrypt l D K hx xa xf xg fa sa (zx 3)) gd_law_x_encrypt_113 rfl rfl rfl (by decide +kernel) ⟨by decide +kernel, by decide +kernel⟩ 0 rfl rfl rfl (sp_pl [0, 1, 2, 3, 4, 5] [6, 7] rfl rfl rfl rfl rfl) rfl rfl (Nat.le_of_ble_eq_true rfl) dL_law_1004 ⟨by decide +kernel, by decide +kernel⟩ (fun r_137 u_135 hp_136 => ?_)
  subst hp_136
  show V _ _ _ _ _ _ _ _ _ _ _ _ _ _ (599, 20555) [(hm, .inr (12, fsM q 0 0 0 0 0)), ((q 7), .inl (K 0, 2, .inl (gl [0, 0])))] _ _ [.int (an_encrypt (zx 3))]
  show V _ _ _ _ _ _ _ _ _ _ _ _ _ _ (599, 20555) [(hm, .inr (12, fsM q 0 0 0 0 0)), ((q 7), .inl (K 0, 2, .inl (gl [0, 0])))] _ _ _
  refine v_aload_n B dL_law_1007 rfl rfl ?_
  refine v_aload_n B dL_law_1008 rfl rfl ?_
  refine v_iload B dL_law_1009 rfl ?_
  refine v_iconst B (v := 1) dL_law_1011 (by decide +kernel) ?_
  refine v_iadd B (v := 3) dL_law_1012 (by decide +kernel) ?_
  refine v_sld B hz (i := 3) (v := (zx 3)) (vpi (by decide +kernel)) (congrArg zx (by decide +kernel)) dL_law_1013 ?_
  refine v_callVi B (b := hm) (n := 1) (As := [.int (zx 3)]) (rest := [.int (an_encrypt (zx 3))]) (wc := [(hm, .inr (12, fsM q 0 0 0 0 0)), ((q 7), .inl (K 0, 2, .inl (gl [0, 0])))]) (wr := []) (y_encrypt l D K hm q fa sa (zx 3)) gd_law_y_encrypt_116 rfl rfl rfl (by decide +kernel) ⟨by decide +kernel, by decide +kernel⟩ 0 rfl rfl rfl (sp_pl [0, 1] [] rfl rfl rfl rfl rfl) rfl rfl (Nat.le_of_ble_eq_true rfl) dL_law_1014 ⟨by decide +kernel, by decide +kernel⟩ (fun r_140 u_138 hp_139 => ?_)
  subst hp_139
  show V _ _ _ _ _ _ _ _ _ _ _ _ _ _ (599, 20555) [] _ _ [.int (an_encrypt (zx 3)), .int (an_encrypt (zx 3))]
  show V _ _ _ _ _ _ _ _ _ _ _ _ _ _ (599, 20555) [] _ _ _
  refine v_icmp_eq B (tgt := 1540) dL_law_1017 (by decide +kernel) (fun _ => ?_) (fun h => absurd rfl h)
  refine v_lv [0, 4] rfl ?_
  refine v_widen (k := 600002) (n := 7302198) (by decide +kernel) (by decide +kernel) ?_
  exact kk

set_option maxHeartbeats 4000000 in
set_option maxRecDepth 100000 in
theorem lc_pair {p : Program} {l : Launch} {e : Env} {s : State} {m : MethodId} {below : List Frame} {meth : Method} {c : Code} {D : va_G} {A : Nat → Prop} {Q : State → Prop} {zb : Nat} {zx : Nat → Int32} {zs : Nat → Nat} (hl0 : l.stackTraces = false) (K : Nat → ClassId) (hx : Nat) (xa : Nat → Nat) (xf xg : Nat → Option Nat) (fa sa : Int64) (hm : Nat) (q : Nat → Nat) (ho : Nat) (B : Bx p s m #[.ref zb] c cL_law 7 RL lw_tbl D (tysA K) A) (hz : ZL zb 11 zx zs A s s.heap) (kk : V p l e room_1 s m #[.ref zb] below meth c 7 D A Q (600002, 7302198) [] [(4, .int 2), (0, .ref zb)] 1540 []) : V p l e room_1 s m #[.ref zb] below meth c 7 D A Q (599, 20555) (WXM K hx xa xf xg fa sa hm q ho) [(4, .int 2), (3, .ref ho), (2, .ref hm), (1, .ref hx), (0, .ref zb)] 1022 [] := by
  refine v_forget (wc := [(hx, .inr (11, [.ref (xa 0), .ref (xa 1), .ref (xa 2), .ref (xa 3), .int 0])), ((xa 0), .inl (K 5, 2, .inr (.inr (.inr (.inr (va_up (va_up (fun _ => none) (0 : Int32).toNatClampNeg (some (xa 4))) (1 : Int32).toNatClampNeg (some (xa 5)))))))), ((xa 4), .inr (3, [.int 0, .long (fa &&& 281474976710655), .int 0, .int 0, .int 0, .int 0, .ref (xa 16), .int 0, .long 0, .ref (xa 17), .long 0, .ref (xa 18), .ref (xa 19), .ref (xa 20), .ref (xa 21), .ref (xa 22), .ref (xa 23), .ref (xa 24), .ref (xa 25)])), ((xa 5), .inr (3, [.int 1, .long (sa &&& 281474976710655), .int 0, .int 1, .int 0, .int 0, .ref (xa 58), .int 0, .long 0, .ref (xa 59), .long 0, .ref (xa 60), .ref (xa 61), .ref (xa 62), .ref (xa 63), .ref (xa 64), .ref (xa 65), .ref (xa 66), .ref (xa 67)])), (hm, .inr (12, fsM q 0 0 0 0 0)), ((q 7), .inl (K 0, 2, .inl (gl [0, 0])))]) (wr := []) (sp_pl [0, 1, 10, 25, 40, 41] [] rfl rfl rfl rfl rfl) ?_
  refine v_aload_n B dL_law_1022 rfl rfl ?_
  refine v_aload_n B dL_law_1023 rfl rfl ?_
  refine v_iload B dL_law_1024 rfl ?_
  refine v_iconst B (v := 1) dL_law_1026 (by decide +kernel) ?_
  refine v_iadd B (v := 3) dL_law_1027 (by decide +kernel) ?_
  refine v_sld B hz (i := 3) (v := (zx 3)) (vpi (by decide +kernel)) (congrArg zx (by decide +kernel)) dL_law_1028 ?_
  refine v_aload_n B dL_law_1029 rfl rfl ?_
  refine v_iload B dL_law_1030 rfl ?_
  refine v_iconst B (v := 2) dL_law_1032 (by decide +kernel) ?_
  refine v_iadd B (v := 4) dL_law_1033 (by decide +kernel) ?_
  refine v_sld B hz (i := 4) (v := (zx 4)) (vpi (by decide +kernel)) (congrArg zx (by decide +kernel)) dL_law_1034 ?_
  refine v_callVi B (b := hx) (n := 2) (As := [.int (zx 3), .int (zx 4)]) (rest := []) (wc := [(hx, .inr (11, [.ref (xa 0), .ref (xa 1), .ref (xa 2), .ref (xa 3), .int 0])), ((xa 0), .inl (K 5, 2, .inr (.inr (.inr (.inr (va_up (va_up (fun _ => none) (0 : Int32).toNatClampNeg (some (xa 4))) (1 : Int32).toNatClampNeg (some (xa 5)))))))), ((xa 4), .inr (3, [.int 0, .long (fa &&& 281474976710655), .int 0, .int 0, .int 0, .int 0, .ref (xa 16), .int 0, .long 0, .ref (xa 17), .long 0, .ref (xa 18), .ref (xa 19), .ref (xa 20), .ref (xa 21), .ref (xa 22), .ref (xa 23), .ref (xa 24), .ref (xa 25)])), ((xa 5), .inr (3, [.int 1, .long (sa &&& 281474976710655), .int 0, .int 1, .int 0, .int 0, .ref (xa 58), .int 0, .long 0, .ref (xa 59), .long 0, .ref (xa 60), .ref (xa 61), .ref (xa 62), .ref (xa 63), .ref (xa 64), .ref (xa 65), .ref (xa 66), .ref (xa 67)]))]) (wr := [(hm, .inr (12, fsM q 0 0 0 0 0)), ((q 7), .inl (K 0, 2, .inl (gl [0, 0])))]) (x_pair l D K hx xa xf xg fa sa (zx 3) (zx 4)) gd_law_x_pair_117 rfl rfl rfl (by decide +kernel) ⟨by decide +kernel, by decide +kernel⟩ 0 rfl rfl rfl (sp_pl [0, 1, 2, 3] [4, 5] rfl rfl rfl rfl rfl) rfl rfl (Nat.le_of_ble_eq_true rfl) dL_law_1035 ⟨by decide +kernel, by decide +kernel⟩ (fun r_143 u_141 hp_142 => ?_)
  subst hp_142
  show V _ _ _ _ _ _ _ _ _ _ _ _ _ _ (599, 20555) [(hm, .inr (12, fsM q 0 0 0 0 0)), ((q 7), .inl (K 0, 2, .inl (gl [0, 0])))] _ _ [.int (an_pair (zx 3) (zx 4))]
  show V _ _ _ _ _ _ _ _ _ _ _ _ _ _ (599, 20555) [(hm, .inr (12, fsM q 0 0 0 0 0)), ((q 7), .inl (K 0, 2, .inl (gl [0, 0])))] _ _ _
  refine v_aload_n B dL_law_1038 rfl rfl ?_
  refine v_aload_n B dL_law_1039 rfl rfl ?_
  refine v_iload B dL_law_1040 rfl ?_
  refine v_iconst B (v := 1) dL_law_1042 (by decide +kernel) ?_
  refine v_iadd B (v := 3) dL_law_1043 (by decide +kernel) ?_
  refine v_sld B hz (i := 3) (v := (zx 3)) (vpi (by decide +kernel)) (congrArg zx (by decide +kernel)) dL_law_1044 ?_
  refine v_aload_n B dL_law_1045 rfl rfl ?_
  refine v_iload B dL_law_1046 rfl ?_
  refine v_iconst B (v := 2) dL_law_1048 (by decide +kernel) ?_
  refine v_iadd B (v := 4) dL_law_1049 (by decide +kernel) ?_
  refine v_sld B hz (i := 4) (v := (zx 4)) (vpi (by decide +kernel)) (congrArg zx (by decide +kernel)) dL_law_1050 ?_
  refine v_callVi B (b := hm) (n := 2) (As := [.int (zx 3), .int (zx 4)]) (rest := [.int (an_pair (zx 3) (zx 4))]) (wc := [(hm, .inr (12, fsM q 0 0 0 0 0)), ((q 7), .inl (K 0, 2, .inl (gl [0, 0])))]) (wr := []) (y_pair l D K hm q fa sa (zx 3) (zx 4)) gd_law_y_pair_120 rfl rfl rfl (by decide +kernel) ⟨by decide +kernel, by decide +kernel⟩ 0 rfl rfl rfl (sp_pl [0, 1] [] rfl rfl rfl rfl rfl) rfl rfl (Nat.le_of_ble_eq_true rfl) dL_law_1051 ⟨by decide +kernel, by decide +kernel⟩ (fun r_146 u_144 hp_145 => ?_)
  subst hp_145
  show V _ _ _ _ _ _ _ _ _ _ _ _ _ _ (599, 20555) [] _ _ [.int (an_pair (zx 3) (zx 4)), .int (an_pair (zx 3) (zx 4))]
  show V _ _ _ _ _ _ _ _ _ _ _ _ _ _ (599, 20555) [] _ _ _
  refine v_icmp_eq B (tgt := 1540) dL_law_1054 (by decide +kernel) (fun _ => ?_) (fun h => absurd rfl h)
  refine v_lv [0, 4] rfl ?_
  refine v_widen (k := 600002) (n := 7302198) (by decide +kernel) (by decide +kernel) ?_
  exact kk

set_option maxHeartbeats 4000000 in
set_option maxRecDepth 100000 in
theorem lc_allow {p : Program} {l : Launch} {e : Env} {s : State} {m : MethodId} {below : List Frame} {meth : Method} {c : Code} {D : va_G} {A : Nat → Prop} {Q : State → Prop} {zb : Nat} {zx : Nat → Int32} {zs : Nat → Nat} (hl0 : l.stackTraces = false) (K : Nat → ClassId) (hx : Nat) (xa : Nat → Nat) (xf xg : Nat → Option Nat) (fa sa : Int64) (hm : Nat) (q : Nat → Nat) (ho : Nat) (B : Bx p s m #[.ref zb] c cL_law 7 RL lw_tbl D (tysA K) A) (hz : ZL zb 11 zx zs A s s.heap) (kk : V p l e room_1 s m #[.ref zb] below meth c 7 D A Q (600002, 7302198) [] [(4, .int 2), (0, .ref zb)] 1540 []) : V p l e room_1 s m #[.ref zb] below meth c 7 D A Q (599, 20555) (WXM K hx xa xf xg fa sa hm q ho) [(4, .int 2), (3, .ref ho), (2, .ref hm), (1, .ref hx), (0, .ref zb)] 1059 [] := by
  refine v_forget (wc := [(hx, .inr (11, [.ref (xa 0), .ref (xa 1), .ref (xa 2), .ref (xa 3), .int 0])), ((xa 0), .inl (K 5, 2, .inr (.inr (.inr (.inr (va_up (va_up (fun _ => none) (0 : Int32).toNatClampNeg (some (xa 4))) (1 : Int32).toNatClampNeg (some (xa 5)))))))), ((xa 4), .inr (3, [.int 0, .long (fa &&& 281474976710655), .int 0, .int 0, .int 0, .int 0, .ref (xa 16), .int 0, .long 0, .ref (xa 17), .long 0, .ref (xa 18), .ref (xa 19), .ref (xa 20), .ref (xa 21), .ref (xa 22), .ref (xa 23), .ref (xa 24), .ref (xa 25)])), ((xa 5), .inr (3, [.int 1, .long (sa &&& 281474976710655), .int 0, .int 1, .int 0, .int 0, .ref (xa 58), .int 0, .long 0, .ref (xa 59), .long 0, .ref (xa 60), .ref (xa 61), .ref (xa 62), .ref (xa 63), .ref (xa 64), .ref (xa 65), .ref (xa 66), .ref (xa 67)])), ((xa 21), .inr (8, [.ref (xa 35), .int (-1), .int 0, .ref (xa 42), .ref (xa 43), .ref (xa 44), .ref (xa 45), .ref (xa 46)])), ((xa 63), .inr (8, [.ref (xa 35), .int (-1), .int 0, .ref (xa 83), .ref (xa 84), .ref (xa 85), .ref (xa 86), .ref (xa 87)])), (hm, .inr (12, fsM q 0 0 0 0 0)), ((q 93), .inl (K 0, 2, .inl (gl [(-1), (-1)])))]) (wr := []) (sp_pl [0, 1, 10, 25, 17, 32, 40, 86] [] rfl rfl rfl rfl rfl) ?_
  refine v_aload_n B dL_law_1059 rfl rfl ?_
  refine v_aload_n B dL_law_1060 rfl rfl ?_
  refine v_iload B dL_law_1061 rfl ?_
  refine v_iconst B (v := 1) dL_law_1063 (by decide +kernel) ?_
  refine v_iadd B (v := 3) dL_law_1064 (by decide +kernel) ?_
  refine v_sld B hz (i := 3) (v := (zx 3)) (vpi (by decide +kernel)) (congrArg zx (by decide +kernel)) dL_law_1065 ?_
  refine v_aload_n B dL_law_1066 rfl rfl ?_
  refine v_iload B dL_law_1067 rfl ?_
  refine v_iconst B (v := 2) dL_law_1069 (by decide +kernel) ?_
  refine v_iadd B (v := 4) dL_law_1070 (by decide +kernel) ?_
  refine v_sld B hz (i := 4) (v := (zx 4)) (vpi (by decide +kernel)) (congrArg zx (by decide +kernel)) dL_law_1071 ?_
  refine v_callVi B (b := hx) (n := 2) (As := [.int (zx 3), .int (zx 4)]) (rest := []) (wc := [(hx, .inr (11, [.ref (xa 0), .ref (xa 1), .ref (xa 2), .ref (xa 3), .int 0])), ((xa 0), .inl (K 5, 2, .inr (.inr (.inr (.inr (va_up (va_up (fun _ => none) (0 : Int32).toNatClampNeg (some (xa 4))) (1 : Int32).toNatClampNeg (some (xa 5)))))))), ((xa 4), .inr (3, [.int 0, .long (fa &&& 281474976710655), .int 0, .int 0, .int 0, .int 0, .ref (xa 16), .int 0, .long 0, .ref (xa 17), .long 0, .ref (xa 18), .ref (xa 19), .ref (xa 20), .ref (xa 21), .ref (xa 22), .ref (xa 23), .ref (xa 24), .ref (xa 25)])), ((xa 5), .inr (3, [.int 1, .long (sa &&& 281474976710655), .int 0, .int 1, .int 0, .int 0, .ref (xa 58), .int 0, .long 0, .ref (xa 59), .long 0, .ref (xa 60), .ref (xa 61), .ref (xa 62), .ref (xa 63), .ref (xa 64), .ref (xa 65), .ref (xa 66), .ref (xa 67)])), ((xa 21), .inr (8, [.ref (xa 35), .int (-1), .int 0, .ref (xa 42), .ref (xa 43), .ref (xa 44), .ref (xa 45), .ref (xa 46)])), ((xa 63), .inr (8, [.ref (xa 35), .int (-1), .int 0, .ref (xa 83), .ref (xa 84), .ref (xa 85), .ref (xa 86), .ref (xa 87)]))]) (wr := [(hm, .inr (12, fsM q 0 0 0 0 0)), ((q 93), .inl (K 0, 2, .inl (gl [(-1), (-1)])))]) (x_allow l D K hx xa xf xg fa sa (zx 3) (zx 4)) gd_law_x_allow_121 rfl rfl rfl (by decide +kernel) ⟨by decide +kernel, by decide +kernel⟩ 0 rfl rfl rfl (sp_pl [0, 1, 2, 3, 4, 5] [6, 7] rfl rfl rfl rfl rfl) rfl rfl (Nat.le_of_ble_eq_true rfl) dL_law_1072 ⟨by decide +kernel, by decide +kernel⟩ (fun r_149 u_147 hp_148 => ?_)
  subst hp_148
  show V _ _ _ _ _ _ _ _ _ _ _ _ _ _ (599, 20555) [(hm, .inr (12, fsM q 0 0 0 0 0)), ((q 93), .inl (K 0, 2, .inl (gl [(-1), (-1)])))] _ _ [.int (an_allow (zx 3) (zx 4))]
  show V _ _ _ _ _ _ _ _ _ _ _ _ _ _ (599, 20555) [(hm, .inr (12, fsM q 0 0 0 0 0)), ((q 93), .inl (K 0, 2, .inl (gl [(-1), (-1)])))] _ _ _
  refine v_aload_n B dL_law_1075 rfl rfl ?_
  refine v_aload_n B dL_law_1076 rfl rfl ?_
  refine v_iload B dL_law_1077 rfl ?_
  refine v_iconst B (v := 1) dL_law_1079 (by decide +kernel) ?_
  refine v_iadd B (v := 3) dL_law_1080 (by decide +kernel) ?_
  refine v_sld B hz (i := 3) (v := (zx 3)) (vpi (by decide +kernel)) (congrArg zx (by decide +kernel)) dL_law_1081 ?_
  refine v_aload_n B dL_law_1082 rfl rfl ?_
  refine v_iload B dL_law_1083 rfl ?_
  refine v_iconst B (v := 2) dL_law_1085 (by decide +kernel) ?_
  refine v_iadd B (v := 4) dL_law_1086 (by decide +kernel) ?_
  refine v_sld B hz (i := 4) (v := (zx 4)) (vpi (by decide +kernel)) (congrArg zx (by decide +kernel)) dL_law_1087 ?_
  refine v_callVi B (b := hm) (n := 2) (As := [.int (zx 3), .int (zx 4)]) (rest := [.int (an_allow (zx 3) (zx 4))]) (wc := [(hm, .inr (12, fsM q 0 0 0 0 0)), ((q 93), .inl (K 0, 2, .inl (gl [(-1), (-1)])))]) (wr := []) (y_allow l D K hm q fa sa (zx 3) (zx 4)) gd_law_y_allow_124 rfl rfl rfl (by decide +kernel) ⟨by decide +kernel, by decide +kernel⟩ 0 rfl rfl rfl (sp_pl [0, 1] [] rfl rfl rfl rfl rfl) rfl rfl (Nat.le_of_ble_eq_true rfl) dL_law_1088 ⟨by decide +kernel, by decide +kernel⟩ (fun r_152 u_150 hp_151 => ?_)
  subst hp_151
  show V _ _ _ _ _ _ _ _ _ _ _ _ _ _ (599, 20555) [] _ _ [.int (an_allow (zx 3) (zx 4)), .int (an_allow (zx 3) (zx 4))]
  show V _ _ _ _ _ _ _ _ _ _ _ _ _ _ (599, 20555) [] _ _ _
  refine v_icmp_eq B (tgt := 1540) dL_law_1091 (by decide +kernel) (fun _ => ?_) (fun h => absurd rfl h)
  refine v_lv [0, 4] rfl ?_
  refine v_widen (k := 600002) (n := 7302198) (by decide +kernel) (by decide +kernel) ?_
  exact kk

set_option maxHeartbeats 4000000 in
set_option maxRecDepth 100000 in
theorem lc_features {p : Program} {l : Launch} {e : Env} {s : State} {m : MethodId} {below : List Frame} {meth : Method} {c : Code} {D : va_G} {A : Nat → Prop} {Q : State → Prop} {zb : Nat} {zx : Nat → Int32} {zs : Nat → Nat} (hl0 : l.stackTraces = false) (K : Nat → ClassId) (hx : Nat) (xa : Nat → Nat) (xf xg : Nat → Option Nat) (fa sa : Int64) (hm : Nat) (q : Nat → Nat) (ho : Nat) (B : Bx p s m #[.ref zb] c cL_law 7 RL lw_tbl D (tysA K) A) (hz : ZL zb 11 zx zs A s s.heap) (kk : V p l e room_1 s m #[.ref zb] below meth c 7 D A Q (600002, 7302198) [] [(4, .int 2), (0, .ref zb)] 1540 []) : V p l e room_1 s m #[.ref zb] below meth c 7 D A Q (599, 20555) (WXM K hx xa xf xg fa sa hm q ho) [(4, .int 2), (3, .ref ho), (2, .ref hm), (1, .ref hx), (0, .ref zb)] 1096 [] := by
  refine v_forget (wc := [(hx, .inr (11, [.ref (xa 0), .ref (xa 1), .ref (xa 2), .ref (xa 3), .int 0])), ((xa 0), .inl (K 5, 2, .inr (.inr (.inr (.inr (va_up (va_up (fun _ => none) (0 : Int32).toNatClampNeg (some (xa 4))) (1 : Int32).toNatClampNeg (some (xa 5)))))))), ((xa 4), .inr (3, [.int 0, .long (fa &&& 281474976710655), .int 0, .int 0, .int 0, .int 0, .ref (xa 16), .int 0, .long 0, .ref (xa 17), .long 0, .ref (xa 18), .ref (xa 19), .ref (xa 20), .ref (xa 21), .ref (xa 22), .ref (xa 23), .ref (xa 24), .ref (xa 25)])), ((xa 5), .inr (3, [.int 1, .long (sa &&& 281474976710655), .int 0, .int 1, .int 0, .int 0, .ref (xa 58), .int 0, .long 0, .ref (xa 59), .long 0, .ref (xa 60), .ref (xa 61), .ref (xa 62), .ref (xa 63), .ref (xa 64), .ref (xa 65), .ref (xa 66), .ref (xa 67)])), (hm, .inr (12, fsM q 0 0 0 0 0)), ((q 17), .inl (K 1, 2, .inr (.inl (glL [0, 0]))))]) (wr := []) (sp_pl [0, 1, 10, 25, 40, 50] [] rfl rfl rfl rfl rfl) ?_
  refine v_aload_n B dL_law_1096 rfl rfl ?_
  refine v_aload_n B dL_law_1097 rfl rfl ?_
  refine v_iload B dL_law_1098 rfl ?_
  refine v_iconst B (v := 1) dL_law_1100 (by decide +kernel) ?_
  refine v_iadd B (v := 3) dL_law_1101 (by decide +kernel) ?_
  refine v_sld B hz (i := 3) (v := (zx 3)) (vpi (by decide +kernel)) (congrArg zx (by decide +kernel)) dL_law_1102 ?_
  refine v_aload_n B dL_law_1103 rfl rfl ?_
  refine v_iload B dL_law_1104 rfl ?_
  refine v_iconst B (v := 2) dL_law_1106 (by decide +kernel) ?_
  refine v_iadd B (v := 4) dL_law_1107 (by decide +kernel) ?_
  refine v_sld B hz (i := 4) (v := (zx 4)) (vpi (by decide +kernel)) (congrArg zx (by decide +kernel)) dL_law_1108 ?_
  refine v_i2l B (v := ((zx 4)).toInt64) dL_law_1109 rfl ?_
  refine v_bipush B (v := 32) dL_law_1110 (by decide +kernel) ?_
  refine v_lshl B (v := (((zx 4)).toInt64 <<< ((32 : Int32).toInt64 &&& 63))) dL_law_1112 rfl ?_
  refine v_aload_n B dL_law_1113 rfl rfl ?_
  refine v_iload B dL_law_1114 rfl ?_
  refine v_iconst B (v := 3) dL_law_1116 (by decide +kernel) ?_
  refine v_iadd B (v := 5) dL_law_1117 (by decide +kernel) ?_
  refine v_sld B hz (i := 5) (v := (zx 5)) (vpi (by decide +kernel)) (congrArg zx (by decide +kernel)) dL_law_1118 ?_
  refine v_i2l B (v := ((zx 5)).toInt64) dL_law_1119 rfl ?_
  refine v_ldc2 B (v := 4294967295) tw_391 dL_law_1120 ?_
  refine v_land B (v := (((zx 5)).toInt64 &&& 4294967295)) dL_law_1123 rfl ?_
  refine v_lor B (v := ((((zx 4)).toInt64 <<< ((32 : Int32).toInt64 &&& 63)) ||| (((zx 5)).toInt64 &&& 4294967295))) dL_law_1124 rfl ?_
  refine v_callVi B (b := hx) (n := 2) (As := [.int (zx 3), .long ((((zx 4)).toInt64 <<< ((32 : Int32).toInt64 &&& 63)) ||| (((zx 5)).toInt64 &&& 4294967295))]) (rest := []) (wc := [(hx, .inr (11, [.ref (xa 0), .ref (xa 1), .ref (xa 2), .ref (xa 3), .int 0])), ((xa 0), .inl (K 5, 2, .inr (.inr (.inr (.inr (va_up (va_up (fun _ => none) (0 : Int32).toNatClampNeg (some (xa 4))) (1 : Int32).toNatClampNeg (some (xa 5)))))))), ((xa 4), .inr (3, [.int 0, .long (fa &&& 281474976710655), .int 0, .int 0, .int 0, .int 0, .ref (xa 16), .int 0, .long 0, .ref (xa 17), .long 0, .ref (xa 18), .ref (xa 19), .ref (xa 20), .ref (xa 21), .ref (xa 22), .ref (xa 23), .ref (xa 24), .ref (xa 25)])), ((xa 5), .inr (3, [.int 1, .long (sa &&& 281474976710655), .int 0, .int 1, .int 0, .int 0, .ref (xa 58), .int 0, .long 0, .ref (xa 59), .long 0, .ref (xa 60), .ref (xa 61), .ref (xa 62), .ref (xa 63), .ref (xa 64), .ref (xa 65), .ref (xa 66), .ref (xa 67)]))]) (wr := [(hm, .inr (12, fsM q 0 0 0 0 0)), ((q 17), .inl (K 1, 2, .inr (.inl (glL [0, 0]))))]) (x_features l D K hx xa xf xg fa sa (zx 3) ((((zx 4)).toInt64 <<< ((32 : Int32).toInt64 &&& 63)) ||| (((zx 5)).toInt64 &&& 4294967295))) gd_law_x_features_125 rfl rfl rfl (by decide +kernel) ⟨by decide +kernel, by decide +kernel⟩ 0 rfl rfl rfl (sp_pl [0, 1, 2, 3] [4, 5] rfl rfl rfl rfl rfl) rfl rfl (Nat.le_of_ble_eq_true rfl) dL_law_1125 ⟨by decide +kernel, by decide +kernel⟩ (fun r_155 u_153 hp_154 => ?_)
  subst hp_154
  show V _ _ _ _ _ _ _ _ _ _ _ _ _ _ (599, 20555) [(hm, .inr (12, fsM q 0 0 0 0 0)), ((q 17), .inl (K 1, 2, .inr (.inl (glL [0, 0]))))] _ _ [.int (an_features (zx 3) ((((zx 4)).toInt64 <<< ((32 : Int32).toInt64 &&& 63)) ||| (((zx 5)).toInt64 &&& 4294967295)))]
  show V _ _ _ _ _ _ _ _ _ _ _ _ _ _ (599, 20555) [(hm, .inr (12, fsM q 0 0 0 0 0)), ((q 17), .inl (K 1, 2, .inr (.inl (glL [0, 0]))))] _ _ _
  refine v_aload_n B dL_law_1128 rfl rfl ?_
  refine v_aload_n B dL_law_1129 rfl rfl ?_
  refine v_iload B dL_law_1130 rfl ?_
  refine v_iconst B (v := 1) dL_law_1132 (by decide +kernel) ?_
  refine v_iadd B (v := 3) dL_law_1133 (by decide +kernel) ?_
  refine v_sld B hz (i := 3) (v := (zx 3)) (vpi (by decide +kernel)) (congrArg zx (by decide +kernel)) dL_law_1134 ?_
  refine v_aload_n B dL_law_1135 rfl rfl ?_
  refine v_iload B dL_law_1136 rfl ?_
  refine v_iconst B (v := 2) dL_law_1138 (by decide +kernel) ?_
  refine v_iadd B (v := 4) dL_law_1139 (by decide +kernel) ?_
  refine v_sld B hz (i := 4) (v := (zx 4)) (vpi (by decide +kernel)) (congrArg zx (by decide +kernel)) dL_law_1140 ?_
  refine v_i2l B (v := ((zx 4)).toInt64) dL_law_1141 rfl ?_
  refine v_bipush B (v := 32) dL_law_1142 (by decide +kernel) ?_
  refine v_lshl B (v := (((zx 4)).toInt64 <<< ((32 : Int32).toInt64 &&& 63))) dL_law_1144 rfl ?_
  refine v_aload_n B dL_law_1145 rfl rfl ?_
  refine v_iload B dL_law_1146 rfl ?_
  refine v_iconst B (v := 3) dL_law_1148 (by decide +kernel) ?_
  refine v_iadd B (v := 5) dL_law_1149 (by decide +kernel) ?_
  refine v_sld B hz (i := 5) (v := (zx 5)) (vpi (by decide +kernel)) (congrArg zx (by decide +kernel)) dL_law_1150 ?_
  refine v_i2l B (v := ((zx 5)).toInt64) dL_law_1151 rfl ?_
  refine v_ldc2 B (v := 4294967295) tw_391 dL_law_1152 ?_
  refine v_land B (v := (((zx 5)).toInt64 &&& 4294967295)) dL_law_1155 rfl ?_
  refine v_lor B (v := ((((zx 4)).toInt64 <<< ((32 : Int32).toInt64 &&& 63)) ||| (((zx 5)).toInt64 &&& 4294967295))) dL_law_1156 rfl ?_
  refine v_callVi B (b := hm) (n := 2) (As := [.int (zx 3), .long ((((zx 4)).toInt64 <<< ((32 : Int32).toInt64 &&& 63)) ||| (((zx 5)).toInt64 &&& 4294967295))]) (rest := [.int (an_features (zx 3) ((((zx 4)).toInt64 <<< ((32 : Int32).toInt64 &&& 63)) ||| (((zx 5)).toInt64 &&& 4294967295)))]) (wc := [(hm, .inr (12, fsM q 0 0 0 0 0)), ((q 17), .inl (K 1, 2, .inr (.inl (glL [0, 0]))))]) (wr := []) (y_features l D K hm q fa sa (zx 3) ((((zx 4)).toInt64 <<< ((32 : Int32).toInt64 &&& 63)) ||| (((zx 5)).toInt64 &&& 4294967295))) gd_law_y_features_128 rfl rfl rfl (by decide +kernel) ⟨by decide +kernel, by decide +kernel⟩ 0 rfl rfl rfl (sp_pl [0, 1] [] rfl rfl rfl rfl rfl) rfl rfl (Nat.le_of_ble_eq_true rfl) dL_law_1157 ⟨by decide +kernel, by decide +kernel⟩ (fun r_158 u_156 hp_157 => ?_)
  subst hp_157
  show V _ _ _ _ _ _ _ _ _ _ _ _ _ _ (599, 20555) [] _ _ [.int (an_features (zx 3) ((((zx 4)).toInt64 <<< ((32 : Int32).toInt64 &&& 63)) ||| (((zx 5)).toInt64 &&& 4294967295))), .int (an_features (zx 3) ((((zx 4)).toInt64 <<< ((32 : Int32).toInt64 &&& 63)) ||| (((zx 5)).toInt64 &&& 4294967295)))]
  show V _ _ _ _ _ _ _ _ _ _ _ _ _ _ (599, 20555) [] _ _ _
  refine v_icmp_eq B (tgt := 1540) dL_law_1160 (by decide +kernel) (fun _ => ?_) (fun h => absurd rfl h)
  refine v_lv [0, 4] rfl ?_
  refine v_widen (k := 600002) (n := 7302198) (by decide +kernel) (by decide +kernel) ?_
  exact kk

set_option maxHeartbeats 4000000 in
set_option maxRecDepth 100000 in
theorem lc_attribute {p : Program} {l : Launch} {e : Env} {s : State} {m : MethodId} {below : List Frame} {meth : Method} {c : Code} {D : va_G} {A : Nat → Prop} {Q : State → Prop} {zb : Nat} {zx : Nat → Int32} {zs : Nat → Nat} (hl0 : l.stackTraces = false) (K : Nat → ClassId) (hx : Nat) (xa : Nat → Nat) (xf xg : Nat → Option Nat) (fa sa : Int64) (hm : Nat) (q : Nat → Nat) (ho : Nat) (B : Bx p s m #[.ref zb] c cL_law 7 RL lw_tbl D (tysA K) A) (hz : ZL zb 11 zx zs A s s.heap) (kk : V p l e room_1 s m #[.ref zb] below meth c 7 D A Q (600002, 7302198) [] [(4, .int 2), (0, .ref zb)] 1540 []) : V p l e room_1 s m #[.ref zb] below meth c 7 D A Q (599, 20555) (WXM K hx xa xf xg fa sa hm q ho) [(4, .int 2), (3, .ref ho), (2, .ref hm), (1, .ref hx), (0, .ref zb)] 1165 [] := by
  refine v_forget (wc := [(hx, .inr (11, [.ref (xa 0), .ref (xa 1), .ref (xa 2), .ref (xa 3), .int 0])), ((xa 0), .inl (K 5, 2, .inr (.inr (.inr (.inr (va_up (va_up (fun _ => none) (0 : Int32).toNatClampNeg (some (xa 4))) (1 : Int32).toNatClampNeg (some (xa 5)))))))), ((xa 4), .inr (3, [.int 0, .long (fa &&& 281474976710655), .int 0, .int 0, .int 0, .int 0, .ref (xa 16), .int 0, .long 0, .ref (xa 17), .long 0, .ref (xa 18), .ref (xa 19), .ref (xa 20), .ref (xa 21), .ref (xa 22), .ref (xa 23), .ref (xa 24), .ref (xa 25)])), ((xa 5), .inr (3, [.int 1, .long (sa &&& 281474976710655), .int 0, .int 1, .int 0, .int 0, .ref (xa 58), .int 0, .long 0, .ref (xa 59), .long 0, .ref (xa 60), .ref (xa 61), .ref (xa 62), .ref (xa 63), .ref (xa 64), .ref (xa 65), .ref (xa 66), .ref (xa 67)])), ((xa 22), .inr (10, [.ref (xa 47), .ref (xa 48), .ref (xa 49), .int 0, .int 23, .int 23, .ref (xa 50), .int 0, .int 0, .ref (xa 51)])), ((xa 64), .inr (10, [.ref (xa 88), .ref (xa 89), .ref (xa 90), .int 0, .int 23, .int 23, .ref (xa 91), .int 0, .int 0, .ref (xa 92)])), ((xa 47), .inl (K 0, 20, .inl (fun _ => 0))), ((xa 88), .inl (K 0, 20, .inl (fun _ => 0))), ((xa 48), .inl (K 0, 20, .inl (fun _ => 0))), ((xa 89), .inl (K 0, 20, .inl (fun _ => 0))), ((xa 49), .inl (K 4, 20, .inr (.inr (.inr (.inr (va_up xf (0 : Int32).toNatClampNeg (some (xa 52)))))))), ((xa 90), .inl (K 4, 20, .inr (.inr (.inr (.inr (va_up xg (0 : Int32).toNatClampNeg (some (xa 93)))))))), ((xa 52), .inr (9, [.ref (xa 53), .int 0])), ((xa 93), .inr (9, [.ref (xa 94), .int 0])), ((xa 2), .inr (9, [.ref (xa 15), .int 0])), (hm, .inr (12, fsM q 0 0 0 0 0)), ((q 100), .inl (K 0, 2, .inl (gl [0, 0]))), ((q 101), .inl (K 0, 40, .inl (fun _ => 0))), ((q 102), .inl (K 0, 40, .inl (fun _ => 0))), ((q 103), .inl (K 0, 40, .inl (fun _ => 0)))]) (wr := []) (sp_pl [0, 1, 10, 25, 18, 33, 19, 34, 20, 35, 21, 36, 22, 37, 8, 40, 87, 88, 89, 90] [] rfl rfl rfl rfl rfl) ?_
  refine v_aload_n B dL_law_1165 rfl rfl ?_
  refine v_aload_n B dL_law_1166 rfl rfl ?_
  refine v_iload B dL_law_1167 rfl ?_
  refine v_iconst B (v := 1) dL_law_1169 (by decide +kernel) ?_
  refine v_iadd B (v := 3) dL_law_1170 (by decide +kernel) ?_
  refine v_sld B hz (i := 3) (v := (zx 3)) (vpi (by decide +kernel)) (congrArg zx (by decide +kernel)) dL_law_1171 ?_
  refine v_aload_n B dL_law_1172 rfl rfl ?_
  refine v_iload B dL_law_1173 rfl ?_
  refine v_iconst B (v := 2) dL_law_1175 (by decide +kernel) ?_
  refine v_iadd B (v := 4) dL_law_1176 (by decide +kernel) ?_
  refine v_sld B hz (i := 4) (v := (zx 4)) (vpi (by decide +kernel)) (congrArg zx (by decide +kernel)) dL_law_1177 ?_
  refine v_aload_n B dL_law_1178 rfl rfl ?_
  refine v_iload B dL_law_1179 rfl ?_
  refine v_iconst B (v := 3) dL_law_1181 (by decide +kernel) ?_
  refine v_iadd B (v := 5) dL_law_1182 (by decide +kernel) ?_
  refine v_sld B hz (i := 5) (v := (zx 5)) (vpi (by decide +kernel)) (congrArg zx (by decide +kernel)) dL_law_1183 ?_
  refine v_callVi B (b := hx) (n := 3) (As := [.int (zx 3), .int (zx 4), .int (zx 5)]) (rest := []) (wc := [(hx, .inr (11, [.ref (xa 0), .ref (xa 1), .ref (xa 2), .ref (xa 3), .int 0])), ((xa 0), .inl (K 5, 2, .inr (.inr (.inr (.inr (va_up (va_up (fun _ => none) (0 : Int32).toNatClampNeg (some (xa 4))) (1 : Int32).toNatClampNeg (some (xa 5)))))))), ((xa 4), .inr (3, [.int 0, .long (fa &&& 281474976710655), .int 0, .int 0, .int 0, .int 0, .ref (xa 16), .int 0, .long 0, .ref (xa 17), .long 0, .ref (xa 18), .ref (xa 19), .ref (xa 20), .ref (xa 21), .ref (xa 22), .ref (xa 23), .ref (xa 24), .ref (xa 25)])), ((xa 5), .inr (3, [.int 1, .long (sa &&& 281474976710655), .int 0, .int 1, .int 0, .int 0, .ref (xa 58), .int 0, .long 0, .ref (xa 59), .long 0, .ref (xa 60), .ref (xa 61), .ref (xa 62), .ref (xa 63), .ref (xa 64), .ref (xa 65), .ref (xa 66), .ref (xa 67)])), ((xa 22), .inr (10, [.ref (xa 47), .ref (xa 48), .ref (xa 49), .int 0, .int 23, .int 23, .ref (xa 50), .int 0, .int 0, .ref (xa 51)])), ((xa 64), .inr (10, [.ref (xa 88), .ref (xa 89), .ref (xa 90), .int 0, .int 23, .int 23, .ref (xa 91), .int 0, .int 0, .ref (xa 92)])), ((xa 47), .inl (K 0, 20, .inl (fun _ => 0))), ((xa 88), .inl (K 0, 20, .inl (fun _ => 0))), ((xa 48), .inl (K 0, 20, .inl (fun _ => 0))), ((xa 89), .inl (K 0, 20, .inl (fun _ => 0))), ((xa 49), .inl (K 4, 20, .inr (.inr (.inr (.inr (va_up xf (0 : Int32).toNatClampNeg (some (xa 52)))))))), ((xa 90), .inl (K 4, 20, .inr (.inr (.inr (.inr (va_up xg (0 : Int32).toNatClampNeg (some (xa 93)))))))), ((xa 52), .inr (9, [.ref (xa 53), .int 0])), ((xa 93), .inr (9, [.ref (xa 94), .int 0])), ((xa 2), .inr (9, [.ref (xa 15), .int 0]))]) (wr := [(hm, .inr (12, fsM q 0 0 0 0 0)), ((q 100), .inl (K 0, 2, .inl (gl [0, 0]))), ((q 101), .inl (K 0, 40, .inl (fun _ => 0))), ((q 102), .inl (K 0, 40, .inl (fun _ => 0))), ((q 103), .inl (K 0, 40, .inl (fun _ => 0)))]) (x_attribute l D K hx xa xf xg fa sa (zx 3) (zx 4) (zx 5)) gd_law_x_attribute_129 rfl rfl rfl (by decide +kernel) ⟨by decide +kernel, by decide +kernel⟩ 0 rfl rfl rfl (sp_pl [0, 1, 2, 3, 4, 5, 6, 7, 8, 9, 10, 11, 12, 13, 14] [15, 16, 17, 18, 19] rfl rfl rfl rfl rfl) rfl rfl (Nat.le_of_ble_eq_true rfl) dL_law_1184 ⟨by decide +kernel, by decide +kernel⟩ (fun r_161 u_159 hp_160 => ?_)
  subst hp_160
  show V _ _ _ _ _ _ _ _ _ _ _ _ _ _ (599, 20555) [(hm, .inr (12, fsM q 0 0 0 0 0)), ((q 100), .inl (K 0, 2, .inl (gl [0, 0]))), ((q 101), .inl (K 0, 40, .inl (fun _ => 0))), ((q 102), .inl (K 0, 40, .inl (fun _ => 0))), ((q 103), .inl (K 0, 40, .inl (fun _ => 0)))] _ _ [.int (an_attribute (zx 3) (zx 4) (zx 5))]
  show V _ _ _ _ _ _ _ _ _ _ _ _ _ _ (599, 20555) [(hm, .inr (12, fsM q 0 0 0 0 0)), ((q 100), .inl (K 0, 2, .inl (gl [0, 0]))), ((q 101), .inl (K 0, 40, .inl (fun _ => 0))), ((q 102), .inl (K 0, 40, .inl (fun _ => 0))), ((q 103), .inl (K 0, 40, .inl (fun _ => 0)))] _ _ _
  refine v_aload_n B dL_law_1187 rfl rfl ?_
  refine v_aload_n B dL_law_1188 rfl rfl ?_
  refine v_iload B dL_law_1189 rfl ?_
  refine v_iconst B (v := 1) dL_law_1191 (by decide +kernel) ?_
  refine v_iadd B (v := 3) dL_law_1192 (by decide +kernel) ?_
  refine v_sld B hz (i := 3) (v := (zx 3)) (vpi (by decide +kernel)) (congrArg zx (by decide +kernel)) dL_law_1193 ?_
  refine v_aload_n B dL_law_1194 rfl rfl ?_
  refine v_iload B dL_law_1195 rfl ?_
  refine v_iconst B (v := 2) dL_law_1197 (by decide +kernel) ?_
  refine v_iadd B (v := 4) dL_law_1198 (by decide +kernel) ?_
  refine v_sld B hz (i := 4) (v := (zx 4)) (vpi (by decide +kernel)) (congrArg zx (by decide +kernel)) dL_law_1199 ?_
  refine v_aload_n B dL_law_1200 rfl rfl ?_
  refine v_iload B dL_law_1201 rfl ?_
  refine v_iconst B (v := 3) dL_law_1203 (by decide +kernel) ?_
  refine v_iadd B (v := 5) dL_law_1204 (by decide +kernel) ?_
  refine v_sld B hz (i := 5) (v := (zx 5)) (vpi (by decide +kernel)) (congrArg zx (by decide +kernel)) dL_law_1205 ?_
  refine v_callVi B (b := hm) (n := 3) (As := [.int (zx 3), .int (zx 4), .int (zx 5)]) (rest := [.int (an_attribute (zx 3) (zx 4) (zx 5))]) (wc := [(hm, .inr (12, fsM q 0 0 0 0 0)), ((q 100), .inl (K 0, 2, .inl (gl [0, 0]))), ((q 101), .inl (K 0, 40, .inl (fun _ => 0))), ((q 102), .inl (K 0, 40, .inl (fun _ => 0))), ((q 103), .inl (K 0, 40, .inl (fun _ => 0)))]) (wr := []) (y_attribute l D K hm q fa sa (zx 3) (zx 4) (zx 5)) gd_law_y_attribute_132 rfl rfl rfl (by decide +kernel) ⟨by decide +kernel, by decide +kernel⟩ 0 rfl rfl rfl (sp_pl [0, 1, 2, 3, 4] [] rfl rfl rfl rfl rfl) rfl rfl (Nat.le_of_ble_eq_true rfl) dL_law_1206 ⟨by decide +kernel, by decide +kernel⟩ (fun r_164 u_162 hp_163 => ?_)
  subst hp_163
  show V _ _ _ _ _ _ _ _ _ _ _ _ _ _ (599, 20555) [] _ _ [.int (an_attribute (zx 3) (zx 4) (zx 5)), .int (an_attribute (zx 3) (zx 4) (zx 5))]
  show V _ _ _ _ _ _ _ _ _ _ _ _ _ _ (599, 20555) [] _ _ _
  refine v_icmp_eq B (tgt := 1540) dL_law_1209 (by decide +kernel) (fun _ => ?_) (fun h => absurd rfl h)
  refine v_lv [0, 4] rfl ?_
  refine v_widen (k := 600002) (n := 7302198) (by decide +kernel) (by decide +kernel) ?_
  exact kk

