set_option maxHeartbeats 4000000 in
set_option maxRecDepth 100000 in
theorem lc_set {p : Program} {l : Launch} {e : Env} {s : State} {m : MethodId} {below : List Frame} {meth : Method} {c : Code} {D : va_G} {A : Nat → Prop} {Q : State → Prop} {zb : Nat} {zx : Nat → Int32} {zs : Nat → Nat} (hl0 : l.stackTraces = false) (K : Nat → ClassId) (hx : Nat) (xa : Nat → Nat) (xf xg : Nat → Option Nat) (fa sa : Int64) (hm : Nat) (q : Nat → Nat) (ho : Nat) (B : Bx p s m #[.ref zb] c cL_law 7 RL lw_tbl D (tysA K) A) (hz : ZL zb 11 zx zs A s s.heap) (kk : V p l e room_1 s m #[.ref zb] below meth c 7 D A Q (600002, 7302198) [] [(4, .int 2), (0, .ref zb)] 1540 []) : V p l e room_1 s m #[.ref zb] below meth c 7 D A Q (599, 20555) (WXM K hx xa xf xg fa sa hm q ho) [(4, .int 2), (3, .ref ho), (2, .ref hm), (1, .ref hx), (0, .ref zb)] 1214 [] := by
  refine v_forget (wc := [(hx, .inr (11, [.ref (xa 0), .ref (xa 1), .ref (xa 2), .ref (xa 3), .int 0])), ((xa 0), .inl (K 5, 2, .inr (.inr (.inr (.inr (va_up (va_up (fun _ => none) (0 : Int32).toNatClampNeg (some (xa 4))) (1 : Int32).toNatClampNeg (some (xa 5)))))))), ((xa 4), .inr (3, [.int 0, .long (fa &&& 281474976710655), .int 0, .int 0, .int 0, .int 0, .ref (xa 16), .int 0, .long 0, .ref (xa 17), .long 0, .ref (xa 18), .ref (xa 19), .ref (xa 20), .ref (xa 21), .ref (xa 22), .ref (xa 23), .ref (xa 24), .ref (xa 25)])), ((xa 5), .inr (3, [.int 1, .long (sa &&& 281474976710655), .int 0, .int 1, .int 0, .int 0, .ref (xa 58), .int 0, .long 0, .ref (xa 59), .long 0, .ref (xa 60), .ref (xa 61), .ref (xa 62), .ref (xa 63), .ref (xa 64), .ref (xa 65), .ref (xa 66), .ref (xa 67)])), ((xa 22), .inr (10, [.ref (xa 47), .ref (xa 48), .ref (xa 49), .int 0, .int 23, .int 23, .ref (xa 50), .int 0, .int 0, .ref (xa 51)])), ((xa 64), .inr (10, [.ref (xa 88), .ref (xa 89), .ref (xa 90), .int 0, .int 23, .int 23, .ref (xa 91), .int 0, .int 0, .ref (xa 92)])), (hm, .inr (12, fsM q 0 0 0 0 0)), ((q 100), .inl (K 0, 2, .inl (gl [0, 0])))]) (wr := []) (sp_pl [0, 1, 10, 25, 18, 33, 40, 87] [] rfl rfl rfl rfl rfl) ?_
  refine v_aload_n B dL_law_1214 rfl rfl ?_
  refine v_aload_n B dL_law_1215 rfl rfl ?_
  refine v_iload B dL_law_1216 rfl ?_
  refine v_iconst B (v := 1) dL_law_1218 (by decide +kernel) ?_
  refine v_iadd B (v := 3) dL_law_1219 (by decide +kernel) ?_
  refine v_sld B hz (i := 3) (v := (zx 3)) (vpi (by decide +kernel)) (congrArg zx (by decide +kernel)) dL_law_1220 ?_
  refine v_aload_n B dL_law_1221 rfl rfl ?_
  refine v_iload B dL_law_1222 rfl ?_
  refine v_iconst B (v := 2) dL_law_1224 (by decide +kernel) ?_
  refine v_iadd B (v := 4) dL_law_1225 (by decide +kernel) ?_
  refine v_sld B hz (i := 4) (v := (zx 4)) (vpi (by decide +kernel)) (congrArg zx (by decide +kernel)) dL_law_1226 ?_
  refine v_callVi B (b := hx) (n := 2) (As := [.int (zx 3), .int (zx 4)]) (rest := []) (wc := [(hx, .inr (11, [.ref (xa 0), .ref (xa 1), .ref (xa 2), .ref (xa 3), .int 0])), ((xa 0), .inl (K 5, 2, .inr (.inr (.inr (.inr (va_up (va_up (fun _ => none) (0 : Int32).toNatClampNeg (some (xa 4))) (1 : Int32).toNatClampNeg (some (xa 5)))))))), ((xa 4), .inr (3, [.int 0, .long (fa &&& 281474976710655), .int 0, .int 0, .int 0, .int 0, .ref (xa 16), .int 0, .long 0, .ref (xa 17), .long 0, .ref (xa 18), .ref (xa 19), .ref (xa 20), .ref (xa 21), .ref (xa 22), .ref (xa 23), .ref (xa 24), .ref (xa 25)])), ((xa 5), .inr (3, [.int 1, .long (sa &&& 281474976710655), .int 0, .int 1, .int 0, .int 0, .ref (xa 58), .int 0, .long 0, .ref (xa 59), .long 0, .ref (xa 60), .ref (xa 61), .ref (xa 62), .ref (xa 63), .ref (xa 64), .ref (xa 65), .ref (xa 66), .ref (xa 67)])), ((xa 22), .inr (10, [.ref (xa 47), .ref (xa 48), .ref (xa 49), .int 0, .int 23, .int 23, .ref (xa 50), .int 0, .int 0, .ref (xa 51)])), ((xa 64), .inr (10, [.ref (xa 88), .ref (xa 89), .ref (xa 90), .int 0, .int 23, .int 23, .ref (xa 91), .int 0, .int 0, .ref (xa 92)]))]) (wr := [(hm, .inr (12, fsM q 0 0 0 0 0)), ((q 100), .inl (K 0, 2, .inl (gl [0, 0])))]) (x_set l D K hx xa xf xg fa sa (zx 3) (zx 4)) gd_law_x_set_133 rfl rfl rfl (by decide +kernel) ⟨by decide +kernel, by decide +kernel⟩ 0 rfl rfl rfl (sp_pl [0, 1, 2, 3, 4, 5] [6, 7] rfl rfl rfl rfl rfl) rfl rfl (Nat.le_of_ble_eq_true rfl) dL_law_1227 ⟨by decide +kernel, by decide +kernel⟩ (fun r_167 u_165 hp_166 => ?_)
  subst hp_166
  show V _ _ _ _ _ _ _ _ _ _ _ _ _ _ (599, 20555) [(hm, .inr (12, fsM q 0 0 0 0 0)), ((q 100), .inl (K 0, 2, .inl (gl [0, 0])))] _ _ [.int (an_set (zx 3) (zx 4))]
  show V _ _ _ _ _ _ _ _ _ _ _ _ _ _ (599, 20555) [(hm, .inr (12, fsM q 0 0 0 0 0)), ((q 100), .inl (K 0, 2, .inl (gl [0, 0])))] _ _ _
  refine v_aload_n B dL_law_1230 rfl rfl ?_
  refine v_aload_n B dL_law_1231 rfl rfl ?_
  refine v_iload B dL_law_1232 rfl ?_
  refine v_iconst B (v := 1) dL_law_1234 (by decide +kernel) ?_
  refine v_iadd B (v := 3) dL_law_1235 (by decide +kernel) ?_
  refine v_sld B hz (i := 3) (v := (zx 3)) (vpi (by decide +kernel)) (congrArg zx (by decide +kernel)) dL_law_1236 ?_
  refine v_aload_n B dL_law_1237 rfl rfl ?_
  refine v_iload B dL_law_1238 rfl ?_
  refine v_iconst B (v := 2) dL_law_1240 (by decide +kernel) ?_
  refine v_iadd B (v := 4) dL_law_1241 (by decide +kernel) ?_
  refine v_sld B hz (i := 4) (v := (zx 4)) (vpi (by decide +kernel)) (congrArg zx (by decide +kernel)) dL_law_1242 ?_
  refine v_callVi B (b := hm) (n := 2) (As := [.int (zx 3), .int (zx 4)]) (rest := [.int (an_set (zx 3) (zx 4))]) (wc := [(hm, .inr (12, fsM q 0 0 0 0 0)), ((q 100), .inl (K 0, 2, .inl (gl [0, 0])))]) (wr := []) (y_set l D K hm q fa sa (zx 3) (zx 4)) gd_law_y_set_136 rfl rfl rfl (by decide +kernel) ⟨by decide +kernel, by decide +kernel⟩ 0 rfl rfl rfl (sp_pl [0, 1] [] rfl rfl rfl rfl rfl) rfl rfl (Nat.le_of_ble_eq_true rfl) dL_law_1243 ⟨by decide +kernel, by decide +kernel⟩ (fun r_170 u_168 hp_169 => ?_)
  subst hp_169
  show V _ _ _ _ _ _ _ _ _ _ _ _ _ _ (599, 20555) [] _ _ [.int (an_set (zx 3) (zx 4)), .int (an_set (zx 3) (zx 4))]
  show V _ _ _ _ _ _ _ _ _ _ _ _ _ _ (599, 20555) [] _ _ _
  refine v_icmp_eq B (tgt := 1540) dL_law_1246 (by decide +kernel) (fun _ => ?_) (fun h => absurd rfl h)
  refine v_lv [0, 4] rfl ?_
  refine v_widen (k := 600002) (n := 7302198) (by decide +kernel) (by decide +kernel) ?_
  exact kk

set_option maxHeartbeats 4000000 in
set_option maxRecDepth 100000 in
theorem lc_value {p : Program} {l : Launch} {e : Env} {s : State} {m : MethodId} {below : List Frame} {meth : Method} {c : Code} {D : va_G} {A : Nat → Prop} {Q : State → Prop} {zb : Nat} {zx : Nat → Int32} {zs : Nat → Nat} (hl0 : l.stackTraces = false) (K : Nat → ClassId) (hx : Nat) (xa : Nat → Nat) (xf xg : Nat → Option Nat) (fa sa : Int64) (hm : Nat) (q : Nat → Nat) (ho : Nat) (B : Bx p s m #[.ref zb] c cL_law 7 RL lw_tbl D (tysA K) A) (hz : ZL zb 11 zx zs A s s.heap) (kk : V p l e room_1 s m #[.ref zb] below meth c 7 D A Q (600002, 7302198) [] [(4, .int 2), (0, .ref zb)] 1540 []) : V p l e room_1 s m #[.ref zb] below meth c 7 D A Q (599, 20555) (WXM K hx xa xf xg fa sa hm q ho) [(4, .int 2), (3, .ref ho), (2, .ref hm), (1, .ref hx), (0, .ref zb)] 1251 [] := by
  refine v_forget (wc := [(hx, .inr (11, [.ref (xa 0), .ref (xa 1), .ref (xa 2), .ref (xa 3), .int 0])), ((xa 0), .inl (K 5, 2, .inr (.inr (.inr (.inr (va_up (va_up (fun _ => none) (0 : Int32).toNatClampNeg (some (xa 4))) (1 : Int32).toNatClampNeg (some (xa 5)))))))), ((xa 4), .inr (3, [.int 0, .long (fa &&& 281474976710655), .int 0, .int 0, .int 0, .int 0, .ref (xa 16), .int 0, .long 0, .ref (xa 17), .long 0, .ref (xa 18), .ref (xa 19), .ref (xa 20), .ref (xa 21), .ref (xa 22), .ref (xa 23), .ref (xa 24), .ref (xa 25)])), ((xa 5), .inr (3, [.int 1, .long (sa &&& 281474976710655), .int 0, .int 1, .int 0, .int 0, .ref (xa 58), .int 0, .long 0, .ref (xa 59), .long 0, .ref (xa 60), .ref (xa 61), .ref (xa 62), .ref (xa 63), .ref (xa 64), .ref (xa 65), .ref (xa 66), .ref (xa 67)])), ((xa 22), .inr (10, [.ref (xa 47), .ref (xa 48), .ref (xa 49), .int 0, .int 23, .int 23, .ref (xa 50), .int 0, .int 0, .ref (xa 51)])), ((xa 64), .inr (10, [.ref (xa 88), .ref (xa 89), .ref (xa 90), .int 0, .int 23, .int 23, .ref (xa 91), .int 0, .int 0, .ref (xa 92)])), (hm, .inr (12, fsM q 0 0 0 0 0)), ((q 100), .inl (K 0, 2, .inl (gl [0, 0])))]) (wr := []) (sp_pl [0, 1, 10, 25, 18, 33, 40, 87] [] rfl rfl rfl rfl rfl) ?_
  refine v_aload_n B dL_law_1251 rfl rfl ?_
  refine v_aload_n B dL_law_1252 rfl rfl ?_
  refine v_iload B dL_law_1253 rfl ?_
  refine v_iconst B (v := 1) dL_law_1255 (by decide +kernel) ?_
  refine v_iadd B (v := 3) dL_law_1256 (by decide +kernel) ?_
  refine v_sld B hz (i := 3) (v := (zx 3)) (vpi (by decide +kernel)) (congrArg zx (by decide +kernel)) dL_law_1257 ?_
  refine v_aload_n B dL_law_1258 rfl rfl ?_
  refine v_iload B dL_law_1259 rfl ?_
  refine v_iconst B (v := 2) dL_law_1261 (by decide +kernel) ?_
  refine v_iadd B (v := 4) dL_law_1262 (by decide +kernel) ?_
  refine v_sld B hz (i := 4) (v := (zx 4)) (vpi (by decide +kernel)) (congrArg zx (by decide +kernel)) dL_law_1263 ?_
  refine v_aload_n B dL_law_1264 rfl rfl ?_
  refine v_iload B dL_law_1265 rfl ?_
  refine v_iconst B (v := 3) dL_law_1267 (by decide +kernel) ?_
  refine v_iadd B (v := 5) dL_law_1268 (by decide +kernel) ?_
  refine v_sld B hz (i := 5) (v := (zx 5)) (vpi (by decide +kernel)) (congrArg zx (by decide +kernel)) dL_law_1269 ?_
  refine v_aload_n B dL_law_1270 rfl rfl ?_
  refine v_callSiW B hz (n := 5) (As := [.ref hx, .int (zx 3), .int (zx 4), .int (zx 5), .ref ho]) (rest := []) (wc := [(hx, .inr (11, [.ref (xa 0), .ref (xa 1), .ref (xa 2), .ref (xa 3), .int 0])), ((xa 0), .inl (K 5, 2, .inr (.inr (.inr (.inr (va_up (va_up (fun _ => none) (0 : Int32).toNatClampNeg (some (xa 4))) (1 : Int32).toNatClampNeg (some (xa 5)))))))), ((xa 4), .inr (3, [.int 0, .long (fa &&& 281474976710655), .int 0, .int 0, .int 0, .int 0, .ref (xa 16), .int 0, .long 0, .ref (xa 17), .long 0, .ref (xa 18), .ref (xa 19), .ref (xa 20), .ref (xa 21), .ref (xa 22), .ref (xa 23), .ref (xa 24), .ref (xa 25)])), ((xa 5), .inr (3, [.int 1, .long (sa &&& 281474976710655), .int 0, .int 1, .int 0, .int 0, .ref (xa 58), .int 0, .long 0, .ref (xa 59), .long 0, .ref (xa 60), .ref (xa 61), .ref (xa 62), .ref (xa 63), .ref (xa 64), .ref (xa 65), .ref (xa 66), .ref (xa 67)])), ((xa 22), .inr (10, [.ref (xa 47), .ref (xa 48), .ref (xa 49), .int 0, .int 23, .int 23, .ref (xa 50), .int 0, .int 0, .ref (xa 51)])), ((xa 64), .inr (10, [.ref (xa 88), .ref (xa 89), .ref (xa 90), .int 0, .int 23, .int 23, .ref (xa 91), .int 0, .int 0, .ref (xa 92)]))]) (wr := [(hm, .inr (12, fsM q 0 0 0 0 0)), ((q 100), .inl (K 0, 2, .inl (gl [0, 0])))]) (l_value l hl0 D K zb 11 zx zs hx xa xf xg fa sa ho (zx 3) (zx 4) (zx 5)) gd_law_l_value_137 rfl rfl rfl (by decide +kernel) ⟨by decide +kernel, by decide +kernel⟩ (sp_pl [0, 1, 2, 3, 4, 5] [6, 7] rfl rfl rfl rfl rfl) rfl rfl (Nat.le_of_ble_eq_true rfl) dL_law_1271 ⟨by decide +kernel, by decide +kernel⟩ (fun r_173 u_171 hp_172 => ?_)
  subst hp_172
  show V _ _ _ _ _ _ _ _ _ _ _ _ _ _ (600, 20561) [(hm, .inr (12, fsM q 0 0 0 0 0)), ((q 100), .inl (K 0, 2, .inl (gl [0, 0])))] _ _ [.int 1]
  show V _ _ _ _ _ _ _ _ _ _ _ _ _ _ (600, 20561) [(hm, .inr (12, fsM q 0 0 0 0 0)), ((q 100), .inl (K 0, 2, .inl (gl [0, 0])))] _ _ _
  refine v_istore B (lv' := [(5, .int 1), (4, .int 2), (3, .ref ho), (2, .ref hm), (1, .ref hx), (0, .ref zb)]) dL_law_1274 (by decide +kernel) rfl ?_
  refine v_aload_n B dL_law_1276 rfl rfl ?_
  refine v_aload_n B dL_law_1277 rfl rfl ?_
  refine v_iload B dL_law_1278 rfl ?_
  refine v_iconst B (v := 1) dL_law_1280 (by decide +kernel) ?_
  refine v_iadd B (v := 3) dL_law_1281 (by decide +kernel) ?_
  refine v_sld B hz (i := 3) (v := (zx 3)) (vpi (by decide +kernel)) (congrArg zx (by decide +kernel)) dL_law_1282 ?_
  refine v_aload_n B dL_law_1283 rfl rfl ?_
  refine v_iload B dL_law_1284 rfl ?_
  refine v_iconst B (v := 2) dL_law_1286 (by decide +kernel) ?_
  refine v_iadd B (v := 4) dL_law_1287 (by decide +kernel) ?_
  refine v_sld B hz (i := 4) (v := (zx 4)) (vpi (by decide +kernel)) (congrArg zx (by decide +kernel)) dL_law_1288 ?_
  refine v_aload_n B dL_law_1289 rfl rfl ?_
  refine v_iload B dL_law_1290 rfl ?_
  refine v_iconst B (v := 3) dL_law_1292 (by decide +kernel) ?_
  refine v_iadd B (v := 5) dL_law_1293 (by decide +kernel) ?_
  refine v_sld B hz (i := 5) (v := (zx 5)) (vpi (by decide +kernel)) (congrArg zx (by decide +kernel)) dL_law_1294 ?_
  refine v_callVi B (b := hm) (n := 3) (As := [.int (zx 3), .int (zx 4), .int (zx 5)]) (rest := []) (wc := [(hm, .inr (12, fsM q 0 0 0 0 0)), ((q 100), .inl (K 0, 2, .inl (gl [0, 0])))]) (wr := []) (y_value l D K hm q fa sa (zx 3) (zx 4) (zx 5)) gd_law_y_value_140 rfl rfl rfl (by decide +kernel) ⟨by decide +kernel, by decide +kernel⟩ 0 rfl rfl rfl (sp_pl [0, 1] [] rfl rfl rfl rfl rfl) rfl rfl (Nat.le_of_ble_eq_true rfl) dL_law_1295 ⟨by decide +kernel, by decide +kernel⟩ (fun r_176 u_174 hp_175 => ?_)
  subst hp_175
  show V _ _ _ _ _ _ _ _ _ _ _ _ _ _ (600, 20561) [(hm, .inr (12, fsM q 1 0 0 0 0))] _ _ [.int 0]
  show V _ _ _ _ _ _ _ _ _ _ _ _ _ _ (600, 20561) [(hm, .inr (12, fsM q 1 0 0 0 0))] _ _ _
  refine v_istore B (lv' := [(6, .int 0), (5, .int 1), (4, .int 2), (3, .ref ho), (2, .ref hm), (1, .ref hx), (0, .ref zb)]) dL_law_1298 (by decide +kernel) rfl ?_
  refine v_aload_n B dL_law_1300 rfl rfl ?_
  refine v_callVi B (b := hm) (n := 0) (As := []) (rest := []) (wc := [(hm, .inr (12, fsM q 1 0 0 0 0))]) (wr := []) (y_thrown l D K hm q 1 0 0 0 0) gd_law_y_thrown_75 rfl rfl rfl (by decide +kernel) ⟨by decide +kernel, by decide +kernel⟩ 0 rfl rfl rfl (sp_pl [0] [] rfl rfl rfl rfl rfl) rfl rfl (Nat.le_of_ble_eq_true rfl) dL_law_1301 ⟨by decide +kernel, by decide +kernel⟩ (fun r_179 u_177 hp_178 => ?_)
  subst hp_178
  show V _ _ _ _ _ _ _ _ _ _ _ _ _ _ (600, 20561) [(hm, .inr (12, fsM q 1 0 0 0 0))] _ _ [.int 1]
  show V _ _ _ _ _ _ _ _ _ _ _ _ _ _ (600, 20561) [(hm, .inr (12, fsM q 1 0 0 0 0))] _ _ _
  refine v_iload B dL_law_1304 rfl ?_
  refine v_icmp_eq B (tgt := 1311) dL_law_1306 (by decide +kernel) (fun _ => ?_) (fun h => absurd (by decide +kernel) h)
  refine v_iload B dL_law_1311 rfl ?_
  refine v_if_ne B (tgt := 1328) dL_law_1313 (by decide +kernel) (fun _ => ?_) (fun h => absurd h (by decide +kernel))
  refine v_goto B (tgt := 1540) dL_law_1328 (by decide +kernel) ?_
  refine v_forget (wc := []) (wr := []) (sp_pl [] [] rfl rfl rfl rfl rfl) ?_
  refine v_lv [2, 6] rfl ?_
  refine v_widen (k := 600002) (n := 7302198) (by decide +kernel) (by decide +kernel) ?_
  exact kk

set_option maxHeartbeats 4000000 in
set_option maxRecDepth 100000 in
theorem lc_mtu {p : Program} {l : Launch} {e : Env} {s : State} {m : MethodId} {below : List Frame} {meth : Method} {c : Code} {D : va_G} {A : Nat → Prop} {Q : State → Prop} {zb : Nat} {zx : Nat → Int32} {zs : Nat → Nat} (hl0 : l.stackTraces = false) (K : Nat → ClassId) (hx : Nat) (xa : Nat → Nat) (xf xg : Nat → Option Nat) (fa sa : Int64) (hm : Nat) (q : Nat → Nat) (ho : Nat) (B : Bx p s m #[.ref zb] c cL_law 7 RL lw_tbl D (tysA K) A) (hz : ZL zb 11 zx zs A s s.heap) (kk : V p l e room_1 s m #[.ref zb] below meth c 7 D A Q (600002, 7302198) [] [(4, .int 2), (0, .ref zb)] 1540 []) : V p l e room_1 s m #[.ref zb] below meth c 7 D A Q (599, 20555) (WXM K hx xa xf xg fa sa hm q ho) [(4, .int 2), (3, .ref ho), (2, .ref hm), (1, .ref hx), (0, .ref zb)] 1331 [] := by
  refine v_forget (wc := [(hx, .inr (11, [.ref (xa 0), .ref (xa 1), .ref (xa 2), .ref (xa 3), .int 0])), ((xa 0), .inl (K 5, 2, .inr (.inr (.inr (.inr (va_up (va_up (fun _ => none) (0 : Int32).toNatClampNeg (some (xa 4))) (1 : Int32).toNatClampNeg (some (xa 5)))))))), ((xa 4), .inr (3, [.int 0, .long (fa &&& 281474976710655), .int 0, .int 0, .int 0, .int 0, .ref (xa 16), .int 0, .long 0, .ref (xa 17), .long 0, .ref (xa 18), .ref (xa 19), .ref (xa 20), .ref (xa 21), .ref (xa 22), .ref (xa 23), .ref (xa 24), .ref (xa 25)])), ((xa 5), .inr (3, [.int 1, .long (sa &&& 281474976710655), .int 0, .int 1, .int 0, .int 0, .ref (xa 58), .int 0, .long 0, .ref (xa 59), .long 0, .ref (xa 60), .ref (xa 61), .ref (xa 62), .ref (xa 63), .ref (xa 64), .ref (xa 65), .ref (xa 66), .ref (xa 67)])), ((xa 22), .inr (10, [.ref (xa 47), .ref (xa 48), .ref (xa 49), .int 0, .int 23, .int 23, .ref (xa 50), .int 0, .int 0, .ref (xa 51)])), ((xa 64), .inr (10, [.ref (xa 88), .ref (xa 89), .ref (xa 90), .int 0, .int 23, .int 23, .ref (xa 91), .int 0, .int 0, .ref (xa 92)])), (hm, .inr (12, fsM q 0 0 0 0 0)), ((q 105), .inl (K 0, 2, .inl (gl [23, 23])))]) (wr := []) (sp_pl [0, 1, 10, 25, 18, 33, 40, 92] [] rfl rfl rfl rfl rfl) ?_
  refine v_aload_n B dL_law_1331 rfl rfl ?_
  refine v_aload_n B dL_law_1332 rfl rfl ?_
  refine v_iload B dL_law_1333 rfl ?_
  refine v_iconst B (v := 1) dL_law_1335 (by decide +kernel) ?_
  refine v_iadd B (v := 3) dL_law_1336 (by decide +kernel) ?_
  refine v_sld B hz (i := 3) (v := (zx 3)) (vpi (by decide +kernel)) (congrArg zx (by decide +kernel)) dL_law_1337 ?_
  refine v_aload_n B dL_law_1338 rfl rfl ?_
  refine v_iload B dL_law_1339 rfl ?_
  refine v_iconst B (v := 2) dL_law_1341 (by decide +kernel) ?_
  refine v_iadd B (v := 4) dL_law_1342 (by decide +kernel) ?_
  refine v_sld B hz (i := 4) (v := (zx 4)) (vpi (by decide +kernel)) (congrArg zx (by decide +kernel)) dL_law_1343 ?_
  refine v_callVi B (b := hx) (n := 2) (As := [.int (zx 3), .int (zx 4)]) (rest := []) (wc := [(hx, .inr (11, [.ref (xa 0), .ref (xa 1), .ref (xa 2), .ref (xa 3), .int 0])), ((xa 0), .inl (K 5, 2, .inr (.inr (.inr (.inr (va_up (va_up (fun _ => none) (0 : Int32).toNatClampNeg (some (xa 4))) (1 : Int32).toNatClampNeg (some (xa 5)))))))), ((xa 4), .inr (3, [.int 0, .long (fa &&& 281474976710655), .int 0, .int 0, .int 0, .int 0, .ref (xa 16), .int 0, .long 0, .ref (xa 17), .long 0, .ref (xa 18), .ref (xa 19), .ref (xa 20), .ref (xa 21), .ref (xa 22), .ref (xa 23), .ref (xa 24), .ref (xa 25)])), ((xa 5), .inr (3, [.int 1, .long (sa &&& 281474976710655), .int 0, .int 1, .int 0, .int 0, .ref (xa 58), .int 0, .long 0, .ref (xa 59), .long 0, .ref (xa 60), .ref (xa 61), .ref (xa 62), .ref (xa 63), .ref (xa 64), .ref (xa 65), .ref (xa 66), .ref (xa 67)])), ((xa 22), .inr (10, [.ref (xa 47), .ref (xa 48), .ref (xa 49), .int 0, .int 23, .int 23, .ref (xa 50), .int 0, .int 0, .ref (xa 51)])), ((xa 64), .inr (10, [.ref (xa 88), .ref (xa 89), .ref (xa 90), .int 0, .int 23, .int 23, .ref (xa 91), .int 0, .int 0, .ref (xa 92)]))]) (wr := [(hm, .inr (12, fsM q 0 0 0 0 0)), ((q 105), .inl (K 0, 2, .inl (gl [23, 23])))]) (x_mtu l D K hx xa xf xg fa sa (zx 3) (zx 4)) gd_law_x_mtu_141 rfl rfl rfl (by decide +kernel) ⟨by decide +kernel, by decide +kernel⟩ 0 rfl rfl rfl (sp_pl [0, 1, 2, 3, 4, 5] [6, 7] rfl rfl rfl rfl rfl) rfl rfl (Nat.le_of_ble_eq_true rfl) dL_law_1344 ⟨by decide +kernel, by decide +kernel⟩ (fun r_182 u_180 hp_181 => ?_)
  subst hp_181
  show V _ _ _ _ _ _ _ _ _ _ _ _ _ _ (599, 20555) [(hm, .inr (12, fsM q 0 0 0 0 0)), ((q 105), .inl (K 0, 2, .inl (gl [23, 23])))] _ _ [.int (an_mtu (zx 3) (zx 4))]
  show V _ _ _ _ _ _ _ _ _ _ _ _ _ _ (599, 20555) [(hm, .inr (12, fsM q 0 0 0 0 0)), ((q 105), .inl (K 0, 2, .inl (gl [23, 23])))] _ _ _
  refine v_aload_n B dL_law_1347 rfl rfl ?_
  refine v_aload_n B dL_law_1348 rfl rfl ?_
  refine v_iload B dL_law_1349 rfl ?_
  refine v_iconst B (v := 1) dL_law_1351 (by decide +kernel) ?_
  refine v_iadd B (v := 3) dL_law_1352 (by decide +kernel) ?_
  refine v_sld B hz (i := 3) (v := (zx 3)) (vpi (by decide +kernel)) (congrArg zx (by decide +kernel)) dL_law_1353 ?_
  refine v_aload_n B dL_law_1354 rfl rfl ?_
  refine v_iload B dL_law_1355 rfl ?_
  refine v_iconst B (v := 2) dL_law_1357 (by decide +kernel) ?_
  refine v_iadd B (v := 4) dL_law_1358 (by decide +kernel) ?_
  refine v_sld B hz (i := 4) (v := (zx 4)) (vpi (by decide +kernel)) (congrArg zx (by decide +kernel)) dL_law_1359 ?_
  refine v_callVi B (b := hm) (n := 2) (As := [.int (zx 3), .int (zx 4)]) (rest := [.int (an_mtu (zx 3) (zx 4))]) (wc := [(hm, .inr (12, fsM q 0 0 0 0 0)), ((q 105), .inl (K 0, 2, .inl (gl [23, 23])))]) (wr := []) (y_mtu l D K hm q fa sa (zx 3) (zx 4)) gd_law_y_mtu_144 rfl rfl rfl (by decide +kernel) ⟨by decide +kernel, by decide +kernel⟩ 0 rfl rfl rfl (sp_pl [0, 1] [] rfl rfl rfl rfl rfl) rfl rfl (Nat.le_of_ble_eq_true rfl) dL_law_1360 ⟨by decide +kernel, by decide +kernel⟩ (fun r_185 u_183 hp_184 => ?_)
  subst hp_184
  show V _ _ _ _ _ _ _ _ _ _ _ _ _ _ (599, 20555) [] _ _ [.int (an_mtu (zx 3) (zx 4)), .int (an_mtu (zx 3) (zx 4))]
  show V _ _ _ _ _ _ _ _ _ _ _ _ _ _ (599, 20555) [] _ _ _
  refine v_icmp_eq B (tgt := 1540) dL_law_1363 (by decide +kernel) (fun _ => ?_) (fun h => absurd rfl h)
  refine v_lv [0, 4] rfl ?_
  refine v_widen (k := 600002) (n := 7302198) (by decide +kernel) (by decide +kernel) ?_
  exact kk

set_option maxHeartbeats 4000000 in
set_option maxRecDepth 100000 in
theorem lc_job {p : Program} {l : Launch} {e : Env} {s : State} {m : MethodId} {below : List Frame} {meth : Method} {c : Code} {D : va_G} {A : Nat → Prop} {Q : State → Prop} {zb : Nat} {zx : Nat → Int32} {zs : Nat → Nat} (hl0 : l.stackTraces = false) (K : Nat → ClassId) (hx : Nat) (xa : Nat → Nat) (xf xg : Nat → Option Nat) (fa sa : Int64) (hm : Nat) (q : Nat → Nat) (ho : Nat) (B : Bx p s m #[.ref zb] c cL_law 7 RL lw_tbl D (tysA K) A) (hz : ZL zb 11 zx zs A s s.heap) (kk : V p l e room_1 s m #[.ref zb] below meth c 7 D A Q (600002, 7302198) [] [(4, .int 2), (0, .ref zb)] 1540 []) : V p l e room_1 s m #[.ref zb] below meth c 7 D A Q (599, 20555) (WXM K hx xa xf xg fa sa hm q ho) [(4, .int 2), (3, .ref ho), (2, .ref hm), (1, .ref hx), (0, .ref zb)] 1368 [] := by
  refine v_forget (wc := [(hx, .inr (11, [.ref (xa 0), .ref (xa 1), .ref (xa 2), .ref (xa 3), .int 0])), ((xa 0), .inl (K 5, 2, .inr (.inr (.inr (.inr (va_up (va_up (fun _ => none) (0 : Int32).toNatClampNeg (some (xa 4))) (1 : Int32).toNatClampNeg (some (xa 5)))))))), ((xa 4), .inr (3, [.int 0, .long (fa &&& 281474976710655), .int 0, .int 0, .int 0, .int 0, .ref (xa 16), .int 0, .long 0, .ref (xa 17), .long 0, .ref (xa 18), .ref (xa 19), .ref (xa 20), .ref (xa 21), .ref (xa 22), .ref (xa 23), .ref (xa 24), .ref (xa 25)])), ((xa 5), .inr (3, [.int 1, .long (sa &&& 281474976710655), .int 0, .int 1, .int 0, .int 0, .ref (xa 58), .int 0, .long 0, .ref (xa 59), .long 0, .ref (xa 60), .ref (xa 61), .ref (xa 62), .ref (xa 63), .ref (xa 64), .ref (xa 65), .ref (xa 66), .ref (xa 67)])), (hm, .inr (12, fsM q 0 0 0 0 0)), ((q 7), .inl (K 0, 2, .inl (gl [0, 0])))]) (wr := []) (sp_pl [0, 1, 10, 25, 40, 41] [] rfl rfl rfl rfl rfl) ?_
  refine v_aload_n B dL_law_1368 rfl rfl ?_
  refine v_aload_n B dL_law_1369 rfl rfl ?_
  refine v_iload B dL_law_1370 rfl ?_
  refine v_iconst B (v := 1) dL_law_1372 (by decide +kernel) ?_
  refine v_iadd B (v := 3) dL_law_1373 (by decide +kernel) ?_
  refine v_sld B hz (i := 3) (v := (zx 3)) (vpi (by decide +kernel)) (congrArg zx (by decide +kernel)) dL_law_1374 ?_
  refine v_aload_n B dL_law_1375 rfl rfl ?_
  refine v_iload B dL_law_1376 rfl ?_
  refine v_iconst B (v := 2) dL_law_1378 (by decide +kernel) ?_
  refine v_iadd B (v := 4) dL_law_1379 (by decide +kernel) ?_
  refine v_sld B hz (i := 4) (v := (zx 4)) (vpi (by decide +kernel)) (congrArg zx (by decide +kernel)) dL_law_1380 ?_
  refine v_aload_n B dL_law_1381 rfl rfl ?_
  refine v_iload B dL_law_1382 rfl ?_
  refine v_iconst B (v := 3) dL_law_1384 (by decide +kernel) ?_
  refine v_iadd B (v := 5) dL_law_1385 (by decide +kernel) ?_
  refine v_sld B hz (i := 5) (v := (zx 5)) (vpi (by decide +kernel)) (congrArg zx (by decide +kernel)) dL_law_1386 ?_
  refine v_aload_n B dL_law_1387 rfl rfl ?_
  refine v_iload B dL_law_1388 rfl ?_
  refine v_iconst B (v := 4) dL_law_1390 (by decide +kernel) ?_
  refine v_iadd B (v := 6) dL_law_1391 (by decide +kernel) ?_
  refine v_sld B hz (i := 6) (v := (zx 6)) (vpi (by decide +kernel)) (congrArg zx (by decide +kernel)) dL_law_1392 ?_
  refine v_callVi B (b := hx) (n := 4) (As := [.int (zx 3), .int (zx 4), .int (zx 5), .int (zx 6)]) (rest := []) (wc := [(hx, .inr (11, [.ref (xa 0), .ref (xa 1), .ref (xa 2), .ref (xa 3), .int 0])), ((xa 0), .inl (K 5, 2, .inr (.inr (.inr (.inr (va_up (va_up (fun _ => none) (0 : Int32).toNatClampNeg (some (xa 4))) (1 : Int32).toNatClampNeg (some (xa 5)))))))), ((xa 4), .inr (3, [.int 0, .long (fa &&& 281474976710655), .int 0, .int 0, .int 0, .int 0, .ref (xa 16), .int 0, .long 0, .ref (xa 17), .long 0, .ref (xa 18), .ref (xa 19), .ref (xa 20), .ref (xa 21), .ref (xa 22), .ref (xa 23), .ref (xa 24), .ref (xa 25)])), ((xa 5), .inr (3, [.int 1, .long (sa &&& 281474976710655), .int 0, .int 1, .int 0, .int 0, .ref (xa 58), .int 0, .long 0, .ref (xa 59), .long 0, .ref (xa 60), .ref (xa 61), .ref (xa 62), .ref (xa 63), .ref (xa 64), .ref (xa 65), .ref (xa 66), .ref (xa 67)]))]) (wr := [(hm, .inr (12, fsM q 0 0 0 0 0)), ((q 7), .inl (K 0, 2, .inl (gl [0, 0])))]) (x_job l D K hx xa xf xg fa sa (zx 3) (zx 4) (zx 5) (zx 6)) gd_law_x_job_145 rfl rfl rfl (by decide +kernel) ⟨by decide +kernel, by decide +kernel⟩ 0 rfl rfl rfl (sp_pl [0, 1, 2, 3] [4, 5] rfl rfl rfl rfl rfl) rfl rfl (Nat.le_of_ble_eq_true rfl) dL_law_1393 ⟨by decide +kernel, by decide +kernel⟩ (fun r_188 u_186 hp_187 => ?_)
  subst hp_187
  show V _ _ _ _ _ _ _ _ _ _ _ _ _ _ (599, 20555) [(hm, .inr (12, fsM q 0 0 0 0 0)), ((q 7), .inl (K 0, 2, .inl (gl [0, 0])))] _ _ [.int (an_job (zx 3) (zx 4) (zx 5) (zx 6))]
  show V _ _ _ _ _ _ _ _ _ _ _ _ _ _ (599, 20555) [(hm, .inr (12, fsM q 0 0 0 0 0)), ((q 7), .inl (K 0, 2, .inl (gl [0, 0])))] _ _ _
  refine v_aload_n B dL_law_1396 rfl rfl ?_
  refine v_aload_n B dL_law_1397 rfl rfl ?_
  refine v_iload B dL_law_1398 rfl ?_
  refine v_iconst B (v := 1) dL_law_1400 (by decide +kernel) ?_
  refine v_iadd B (v := 3) dL_law_1401 (by decide +kernel) ?_
  refine v_sld B hz (i := 3) (v := (zx 3)) (vpi (by decide +kernel)) (congrArg zx (by decide +kernel)) dL_law_1402 ?_
  refine v_aload_n B dL_law_1403 rfl rfl ?_
  refine v_iload B dL_law_1404 rfl ?_
  refine v_iconst B (v := 2) dL_law_1406 (by decide +kernel) ?_
  refine v_iadd B (v := 4) dL_law_1407 (by decide +kernel) ?_
  refine v_sld B hz (i := 4) (v := (zx 4)) (vpi (by decide +kernel)) (congrArg zx (by decide +kernel)) dL_law_1408 ?_
  refine v_aload_n B dL_law_1409 rfl rfl ?_
  refine v_iload B dL_law_1410 rfl ?_
  refine v_iconst B (v := 3) dL_law_1412 (by decide +kernel) ?_
  refine v_iadd B (v := 5) dL_law_1413 (by decide +kernel) ?_
  refine v_sld B hz (i := 5) (v := (zx 5)) (vpi (by decide +kernel)) (congrArg zx (by decide +kernel)) dL_law_1414 ?_
  refine v_aload_n B dL_law_1415 rfl rfl ?_
  refine v_iload B dL_law_1416 rfl ?_
  refine v_iconst B (v := 4) dL_law_1418 (by decide +kernel) ?_
  refine v_iadd B (v := 6) dL_law_1419 (by decide +kernel) ?_
  refine v_sld B hz (i := 6) (v := (zx 6)) (vpi (by decide +kernel)) (congrArg zx (by decide +kernel)) dL_law_1420 ?_
  refine v_callVi B (b := hm) (n := 4) (As := [.int (zx 3), .int (zx 4), .int (zx 5), .int (zx 6)]) (rest := [.int (an_job (zx 3) (zx 4) (zx 5) (zx 6))]) (wc := [(hm, .inr (12, fsM q 0 0 0 0 0)), ((q 7), .inl (K 0, 2, .inl (gl [0, 0])))]) (wr := []) (y_job l D K hm q fa sa (zx 3) (zx 4) (zx 5) (zx 6)) gd_law_y_job_149 rfl rfl rfl (by decide +kernel) ⟨by decide +kernel, by decide +kernel⟩ 0 rfl rfl rfl (sp_pl [0, 1] [] rfl rfl rfl rfl rfl) rfl rfl (Nat.le_of_ble_eq_true rfl) dL_law_1421 ⟨by decide +kernel, by decide +kernel⟩ (fun r_191 u_189 hp_190 => ?_)
  subst hp_190
  show V _ _ _ _ _ _ _ _ _ _ _ _ _ _ (599, 20555) [] _ _ [.int (an_job (zx 3) (zx 4) (zx 5) (zx 6)), .int (an_job (zx 3) (zx 4) (zx 5) (zx 6))]
  show V _ _ _ _ _ _ _ _ _ _ _ _ _ _ (599, 20555) [] _ _ _
  refine v_icmp_eq B (tgt := 1540) dL_law_1424 (by decide +kernel) (fun _ => ?_) (fun h => absurd rfl h)
  refine v_lv [0, 4] rfl ?_
  refine v_widen (k := 600002) (n := 7302198) (by decide +kernel) (by decide +kernel) ?_
  exact kk

set_option maxHeartbeats 4000000 in
set_option maxRecDepth 100000 in
theorem lc_send {p : Program} {l : Launch} {e : Env} {s : State} {m : MethodId} {below : List Frame} {meth : Method} {c : Code} {D : va_G} {A : Nat → Prop} {Q : State → Prop} {zb : Nat} {zx : Nat → Int32} {zs : Nat → Nat} (hl0 : l.stackTraces = false) (K : Nat → ClassId) (hx : Nat) (xa : Nat → Nat) (xf xg : Nat → Option Nat) (fa sa : Int64) (hm : Nat) (q : Nat → Nat) (ho : Nat) (B : Bx p s m #[.ref zb] c cL_law 7 RL lw_tbl D (tysA K) A) (hz : ZL zb 11 zx zs A s s.heap) (kk : V p l e room_1 s m #[.ref zb] below meth c 7 D A Q (600002, 7302198) [] [(4, .int 2), (0, .ref zb)] 1540 []) : V p l e room_1 s m #[.ref zb] below meth c 7 D A Q (599, 20555) (WXM K hx xa xf xg fa sa hm q ho) [(4, .int 2), (3, .ref ho), (2, .ref hm), (1, .ref hx), (0, .ref zb)] 1429 [] := by
  refine v_forget (wc := [(hx, .inr (11, [.ref (xa 0), .ref (xa 1), .ref (xa 2), .ref (xa 3), .int 0])), ((xa 0), .inl (K 5, 2, .inr (.inr (.inr (.inr (va_up (va_up (fun _ => none) (0 : Int32).toNatClampNeg (some (xa 4))) (1 : Int32).toNatClampNeg (some (xa 5)))))))), ((xa 4), .inr (3, [.int 0, .long (fa &&& 281474976710655), .int 0, .int 0, .int 0, .int 0, .ref (xa 16), .int 0, .long 0, .ref (xa 17), .long 0, .ref (xa 18), .ref (xa 19), .ref (xa 20), .ref (xa 21), .ref (xa 22), .ref (xa 23), .ref (xa 24), .ref (xa 25)])), ((xa 5), .inr (3, [.int 1, .long (sa &&& 281474976710655), .int 0, .int 1, .int 0, .int 0, .ref (xa 58), .int 0, .long 0, .ref (xa 59), .long 0, .ref (xa 60), .ref (xa 61), .ref (xa 62), .ref (xa 63), .ref (xa 64), .ref (xa 65), .ref (xa 66), .ref (xa 67)])), (hm, .inr (12, fsM q 0 0 0 0 0)), ((q 7), .inl (K 0, 2, .inl (gl [0, 0])))]) (wr := []) (sp_pl [0, 1, 10, 25, 40, 41] [] rfl rfl rfl rfl rfl) ?_
  refine v_aload_n B dL_law_1429 rfl rfl ?_
  refine v_aload_n B dL_law_1430 rfl rfl ?_
  refine v_iload B dL_law_1431 rfl ?_
  refine v_iconst B (v := 1) dL_law_1433 (by decide +kernel) ?_
  refine v_iadd B (v := 3) dL_law_1434 (by decide +kernel) ?_
  refine v_sld B hz (i := 3) (v := (zx 3)) (vpi (by decide +kernel)) (congrArg zx (by decide +kernel)) dL_law_1435 ?_
  refine v_aload_n B dL_law_1436 rfl rfl ?_
  refine v_iload B dL_law_1437 rfl ?_
  refine v_iconst B (v := 2) dL_law_1439 (by decide +kernel) ?_
  refine v_iadd B (v := 4) dL_law_1440 (by decide +kernel) ?_
  refine v_sld B hz (i := 4) (v := (zx 4)) (vpi (by decide +kernel)) (congrArg zx (by decide +kernel)) dL_law_1441 ?_
  refine v_aload_n B dL_law_1442 rfl rfl ?_
  refine v_iload B dL_law_1443 rfl ?_
  refine v_iconst B (v := 3) dL_law_1445 (by decide +kernel) ?_
  refine v_iadd B (v := 5) dL_law_1446 (by decide +kernel) ?_
  refine v_sld B hz (i := 5) (v := (zx 5)) (vpi (by decide +kernel)) (congrArg zx (by decide +kernel)) dL_law_1447 ?_
  refine v_callVi B (b := hx) (n := 3) (As := [.int (zx 3), .int (zx 4), .int (zx 5)]) (rest := []) (wc := [(hx, .inr (11, [.ref (xa 0), .ref (xa 1), .ref (xa 2), .ref (xa 3), .int 0])), ((xa 0), .inl (K 5, 2, .inr (.inr (.inr (.inr (va_up (va_up (fun _ => none) (0 : Int32).toNatClampNeg (some (xa 4))) (1 : Int32).toNatClampNeg (some (xa 5)))))))), ((xa 4), .inr (3, [.int 0, .long (fa &&& 281474976710655), .int 0, .int 0, .int 0, .int 0, .ref (xa 16), .int 0, .long 0, .ref (xa 17), .long 0, .ref (xa 18), .ref (xa 19), .ref (xa 20), .ref (xa 21), .ref (xa 22), .ref (xa 23), .ref (xa 24), .ref (xa 25)])), ((xa 5), .inr (3, [.int 1, .long (sa &&& 281474976710655), .int 0, .int 1, .int 0, .int 0, .ref (xa 58), .int 0, .long 0, .ref (xa 59), .long 0, .ref (xa 60), .ref (xa 61), .ref (xa 62), .ref (xa 63), .ref (xa 64), .ref (xa 65), .ref (xa 66), .ref (xa 67)]))]) (wr := [(hm, .inr (12, fsM q 0 0 0 0 0)), ((q 7), .inl (K 0, 2, .inl (gl [0, 0])))]) (x_send l D K hx xa xf xg fa sa (zx 3) (zx 4) (zx 5)) gd_law_x_send_150 rfl rfl rfl (by decide +kernel) ⟨by decide +kernel, by decide +kernel⟩ 0 rfl rfl rfl (sp_pl [0, 1, 2, 3] [4, 5] rfl rfl rfl rfl rfl) rfl rfl (Nat.le_of_ble_eq_true rfl) dL_law_1448 ⟨by decide +kernel, by decide +kernel⟩ (fun r_194 u_192 hp_193 => ?_)
  subst hp_193
  show V _ _ _ _ _ _ _ _ _ _ _ _ _ _ (599, 20555) [(hm, .inr (12, fsM q 0 0 0 0 0)), ((q 7), .inl (K 0, 2, .inl (gl [0, 0])))] _ _ [.int (an_send (zx 3) (zx 4) (zx 5))]
  show V _ _ _ _ _ _ _ _ _ _ _ _ _ _ (599, 20555) [(hm, .inr (12, fsM q 0 0 0 0 0)), ((q 7), .inl (K 0, 2, .inl (gl [0, 0])))] _ _ _
  refine v_aload_n B dL_law_1451 rfl rfl ?_
  refine v_aload_n B dL_law_1452 rfl rfl ?_
  refine v_iload B dL_law_1453 rfl ?_
  refine v_iconst B (v := 1) dL_law_1455 (by decide +kernel) ?_
  refine v_iadd B (v := 3) dL_law_1456 (by decide +kernel) ?_
  refine v_sld B hz (i := 3) (v := (zx 3)) (vpi (by decide +kernel)) (congrArg zx (by decide +kernel)) dL_law_1457 ?_
  refine v_aload_n B dL_law_1458 rfl rfl ?_
  refine v_iload B dL_law_1459 rfl ?_
  refine v_iconst B (v := 2) dL_law_1461 (by decide +kernel) ?_
  refine v_iadd B (v := 4) dL_law_1462 (by decide +kernel) ?_
  refine v_sld B hz (i := 4) (v := (zx 4)) (vpi (by decide +kernel)) (congrArg zx (by decide +kernel)) dL_law_1463 ?_
  refine v_aload_n B dL_law_1464 rfl rfl ?_
  refine v_iload B dL_law_1465 rfl ?_
  refine v_iconst B (v := 3) dL_law_1467 (by decide +kernel) ?_
  refine v_iadd B (v := 5) dL_law_1468 (by decide +kernel) ?_
  refine v_sld B hz (i := 5) (v := (zx 5)) (vpi (by decide +kernel)) (congrArg zx (by decide +kernel)) dL_law_1469 ?_
  refine v_callVi B (b := hm) (n := 3) (As := [.int (zx 3), .int (zx 4), .int (zx 5)]) (rest := [.int (an_send (zx 3) (zx 4) (zx 5))]) (wc := [(hm, .inr (12, fsM q 0 0 0 0 0)), ((q 7), .inl (K 0, 2, .inl (gl [0, 0])))]) (wr := []) (y_send l D K hm q fa sa (zx 3) (zx 4) (zx 5)) gd_law_y_send_154 rfl rfl rfl (by decide +kernel) ⟨by decide +kernel, by decide +kernel⟩ 0 rfl rfl rfl (sp_pl [0, 1] [] rfl rfl rfl rfl rfl) rfl rfl (Nat.le_of_ble_eq_true rfl) dL_law_1470 ⟨by decide +kernel, by decide +kernel⟩ (fun r_197 u_195 hp_196 => ?_)
  subst hp_196
  show V _ _ _ _ _ _ _ _ _ _ _ _ _ _ (599, 20555) [] _ _ [.int (an_send (zx 3) (zx 4) (zx 5)), .int (an_send (zx 3) (zx 4) (zx 5))]
  show V _ _ _ _ _ _ _ _ _ _ _ _ _ _ (599, 20555) [] _ _ _
  refine v_icmp_eq B (tgt := 1540) dL_law_1473 (by decide +kernel) (fun _ => ?_) (fun h => absurd rfl h)
  refine v_lv [0, 4] rfl ?_
  refine v_widen (k := 600002) (n := 7302198) (by decide +kernel) (by decide +kernel) ?_
  exact kk

set_option maxHeartbeats 4000000 in
set_option maxRecDepth 100000 in
theorem lc_completion {p : Program} {l : Launch} {e : Env} {s : State} {m : MethodId} {below : List Frame} {meth : Method} {c : Code} {D : va_G} {A : Nat → Prop} {Q : State → Prop} {zb : Nat} {zx : Nat → Int32} {zs : Nat → Nat} (hl0 : l.stackTraces = false) (K : Nat → ClassId) (hx : Nat) (xa : Nat → Nat) (xf xg : Nat → Option Nat) (fa sa : Int64) (hm : Nat) (q : Nat → Nat) (ho : Nat) (B : Bx p s m #[.ref zb] c cL_law 7 RL lw_tbl D (tysA K) A) (hz : ZL zb 11 zx zs A s s.heap) (kk : V p l e room_1 s m #[.ref zb] below meth c 7 D A Q (600002, 7302198) [] [(4, .int 2), (0, .ref zb)] 1540 []) : V p l e room_1 s m #[.ref zb] below meth c 7 D A Q (599, 20555) (WXM K hx xa xf xg fa sa hm q ho) [(4, .int 2), (3, .ref ho), (2, .ref hm), (1, .ref hx), (0, .ref zb)] 1478 [] := by
  refine v_forget (wc := [(hx, .inr (11, [.ref (xa 0), .ref (xa 1), .ref (xa 2), .ref (xa 3), .int 0])), ((xa 0), .inl (K 5, 2, .inr (.inr (.inr (.inr (va_up (va_up (fun _ => none) (0 : Int32).toNatClampNeg (some (xa 4))) (1 : Int32).toNatClampNeg (some (xa 5)))))))), ((xa 4), .inr (3, [.int 0, .long (fa &&& 281474976710655), .int 0, .int 0, .int 0, .int 0, .ref (xa 16), .int 0, .long 0, .ref (xa 17), .long 0, .ref (xa 18), .ref (xa 19), .ref (xa 20), .ref (xa 21), .ref (xa 22), .ref (xa 23), .ref (xa 24), .ref (xa 25)])), ((xa 5), .inr (3, [.int 1, .long (sa &&& 281474976710655), .int 0, .int 1, .int 0, .int 0, .ref (xa 58), .int 0, .long 0, .ref (xa 59), .long 0, .ref (xa 60), .ref (xa 61), .ref (xa 62), .ref (xa 63), .ref (xa 64), .ref (xa 65), .ref (xa 66), .ref (xa 67)])), ((xa 24), .inr (4, [.ref (xa 55), .ref (xa 56), .ref (xa 57), .int 0, .int 0, .int 0])), ((xa 66), .inr (4, [.ref (xa 96), .ref (xa 97), .ref (xa 98), .int 0, .int 0, .int 0])), (hm, .inr (12, fsM q 0 0 0 0 0)), ((q 45), .inl (K 0, 2, .inl (gl [0, 0])))]) (wr := []) (sp_pl [0, 1, 10, 25, 24, 39, 40, 65] [] rfl rfl rfl rfl rfl) ?_
  refine v_aload_n B dL_law_1478 rfl rfl ?_
  refine v_aload_n B dL_law_1479 rfl rfl ?_
  refine v_iload B dL_law_1480 rfl ?_
  refine v_iconst B (v := 1) dL_law_1482 (by decide +kernel) ?_
  refine v_iadd B (v := 3) dL_law_1483 (by decide +kernel) ?_
  refine v_sld B hz (i := 3) (v := (zx 3)) (vpi (by decide +kernel)) (congrArg zx (by decide +kernel)) dL_law_1484 ?_
  refine v_aload_n B dL_law_1485 rfl rfl ?_
  refine v_iload B dL_law_1486 rfl ?_
  refine v_iconst B (v := 2) dL_law_1488 (by decide +kernel) ?_
  refine v_iadd B (v := 4) dL_law_1489 (by decide +kernel) ?_
  refine v_sld B hz (i := 4) (v := (zx 4)) (vpi (by decide +kernel)) (congrArg zx (by decide +kernel)) dL_law_1490 ?_
  refine v_callVi B (b := hx) (n := 2) (As := [.int (zx 3), .int (zx 4)]) (rest := []) (wc := [(hx, .inr (11, [.ref (xa 0), .ref (xa 1), .ref (xa 2), .ref (xa 3), .int 0])), ((xa 0), .inl (K 5, 2, .inr (.inr (.inr (.inr (va_up (va_up (fun _ => none) (0 : Int32).toNatClampNeg (some (xa 4))) (1 : Int32).toNatClampNeg (some (xa 5)))))))), ((xa 4), .inr (3, [.int 0, .long (fa &&& 281474976710655), .int 0, .int 0, .int 0, .int 0, .ref (xa 16), .int 0, .long 0, .ref (xa 17), .long 0, .ref (xa 18), .ref (xa 19), .ref (xa 20), .ref (xa 21), .ref (xa 22), .ref (xa 23), .ref (xa 24), .ref (xa 25)])), ((xa 5), .inr (3, [.int 1, .long (sa &&& 281474976710655), .int 0, .int 1, .int 0, .int 0, .ref (xa 58), .int 0, .long 0, .ref (xa 59), .long 0, .ref (xa 60), .ref (xa 61), .ref (xa 62), .ref (xa 63), .ref (xa 64), .ref (xa 65), .ref (xa 66), .ref (xa 67)])), ((xa 24), .inr (4, [.ref (xa 55), .ref (xa 56), .ref (xa 57), .int 0, .int 0, .int 0])), ((xa 66), .inr (4, [.ref (xa 96), .ref (xa 97), .ref (xa 98), .int 0, .int 0, .int 0]))]) (wr := [(hm, .inr (12, fsM q 0 0 0 0 0)), ((q 45), .inl (K 0, 2, .inl (gl [0, 0])))]) (x_completion l D K hx xa xf xg fa sa (zx 3) (zx 4)) gd_law_x_completion_155 rfl rfl rfl (by decide +kernel) ⟨by decide +kernel, by decide +kernel⟩ 0 rfl rfl rfl (sp_pl [0, 1, 2, 3, 4, 5] [6, 7] rfl rfl rfl rfl rfl) rfl rfl (Nat.le_of_ble_eq_true rfl) dL_law_1491 ⟨by decide +kernel, by decide +kernel⟩ (fun r_200 u_198 hp_199 => ?_)
  subst hp_199
  show V _ _ _ _ _ _ _ _ _ _ _ _ _ _ (599, 20555) [(hm, .inr (12, fsM q 0 0 0 0 0)), ((q 45), .inl (K 0, 2, .inl (gl [0, 0])))] _ _ [.int (an_completion (zx 3) (zx 4))]
  show V _ _ _ _ _ _ _ _ _ _ _ _ _ _ (599, 20555) [(hm, .inr (12, fsM q 0 0 0 0 0)), ((q 45), .inl (K 0, 2, .inl (gl [0, 0])))] _ _ _
  refine v_aload_n B dL_law_1494 rfl rfl ?_
  refine v_aload_n B dL_law_1495 rfl rfl ?_
  refine v_iload B dL_law_1496 rfl ?_
  refine v_iconst B (v := 1) dL_law_1498 (by decide +kernel) ?_
  refine v_iadd B (v := 3) dL_law_1499 (by decide +kernel) ?_
  refine v_sld B hz (i := 3) (v := (zx 3)) (vpi (by decide +kernel)) (congrArg zx (by decide +kernel)) dL_law_1500 ?_
  refine v_aload_n B dL_law_1501 rfl rfl ?_
  refine v_iload B dL_law_1502 rfl ?_
  refine v_iconst B (v := 2) dL_law_1504 (by decide +kernel) ?_
  refine v_iadd B (v := 4) dL_law_1505 (by decide +kernel) ?_
  refine v_sld B hz (i := 4) (v := (zx 4)) (vpi (by decide +kernel)) (congrArg zx (by decide +kernel)) dL_law_1506 ?_
  refine v_callVi B (b := hm) (n := 2) (As := [.int (zx 3), .int (zx 4)]) (rest := [.int (an_completion (zx 3) (zx 4))]) (wc := [(hm, .inr (12, fsM q 0 0 0 0 0)), ((q 45), .inl (K 0, 2, .inl (gl [0, 0])))]) (wr := []) (y_completion l D K hm q fa sa (zx 3) (zx 4)) gd_law_y_completion_158 rfl rfl rfl (by decide +kernel) ⟨by decide +kernel, by decide +kernel⟩ 0 rfl rfl rfl (sp_pl [0, 1] [] rfl rfl rfl rfl rfl) rfl rfl (Nat.le_of_ble_eq_true rfl) dL_law_1507 ⟨by decide +kernel, by decide +kernel⟩ (fun r_203 u_201 hp_202 => ?_)
  subst hp_202
  show V _ _ _ _ _ _ _ _ _ _ _ _ _ _ (599, 20555) [] _ _ [.int (an_completion (zx 3) (zx 4)), .int (an_completion (zx 3) (zx 4))]
  show V _ _ _ _ _ _ _ _ _ _ _ _ _ _ (599, 20555) [] _ _ _
  refine v_icmp_eq B (tgt := 1540) dL_law_1510 (by decide +kernel) (fun _ => ?_) (fun h => absurd rfl h)
  refine v_lv [0, 4] rfl ?_
  refine v_widen (k := 600002) (n := 7302198) (by decide +kernel) (by decide +kernel) ?_
  exact kk

set_option maxHeartbeats 4000000 in
set_option maxRecDepth 100000 in
theorem lc_take {p : Program} {l : Launch} {e : Env} {s : State} {m : MethodId} {below : List Frame} {meth : Method} {c : Code} {D : va_G} {A : Nat → Prop} {Q : State → Prop} {zb : Nat} {zx : Nat → Int32} {zs : Nat → Nat} (hl0 : l.stackTraces = false) (K : Nat → ClassId) (hx : Nat) (xa : Nat → Nat) (xf xg : Nat → Option Nat) (fa sa : Int64) (hm : Nat) (q : Nat → Nat) (ho : Nat) (B : Bx p s m #[.ref zb] c cL_law 7 RL lw_tbl D (tysA K) A) (hz : ZL zb 11 zx zs A s s.heap) (kk : V p l e room_1 s m #[.ref zb] below meth c 7 D A Q (600002, 7302198) [] [(4, .int 2), (0, .ref zb)] 1540 []) : V p l e room_1 s m #[.ref zb] below meth c 7 D A Q (599, 20555) (WXM K hx xa xf xg fa sa hm q ho) [(4, .int 2), (3, .ref ho), (2, .ref hm), (1, .ref hx), (0, .ref zb)] 1515 [] := by
  refine v_forget (wc := [(hx, .inr (11, [.ref (xa 0), .ref (xa 1), .ref (xa 2), .ref (xa 3), .int 0])), ((xa 0), .inl (K 5, 2, .inr (.inr (.inr (.inr (va_up (va_up (fun _ => none) (0 : Int32).toNatClampNeg (some (xa 4))) (1 : Int32).toNatClampNeg (some (xa 5)))))))), ((xa 4), .inr (3, [.int 0, .long (fa &&& 281474976710655), .int 0, .int 0, .int 0, .int 0, .ref (xa 16), .int 0, .long 0, .ref (xa 17), .long 0, .ref (xa 18), .ref (xa 19), .ref (xa 20), .ref (xa 21), .ref (xa 22), .ref (xa 23), .ref (xa 24), .ref (xa 25)])), ((xa 5), .inr (3, [.int 1, .long (sa &&& 281474976710655), .int 0, .int 1, .int 0, .int 0, .ref (xa 58), .int 0, .long 0, .ref (xa 59), .long 0, .ref (xa 60), .ref (xa 61), .ref (xa 62), .ref (xa 63), .ref (xa 64), .ref (xa 65), .ref (xa 66), .ref (xa 67)])), ((xa 24), .inr (4, [.ref (xa 55), .ref (xa 56), .ref (xa 57), .int 0, .int 0, .int 0])), ((xa 66), .inr (4, [.ref (xa 96), .ref (xa 97), .ref (xa 98), .int 0, .int 0, .int 0])), (hm, .inr (12, fsM q 0 0 0 0 0)), ((q 45), .inl (K 0, 2, .inl (gl [0, 0])))]) (wr := []) (sp_pl [0, 1, 10, 25, 24, 39, 40, 65] [] rfl rfl rfl rfl rfl) ?_
  refine v_aload_n B dL_law_1515 rfl rfl ?_
  refine v_aload_n B dL_law_1516 rfl rfl ?_
  refine v_iload B dL_law_1517 rfl ?_
  refine v_iconst B (v := 1) dL_law_1519 (by decide +kernel) ?_
  refine v_iadd B (v := 3) dL_law_1520 (by decide +kernel) ?_
  refine v_sld B hz (i := 3) (v := (zx 3)) (vpi (by decide +kernel)) (congrArg zx (by decide +kernel)) dL_law_1521 ?_
  refine v_callVi B (b := hx) (n := 1) (As := [.int (zx 3)]) (rest := []) (wc := [(hx, .inr (11, [.ref (xa 0), .ref (xa 1), .ref (xa 2), .ref (xa 3), .int 0])), ((xa 0), .inl (K 5, 2, .inr (.inr (.inr (.inr (va_up (va_up (fun _ => none) (0 : Int32).toNatClampNeg (some (xa 4))) (1 : Int32).toNatClampNeg (some (xa 5)))))))), ((xa 4), .inr (3, [.int 0, .long (fa &&& 281474976710655), .int 0, .int 0, .int 0, .int 0, .ref (xa 16), .int 0, .long 0, .ref (xa 17), .long 0, .ref (xa 18), .ref (xa 19), .ref (xa 20), .ref (xa 21), .ref (xa 22), .ref (xa 23), .ref (xa 24), .ref (xa 25)])), ((xa 5), .inr (3, [.int 1, .long (sa &&& 281474976710655), .int 0, .int 1, .int 0, .int 0, .ref (xa 58), .int 0, .long 0, .ref (xa 59), .long 0, .ref (xa 60), .ref (xa 61), .ref (xa 62), .ref (xa 63), .ref (xa 64), .ref (xa 65), .ref (xa 66), .ref (xa 67)])), ((xa 24), .inr (4, [.ref (xa 55), .ref (xa 56), .ref (xa 57), .int 0, .int 0, .int 0])), ((xa 66), .inr (4, [.ref (xa 96), .ref (xa 97), .ref (xa 98), .int 0, .int 0, .int 0]))]) (wr := [(hm, .inr (12, fsM q 0 0 0 0 0)), ((q 45), .inl (K 0, 2, .inl (gl [0, 0])))]) (x_take l D K hx xa xf xg fa sa (zx 3)) gd_law_x_take_159 rfl rfl rfl (by decide +kernel) ⟨by decide +kernel, by decide +kernel⟩ 0 rfl rfl rfl (sp_pl [0, 1, 2, 3, 4, 5] [6, 7] rfl rfl rfl rfl rfl) rfl rfl (Nat.le_of_ble_eq_true rfl) dL_law_1522 ⟨by decide +kernel, by decide +kernel⟩ (fun r_206 u_204 hp_205 => ?_)
  subst hp_205
  show V _ _ _ _ _ _ _ _ _ _ _ _ _ _ (599, 20555) [(hm, .inr (12, fsM q 0 0 0 0 0)), ((q 45), .inl (K 0, 2, .inl (gl [0, 0])))] _ _ [.int (an_take (zx 3))]
  show V _ _ _ _ _ _ _ _ _ _ _ _ _ _ (599, 20555) [(hm, .inr (12, fsM q 0 0 0 0 0)), ((q 45), .inl (K 0, 2, .inl (gl [0, 0])))] _ _ _
  refine v_aload_n B dL_law_1525 rfl rfl ?_
  refine v_aload_n B dL_law_1526 rfl rfl ?_
  refine v_iload B dL_law_1527 rfl ?_
  refine v_iconst B (v := 1) dL_law_1529 (by decide +kernel) ?_
  refine v_iadd B (v := 3) dL_law_1530 (by decide +kernel) ?_
  refine v_sld B hz (i := 3) (v := (zx 3)) (vpi (by decide +kernel)) (congrArg zx (by decide +kernel)) dL_law_1531 ?_
  refine v_callVi B (b := hm) (n := 1) (As := [.int (zx 3)]) (rest := [.int (an_take (zx 3))]) (wc := [(hm, .inr (12, fsM q 0 0 0 0 0)), ((q 45), .inl (K 0, 2, .inl (gl [0, 0])))]) (wr := []) (y_take l D K hm q fa sa (zx 3)) gd_law_y_take_162 rfl rfl rfl (by decide +kernel) ⟨by decide +kernel, by decide +kernel⟩ 0 rfl rfl rfl (sp_pl [0, 1] [] rfl rfl rfl rfl rfl) rfl rfl (Nat.le_of_ble_eq_true rfl) dL_law_1532 ⟨by decide +kernel, by decide +kernel⟩ (fun r_209 u_207 hp_208 => ?_)
  subst hp_208
  show V _ _ _ _ _ _ _ _ _ _ _ _ _ _ (599, 20555) [] _ _ [.int (an_take (zx 3)), .int (an_take (zx 3))]
  show V _ _ _ _ _ _ _ _ _ _ _ _ _ _ (599, 20555) [] _ _ _
  refine v_icmp_eq B (tgt := 1540) dL_law_1535 (by decide +kernel) (fun _ => ?_) (fun h => absurd rfl h)
  refine v_lv [0, 4] rfl ?_
  refine v_widen (k := 600002) (n := 7302198) (by decide +kernel) (by decide +kernel) ?_
  exact kk

