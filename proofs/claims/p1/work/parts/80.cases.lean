set_option maxHeartbeats 4000000 in
set_option maxRecDepth 100000 in
theorem lc_feed {p : Program} {l : Launch} {e : Env} {s : State} {m : MethodId} {below : List Frame} {meth : Method} {c : Code} {D : va_G} {A : Nat → Prop} {Q : State → Prop} {zb : Nat} {zx : Nat → Int32} {zs : Nat → Nat} (hl0 : l.stackTraces = false) (K : Nat → ClassId) (hx : Nat) (xa : Nat → Nat) (xf xg : Nat → Option Nat) (fa sa : Int64) (hm : Nat) (q : Nat → Nat) (ho : Nat) (B : Bx p s m #[.ref zb] c cL_law 7 RL lw_tbl D (tysA K) A) (hz : ZL zb 11 zx zs A s s.heap) (kk : V p l e room_1 s m #[.ref zb] below meth c 7 D A Q (600002, 7302198) [] [(4, .int 2), (0, .ref zb)] 1540 []) : V p l e room_1 s m #[.ref zb] below meth c 7 D A Q (599, 20555) (WXM K hx xa xf xg fa sa hm q ho) [(4, .int 2), (3, .ref ho), (2, .ref hm), (1, .ref hx), (0, .ref zb)] 192 [] := by
  refine v_forget (wc := [(hx, .inr (11, [.ref (xa 0), .ref (xa 1), .ref (xa 2), .ref (xa 3), .int 0])), ((xa 2), .inr (9, [.ref (xa 15), .int 0])), ((xa 15), .inl (K 0, 100, .inl (fun _ => 0))), (hm, .inr (12, fsM q 0 0 0 0 0)), ((q 1), .inl (K 2, 100, .inl (fun _ => 0)))]) (wr := []) (sp_pl [0, 8, 9, 40, 43] [] rfl rfl rfl rfl rfl) ?_
  refine v_aload_n B dL_law_192 rfl rfl ?_
  refine v_aload_n B dL_law_193 rfl rfl ?_
  refine v_iload B dL_law_194 rfl ?_
  refine v_iconst B (v := 1) dL_law_196 (by decide +kernel) ?_
  refine v_iadd B (v := 3) dL_law_197 (by decide +kernel) ?_
  refine v_sld B hz (i := 3) (v := (zx 3)) (vpi (by decide +kernel)) (congrArg zx (by decide +kernel)) dL_law_198 ?_
  refine v_aload_n B dL_law_199 rfl rfl ?_
  refine v_iload B dL_law_200 rfl ?_
  refine v_iconst B (v := 2) dL_law_202 (by decide +kernel) ?_
  refine v_iadd B (v := 4) dL_law_203 (by decide +kernel) ?_
  refine v_sld B hz (i := 4) (v := (zx 4)) (vpi (by decide +kernel)) (congrArg zx (by decide +kernel)) dL_law_204 ?_
  refine v_aload_n B dL_law_205 rfl rfl ?_
  refine v_iload B dL_law_206 rfl ?_
  refine v_iconst B (v := 3) dL_law_208 (by decide +kernel) ?_
  refine v_iadd B (v := 5) dL_law_209 (by decide +kernel) ?_
  refine v_sld B hz (i := 5) (v := (zx 5)) (vpi (by decide +kernel)) (congrArg zx (by decide +kernel)) dL_law_210 ?_
  refine v_aload_n B dL_law_211 rfl rfl ?_
  refine v_iload B dL_law_212 rfl ?_
  refine v_iconst B (v := 4) dL_law_214 (by decide +kernel) ?_
  refine v_iadd B (v := 6) dL_law_215 (by decide +kernel) ?_
  refine v_sld B hz (i := 6) (v := (zx 6)) (vpi (by decide +kernel)) (congrArg zx (by decide +kernel)) dL_law_216 ?_
  refine v_aload_n B dL_law_217 rfl rfl ?_
  refine v_iload B dL_law_218 rfl ?_
  refine v_iconst B (v := 5) dL_law_220 (by decide +kernel) ?_
  refine v_iadd B (v := 7) dL_law_221 (by decide +kernel) ?_
  refine v_sld B hz (i := 7) (v := (zx 7)) (vpi (by decide +kernel)) (congrArg zx (by decide +kernel)) dL_law_222 ?_
  refine v_callVi B (b := hx) (n := 5) (As := [.int (zx 3), .int (zx 4), .int (zx 5), .int (zx 6), .int (zx 7)]) (rest := []) (wc := [(hx, .inr (11, [.ref (xa 0), .ref (xa 1), .ref (xa 2), .ref (xa 3), .int 0])), ((xa 2), .inr (9, [.ref (xa 15), .int 0])), ((xa 15), .inl (K 0, 100, .inl (fun _ => 0)))]) (wr := [(hm, .inr (12, fsM q 0 0 0 0 0)), ((q 1), .inl (K 2, 100, .inl (fun _ => 0)))]) (x_feed l D K hx xa xf xg fa sa (zx 3) (zx 4) (zx 5) (zx 6) (zx 7)) gd_law_x_feed_37 rfl rfl rfl (by decide +kernel) ⟨by decide +kernel, by decide +kernel⟩ 0 rfl rfl rfl (sp_pl [0, 1, 2] [3, 4] rfl rfl rfl rfl rfl) rfl rfl (Nat.le_of_ble_eq_true rfl) dL_law_223 ⟨by decide +kernel, by decide +kernel⟩ (fun r_25 u_23 hp_24 => ?_)
  subst hp_24
  show V _ _ _ _ _ _ _ _ _ _ _ _ _ _ (599, 20555) [(hm, .inr (12, fsM q 0 0 0 0 0)), ((q 1), .inl (K 2, 100, .inl (fun _ => 0)))] _ _ [.int (an_feed (zx 3) (zx 4) (zx 5) (zx 6) (zx 7))]
  show V _ _ _ _ _ _ _ _ _ _ _ _ _ _ (599, 20555) [(hm, .inr (12, fsM q 0 0 0 0 0)), ((q 1), .inl (K 2, 100, .inl (fun _ => 0)))] _ _ _
  refine v_aload_n B dL_law_226 rfl rfl ?_
  refine v_aload_n B dL_law_227 rfl rfl ?_
  refine v_iload B dL_law_228 rfl ?_
  refine v_iconst B (v := 1) dL_law_230 (by decide +kernel) ?_
  refine v_iadd B (v := 3) dL_law_231 (by decide +kernel) ?_
  refine v_sld B hz (i := 3) (v := (zx 3)) (vpi (by decide +kernel)) (congrArg zx (by decide +kernel)) dL_law_232 ?_
  refine v_aload_n B dL_law_233 rfl rfl ?_
  refine v_iload B dL_law_234 rfl ?_
  refine v_iconst B (v := 2) dL_law_236 (by decide +kernel) ?_
  refine v_iadd B (v := 4) dL_law_237 (by decide +kernel) ?_
  refine v_sld B hz (i := 4) (v := (zx 4)) (vpi (by decide +kernel)) (congrArg zx (by decide +kernel)) dL_law_238 ?_
  refine v_aload_n B dL_law_239 rfl rfl ?_
  refine v_iload B dL_law_240 rfl ?_
  refine v_iconst B (v := 3) dL_law_242 (by decide +kernel) ?_
  refine v_iadd B (v := 5) dL_law_243 (by decide +kernel) ?_
  refine v_sld B hz (i := 5) (v := (zx 5)) (vpi (by decide +kernel)) (congrArg zx (by decide +kernel)) dL_law_244 ?_
  refine v_aload_n B dL_law_245 rfl rfl ?_
  refine v_iload B dL_law_246 rfl ?_
  refine v_iconst B (v := 4) dL_law_248 (by decide +kernel) ?_
  refine v_iadd B (v := 6) dL_law_249 (by decide +kernel) ?_
  refine v_sld B hz (i := 6) (v := (zx 6)) (vpi (by decide +kernel)) (congrArg zx (by decide +kernel)) dL_law_250 ?_
  refine v_aload_n B dL_law_251 rfl rfl ?_
  refine v_iload B dL_law_252 rfl ?_
  refine v_iconst B (v := 5) dL_law_254 (by decide +kernel) ?_
  refine v_iadd B (v := 7) dL_law_255 (by decide +kernel) ?_
  refine v_sld B hz (i := 7) (v := (zx 7)) (vpi (by decide +kernel)) (congrArg zx (by decide +kernel)) dL_law_256 ?_
  refine v_callVi B (b := hm) (n := 5) (As := [.int (zx 3), .int (zx 4), .int (zx 5), .int (zx 6), .int (zx 7)]) (rest := [.int (an_feed (zx 3) (zx 4) (zx 5) (zx 6) (zx 7))]) (wc := [(hm, .inr (12, fsM q 0 0 0 0 0)), ((q 1), .inl (K 2, 100, .inl (fun _ => 0)))]) (wr := []) (y_feed l D K hm q fa sa (zx 3) (zx 4) (zx 5) (zx 6) (zx 7)) gd_law_y_feed_41 rfl rfl rfl (by decide +kernel) ⟨by decide +kernel, by decide +kernel⟩ 0 rfl rfl rfl (sp_pl [0, 1] [] rfl rfl rfl rfl rfl) rfl rfl (Nat.le_of_ble_eq_true rfl) dL_law_257 ⟨by decide +kernel, by decide +kernel⟩ (fun r_28 u_26 hp_27 => ?_)
  subst hp_27
  show V _ _ _ _ _ _ _ _ _ _ _ _ _ _ (599, 20555) [] _ _ [.int (an_feed (zx 3) (zx 4) (zx 5) (zx 6) (zx 7)), .int (an_feed (zx 3) (zx 4) (zx 5) (zx 6) (zx 7))]
  show V _ _ _ _ _ _ _ _ _ _ _ _ _ _ (599, 20555) [] _ _ _
  refine v_icmp_eq B (tgt := 1540) dL_law_260 (by decide +kernel) (fun _ => ?_) (fun h => absurd rfl h)
  refine v_lv [0, 4] rfl ?_
  refine v_widen (k := 600002) (n := 7302198) (by decide +kernel) (by decide +kernel) ?_
  exact kk

set_option maxHeartbeats 4000000 in
set_option maxRecDepth 100000 in
theorem lc_end {p : Program} {l : Launch} {e : Env} {s : State} {m : MethodId} {below : List Frame} {meth : Method} {c : Code} {D : va_G} {A : Nat → Prop} {Q : State → Prop} {zb : Nat} {zx : Nat → Int32} {zs : Nat → Nat} (hl0 : l.stackTraces = false) (K : Nat → ClassId) (hx : Nat) (xa : Nat → Nat) (xf xg : Nat → Option Nat) (fa sa : Int64) (hm : Nat) (q : Nat → Nat) (ho : Nat) (B : Bx p s m #[.ref zb] c cL_law 7 RL lw_tbl D (tysA K) A) (hz : ZL zb 11 zx zs A s s.heap) (kk : V p l e room_1 s m #[.ref zb] below meth c 7 D A Q (600002, 7302198) [] [(4, .int 2), (0, .ref zb)] 1540 []) : V p l e room_1 s m #[.ref zb] below meth c 7 D A Q (599, 20555) (WXM K hx xa xf xg fa sa hm q ho) [(4, .int 2), (3, .ref ho), (2, .ref hm), (1, .ref hx), (0, .ref zb)] 265 [] := by
  refine v_forget (wc := [(hx, .inr (11, [.ref (xa 0), .ref (xa 1), .ref (xa 2), .ref (xa 3), .int 0])), ((xa 2), .inr (9, [.ref (xa 15), .int 0])), ((xa 15), .inl (K 0, 100, .inl (fun _ => 0))), (hm, .inr (12, fsM q 0 0 0 0 0))]) (wr := []) (sp_pl [0, 8, 9, 40] [] rfl rfl rfl rfl rfl) ?_
  refine v_aload_n B dL_law_265 rfl rfl ?_
  refine v_aload_n B dL_law_266 rfl rfl ?_
  refine v_iload B dL_law_267 rfl ?_
  refine v_iconst B (v := 1) dL_law_269 (by decide +kernel) ?_
  refine v_iadd B (v := 3) dL_law_270 (by decide +kernel) ?_
  refine v_sld B hz (i := 3) (v := (zx 3)) (vpi (by decide +kernel)) (congrArg zx (by decide +kernel)) dL_law_271 ?_
  refine v_callVi B (b := hx) (n := 1) (As := [.int (zx 3)]) (rest := []) (wc := [(hx, .inr (11, [.ref (xa 0), .ref (xa 1), .ref (xa 2), .ref (xa 3), .int 0])), ((xa 2), .inr (9, [.ref (xa 15), .int 0])), ((xa 15), .inl (K 0, 100, .inl (fun _ => 0)))]) (wr := [(hm, .inr (12, fsM q 0 0 0 0 0))]) (x_end l D K hx xa xf xg fa sa (zx 3)) gd_law_x_end_42 rfl rfl rfl (by decide +kernel) ⟨by decide +kernel, by decide +kernel⟩ 0 rfl rfl rfl (sp_pl [0, 1, 2] [3] rfl rfl rfl rfl rfl) rfl rfl (Nat.le_of_ble_eq_true rfl) dL_law_272 ⟨by decide +kernel, by decide +kernel⟩ (fun r_31 u_29 hp_30 => ?_)
  subst hp_30
  show V _ _ _ _ _ _ _ _ _ _ _ _ _ _ (599, 20555) [(hm, .inr (12, fsM q 0 0 0 0 0))] _ _ [.int (an_end (zx 3))]
  show V _ _ _ _ _ _ _ _ _ _ _ _ _ _ (599, 20555) [(hm, .inr (12, fsM q 0 0 0 0 0))] _ _ _
  refine v_aload_n B dL_law_275 rfl rfl ?_
  refine v_aload_n B dL_law_276 rfl rfl ?_
  refine v_iload B dL_law_277 rfl ?_
  refine v_iconst B (v := 1) dL_law_279 (by decide +kernel) ?_
  refine v_iadd B (v := 3) dL_law_280 (by decide +kernel) ?_
  refine v_sld B hz (i := 3) (v := (zx 3)) (vpi (by decide +kernel)) (congrArg zx (by decide +kernel)) dL_law_281 ?_
  refine v_callVi B (b := hm) (n := 1) (As := [.int (zx 3)]) (rest := [.int (an_end (zx 3))]) (wc := [(hm, .inr (12, fsM q 0 0 0 0 0))]) (wr := []) (y_end l D K hm q fa sa (zx 3)) gd_law_y_end_45 rfl rfl rfl (by decide +kernel) ⟨by decide +kernel, by decide +kernel⟩ 0 rfl rfl rfl (sp_pl [0] [] rfl rfl rfl rfl rfl) rfl rfl (Nat.le_of_ble_eq_true rfl) dL_law_282 ⟨by decide +kernel, by decide +kernel⟩ (fun r_34 u_32 hp_33 => ?_)
  subst hp_33
  show V _ _ _ _ _ _ _ _ _ _ _ _ _ _ (599, 20555) [] _ _ [.int (an_end (zx 3)), .int (an_end (zx 3))]
  show V _ _ _ _ _ _ _ _ _ _ _ _ _ _ (599, 20555) [] _ _ _
  refine v_icmp_eq B (tgt := 1540) dL_law_285 (by decide +kernel) (fun _ => ?_) (fun h => absurd rfl h)
  refine v_lv [0, 4] rfl ?_
  refine v_widen (k := 600002) (n := 7302198) (by decide +kernel) (by decide +kernel) ?_
  exact kk

set_option maxHeartbeats 4000000 in
set_option maxRecDepth 100000 in
theorem lc_seed {p : Program} {l : Launch} {e : Env} {s : State} {m : MethodId} {below : List Frame} {meth : Method} {c : Code} {D : va_G} {A : Nat → Prop} {Q : State → Prop} {zb : Nat} {zx : Nat → Int32} {zs : Nat → Nat} (hl0 : l.stackTraces = false) (K : Nat → ClassId) (hx : Nat) (xa : Nat → Nat) (xf xg : Nat → Option Nat) (fa sa : Int64) (hm : Nat) (q : Nat → Nat) (ho : Nat) (B : Bx p s m #[.ref zb] c cL_law 7 RL lw_tbl D (tysA K) A) (hz : ZL zb 11 zx zs A s s.heap) (kk : V p l e room_1 s m #[.ref zb] below meth c 7 D A Q (600002, 7302198) [] [(4, .int 2), (0, .ref zb)] 1540 []) : V p l e room_1 s m #[.ref zb] below meth c 7 D A Q (599, 20555) (WXM K hx xa xf xg fa sa hm q ho) [(4, .int 2), (3, .ref ho), (2, .ref hm), (1, .ref hx), (0, .ref zb)] 290 [] := by
  refine v_forget (wc := [(hx, .inr (11, [.ref (xa 0), .ref (xa 1), .ref (xa 2), .ref (xa 3), .int 0])), ((xa 0), .inl (K 5, 2, .inr (.inr (.inr (.inr (va_up (va_up (fun _ => none) (0 : Int32).toNatClampNeg (some (xa 4))) (1 : Int32).toNatClampNeg (some (xa 5)))))))), ((xa 4), .inr (3, [.int 0, .long (fa &&& 281474976710655), .int 0, .int 0, .int 0, .int 0, .ref (xa 16), .int 0, .long 0, .ref (xa 17), .long 0, .ref (xa 18), .ref (xa 19), .ref (xa 20), .ref (xa 21), .ref (xa 22), .ref (xa 23), .ref (xa 24), .ref (xa 25)])), ((xa 5), .inr (3, [.int 1, .long (sa &&& 281474976710655), .int 0, .int 1, .int 0, .int 0, .ref (xa 58), .int 0, .long 0, .ref (xa 59), .long 0, .ref (xa 60), .ref (xa 61), .ref (xa 62), .ref (xa 63), .ref (xa 64), .ref (xa 65), .ref (xa 66), .ref (xa 67)])), (hm, .inr (12, fsM q 0 0 0 0 0)), ((q 8), .inl (K 0, 2, .inl (gl [0, 1])))]) (wr := []) (sp_pl [0, 1, 10, 25, 40, 42] [] rfl rfl rfl rfl rfl) ?_
  refine v_aload_n B dL_law_290 rfl rfl ?_
  refine v_aload_n B dL_law_291 rfl rfl ?_
  refine v_iload B dL_law_292 rfl ?_
  refine v_iconst B (v := 1) dL_law_294 (by decide +kernel) ?_
  refine v_iadd B (v := 3) dL_law_295 (by decide +kernel) ?_
  refine v_sld B hz (i := 3) (v := (zx 3)) (vpi (by decide +kernel)) (congrArg zx (by decide +kernel)) dL_law_296 ?_
  refine v_aload_n B dL_law_297 rfl rfl ?_
  refine v_iload B dL_law_298 rfl ?_
  refine v_iconst B (v := 2) dL_law_300 (by decide +kernel) ?_
  refine v_iadd B (v := 4) dL_law_301 (by decide +kernel) ?_
  refine v_sld B hz (i := 4) (v := (zx 4)) (vpi (by decide +kernel)) (congrArg zx (by decide +kernel)) dL_law_302 ?_
  refine v_callVi B (b := hx) (n := 2) (As := [.int (zx 3), .int (zx 4)]) (rest := []) (wc := [(hx, .inr (11, [.ref (xa 0), .ref (xa 1), .ref (xa 2), .ref (xa 3), .int 0])), ((xa 0), .inl (K 5, 2, .inr (.inr (.inr (.inr (va_up (va_up (fun _ => none) (0 : Int32).toNatClampNeg (some (xa 4))) (1 : Int32).toNatClampNeg (some (xa 5)))))))), ((xa 4), .inr (3, [.int 0, .long (fa &&& 281474976710655), .int 0, .int 0, .int 0, .int 0, .ref (xa 16), .int 0, .long 0, .ref (xa 17), .long 0, .ref (xa 18), .ref (xa 19), .ref (xa 20), .ref (xa 21), .ref (xa 22), .ref (xa 23), .ref (xa 24), .ref (xa 25)])), ((xa 5), .inr (3, [.int 1, .long (sa &&& 281474976710655), .int 0, .int 1, .int 0, .int 0, .ref (xa 58), .int 0, .long 0, .ref (xa 59), .long 0, .ref (xa 60), .ref (xa 61), .ref (xa 62), .ref (xa 63), .ref (xa 64), .ref (xa 65), .ref (xa 66), .ref (xa 67)]))]) (wr := [(hm, .inr (12, fsM q 0 0 0 0 0)), ((q 8), .inl (K 0, 2, .inl (gl [0, 1])))]) (x_seed l D K hx xa xf xg fa sa (zx 3) (zx 4)) gd_law_x_seed_46 rfl rfl rfl (by decide +kernel) ⟨by decide +kernel, by decide +kernel⟩ 0 rfl rfl rfl (sp_pl [0, 1, 2, 3] [4, 5] rfl rfl rfl rfl rfl) rfl rfl (Nat.le_of_ble_eq_true rfl) dL_law_303 ⟨by decide +kernel, by decide +kernel⟩ (fun r_37 u_35 hp_36 => ?_)
  subst hp_36
  show V _ _ _ _ _ _ _ _ _ _ _ _ _ _ (599, 20555) [(hm, .inr (12, fsM q 0 0 0 0 0)), ((q 8), .inl (K 0, 2, .inl (gl [0, 1])))] _ _ [.int (an_seed (zx 3) (zx 4))]
  show V _ _ _ _ _ _ _ _ _ _ _ _ _ _ (599, 20555) [(hm, .inr (12, fsM q 0 0 0 0 0)), ((q 8), .inl (K 0, 2, .inl (gl [0, 1])))] _ _ _
  refine v_aload_n B dL_law_306 rfl rfl ?_
  refine v_aload_n B dL_law_307 rfl rfl ?_
  refine v_iload B dL_law_308 rfl ?_
  refine v_iconst B (v := 1) dL_law_310 (by decide +kernel) ?_
  refine v_iadd B (v := 3) dL_law_311 (by decide +kernel) ?_
  refine v_sld B hz (i := 3) (v := (zx 3)) (vpi (by decide +kernel)) (congrArg zx (by decide +kernel)) dL_law_312 ?_
  refine v_aload_n B dL_law_313 rfl rfl ?_
  refine v_iload B dL_law_314 rfl ?_
  refine v_iconst B (v := 2) dL_law_316 (by decide +kernel) ?_
  refine v_iadd B (v := 4) dL_law_317 (by decide +kernel) ?_
  refine v_sld B hz (i := 4) (v := (zx 4)) (vpi (by decide +kernel)) (congrArg zx (by decide +kernel)) dL_law_318 ?_
  refine v_callVi B (b := hm) (n := 2) (As := [.int (zx 3), .int (zx 4)]) (rest := [.int (an_seed (zx 3) (zx 4))]) (wc := [(hm, .inr (12, fsM q 0 0 0 0 0)), ((q 8), .inl (K 0, 2, .inl (gl [0, 1])))]) (wr := []) (y_seed l D K hm q fa sa (zx 3) (zx 4)) gd_law_y_seed_50 rfl rfl rfl (by decide +kernel) ⟨by decide +kernel, by decide +kernel⟩ 0 rfl rfl rfl (sp_pl [0, 1] [] rfl rfl rfl rfl rfl) rfl rfl (Nat.le_of_ble_eq_true rfl) dL_law_319 ⟨by decide +kernel, by decide +kernel⟩ (fun r_40 u_38 hp_39 => ?_)
  subst hp_39
  show V _ _ _ _ _ _ _ _ _ _ _ _ _ _ (599, 20555) [] _ _ [.int (an_seed (zx 3) (zx 4)), .int (an_seed (zx 3) (zx 4))]
  show V _ _ _ _ _ _ _ _ _ _ _ _ _ _ (599, 20555) [] _ _ _
  refine v_icmp_eq B (tgt := 1540) dL_law_322 (by decide +kernel) (fun _ => ?_) (fun h => absurd rfl h)
  refine v_lv [0, 4] rfl ?_
  refine v_widen (k := 600002) (n := 7302198) (by decide +kernel) (by decide +kernel) ?_
  exact kk

set_option maxHeartbeats 4000000 in
set_option maxRecDepth 100000 in
theorem lc_advertise {p : Program} {l : Launch} {e : Env} {s : State} {m : MethodId} {below : List Frame} {meth : Method} {c : Code} {D : va_G} {A : Nat → Prop} {Q : State → Prop} {zb : Nat} {zx : Nat → Int32} {zs : Nat → Nat} (hl0 : l.stackTraces = false) (K : Nat → ClassId) (hx : Nat) (xa : Nat → Nat) (xf xg : Nat → Option Nat) (fa sa : Int64) (hm : Nat) (q : Nat → Nat) (ho : Nat) (B : Bx p s m #[.ref zb] c cL_law 7 RL lw_tbl D (tysA K) A) (hz : ZL zb 11 zx zs A s s.heap) (kk : V p l e room_1 s m #[.ref zb] below meth c 7 D A Q (600002, 7302198) [] [(4, .int 2), (0, .ref zb)] 1540 []) : V p l e room_1 s m #[.ref zb] below meth c 7 D A Q (599, 20555) (WXM K hx xa xf xg fa sa hm q ho) [(4, .int 2), (3, .ref ho), (2, .ref hm), (1, .ref hx), (0, .ref zb)] 327 [] := by
  refine v_forget (wc := [(hx, .inr (11, [.ref (xa 0), .ref (xa 1), .ref (xa 2), .ref (xa 3), .int 0])), ((xa 0), .inl (K 5, 2, .inr (.inr (.inr (.inr (va_up (va_up (fun _ => none) (0 : Int32).toNatClampNeg (some (xa 4))) (1 : Int32).toNatClampNeg (some (xa 5)))))))), ((xa 4), .inr (3, [.int 0, .long (fa &&& 281474976710655), .int 0, .int 0, .int 0, .int 0, .ref (xa 16), .int 0, .long 0, .ref (xa 17), .long 0, .ref (xa 18), .ref (xa 19), .ref (xa 20), .ref (xa 21), .ref (xa 22), .ref (xa 23), .ref (xa 24), .ref (xa 25)])), ((xa 5), .inr (3, [.int 1, .long (sa &&& 281474976710655), .int 0, .int 1, .int 0, .int 0, .ref (xa 58), .int 0, .long 0, .ref (xa 59), .long 0, .ref (xa 60), .ref (xa 61), .ref (xa 62), .ref (xa 63), .ref (xa 64), .ref (xa 65), .ref (xa 66), .ref (xa 67)])), ((xa 16), .inr (9, [.ref (xa 26), .int 0])), ((xa 58), .inr (9, [.ref (xa 68), .int 0])), ((xa 2), .inr (9, [.ref (xa 15), .int 0])), (hm, .inr (12, fsM q 0 0 0 0 0)), ((q 7), .inl (K 0, 2, .inl (gl [0, 0]))), ((q 9), .inl (K 0, 2, .inl (gl [0, 0]))), ((q 10), .inl (K 0, 2, .inl (gl [0, 0]))), ((q 11), .inl (K 0, 2, .inl (gl [0, 0])))]) (wr := []) (sp_pl [0, 1, 10, 25, 11, 26, 8, 40, 41, 44, 45, 46] [] rfl rfl rfl rfl rfl) ?_
  refine v_aload_n B dL_law_327 rfl rfl ?_
  refine v_aload_n B dL_law_328 rfl rfl ?_
  refine v_iload B dL_law_329 rfl ?_
  refine v_iconst B (v := 1) dL_law_331 (by decide +kernel) ?_
  refine v_iadd B (v := 3) dL_law_332 (by decide +kernel) ?_
  refine v_sld B hz (i := 3) (v := (zx 3)) (vpi (by decide +kernel)) (congrArg zx (by decide +kernel)) dL_law_333 ?_
  refine v_aload_n B dL_law_334 rfl rfl ?_
  refine v_iload B dL_law_335 rfl ?_
  refine v_iconst B (v := 2) dL_law_337 (by decide +kernel) ?_
  refine v_iadd B (v := 4) dL_law_338 (by decide +kernel) ?_
  refine v_sld B hz (i := 4) (v := (zx 4)) (vpi (by decide +kernel)) (congrArg zx (by decide +kernel)) dL_law_339 ?_
  refine v_callVi B (b := hx) (n := 2) (As := [.int (zx 3), .int (zx 4)]) (rest := []) (wc := [(hx, .inr (11, [.ref (xa 0), .ref (xa 1), .ref (xa 2), .ref (xa 3), .int 0])), ((xa 0), .inl (K 5, 2, .inr (.inr (.inr (.inr (va_up (va_up (fun _ => none) (0 : Int32).toNatClampNeg (some (xa 4))) (1 : Int32).toNatClampNeg (some (xa 5)))))))), ((xa 4), .inr (3, [.int 0, .long (fa &&& 281474976710655), .int 0, .int 0, .int 0, .int 0, .ref (xa 16), .int 0, .long 0, .ref (xa 17), .long 0, .ref (xa 18), .ref (xa 19), .ref (xa 20), .ref (xa 21), .ref (xa 22), .ref (xa 23), .ref (xa 24), .ref (xa 25)])), ((xa 5), .inr (3, [.int 1, .long (sa &&& 281474976710655), .int 0, .int 1, .int 0, .int 0, .ref (xa 58), .int 0, .long 0, .ref (xa 59), .long 0, .ref (xa 60), .ref (xa 61), .ref (xa 62), .ref (xa 63), .ref (xa 64), .ref (xa 65), .ref (xa 66), .ref (xa 67)])), ((xa 16), .inr (9, [.ref (xa 26), .int 0])), ((xa 58), .inr (9, [.ref (xa 68), .int 0])), ((xa 2), .inr (9, [.ref (xa 15), .int 0]))]) (wr := [(hm, .inr (12, fsM q 0 0 0 0 0)), ((q 7), .inl (K 0, 2, .inl (gl [0, 0]))), ((q 9), .inl (K 0, 2, .inl (gl [0, 0]))), ((q 10), .inl (K 0, 2, .inl (gl [0, 0]))), ((q 11), .inl (K 0, 2, .inl (gl [0, 0])))]) (x_advertise l D K hx xa xf xg fa sa (zx 3) (zx 4)) gd_law_x_advertise_51 rfl rfl rfl (by decide +kernel) ⟨by decide +kernel, by decide +kernel⟩ 0 rfl rfl rfl (sp_pl [0, 1, 2, 3, 4, 5, 6] [7, 8, 9, 10, 11] rfl rfl rfl rfl rfl) rfl rfl (Nat.le_of_ble_eq_true rfl) dL_law_340 ⟨by decide +kernel, by decide +kernel⟩ (fun r_43 u_41 hp_42 => ?_)
  subst hp_42
  show V _ _ _ _ _ _ _ _ _ _ _ _ _ _ (599, 20555) [(hm, .inr (12, fsM q 0 0 0 0 0)), ((q 7), .inl (K 0, 2, .inl (gl [0, 0]))), ((q 9), .inl (K 0, 2, .inl (gl [0, 0]))), ((q 10), .inl (K 0, 2, .inl (gl [0, 0]))), ((q 11), .inl (K 0, 2, .inl (gl [0, 0])))] _ _ [.int (an_advertise (zx 3) (zx 4))]
  show V _ _ _ _ _ _ _ _ _ _ _ _ _ _ (599, 20555) [(hm, .inr (12, fsM q 0 0 0 0 0)), ((q 7), .inl (K 0, 2, .inl (gl [0, 0]))), ((q 9), .inl (K 0, 2, .inl (gl [0, 0]))), ((q 10), .inl (K 0, 2, .inl (gl [0, 0]))), ((q 11), .inl (K 0, 2, .inl (gl [0, 0])))] _ _ _
  refine v_aload_n B dL_law_343 rfl rfl ?_
  refine v_aload_n B dL_law_344 rfl rfl ?_
  refine v_iload B dL_law_345 rfl ?_
  refine v_iconst B (v := 1) dL_law_347 (by decide +kernel) ?_
  refine v_iadd B (v := 3) dL_law_348 (by decide +kernel) ?_
  refine v_sld B hz (i := 3) (v := (zx 3)) (vpi (by decide +kernel)) (congrArg zx (by decide +kernel)) dL_law_349 ?_
  refine v_aload_n B dL_law_350 rfl rfl ?_
  refine v_iload B dL_law_351 rfl ?_
  refine v_iconst B (v := 2) dL_law_353 (by decide +kernel) ?_
  refine v_iadd B (v := 4) dL_law_354 (by decide +kernel) ?_
  refine v_sld B hz (i := 4) (v := (zx 4)) (vpi (by decide +kernel)) (congrArg zx (by decide +kernel)) dL_law_355 ?_
  refine v_callVi B (b := hm) (n := 2) (As := [.int (zx 3), .int (zx 4)]) (rest := [.int (an_advertise (zx 3) (zx 4))]) (wc := [(hm, .inr (12, fsM q 0 0 0 0 0)), ((q 7), .inl (K 0, 2, .inl (gl [0, 0]))), ((q 9), .inl (K 0, 2, .inl (gl [0, 0]))), ((q 10), .inl (K 0, 2, .inl (gl [0, 0]))), ((q 11), .inl (K 0, 2, .inl (gl [0, 0])))]) (wr := []) (y_advertise l D K hm q fa sa (zx 3) (zx 4)) gd_law_y_advertise_54 rfl rfl rfl (by decide +kernel) ⟨by decide +kernel, by decide +kernel⟩ 0 rfl rfl rfl (sp_pl [0, 1, 2, 3, 4] [] rfl rfl rfl rfl rfl) rfl rfl (Nat.le_of_ble_eq_true rfl) dL_law_356 ⟨by decide +kernel, by decide +kernel⟩ (fun r_46 u_44 hp_45 => ?_)
  subst hp_45
  show V _ _ _ _ _ _ _ _ _ _ _ _ _ _ (599, 20555) [] _ _ [.int (an_advertise (zx 3) (zx 4)), .int (an_advertise (zx 3) (zx 4))]
  show V _ _ _ _ _ _ _ _ _ _ _ _ _ _ (599, 20555) [] _ _ _
  refine v_icmp_eq B (tgt := 1540) dL_law_359 (by decide +kernel) (fun _ => ?_) (fun h => absurd rfl h)
  refine v_lv [0, 4] rfl ?_
  refine v_widen (k := 600002) (n := 7302198) (by decide +kernel) (by decide +kernel) ?_
  exact kk

set_option maxHeartbeats 4000000 in
set_option maxRecDepth 100000 in
theorem lc_scan {p : Program} {l : Launch} {e : Env} {s : State} {m : MethodId} {below : List Frame} {meth : Method} {c : Code} {D : va_G} {A : Nat → Prop} {Q : State → Prop} {zb : Nat} {zx : Nat → Int32} {zs : Nat → Nat} (hl0 : l.stackTraces = false) (K : Nat → ClassId) (hx : Nat) (xa : Nat → Nat) (xf xg : Nat → Option Nat) (fa sa : Int64) (hm : Nat) (q : Nat → Nat) (ho : Nat) (B : Bx p s m #[.ref zb] c cL_law 7 RL lw_tbl D (tysA K) A) (hz : ZL zb 11 zx zs A s s.heap) (kk : V p l e room_1 s m #[.ref zb] below meth c 7 D A Q (600002, 7302198) [] [(4, .int 2), (0, .ref zb)] 1540 []) : V p l e room_1 s m #[.ref zb] below meth c 7 D A Q (599, 20555) (WXM K hx xa xf xg fa sa hm q ho) [(4, .int 2), (3, .ref ho), (2, .ref hm), (1, .ref hx), (0, .ref zb)] 364 [] := by
  refine v_forget (wc := [(hx, .inr (11, [.ref (xa 0), .ref (xa 1), .ref (xa 2), .ref (xa 3), .int 0])), ((xa 0), .inl (K 5, 2, .inr (.inr (.inr (.inr (va_up (va_up (fun _ => none) (0 : Int32).toNatClampNeg (some (xa 4))) (1 : Int32).toNatClampNeg (some (xa 5)))))))), ((xa 4), .inr (3, [.int 0, .long (fa &&& 281474976710655), .int 0, .int 0, .int 0, .int 0, .ref (xa 16), .int 0, .long 0, .ref (xa 17), .long 0, .ref (xa 18), .ref (xa 19), .ref (xa 20), .ref (xa 21), .ref (xa 22), .ref (xa 23), .ref (xa 24), .ref (xa 25)])), ((xa 5), .inr (3, [.int 1, .long (sa &&& 281474976710655), .int 0, .int 1, .int 0, .int 0, .ref (xa 58), .int 0, .long 0, .ref (xa 59), .long 0, .ref (xa 60), .ref (xa 61), .ref (xa 62), .ref (xa 63), .ref (xa 64), .ref (xa 65), .ref (xa 66), .ref (xa 67)])), (hm, .inr (12, fsM q 0 0 0 0 0)), ((q 7), .inl (K 0, 2, .inl (gl [0, 0])))]) (wr := []) (sp_pl [0, 1, 10, 25, 40, 41] [] rfl rfl rfl rfl rfl) ?_
  refine v_aload_n B dL_law_364 rfl rfl ?_
  refine v_aload_n B dL_law_365 rfl rfl ?_
  refine v_iload B dL_law_366 rfl ?_
  refine v_iconst B (v := 1) dL_law_368 (by decide +kernel) ?_
  refine v_iadd B (v := 3) dL_law_369 (by decide +kernel) ?_
  refine v_sld B hz (i := 3) (v := (zx 3)) (vpi (by decide +kernel)) (congrArg zx (by decide +kernel)) dL_law_370 ?_
  refine v_callVi B (b := hx) (n := 1) (As := [.int (zx 3)]) (rest := []) (wc := [(hx, .inr (11, [.ref (xa 0), .ref (xa 1), .ref (xa 2), .ref (xa 3), .int 0])), ((xa 0), .inl (K 5, 2, .inr (.inr (.inr (.inr (va_up (va_up (fun _ => none) (0 : Int32).toNatClampNeg (some (xa 4))) (1 : Int32).toNatClampNeg (some (xa 5)))))))), ((xa 4), .inr (3, [.int 0, .long (fa &&& 281474976710655), .int 0, .int 0, .int 0, .int 0, .ref (xa 16), .int 0, .long 0, .ref (xa 17), .long 0, .ref (xa 18), .ref (xa 19), .ref (xa 20), .ref (xa 21), .ref (xa 22), .ref (xa 23), .ref (xa 24), .ref (xa 25)])), ((xa 5), .inr (3, [.int 1, .long (sa &&& 281474976710655), .int 0, .int 1, .int 0, .int 0, .ref (xa 58), .int 0, .long 0, .ref (xa 59), .long 0, .ref (xa 60), .ref (xa 61), .ref (xa 62), .ref (xa 63), .ref (xa 64), .ref (xa 65), .ref (xa 66), .ref (xa 67)]))]) (wr := [(hm, .inr (12, fsM q 0 0 0 0 0)), ((q 7), .inl (K 0, 2, .inl (gl [0, 0])))]) (x_scan l D K hx xa xf xg fa sa (zx 3)) gd_law_x_scan_55 rfl rfl rfl (by decide +kernel) ⟨by decide +kernel, by decide +kernel⟩ 0 rfl rfl rfl (sp_pl [0, 1, 2, 3] [4, 5] rfl rfl rfl rfl rfl) rfl rfl (Nat.le_of_ble_eq_true rfl) dL_law_371 ⟨by decide +kernel, by decide +kernel⟩ (fun r_49 u_47 hp_48 => ?_)
  subst hp_48
  show V _ _ _ _ _ _ _ _ _ _ _ _ _ _ (599, 20555) [(hm, .inr (12, fsM q 0 0 0 0 0)), ((q 7), .inl (K 0, 2, .inl (gl [0, 0])))] _ _ [.int (an_scan (zx 3))]
  show V _ _ _ _ _ _ _ _ _ _ _ _ _ _ (599, 20555) [(hm, .inr (12, fsM q 0 0 0 0 0)), ((q 7), .inl (K 0, 2, .inl (gl [0, 0])))] _ _ _
  refine v_aload_n B dL_law_374 rfl rfl ?_
  refine v_aload_n B dL_law_375 rfl rfl ?_
  refine v_iload B dL_law_376 rfl ?_
  refine v_iconst B (v := 1) dL_law_378 (by decide +kernel) ?_
  refine v_iadd B (v := 3) dL_law_379 (by decide +kernel) ?_
  refine v_sld B hz (i := 3) (v := (zx 3)) (vpi (by decide +kernel)) (congrArg zx (by decide +kernel)) dL_law_380 ?_
  refine v_callVi B (b := hm) (n := 1) (As := [.int (zx 3)]) (rest := [.int (an_scan (zx 3))]) (wc := [(hm, .inr (12, fsM q 0 0 0 0 0)), ((q 7), .inl (K 0, 2, .inl (gl [0, 0])))]) (wr := []) (y_scan l D K hm q fa sa (zx 3)) gd_law_y_scan_59 rfl rfl rfl (by decide +kernel) ⟨by decide +kernel, by decide +kernel⟩ 0 rfl rfl rfl (sp_pl [0, 1] [] rfl rfl rfl rfl rfl) rfl rfl (Nat.le_of_ble_eq_true rfl) dL_law_381 ⟨by decide +kernel, by decide +kernel⟩ (fun r_52 u_50 hp_51 => ?_)
  subst hp_51
  show V _ _ _ _ _ _ _ _ _ _ _ _ _ _ (599, 20555) [] _ _ [.int (an_scan (zx 3)), .int (an_scan (zx 3))]
  show V _ _ _ _ _ _ _ _ _ _ _ _ _ _ (599, 20555) [] _ _ _
  refine v_icmp_eq B (tgt := 1540) dL_law_384 (by decide +kernel) (fun _ => ?_) (fun h => absurd rfl h)
  refine v_lv [0, 4] rfl ?_
  refine v_widen (k := 600002) (n := 7302198) (by decide +kernel) (by decide +kernel) ?_
  exact kk

set_option maxHeartbeats 4000000 in
set_option maxRecDepth 100000 in
theorem lc_connect {p : Program} {l : Launch} {e : Env} {s : State} {m : MethodId} {below : List Frame} {meth : Method} {c : Code} {D : va_G} {A : Nat → Prop} {Q : State → Prop} {zb : Nat} {zx : Nat → Int32} {zs : Nat → Nat} (hl0 : l.stackTraces = false) (K : Nat → ClassId) (hx : Nat) (xa : Nat → Nat) (xf xg : Nat → Option Nat) (fa sa : Int64) (hm : Nat) (q : Nat → Nat) (ho : Nat) (B : Bx p s m #[.ref zb] c cL_law 7 RL lw_tbl D (tysA K) A) (hz : ZL zb 11 zx zs A s s.heap) (kk : V p l e room_1 s m #[.ref zb] below meth c 7 D A Q (600002, 7302198) [] [(4, .int 2), (0, .ref zb)] 1540 []) : V p l e room_1 s m #[.ref zb] below meth c 7 D A Q (599, 20555) (WXM K hx xa xf xg fa sa hm q ho) [(4, .int 2), (3, .ref ho), (2, .ref hm), (1, .ref hx), (0, .ref zb)] 389 [] := by
  refine v_forget (wc := [(hx, .inr (11, [.ref (xa 0), .ref (xa 1), .ref (xa 2), .ref (xa 3), .int 0])), ((xa 0), .inl (K 5, 2, .inr (.inr (.inr (.inr (va_up (va_up (fun _ => none) (0 : Int32).toNatClampNeg (some (xa 4))) (1 : Int32).toNatClampNeg (some (xa 5)))))))), ((xa 4), .inr (3, [.int 0, .long (fa &&& 281474976710655), .int 0, .int 0, .int 0, .int 0, .ref (xa 16), .int 0, .long 0, .ref (xa 17), .long 0, .ref (xa 18), .ref (xa 19), .ref (xa 20), .ref (xa 21), .ref (xa 22), .ref (xa 23), .ref (xa 24), .ref (xa 25)])), ((xa 5), .inr (3, [.int 1, .long (sa &&& 281474976710655), .int 0, .int 1, .int 0, .int 0, .ref (xa 58), .int 0, .long 0, .ref (xa 59), .long 0, .ref (xa 60), .ref (xa 61), .ref (xa 62), .ref (xa 63), .ref (xa 64), .ref (xa 65), .ref (xa 66), .ref (xa 67)])), ((xa 18), .inr (6, [.int 0, .int 0, .int 0, .int 0, .int 0, .long 0, .long 0, .int 0, .int 0, .int 0, .int 0, .int 0, .int (-1), .int 0, .int 0, .int 0, .int 0, .int (-1), .int (-1), .long 0])), ((xa 60), .inr (6, [.int 0, .int 0, .int 0, .int 0, .int 0, .long 0, .long 0, .int 0, .int 0, .int 0, .int 0, .int 0, .int (-1), .int 0, .int 0, .int 0, .int 0, .int (-1), .int (-1), .long 0])), (hm, .inr (12, fsM q 0 0 0 0 0)), ((q 7), .inl (K 0, 2, .inl (gl [0, 0]))), ((q 14), .inl (K 1, 2, .inr (.inl (glL [0, 0])))), ((q 9), .inl (K 0, 2, .inl (gl [0, 0]))), ((q 26), .inl (K 0, 2, .inl (gl [0, 0]))), ((q 27), .inl (K 0, 2, .inl (gl [0, 0]))), ((q 15), .inl (K 1, 2, .inr (.inl (glL [0, 0]))))]) (wr := []) (sp_pl [0, 1, 10, 25, 13, 28, 40, 41, 48, 44, 57, 58, 49] [] rfl rfl rfl rfl rfl) ?_
  refine v_aload_n B dL_law_389 rfl rfl ?_
  refine v_aload_n B dL_law_390 rfl rfl ?_
  refine v_iload B dL_law_391 rfl ?_
  refine v_iconst B (v := 1) dL_law_393 (by decide +kernel) ?_
  refine v_iadd B (v := 3) dL_law_394 (by decide +kernel) ?_
  refine v_sld B hz (i := 3) (v := (zx 3)) (vpi (by decide +kernel)) (congrArg zx (by decide +kernel)) dL_law_395 ?_
  refine v_aload_n B dL_law_396 rfl rfl ?_
  refine v_iload B dL_law_397 rfl ?_
  refine v_iconst B (v := 2) dL_law_399 (by decide +kernel) ?_
  refine v_iadd B (v := 4) dL_law_400 (by decide +kernel) ?_
  refine v_sld B hz (i := 4) (v := (zx 4)) (vpi (by decide +kernel)) (congrArg zx (by decide +kernel)) dL_law_401 ?_
  refine v_i2l B (v := ((zx 4)).toInt64) dL_law_402 rfl ?_
  refine v_bipush B (v := 32) dL_law_403 (by decide +kernel) ?_
  refine v_lshl B (v := (((zx 4)).toInt64 <<< ((32 : Int32).toInt64 &&& 63))) dL_law_405 rfl ?_
  refine v_aload_n B dL_law_406 rfl rfl ?_
  refine v_iload B dL_law_407 rfl ?_
  refine v_iconst B (v := 3) dL_law_409 (by decide +kernel) ?_
  refine v_iadd B (v := 5) dL_law_410 (by decide +kernel) ?_
  refine v_sld B hz (i := 5) (v := (zx 5)) (vpi (by decide +kernel)) (congrArg zx (by decide +kernel)) dL_law_411 ?_
  refine v_i2l B (v := ((zx 5)).toInt64) dL_law_412 rfl ?_
  refine v_ldc2 B (v := 4294967295) tw_391 dL_law_413 ?_
  refine v_land B (v := (((zx 5)).toInt64 &&& 4294967295)) dL_law_416 rfl ?_
  refine v_lor B (v := ((((zx 4)).toInt64 <<< ((32 : Int32).toInt64 &&& 63)) ||| (((zx 5)).toInt64 &&& 4294967295))) dL_law_417 rfl ?_
  refine v_aload_n B dL_law_418 rfl rfl ?_
  refine v_iload B dL_law_419 rfl ?_
  refine v_iconst B (v := 4) dL_law_421 (by decide +kernel) ?_
  refine v_iadd B (v := 6) dL_law_422 (by decide +kernel) ?_
  refine v_sld B hz (i := 6) (v := (zx 6)) (vpi (by decide +kernel)) (congrArg zx (by decide +kernel)) dL_law_423 ?_
  refine v_aload_n B dL_law_424 rfl rfl ?_
  refine v_iload B dL_law_425 rfl ?_
  refine v_iconst B (v := 5) dL_law_427 (by decide +kernel) ?_
  refine v_iadd B (v := 7) dL_law_428 (by decide +kernel) ?_
  refine v_sld B hz (i := 7) (v := (zx 7)) (vpi (by decide +kernel)) (congrArg zx (by decide +kernel)) dL_law_429 ?_
  refine v_aload_n B dL_law_430 rfl rfl ?_
  refine v_iload B dL_law_431 rfl ?_
  refine v_bipush B (v := 6) dL_law_433 (by decide +kernel) ?_
  refine v_iadd B (v := 8) dL_law_435 (by decide +kernel) ?_
  refine v_sld B hz (i := 8) (v := (zx 8)) (vpi (by decide +kernel)) (congrArg zx (by decide +kernel)) dL_law_436 ?_
  refine v_aload_n B dL_law_437 rfl rfl ?_
  refine v_iload B dL_law_438 rfl ?_
  refine v_bipush B (v := 7) dL_law_440 (by decide +kernel) ?_
  refine v_iadd B (v := 9) dL_law_442 (by decide +kernel) ?_
  refine v_sld B hz (i := 9) (v := (zx 9)) (vpi (by decide +kernel)) (congrArg zx (by decide +kernel)) dL_law_443 ?_
  refine v_i2l B (v := ((zx 9)).toInt64) dL_law_444 rfl ?_
  refine v_bipush B (v := 32) dL_law_445 (by decide +kernel) ?_
  refine v_lshl B (v := (((zx 9)).toInt64 <<< ((32 : Int32).toInt64 &&& 63))) dL_law_447 rfl ?_
  refine v_aload_n B dL_law_448 rfl rfl ?_
  refine v_iload B dL_law_449 rfl ?_
  refine v_bipush B (v := 8) dL_law_451 (by decide +kernel) ?_
  refine v_iadd B (v := 10) dL_law_453 (by decide +kernel) ?_
  refine v_sld B hz (i := 10) (v := (zx 10)) (vpi (by decide +kernel)) (congrArg zx (by decide +kernel)) dL_law_454 ?_
  refine v_i2l B (v := ((zx 10)).toInt64) dL_law_455 rfl ?_
  refine v_ldc2 B (v := 4294967295) tw_391 dL_law_456 ?_
  refine v_land B (v := (((zx 10)).toInt64 &&& 4294967295)) dL_law_459 rfl ?_
  refine v_lor B (v := ((((zx 9)).toInt64 <<< ((32 : Int32).toInt64 &&& 63)) ||| (((zx 10)).toInt64 &&& 4294967295))) dL_law_460 rfl ?_
  refine v_callVi B (b := hx) (n := 6) (As := [.int (zx 3), .long ((((zx 4)).toInt64 <<< ((32 : Int32).toInt64 &&& 63)) ||| (((zx 5)).toInt64 &&& 4294967295)), .int (zx 6), .int (zx 7), .int (zx 8), .long ((((zx 9)).toInt64 <<< ((32 : Int32).toInt64 &&& 63)) ||| (((zx 10)).toInt64 &&& 4294967295))]) (rest := []) (wc := [(hx, .inr (11, [.ref (xa 0), .ref (xa 1), .ref (xa 2), .ref (xa 3), .int 0])), ((xa 0), .inl (K 5, 2, .inr (.inr (.inr (.inr (va_up (va_up (fun _ => none) (0 : Int32).toNatClampNeg (some (xa 4))) (1 : Int32).toNatClampNeg (some (xa 5)))))))), ((xa 4), .inr (3, [.int 0, .long (fa &&& 281474976710655), .int 0, .int 0, .int 0, .int 0, .ref (xa 16), .int 0, .long 0, .ref (xa 17), .long 0, .ref (xa 18), .ref (xa 19), .ref (xa 20), .ref (xa 21), .ref (xa 22), .ref (xa 23), .ref (xa 24), .ref (xa 25)])), ((xa 5), .inr (3, [.int 1, .long (sa &&& 281474976710655), .int 0, .int 1, .int 0, .int 0, .ref (xa 58), .int 0, .long 0, .ref (xa 59), .long 0, .ref (xa 60), .ref (xa 61), .ref (xa 62), .ref (xa 63), .ref (xa 64), .ref (xa 65), .ref (xa 66), .ref (xa 67)])), ((xa 18), .inr (6, [.int 0, .int 0, .int 0, .int 0, .int 0, .long 0, .long 0, .int 0, .int 0, .int 0, .int 0, .int 0, .int (-1), .int 0, .int 0, .int 0, .int 0, .int (-1), .int (-1), .long 0])), ((xa 60), .inr (6, [.int 0, .int 0, .int 0, .int 0, .int 0, .long 0, .long 0, .int 0, .int 0, .int 0, .int 0, .int 0, .int (-1), .int 0, .int 0, .int 0, .int 0, .int (-1), .int (-1), .long 0]))]) (wr := [(hm, .inr (12, fsM q 0 0 0 0 0)), ((q 7), .inl (K 0, 2, .inl (gl [0, 0]))), ((q 14), .inl (K 1, 2, .inr (.inl (glL [0, 0])))), ((q 9), .inl (K 0, 2, .inl (gl [0, 0]))), ((q 26), .inl (K 0, 2, .inl (gl [0, 0]))), ((q 27), .inl (K 0, 2, .inl (gl [0, 0]))), ((q 15), .inl (K 1, 2, .inr (.inl (glL [0, 0]))))]) (x_connect l D K hx xa xf xg fa sa (zx 3) ((((zx 4)).toInt64 <<< ((32 : Int32).toInt64 &&& 63)) ||| (((zx 5)).toInt64 &&& 4294967295)) (zx 6) (zx 7) (zx 8) ((((zx 9)).toInt64 <<< ((32 : Int32).toInt64 &&& 63)) ||| (((zx 10)).toInt64 &&& 4294967295))) gd_law_x_connect_62 rfl rfl rfl (by decide +kernel) ⟨by decide +kernel, by decide +kernel⟩ 0 rfl rfl rfl (sp_pl [0, 1, 2, 3, 4, 5] [6, 7, 8, 9, 10, 11, 12] rfl rfl rfl rfl rfl) rfl rfl (Nat.le_of_ble_eq_true rfl) dL_law_461 ⟨by decide +kernel, by decide +kernel⟩ (fun r_55 u_53 hp_54 => ?_)
  subst hp_54
  show V _ _ _ _ _ _ _ _ _ _ _ _ _ _ (599, 20555) [(hm, .inr (12, fsM q 0 0 0 0 0)), ((q 7), .inl (K 0, 2, .inl (gl [0, 0]))), ((q 14), .inl (K 1, 2, .inr (.inl (glL [0, 0])))), ((q 9), .inl (K 0, 2, .inl (gl [0, 0]))), ((q 26), .inl (K 0, 2, .inl (gl [0, 0]))), ((q 27), .inl (K 0, 2, .inl (gl [0, 0]))), ((q 15), .inl (K 1, 2, .inr (.inl (glL [0, 0]))))] _ _ [.int (an_connect (zx 3) ((((zx 4)).toInt64 <<< ((32 : Int32).toInt64 &&& 63)) ||| (((zx 5)).toInt64 &&& 4294967295)) (zx 6) (zx 7) (zx 8) ((((zx 9)).toInt64 <<< ((32 : Int32).toInt64 &&& 63)) ||| (((zx 10)).toInt64 &&& 4294967295)))]
  show V _ _ _ _ _ _ _ _ _ _ _ _ _ _ (599, 20555) [(hm, .inr (12, fsM q 0 0 0 0 0)), ((q 7), .inl (K 0, 2, .inl (gl [0, 0]))), ((q 14), .inl (K 1, 2, .inr (.inl (glL [0, 0])))), ((q 9), .inl (K 0, 2, .inl (gl [0, 0]))), ((q 26), .inl (K 0, 2, .inl (gl [0, 0]))), ((q 27), .inl (K 0, 2, .inl (gl [0, 0]))), ((q 15), .inl (K 1, 2, .inr (.inl (glL [0, 0]))))] _ _ _
  refine v_aload_n B dL_law_464 rfl rfl ?_
  refine v_aload_n B dL_law_465 rfl rfl ?_
  refine v_iload B dL_law_466 rfl ?_
  refine v_iconst B (v := 1) dL_law_468 (by decide +kernel) ?_
  refine v_iadd B (v := 3) dL_law_469 (by decide +kernel) ?_
  refine v_sld B hz (i := 3) (v := (zx 3)) (vpi (by decide +kernel)) (congrArg zx (by decide +kernel)) dL_law_470 ?_
  refine v_aload_n B dL_law_471 rfl rfl ?_
  refine v_iload B dL_law_472 rfl ?_
  refine v_iconst B (v := 2) dL_law_474 (by decide +kernel) ?_
  refine v_iadd B (v := 4) dL_law_475 (by decide +kernel) ?_
  refine v_sld B hz (i := 4) (v := (zx 4)) (vpi (by decide +kernel)) (congrArg zx (by decide +kernel)) dL_law_476 ?_
  refine v_i2l B (v := ((zx 4)).toInt64) dL_law_477 rfl ?_
  refine v_bipush B (v := 32) dL_law_478 (by decide +kernel) ?_
  refine v_lshl B (v := (((zx 4)).toInt64 <<< ((32 : Int32).toInt64 &&& 63))) dL_law_480 rfl ?_
  refine v_aload_n B dL_law_481 rfl rfl ?_
  refine v_iload B dL_law_482 rfl ?_
  refine v_iconst B (v := 3) dL_law_484 (by decide +kernel) ?_
  refine v_iadd B (v := 5) dL_law_485 (by decide +kernel) ?_
  refine v_sld B hz (i := 5) (v := (zx 5)) (vpi (by decide +kernel)) (congrArg zx (by decide +kernel)) dL_law_486 ?_
  refine v_i2l B (v := ((zx 5)).toInt64) dL_law_487 rfl ?_
  refine v_ldc2 B (v := 4294967295) tw_391 dL_law_488 ?_
  refine v_land B (v := (((zx 5)).toInt64 &&& 4294967295)) dL_law_491 rfl ?_
  refine v_lor B (v := ((((zx 4)).toInt64 <<< ((32 : Int32).toInt64 &&& 63)) ||| (((zx 5)).toInt64 &&& 4294967295))) dL_law_492 rfl ?_
  refine v_aload_n B dL_law_493 rfl rfl ?_
  refine v_iload B dL_law_494 rfl ?_
  refine v_iconst B (v := 4) dL_law_496 (by decide +kernel) ?_
  refine v_iadd B (v := 6) dL_law_497 (by decide +kernel) ?_
  refine v_sld B hz (i := 6) (v := (zx 6)) (vpi (by decide +kernel)) (congrArg zx (by decide +kernel)) dL_law_498 ?_
  refine v_aload_n B dL_law_499 rfl rfl ?_
  refine v_iload B dL_law_500 rfl ?_
  refine v_iconst B (v := 5) dL_law_502 (by decide +kernel) ?_
  refine v_iadd B (v := 7) dL_law_503 (by decide +kernel) ?_
  refine v_sld B hz (i := 7) (v := (zx 7)) (vpi (by decide +kernel)) (congrArg zx (by decide +kernel)) dL_law_504 ?_
  refine v_aload_n B dL_law_505 rfl rfl ?_
  refine v_iload B dL_law_506 rfl ?_
  refine v_bipush B (v := 6) dL_law_508 (by decide +kernel) ?_
  refine v_iadd B (v := 8) dL_law_510 (by decide +kernel) ?_
  refine v_sld B hz (i := 8) (v := (zx 8)) (vpi (by decide +kernel)) (congrArg zx (by decide +kernel)) dL_law_511 ?_
  refine v_aload_n B dL_law_512 rfl rfl ?_
  refine v_iload B dL_law_513 rfl ?_
  refine v_bipush B (v := 7) dL_law_515 (by decide +kernel) ?_
  refine v_iadd B (v := 9) dL_law_517 (by decide +kernel) ?_
  refine v_sld B hz (i := 9) (v := (zx 9)) (vpi (by decide +kernel)) (congrArg zx (by decide +kernel)) dL_law_518 ?_
  refine v_i2l B (v := ((zx 9)).toInt64) dL_law_519 rfl ?_
  refine v_bipush B (v := 32) dL_law_520 (by decide +kernel) ?_
  refine v_lshl B (v := (((zx 9)).toInt64 <<< ((32 : Int32).toInt64 &&& 63))) dL_law_522 rfl ?_
  refine v_aload_n B dL_law_523 rfl rfl ?_
  refine v_iload B dL_law_524 rfl ?_
  refine v_bipush B (v := 8) dL_law_526 (by decide +kernel) ?_
  refine v_iadd B (v := 10) dL_law_528 (by decide +kernel) ?_
  refine v_sld B hz (i := 10) (v := (zx 10)) (vpi (by decide +kernel)) (congrArg zx (by decide +kernel)) dL_law_529 ?_
  refine v_i2l B (v := ((zx 10)).toInt64) dL_law_530 rfl ?_
  refine v_ldc2 B (v := 4294967295) tw_391 dL_law_531 ?_
  refine v_land B (v := (((zx 10)).toInt64 &&& 4294967295)) dL_law_534 rfl ?_
  refine v_lor B (v := ((((zx 9)).toInt64 <<< ((32 : Int32).toInt64 &&& 63)) ||| (((zx 10)).toInt64 &&& 4294967295))) dL_law_535 rfl ?_
  refine v_callVi B (b := hm) (n := 6) (As := [.int (zx 3), .long ((((zx 4)).toInt64 <<< ((32 : Int32).toInt64 &&& 63)) ||| (((zx 5)).toInt64 &&& 4294967295)), .int (zx 6), .int (zx 7), .int (zx 8), .long ((((zx 9)).toInt64 <<< ((32 : Int32).toInt64 &&& 63)) ||| (((zx 10)).toInt64 &&& 4294967295))]) (rest := [.int (an_connect (zx 3) ((((zx 4)).toInt64 <<< ((32 : Int32).toInt64 &&& 63)) ||| (((zx 5)).toInt64 &&& 4294967295)) (zx 6) (zx 7) (zx 8) ((((zx 9)).toInt64 <<< ((32 : Int32).toInt64 &&& 63)) ||| (((zx 10)).toInt64 &&& 4294967295)))]) (wc := [(hm, .inr (12, fsM q 0 0 0 0 0)), ((q 7), .inl (K 0, 2, .inl (gl [0, 0]))), ((q 14), .inl (K 1, 2, .inr (.inl (glL [0, 0])))), ((q 9), .inl (K 0, 2, .inl (gl [0, 0]))), ((q 26), .inl (K 0, 2, .inl (gl [0, 0]))), ((q 27), .inl (K 0, 2, .inl (gl [0, 0]))), ((q 15), .inl (K 1, 2, .inr (.inl (glL [0, 0]))))]) (wr := []) (y_connect l D K hm q fa sa (zx 3) ((((zx 4)).toInt64 <<< ((32 : Int32).toInt64 &&& 63)) ||| (((zx 5)).toInt64 &&& 4294967295)) (zx 6) (zx 7) (zx 8) ((((zx 9)).toInt64 <<< ((32 : Int32).toInt64 &&& 63)) ||| (((zx 10)).toInt64 &&& 4294967295))) gd_law_y_connect_66 rfl rfl rfl (by decide +kernel) ⟨by decide +kernel, by decide +kernel⟩ 0 rfl rfl rfl (sp_pl [0, 1, 2, 3, 4, 5, 6] [] rfl rfl rfl rfl rfl) rfl rfl (Nat.le_of_ble_eq_true rfl) dL_law_536 ⟨by decide +kernel, by decide +kernel⟩ (fun r_58 u_56 hp_57 => ?_)
  subst hp_57
  show V _ _ _ _ _ _ _ _ _ _ _ _ _ _ (599, 20555) [] _ _ [.int (an_connect (zx 3) ((((zx 4)).toInt64 <<< ((32 : Int32).toInt64 &&& 63)) ||| (((zx 5)).toInt64 &&& 4294967295)) (zx 6) (zx 7) (zx 8) ((((zx 9)).toInt64 <<< ((32 : Int32).toInt64 &&& 63)) ||| (((zx 10)).toInt64 &&& 4294967295))), .int (an_connect (zx 3) ((((zx 4)).toInt64 <<< ((32 : Int32).toInt64 &&& 63)) ||| (((zx 5)).toInt64 &&& 4294967295)) (zx 6) (zx 7) (zx 8) ((((zx 9)).toInt64 <<< ((32 : Int32).toInt64 &&& 63)) ||| (((zx 10)).toInt64 &&& 4294967295)))]
  show V _ _ _ _ _ _ _ _ _ _ _ _ _ _ (599, 20555) [] _ _ _
  refine v_icmp_eq B (tgt := 1540) dL_law_539 (by decide +kernel) (fun _ => ?_) (fun h => absurd rfl h)
  refine v_lv [0, 4] rfl ?_
  refine v_widen (k := 600002) (n := 7302198) (by decide +kernel) (by decide +kernel) ?_
  exact kk

set_option maxHeartbeats 4000000 in
set_option maxRecDepth 100000 in
theorem lc_stop {p : Program} {l : Launch} {e : Env} {s : State} {m : MethodId} {below : List Frame} {meth : Method} {c : Code} {D : va_G} {A : Nat → Prop} {Q : State → Prop} {zb : Nat} {zx : Nat → Int32} {zs : Nat → Nat} (hl0 : l.stackTraces = false) (K : Nat → ClassId) (hx : Nat) (xa : Nat → Nat) (xf xg : Nat → Option Nat) (fa sa : Int64) (hm : Nat) (q : Nat → Nat) (ho : Nat) (B : Bx p s m #[.ref zb] c cL_law 7 RL lw_tbl D (tysA K) A) (hz : ZL zb 11 zx zs A s s.heap) (kk : V p l e room_1 s m #[.ref zb] below meth c 7 D A Q (600002, 7302198) [] [(4, .int 2), (0, .ref zb)] 1540 []) : V p l e room_1 s m #[.ref zb] below meth c 7 D A Q (599, 20555) (WXM K hx xa xf xg fa sa hm q ho) [(4, .int 2), (3, .ref ho), (2, .ref hm), (1, .ref hx), (0, .ref zb)] 544 [] := by
  refine v_forget (wc := [(hx, .inr (11, [.ref (xa 0), .ref (xa 1), .ref (xa 2), .ref (xa 3), .int 0])), ((xa 0), .inl (K 5, 2, .inr (.inr (.inr (.inr (va_up (va_up (fun _ => none) (0 : Int32).toNatClampNeg (some (xa 4))) (1 : Int32).toNatClampNeg (some (xa 5)))))))), ((xa 4), .inr (3, [.int 0, .long (fa &&& 281474976710655), .int 0, .int 0, .int 0, .int 0, .ref (xa 16), .int 0, .long 0, .ref (xa 17), .long 0, .ref (xa 18), .ref (xa 19), .ref (xa 20), .ref (xa 21), .ref (xa 22), .ref (xa 23), .ref (xa 24), .ref (xa 25)])), ((xa 5), .inr (3, [.int 1, .long (sa &&& 281474976710655), .int 0, .int 1, .int 0, .int 0, .ref (xa 58), .int 0, .long 0, .ref (xa 59), .long 0, .ref (xa 60), .ref (xa 61), .ref (xa 62), .ref (xa 63), .ref (xa 64), .ref (xa 65), .ref (xa 66), .ref (xa 67)])), (hm, .inr (12, fsM q 0 0 0 0 0)), ((q 7), .inl (K 0, 2, .inl (gl [0, 0])))]) (wr := []) (sp_pl [0, 1, 10, 25, 40, 41] [] rfl rfl rfl rfl rfl) ?_
  refine v_aload_n B dL_law_544 rfl rfl ?_
  refine v_aload_n B dL_law_545 rfl rfl ?_
  refine v_iload B dL_law_546 rfl ?_
  refine v_iconst B (v := 1) dL_law_548 (by decide +kernel) ?_
  refine v_iadd B (v := 3) dL_law_549 (by decide +kernel) ?_
  refine v_sld B hz (i := 3) (v := (zx 3)) (vpi (by decide +kernel)) (congrArg zx (by decide +kernel)) dL_law_550 ?_
  refine v_callVi B (b := hx) (n := 1) (As := [.int (zx 3)]) (rest := []) (wc := [(hx, .inr (11, [.ref (xa 0), .ref (xa 1), .ref (xa 2), .ref (xa 3), .int 0])), ((xa 0), .inl (K 5, 2, .inr (.inr (.inr (.inr (va_up (va_up (fun _ => none) (0 : Int32).toNatClampNeg (some (xa 4))) (1 : Int32).toNatClampNeg (some (xa 5)))))))), ((xa 4), .inr (3, [.int 0, .long (fa &&& 281474976710655), .int 0, .int 0, .int 0, .int 0, .ref (xa 16), .int 0, .long 0, .ref (xa 17), .long 0, .ref (xa 18), .ref (xa 19), .ref (xa 20), .ref (xa 21), .ref (xa 22), .ref (xa 23), .ref (xa 24), .ref (xa 25)])), ((xa 5), .inr (3, [.int 1, .long (sa &&& 281474976710655), .int 0, .int 1, .int 0, .int 0, .ref (xa 58), .int 0, .long 0, .ref (xa 59), .long 0, .ref (xa 60), .ref (xa 61), .ref (xa 62), .ref (xa 63), .ref (xa 64), .ref (xa 65), .ref (xa 66), .ref (xa 67)]))]) (wr := [(hm, .inr (12, fsM q 0 0 0 0 0)), ((q 7), .inl (K 0, 2, .inl (gl [0, 0])))]) (x_stop l D K hx xa xf xg fa sa (zx 3)) gd_law_x_stop_67 rfl rfl rfl (by decide +kernel) ⟨by decide +kernel, by decide +kernel⟩ 0 rfl rfl rfl (sp_pl [0, 1, 2, 3] [4, 5] rfl rfl rfl rfl rfl) rfl rfl (Nat.le_of_ble_eq_true rfl) dL_law_551 ⟨by decide +kernel, by decide +kernel⟩ (fun r_61 u_59 hp_60 => ?_)
  subst hp_60
  show V _ _ _ _ _ _ _ _ _ _ _ _ _ _ (599, 20555) [(hm, .inr (12, fsM q 0 0 0 0 0)), ((q 7), .inl (K 0, 2, .inl (gl [0, 0])))] _ _ [.int (an_stop (zx 3))]
  show V _ _ _ _ _ _ _ _ _ _ _ _ _ _ (599, 20555) [(hm, .inr (12, fsM q 0 0 0 0 0)), ((q 7), .inl (K 0, 2, .inl (gl [0, 0])))] _ _ _
  refine v_aload_n B dL_law_554 rfl rfl ?_
  refine v_aload_n B dL_law_555 rfl rfl ?_
  refine v_iload B dL_law_556 rfl ?_
  refine v_iconst B (v := 1) dL_law_558 (by decide +kernel) ?_
  refine v_iadd B (v := 3) dL_law_559 (by decide +kernel) ?_
  refine v_sld B hz (i := 3) (v := (zx 3)) (vpi (by decide +kernel)) (congrArg zx (by decide +kernel)) dL_law_560 ?_
  refine v_callVi B (b := hm) (n := 1) (As := [.int (zx 3)]) (rest := [.int (an_stop (zx 3))]) (wc := [(hm, .inr (12, fsM q 0 0 0 0 0)), ((q 7), .inl (K 0, 2, .inl (gl [0, 0])))]) (wr := []) (y_stop l D K hm q fa sa (zx 3)) gd_law_y_stop_70 rfl rfl rfl (by decide +kernel) ⟨by decide +kernel, by decide +kernel⟩ 0 rfl rfl rfl (sp_pl [0, 1] [] rfl rfl rfl rfl rfl) rfl rfl (Nat.le_of_ble_eq_true rfl) dL_law_561 ⟨by decide +kernel, by decide +kernel⟩ (fun r_64 u_62 hp_63 => ?_)
  subst hp_63
  show V _ _ _ _ _ _ _ _ _ _ _ _ _ _ (599, 20555) [] _ _ [.int (an_stop (zx 3)), .int (an_stop (zx 3))]
  show V _ _ _ _ _ _ _ _ _ _ _ _ _ _ (599, 20555) [] _ _ _
  refine v_icmp_eq B (tgt := 1540) dL_law_564 (by decide +kernel) (fun _ => ?_) (fun h => absurd rfl h)
  refine v_lv [0, 4] rfl ?_
  refine v_widen (k := 600002) (n := 7302198) (by decide +kernel) (by decide +kernel) ?_
  exact kk

