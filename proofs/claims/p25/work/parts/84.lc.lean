set_option maxHeartbeats 4000000 in
set_option maxRecDepth 100000 in
theorem lc_feed {p : Program} {l : Launch} {e : Env} {s : State} {m : MethodId} {below : List Frame} {meth : Method} {c : Code} {D : va_G} {A : Nat → Prop} {Q : State → Prop} {zb zL : Nat} {zx : Nat → Int32} {zs : Nat → Nat} (hl0 : l.stackTraces = false) {K : Nat → ClassId} {τx τm : Nat → Option Ty} {dx dm : List Nat} (Zx : Sk τx dx) (Zm : Sk τm dm) {hx hm ho : Nat} {q : Nat → Nat} (tx : τx hx = some (41, 0, 0)) (Y : MS τm hm q) (B : Bx p s m #[.ref zb] c cL_law 7 RL lw_tbl D (tysA K) A) (hz : ZL zb zL zx zs A s s.heap) (z : Int) (n : Nat) (hi : 2 ≤ z ∧ z + 9 ≤ (zL : Int) ∧ (zL : Int) ≤ 4610) (hn : n ≤ 600) (σx σm : Nat → va_E) (g : Nat → Int64) (Gx : Good K τx σx) (Gm : GM K hm q σm) (kk : ∀ (σx σm : Nat → va_E) (g : Nat → Int64), Good K τx σx → GM K hm q σm → V p l e room_1 s m #[.ref zb] below meth c 7 D A Q (2000 + (n + 1), 40000 + 6 * (n + 1)) (wL K dx dm ho σx σm g) [(4, .int (iI z)), (3, .ref ho), (2, .ref hm), (1, .ref hx), (0, .ref zb)] 1455 []) : V p l e room_1 s m #[.ref zb] below meth c 7 D A Q (2000 + n, 40000 + 6 * n) (wL K dx dm ho σx σm g) [(4, .int (iI z)), (3, .ref ho), (2, .ref hm), (1, .ref hx), (0, .ref zb)] 192 [] := by
  refine v_aload_n B dL_law_192 rfl rfl ?_
  refine v_aload_n B dL_law_193 rfl rfl ?_
  refine v_iload B dL_law_194 rfl ?_
  refine v_iconst B (v := iI 1) dL_law_196 rfl ?_
  refine v_iadd B (v := iI (z + 1)) dL_law_197 (iI_add _ _) ?_
  obtain ⟨x1, e2, r3⟩ := iI_any (zx ((z + 1) : Int).toNat)
  refine u_sld B hz (z := (z + 1)) (v := x1) (by omega) e2 dL_law_198 ?_
  refine v_aload_n B dL_law_199 rfl rfl ?_
  refine v_iload B dL_law_200 rfl ?_
  refine v_iconst B (v := iI 2) dL_law_202 rfl ?_
  refine v_iadd B (v := iI (z + 2)) dL_law_203 (iI_add _ _) ?_
  obtain ⟨x4, e5, r6⟩ := iI_any (zx ((z + 2) : Int).toNat)
  refine u_sld B hz (z := (z + 2)) (v := x4) (by omega) e5 dL_law_204 ?_
  refine v_aload_n B dL_law_205 rfl rfl ?_
  refine v_iload B dL_law_206 rfl ?_
  refine v_iconst B (v := iI 3) dL_law_208 rfl ?_
  refine v_iadd B (v := iI (z + 3)) dL_law_209 (iI_add _ _) ?_
  obtain ⟨x7, e8, r9⟩ := iI_any (zx ((z + 3) : Int).toNat)
  refine u_sld B hz (z := (z + 3)) (v := x7) (by omega) e8 dL_law_210 ?_
  refine v_aload_n B dL_law_211 rfl rfl ?_
  refine v_iload B dL_law_212 rfl ?_
  refine v_iconst B (v := iI 4) dL_law_214 rfl ?_
  refine v_iadd B (v := iI (z + 4)) dL_law_215 (iI_add _ _) ?_
  obtain ⟨x10, e11, r12⟩ := iI_any (zx ((z + 4) : Int).toNat)
  refine u_sld B hz (z := (z + 4)) (v := x10) (by omega) e11 dL_law_216 ?_
  refine v_aload_n B dL_law_217 rfl rfl ?_
  refine v_iload B dL_law_218 rfl ?_
  refine v_iconst B (v := iI 5) dL_law_220 rfl ?_
  refine v_iadd B (v := iI (z + 5)) dL_law_221 (iI_add _ _) ?_
  obtain ⟨x13, e14, r15⟩ := iI_any (zx ((z + 5) : Int).toNat)
  refine u_sld B hz (z := (z + 5)) (v := x13) (by omega) e14 dL_law_222 ?_
  refine l_calli B hz Zx (a := hx) (n := 5) (As := [.int (iI x1), .int (iI x4), .int (iI x7), .int (iI x10), .int (iI x13)]) (rest := []) (wo := fd dm σm ++ [(ho, .inl (K 1, 1, .inr (.inl g)))]) (w2 := (fun σ9 => wL K dx dm ho σ9 σm g)) (List.Perm.refl _) (c_Low_feed l D K Zx zb zL zx zs hx x1 x4 x7 x10 x13 tx ⟨by omega, by omega⟩ ⟨by omega, by omega⟩ ⟨by omega, by omega⟩ ⟨by omega, by omega⟩ ⟨by omega, by omega⟩ σx Gx) gl_Low_feed_37 rfl rfl rfl (by decide +kernel) ⟨by decide +kernel, by decide +kernel⟩ tx (cls_Low Gx tx) rfl rfl rfl rfl (Nat.le_of_ble_eq_true rfl) dL_law_223 ⟨by show _ ≤ 601024; dsimp only; omega, by show _ ≤ 7293000; dsimp only; omega⟩ (fun σ9 => List.perm_append_comm) (fun r16 σ17 hp18 => ?_)
  obtain ⟨G22, -, z19, rfl, r21⟩ := hp18
  show V _ _ _ _ _ _ _ _ _ _ _ _ _ _ (2000 + n, 40000 + 6 * n) (wL K dx dm ho σ17 σm g) _ _ [.int (iI z19)]
  refine v_pop B dL_law_226 rfl ?_
  refine v_aload_n B dL_law_227 rfl rfl ?_
  refine v_aload_n B dL_law_228 rfl rfl ?_
  refine v_iload B dL_law_229 rfl ?_
  refine v_iconst B (v := iI 1) dL_law_231 rfl ?_
  refine v_iadd B (v := iI (z + 1)) dL_law_232 (iI_add _ _) ?_
  refine u_sld B hz (z := (z + 1)) (v := x1) (by omega) e2 dL_law_233 ?_
  refine v_aload_n B dL_law_234 rfl rfl ?_
  refine v_iload B dL_law_235 rfl ?_
  refine v_iconst B (v := iI 2) dL_law_237 rfl ?_
  refine v_iadd B (v := iI (z + 2)) dL_law_238 (iI_add _ _) ?_
  refine u_sld B hz (z := (z + 2)) (v := x4) (by omega) e5 dL_law_239 ?_
  refine v_aload_n B dL_law_240 rfl rfl ?_
  refine v_iload B dL_law_241 rfl ?_
  refine v_iconst B (v := iI 3) dL_law_243 rfl ?_
  refine v_iadd B (v := iI (z + 3)) dL_law_244 (iI_add _ _) ?_
  refine u_sld B hz (z := (z + 3)) (v := x7) (by omega) e8 dL_law_245 ?_
  refine v_aload_n B dL_law_246 rfl rfl ?_
  refine v_iload B dL_law_247 rfl ?_
  refine v_iconst B (v := iI 4) dL_law_249 rfl ?_
  refine v_iadd B (v := iI (z + 4)) dL_law_250 (iI_add _ _) ?_
  refine u_sld B hz (z := (z + 4)) (v := x10) (by omega) e11 dL_law_251 ?_
  refine v_aload_n B dL_law_252 rfl rfl ?_
  refine v_iload B dL_law_253 rfl ?_
  refine v_iconst B (v := iI 5) dL_law_255 rfl ?_
  refine v_iadd B (v := iI (z + 5)) dL_law_256 (iI_add _ _) ?_
  refine u_sld B hz (z := (z + 5)) (v := x13) (by omega) e14 dL_law_257 ?_
  refine l_calli B hz Zm (a := hm) (n := 5) (As := [.int (iI x1), .int (iI x4), .int (iI x7), .int (iI x10), .int (iI x13)]) (rest := []) (wo := fd dx σ17 ++ [(ho, .inl (K 1, 1, .inr (.inl g)))]) (w2 := (fun σ9 => wL K dx dm ho σ17 σ9 g)) (pL1 _ _ _) (c_M_feed l D K Zm zb zL zx zs hm q Y x1 x4 x7 x10 x13 ⟨by omega, by omega⟩ ⟨by omega, by omega⟩ ⟨by omega, by omega⟩ ⟨by omega, by omega⟩ ⟨by omega, by omega⟩ σm Gm) gl_M_feed_41 rfl rfl rfl (by decide +kernel) ⟨by decide +kernel, by decide +kernel⟩ Y.o (clsM Gm.t) rfl rfl rfl rfl (Nat.le_of_ble_eq_true rfl) dL_law_258 ⟨by show _ ≤ 601024; dsimp only; omega, by show _ ≤ 7293000; dsimp only; omega⟩ (fun σ9 => pm4 _ _ _) (fun r25 σ26 hp27 => ?_)
  obtain ⟨G31, -, z28, rfl, r30⟩ := hp27
  show V _ _ _ _ _ _ _ _ _ _ _ _ _ _ (2000 + n, 40000 + 6 * n) (wL K dx dm ho σ17 σ26 g) _ _ [.int (iI z28)]
  refine v_pop B dL_law_261 rfl ?_
  refine v_goto B (tgt := 1455) dL_law_262 (by decide +kernel) ?_
  refine v_widen (k := 2000 + (n + 1)) (n := 40000 + 6 * (n + 1)) (by show _ ≤ _; dsimp only; omega) (by show _ ≤ _; dsimp only; omega) ?_
  exact kk σ17 σ26 g G22 G31

set_option maxHeartbeats 4000000 in
set_option maxRecDepth 100000 in
theorem lc_end {p : Program} {l : Launch} {e : Env} {s : State} {m : MethodId} {below : List Frame} {meth : Method} {c : Code} {D : va_G} {A : Nat → Prop} {Q : State → Prop} {zb zL : Nat} {zx : Nat → Int32} {zs : Nat → Nat} (hl0 : l.stackTraces = false) {K : Nat → ClassId} {τx τm : Nat → Option Ty} {dx dm : List Nat} (Zx : Sk τx dx) (Zm : Sk τm dm) {hx hm ho : Nat} {q : Nat → Nat} (tx : τx hx = some (41, 0, 0)) (Y : MS τm hm q) (B : Bx p s m #[.ref zb] c cL_law 7 RL lw_tbl D (tysA K) A) (hz : ZL zb zL zx zs A s s.heap) (z : Int) (n : Nat) (hi : 2 ≤ z ∧ z + 9 ≤ (zL : Int) ∧ (zL : Int) ≤ 4610) (hn : n ≤ 600) (σx σm : Nat → va_E) (g : Nat → Int64) (Gx : Good K τx σx) (Gm : GM K hm q σm) (kk : ∀ (σx σm : Nat → va_E) (g : Nat → Int64), Good K τx σx → GM K hm q σm → V p l e room_1 s m #[.ref zb] below meth c 7 D A Q (2000 + (n + 1), 40000 + 6 * (n + 1)) (wL K dx dm ho σx σm g) [(4, .int (iI z)), (3, .ref ho), (2, .ref hm), (1, .ref hx), (0, .ref zb)] 1455 []) : V p l e room_1 s m #[.ref zb] below meth c 7 D A Q (2000 + n, 40000 + 6 * n) (wL K dx dm ho σx σm g) [(4, .int (iI z)), (3, .ref ho), (2, .ref hm), (1, .ref hx), (0, .ref zb)] 265 [] := by
  refine v_aload_n B dL_law_265 rfl rfl ?_
  refine v_aload_n B dL_law_266 rfl rfl ?_
  refine v_iload B dL_law_267 rfl ?_
  refine v_iconst B (v := iI 1) dL_law_269 rfl ?_
  refine v_iadd B (v := iI (z + 1)) dL_law_270 (iI_add _ _) ?_
  obtain ⟨x1, e2, r3⟩ := iI_any (zx ((z + 1) : Int).toNat)
  refine u_sld B hz (z := (z + 1)) (v := x1) (by omega) e2 dL_law_271 ?_
  refine l_calli B hz Zx (a := hx) (n := 1) (As := [.int (iI x1)]) (rest := []) (wo := fd dm σm ++ [(ho, .inl (K 1, 1, .inr (.inl g)))]) (w2 := (fun σ9 => wL K dx dm ho σ9 σm g)) (List.Perm.refl _) (c_Low_end l D K Zx zb zL zx zs hx x1 tx ⟨by omega, by omega⟩ σx Gx) gl_Low_end_42 rfl rfl rfl (by decide +kernel) ⟨by decide +kernel, by decide +kernel⟩ tx (cls_Low Gx tx) rfl rfl rfl rfl (Nat.le_of_ble_eq_true rfl) dL_law_272 ⟨by show _ ≤ 601024; dsimp only; omega, by show _ ≤ 7293000; dsimp only; omega⟩ (fun σ9 => List.perm_append_comm) (fun r4 σ5 hp6 => ?_)
  obtain ⟨G10, -, z7, rfl, r9⟩ := hp6
  show V _ _ _ _ _ _ _ _ _ _ _ _ _ _ (2000 + n, 40000 + 6 * n) (wL K dx dm ho σ5 σm g) _ _ [.int (iI z7)]
  refine v_pop B dL_law_275 rfl ?_
  refine v_aload_n B dL_law_276 rfl rfl ?_
  refine v_aload_n B dL_law_277 rfl rfl ?_
  refine v_iload B dL_law_278 rfl ?_
  refine v_iconst B (v := iI 1) dL_law_280 rfl ?_
  refine v_iadd B (v := iI (z + 1)) dL_law_281 (iI_add _ _) ?_
  refine u_sld B hz (z := (z + 1)) (v := x1) (by omega) e2 dL_law_282 ?_
  refine l_calli B hz Zm (a := hm) (n := 1) (As := [.int (iI x1)]) (rest := []) (wo := fd dx σ5 ++ [(ho, .inl (K 1, 1, .inr (.inl g)))]) (w2 := (fun σ9 => wL K dx dm ho σ5 σ9 g)) (pL1 _ _ _) (c_M_end l D K Zm zb zL zx zs hm q Y x1 ⟨by omega, by omega⟩ σm Gm) gl_M_end_45 rfl rfl rfl (by decide +kernel) ⟨by decide +kernel, by decide +kernel⟩ Y.o (clsM Gm.t) rfl rfl rfl rfl (Nat.le_of_ble_eq_true rfl) dL_law_283 ⟨by show _ ≤ 601024; dsimp only; omega, by show _ ≤ 7293000; dsimp only; omega⟩ (fun σ9 => pm4 _ _ _) (fun r13 σ14 hp15 => ?_)
  obtain ⟨G19, -, z16, rfl, r18⟩ := hp15
  show V _ _ _ _ _ _ _ _ _ _ _ _ _ _ (2000 + n, 40000 + 6 * n) (wL K dx dm ho σ5 σ14 g) _ _ [.int (iI z16)]
  refine v_pop B dL_law_286 rfl ?_
  refine v_goto B (tgt := 1455) dL_law_287 (by decide +kernel) ?_
  refine v_widen (k := 2000 + (n + 1)) (n := 40000 + 6 * (n + 1)) (by show _ ≤ _; dsimp only; omega) (by show _ ≤ _; dsimp only; omega) ?_
  exact kk σ5 σ14 g G10 G19

set_option maxHeartbeats 4000000 in
set_option maxRecDepth 100000 in
theorem lc_seed {p : Program} {l : Launch} {e : Env} {s : State} {m : MethodId} {below : List Frame} {meth : Method} {c : Code} {D : va_G} {A : Nat → Prop} {Q : State → Prop} {zb zL : Nat} {zx : Nat → Int32} {zs : Nat → Nat} (hl0 : l.stackTraces = false) {K : Nat → ClassId} {τx τm : Nat → Option Ty} {dx dm : List Nat} (Zx : Sk τx dx) (Zm : Sk τm dm) {hx hm ho : Nat} {q : Nat → Nat} (tx : τx hx = some (41, 0, 0)) (Y : MS τm hm q) (B : Bx p s m #[.ref zb] c cL_law 7 RL lw_tbl D (tysA K) A) (hz : ZL zb zL zx zs A s s.heap) (z : Int) (n : Nat) (hi : 2 ≤ z ∧ z + 9 ≤ (zL : Int) ∧ (zL : Int) ≤ 4610) (hn : n ≤ 600) (σx σm : Nat → va_E) (g : Nat → Int64) (Gx : Good K τx σx) (Gm : GM K hm q σm) (kk : ∀ (σx σm : Nat → va_E) (g : Nat → Int64), Good K τx σx → GM K hm q σm → V p l e room_1 s m #[.ref zb] below meth c 7 D A Q (2000 + (n + 1), 40000 + 6 * (n + 1)) (wL K dx dm ho σx σm g) [(4, .int (iI z)), (3, .ref ho), (2, .ref hm), (1, .ref hx), (0, .ref zb)] 1455 []) : V p l e room_1 s m #[.ref zb] below meth c 7 D A Q (2000 + n, 40000 + 6 * n) (wL K dx dm ho σx σm g) [(4, .int (iI z)), (3, .ref ho), (2, .ref hm), (1, .ref hx), (0, .ref zb)] 290 [] := by
  refine v_aload_n B dL_law_290 rfl rfl ?_
  refine v_aload_n B dL_law_291 rfl rfl ?_
  refine v_iload B dL_law_292 rfl ?_
  refine v_iconst B (v := iI 1) dL_law_294 rfl ?_
  refine v_iadd B (v := iI (z + 1)) dL_law_295 (iI_add _ _) ?_
  obtain ⟨x1, e2, r3⟩ := iI_any (zx ((z + 1) : Int).toNat)
  refine u_sld B hz (z := (z + 1)) (v := x1) (by omega) e2 dL_law_296 ?_
  refine v_aload_n B dL_law_297 rfl rfl ?_
  refine v_iload B dL_law_298 rfl ?_
  refine v_iconst B (v := iI 2) dL_law_300 rfl ?_
  refine v_iadd B (v := iI (z + 2)) dL_law_301 (iI_add _ _) ?_
  obtain ⟨x4, e5, r6⟩ := iI_any (zx ((z + 2) : Int).toNat)
  refine u_sld B hz (z := (z + 2)) (v := x4) (by omega) e5 dL_law_302 ?_
  refine l_calli B hz Zx (a := hx) (n := 2) (As := [.int (iI x1), .int (iI x4)]) (rest := []) (wo := fd dm σm ++ [(ho, .inl (K 1, 1, .inr (.inl g)))]) (w2 := (fun σ9 => wL K dx dm ho σ9 σm g)) (List.Perm.refl _) (c_Low_seed l D K Zx zb zL zx zs hx x1 x4 tx ⟨by omega, by omega⟩ ⟨by omega, by omega⟩ σx Gx) gl_Low_seed_46 rfl rfl rfl (by decide +kernel) ⟨by decide +kernel, by decide +kernel⟩ tx (cls_Low Gx tx) rfl rfl rfl rfl (Nat.le_of_ble_eq_true rfl) dL_law_303 ⟨by show _ ≤ 601024; dsimp only; omega, by show _ ≤ 7293000; dsimp only; omega⟩ (fun σ9 => List.perm_append_comm) (fun r7 σ8 hp9 => ?_)
  obtain ⟨G13, -, z10, rfl, r12⟩ := hp9
  show V _ _ _ _ _ _ _ _ _ _ _ _ _ _ (2000 + n, 40000 + 6 * n) (wL K dx dm ho σ8 σm g) _ _ [.int (iI z10)]
  refine v_pop B dL_law_306 rfl ?_
  refine v_aload_n B dL_law_307 rfl rfl ?_
  refine v_aload_n B dL_law_308 rfl rfl ?_
  refine v_iload B dL_law_309 rfl ?_
  refine v_iconst B (v := iI 1) dL_law_311 rfl ?_
  refine v_iadd B (v := iI (z + 1)) dL_law_312 (iI_add _ _) ?_
  refine u_sld B hz (z := (z + 1)) (v := x1) (by omega) e2 dL_law_313 ?_
  refine v_aload_n B dL_law_314 rfl rfl ?_
  refine v_iload B dL_law_315 rfl ?_
  refine v_iconst B (v := iI 2) dL_law_317 rfl ?_
  refine v_iadd B (v := iI (z + 2)) dL_law_318 (iI_add _ _) ?_
  refine u_sld B hz (z := (z + 2)) (v := x4) (by omega) e5 dL_law_319 ?_
  refine l_calli B hz Zm (a := hm) (n := 2) (As := [.int (iI x1), .int (iI x4)]) (rest := []) (wo := fd dx σ8 ++ [(ho, .inl (K 1, 1, .inr (.inl g)))]) (w2 := (fun σ9 => wL K dx dm ho σ8 σ9 g)) (pL1 _ _ _) (c_M_seed l D K Zm zb zL zx zs hm q Y x1 x4 ⟨by omega, by omega⟩ ⟨by omega, by omega⟩ σm Gm) gl_M_seed_50 rfl rfl rfl (by decide +kernel) ⟨by decide +kernel, by decide +kernel⟩ Y.o (clsM Gm.t) rfl rfl rfl rfl (Nat.le_of_ble_eq_true rfl) dL_law_320 ⟨by show _ ≤ 601024; dsimp only; omega, by show _ ≤ 7293000; dsimp only; omega⟩ (fun σ9 => pm4 _ _ _) (fun r16 σ17 hp18 => ?_)
  obtain ⟨G22, -, z19, rfl, r21⟩ := hp18
  show V _ _ _ _ _ _ _ _ _ _ _ _ _ _ (2000 + n, 40000 + 6 * n) (wL K dx dm ho σ8 σ17 g) _ _ [.int (iI z19)]
  refine v_pop B dL_law_323 rfl ?_
  refine v_goto B (tgt := 1455) dL_law_324 (by decide +kernel) ?_
  refine v_widen (k := 2000 + (n + 1)) (n := 40000 + 6 * (n + 1)) (by show _ ≤ _; dsimp only; omega) (by show _ ≤ _; dsimp only; omega) ?_
  exact kk σ8 σ17 g G13 G22

set_option maxHeartbeats 4000000 in
set_option maxRecDepth 100000 in
theorem lc_advertise {p : Program} {l : Launch} {e : Env} {s : State} {m : MethodId} {below : List Frame} {meth : Method} {c : Code} {D : va_G} {A : Nat → Prop} {Q : State → Prop} {zb zL : Nat} {zx : Nat → Int32} {zs : Nat → Nat} (hl0 : l.stackTraces = false) {K : Nat → ClassId} {τx τm : Nat → Option Ty} {dx dm : List Nat} (Zx : Sk τx dx) (Zm : Sk τm dm) {hx hm ho : Nat} {q : Nat → Nat} (tx : τx hx = some (41, 0, 0)) (Y : MS τm hm q) (B : Bx p s m #[.ref zb] c cL_law 7 RL lw_tbl D (tysA K) A) (hz : ZL zb zL zx zs A s s.heap) (z : Int) (n : Nat) (hi : 2 ≤ z ∧ z + 9 ≤ (zL : Int) ∧ (zL : Int) ≤ 4610) (hn : n ≤ 600) (σx σm : Nat → va_E) (g : Nat → Int64) (Gx : Good K τx σx) (Gm : GM K hm q σm) (kk : ∀ (σx σm : Nat → va_E) (g : Nat → Int64), Good K τx σx → GM K hm q σm → V p l e room_1 s m #[.ref zb] below meth c 7 D A Q (2000 + (n + 1), 40000 + 6 * (n + 1)) (wL K dx dm ho σx σm g) [(4, .int (iI z)), (3, .ref ho), (2, .ref hm), (1, .ref hx), (0, .ref zb)] 1455 []) : V p l e room_1 s m #[.ref zb] below meth c 7 D A Q (2000 + n, 40000 + 6 * n) (wL K dx dm ho σx σm g) [(4, .int (iI z)), (3, .ref ho), (2, .ref hm), (1, .ref hx), (0, .ref zb)] 327 [] := by
  refine v_aload_n B dL_law_327 rfl rfl ?_
  refine v_aload_n B dL_law_328 rfl rfl ?_
  refine v_iload B dL_law_329 rfl ?_
  refine v_iconst B (v := iI 1) dL_law_331 rfl ?_
  refine v_iadd B (v := iI (z + 1)) dL_law_332 (iI_add _ _) ?_
  obtain ⟨x1, e2, r3⟩ := iI_any (zx ((z + 1) : Int).toNat)
  refine u_sld B hz (z := (z + 1)) (v := x1) (by omega) e2 dL_law_333 ?_
  refine v_aload_n B dL_law_334 rfl rfl ?_
  refine v_iload B dL_law_335 rfl ?_
  refine v_iconst B (v := iI 2) dL_law_337 rfl ?_
  refine v_iadd B (v := iI (z + 2)) dL_law_338 (iI_add _ _) ?_
  obtain ⟨x4, e5, r6⟩ := iI_any (zx ((z + 2) : Int).toNat)
  refine u_sld B hz (z := (z + 2)) (v := x4) (by omega) e5 dL_law_339 ?_
  refine l_calli B hz Zx (a := hx) (n := 2) (As := [.int (iI x1), .int (iI x4)]) (rest := []) (wo := fd dm σm ++ [(ho, .inl (K 1, 1, .inr (.inl g)))]) (w2 := (fun σ9 => wL K dx dm ho σ9 σm g)) (List.Perm.refl _) (c_Low_advertise l D K Zx zb zL zx zs hx x1 x4 tx ⟨by omega, by omega⟩ ⟨by omega, by omega⟩ σx Gx) gl_Low_advertise_51 rfl rfl rfl (by decide +kernel) ⟨by decide +kernel, by decide +kernel⟩ tx (cls_Low Gx tx) rfl rfl rfl rfl (Nat.le_of_ble_eq_true rfl) dL_law_340 ⟨by show _ ≤ 601024; dsimp only; omega, by show _ ≤ 7293000; dsimp only; omega⟩ (fun σ9 => List.perm_append_comm) (fun r7 σ8 hp9 => ?_)
  obtain ⟨G13, -, z10, rfl, r12⟩ := hp9
  show V _ _ _ _ _ _ _ _ _ _ _ _ _ _ (2000 + n, 40000 + 6 * n) (wL K dx dm ho σ8 σm g) _ _ [.int (iI z10)]
  refine v_pop B dL_law_343 rfl ?_
  refine v_aload_n B dL_law_344 rfl rfl ?_
  refine v_aload_n B dL_law_345 rfl rfl ?_
  refine v_iload B dL_law_346 rfl ?_
  refine v_iconst B (v := iI 1) dL_law_348 rfl ?_
  refine v_iadd B (v := iI (z + 1)) dL_law_349 (iI_add _ _) ?_
  refine u_sld B hz (z := (z + 1)) (v := x1) (by omega) e2 dL_law_350 ?_
  refine v_aload_n B dL_law_351 rfl rfl ?_
  refine v_iload B dL_law_352 rfl ?_
  refine v_iconst B (v := iI 2) dL_law_354 rfl ?_
  refine v_iadd B (v := iI (z + 2)) dL_law_355 (iI_add _ _) ?_
  refine u_sld B hz (z := (z + 2)) (v := x4) (by omega) e5 dL_law_356 ?_
  refine l_calli B hz Zm (a := hm) (n := 2) (As := [.int (iI x1), .int (iI x4)]) (rest := []) (wo := fd dx σ8 ++ [(ho, .inl (K 1, 1, .inr (.inl g)))]) (w2 := (fun σ9 => wL K dx dm ho σ8 σ9 g)) (pL1 _ _ _) (c_M_advertise l D K Zm zb zL zx zs hm q Y x1 x4 ⟨by omega, by omega⟩ ⟨by omega, by omega⟩ σm Gm) gl_M_advertise_54 rfl rfl rfl (by decide +kernel) ⟨by decide +kernel, by decide +kernel⟩ Y.o (clsM Gm.t) rfl rfl rfl rfl (Nat.le_of_ble_eq_true rfl) dL_law_357 ⟨by show _ ≤ 601024; dsimp only; omega, by show _ ≤ 7293000; dsimp only; omega⟩ (fun σ9 => pm4 _ _ _) (fun r16 σ17 hp18 => ?_)
  obtain ⟨G22, -, z19, rfl, r21⟩ := hp18
  show V _ _ _ _ _ _ _ _ _ _ _ _ _ _ (2000 + n, 40000 + 6 * n) (wL K dx dm ho σ8 σ17 g) _ _ [.int (iI z19)]
  refine v_pop B dL_law_360 rfl ?_
  refine v_goto B (tgt := 1455) dL_law_361 (by decide +kernel) ?_
  refine v_widen (k := 2000 + (n + 1)) (n := 40000 + 6 * (n + 1)) (by show _ ≤ _; dsimp only; omega) (by show _ ≤ _; dsimp only; omega) ?_
  exact kk σ8 σ17 g G13 G22

set_option maxHeartbeats 4000000 in
set_option maxRecDepth 100000 in
theorem lc_scan {p : Program} {l : Launch} {e : Env} {s : State} {m : MethodId} {below : List Frame} {meth : Method} {c : Code} {D : va_G} {A : Nat → Prop} {Q : State → Prop} {zb zL : Nat} {zx : Nat → Int32} {zs : Nat → Nat} (hl0 : l.stackTraces = false) {K : Nat → ClassId} {τx τm : Nat → Option Ty} {dx dm : List Nat} (Zx : Sk τx dx) (Zm : Sk τm dm) {hx hm ho : Nat} {q : Nat → Nat} (tx : τx hx = some (41, 0, 0)) (Y : MS τm hm q) (B : Bx p s m #[.ref zb] c cL_law 7 RL lw_tbl D (tysA K) A) (hz : ZL zb zL zx zs A s s.heap) (z : Int) (n : Nat) (hi : 2 ≤ z ∧ z + 9 ≤ (zL : Int) ∧ (zL : Int) ≤ 4610) (hn : n ≤ 600) (σx σm : Nat → va_E) (g : Nat → Int64) (Gx : Good K τx σx) (Gm : GM K hm q σm) (kk : ∀ (σx σm : Nat → va_E) (g : Nat → Int64), Good K τx σx → GM K hm q σm → V p l e room_1 s m #[.ref zb] below meth c 7 D A Q (2000 + (n + 1), 40000 + 6 * (n + 1)) (wL K dx dm ho σx σm g) [(4, .int (iI z)), (3, .ref ho), (2, .ref hm), (1, .ref hx), (0, .ref zb)] 1455 []) : V p l e room_1 s m #[.ref zb] below meth c 7 D A Q (2000 + n, 40000 + 6 * n) (wL K dx dm ho σx σm g) [(4, .int (iI z)), (3, .ref ho), (2, .ref hm), (1, .ref hx), (0, .ref zb)] 364 [] := by
  refine v_aload_n B dL_law_364 rfl rfl ?_
  refine v_aload_n B dL_law_365 rfl rfl ?_
  refine v_iload B dL_law_366 rfl ?_
  refine v_iconst B (v := iI 1) dL_law_368 rfl ?_
  refine v_iadd B (v := iI (z + 1)) dL_law_369 (iI_add _ _) ?_
  obtain ⟨x1, e2, r3⟩ := iI_any (zx ((z + 1) : Int).toNat)
  refine u_sld B hz (z := (z + 1)) (v := x1) (by omega) e2 dL_law_370 ?_
  refine l_calli B hz Zx (a := hx) (n := 1) (As := [.int (iI x1)]) (rest := []) (wo := fd dm σm ++ [(ho, .inl (K 1, 1, .inr (.inl g)))]) (w2 := (fun σ9 => wL K dx dm ho σ9 σm g)) (List.Perm.refl _) (c_Low_scan l D K Zx zb zL zx zs hx x1 tx ⟨by omega, by omega⟩ σx Gx) gl_Low_scan_55 rfl rfl rfl (by decide +kernel) ⟨by decide +kernel, by decide +kernel⟩ tx (cls_Low Gx tx) rfl rfl rfl rfl (Nat.le_of_ble_eq_true rfl) dL_law_371 ⟨by show _ ≤ 601024; dsimp only; omega, by show _ ≤ 7293000; dsimp only; omega⟩ (fun σ9 => List.perm_append_comm) (fun r4 σ5 hp6 => ?_)
  obtain ⟨G10, -, z7, rfl, r9⟩ := hp6
  show V _ _ _ _ _ _ _ _ _ _ _ _ _ _ (2000 + n, 40000 + 6 * n) (wL K dx dm ho σ5 σm g) _ _ [.int (iI z7)]
  refine v_pop B dL_law_374 rfl ?_
  refine v_aload_n B dL_law_375 rfl rfl ?_
  refine v_aload_n B dL_law_376 rfl rfl ?_
  refine v_iload B dL_law_377 rfl ?_
  refine v_iconst B (v := iI 1) dL_law_379 rfl ?_
  refine v_iadd B (v := iI (z + 1)) dL_law_380 (iI_add _ _) ?_
  refine u_sld B hz (z := (z + 1)) (v := x1) (by omega) e2 dL_law_381 ?_
  refine l_calli B hz Zm (a := hm) (n := 1) (As := [.int (iI x1)]) (rest := []) (wo := fd dx σ5 ++ [(ho, .inl (K 1, 1, .inr (.inl g)))]) (w2 := (fun σ9 => wL K dx dm ho σ5 σ9 g)) (pL1 _ _ _) (c_M_scan l D K Zm zb zL zx zs hm q Y x1 ⟨by omega, by omega⟩ σm Gm) gl_M_scan_59 rfl rfl rfl (by decide +kernel) ⟨by decide +kernel, by decide +kernel⟩ Y.o (clsM Gm.t) rfl rfl rfl rfl (Nat.le_of_ble_eq_true rfl) dL_law_382 ⟨by show _ ≤ 601024; dsimp only; omega, by show _ ≤ 7293000; dsimp only; omega⟩ (fun σ9 => pm4 _ _ _) (fun r13 σ14 hp15 => ?_)
  obtain ⟨G19, -, z16, rfl, r18⟩ := hp15
  show V _ _ _ _ _ _ _ _ _ _ _ _ _ _ (2000 + n, 40000 + 6 * n) (wL K dx dm ho σ5 σ14 g) _ _ [.int (iI z16)]
  refine v_pop B dL_law_385 rfl ?_
  refine v_goto B (tgt := 1455) dL_law_386 (by decide +kernel) ?_
  refine v_widen (k := 2000 + (n + 1)) (n := 40000 + 6 * (n + 1)) (by show _ ≤ _; dsimp only; omega) (by show _ ≤ _; dsimp only; omega) ?_
  exact kk σ5 σ14 g G10 G19

set_option maxHeartbeats 4000000 in
set_option maxRecDepth 100000 in
theorem lc_connect {p : Program} {l : Launch} {e : Env} {s : State} {m : MethodId} {below : List Frame} {meth : Method} {c : Code} {D : va_G} {A : Nat → Prop} {Q : State → Prop} {zb zL : Nat} {zx : Nat → Int32} {zs : Nat → Nat} (hl0 : l.stackTraces = false) {K : Nat → ClassId} {τx τm : Nat → Option Ty} {dx dm : List Nat} (Zx : Sk τx dx) (Zm : Sk τm dm) {hx hm ho : Nat} {q : Nat → Nat} (tx : τx hx = some (41, 0, 0)) (Y : MS τm hm q) (B : Bx p s m #[.ref zb] c cL_law 7 RL lw_tbl D (tysA K) A) (hz : ZL zb zL zx zs A s s.heap) (z : Int) (n : Nat) (hi : 2 ≤ z ∧ z + 9 ≤ (zL : Int) ∧ (zL : Int) ≤ 4610) (hn : n ≤ 600) (σx σm : Nat → va_E) (g : Nat → Int64) (Gx : Good K τx σx) (Gm : GM K hm q σm) (kk : ∀ (σx σm : Nat → va_E) (g : Nat → Int64), Good K τx σx → GM K hm q σm → V p l e room_1 s m #[.ref zb] below meth c 7 D A Q (2000 + (n + 1), 40000 + 6 * (n + 1)) (wL K dx dm ho σx σm g) [(4, .int (iI z)), (3, .ref ho), (2, .ref hm), (1, .ref hx), (0, .ref zb)] 1455 []) : V p l e room_1 s m #[.ref zb] below meth c 7 D A Q (2000 + n, 40000 + 6 * n) (wL K dx dm ho σx σm g) [(4, .int (iI z)), (3, .ref ho), (2, .ref hm), (1, .ref hx), (0, .ref zb)] 389 [] := by
  refine v_aload_n B dL_law_389 rfl rfl ?_
  refine v_aload_n B dL_law_390 rfl rfl ?_
  refine v_iload B dL_law_391 rfl ?_
  refine v_iconst B (v := iI 1) dL_law_393 rfl ?_
  refine v_iadd B (v := iI (z + 1)) dL_law_394 (iI_add _ _) ?_
  obtain ⟨x1, e2, r3⟩ := iI_any (zx ((z + 1) : Int).toNat)
  refine u_sld B hz (z := (z + 1)) (v := x1) (by omega) e2 dL_law_395 ?_
  refine v_aload_n B dL_law_396 rfl rfl ?_
  refine v_iload B dL_law_397 rfl ?_
  refine v_iconst B (v := iI 2) dL_law_399 rfl ?_
  refine v_iadd B (v := iI (z + 2)) dL_law_400 (iI_add _ _) ?_
  obtain ⟨x4, e5, r6⟩ := iI_any (zx ((z + 2) : Int).toNat)
  refine u_sld B hz (z := (z + 2)) (v := x4) (by omega) e5 dL_law_401 ?_
  refine v_i2l B (v := lI x4) dL_law_402 (lI_i (by omega)) ?_
  refine v_bipush B (v := iI 32) dL_law_403 (by decide +kernel) ?_
  obtain ⟨y7, e8, r9⟩ := lI_any (lI x4 <<< ((iI 32).toInt64 &&& 63))
  refine v_lshl B (v := lI y7) dL_law_405 e8 ?_
  refine v_aload_n B dL_law_406 rfl rfl ?_
  refine v_iload B dL_law_407 rfl ?_
  refine v_iconst B (v := iI 3) dL_law_409 rfl ?_
  refine v_iadd B (v := iI (z + 3)) dL_law_410 (iI_add _ _) ?_
  obtain ⟨x10, e11, r12⟩ := iI_any (zx ((z + 3) : Int).toNat)
  refine u_sld B hz (z := (z + 3)) (v := x10) (by omega) e11 dL_law_411 ?_
  refine v_i2l B (v := lI x10) dL_law_412 (lI_i (by omega)) ?_
  refine v_ldc2 B (v := lI 4294967295) (u_cl tw_96 (by decide +kernel)) dL_law_413 ?_
  obtain ⟨y13, e14, r15⟩ := lI_any (lI x10 &&& lI 4294967295)
  refine v_land B (v := lI y13) dL_law_416 e14 ?_
  obtain ⟨y16, e17, r18⟩ := lI_any (lI y7 ||| lI y13)
  refine v_lor B (v := lI y16) dL_law_417 e17 ?_
  refine v_aload_n B dL_law_418 rfl rfl ?_
  refine v_iload B dL_law_419 rfl ?_
  refine v_iconst B (v := iI 4) dL_law_421 rfl ?_
  refine v_iadd B (v := iI (z + 4)) dL_law_422 (iI_add _ _) ?_
  obtain ⟨x19, e20, r21⟩ := iI_any (zx ((z + 4) : Int).toNat)
  refine u_sld B hz (z := (z + 4)) (v := x19) (by omega) e20 dL_law_423 ?_
  refine v_aload_n B dL_law_424 rfl rfl ?_
  refine v_iload B dL_law_425 rfl ?_
  refine v_iconst B (v := iI 5) dL_law_427 rfl ?_
  refine v_iadd B (v := iI (z + 5)) dL_law_428 (iI_add _ _) ?_
  obtain ⟨x22, e23, r24⟩ := iI_any (zx ((z + 5) : Int).toNat)
  refine u_sld B hz (z := (z + 5)) (v := x22) (by omega) e23 dL_law_429 ?_
  refine v_aload_n B dL_law_430 rfl rfl ?_
  refine v_iload B dL_law_431 rfl ?_
  refine v_bipush B (v := iI 6) dL_law_433 (by decide +kernel) ?_
  refine v_iadd B (v := iI (z + 6)) dL_law_435 (iI_add _ _) ?_
  obtain ⟨x25, e26, r27⟩ := iI_any (zx ((z + 6) : Int).toNat)
  refine u_sld B hz (z := (z + 6)) (v := x25) (by omega) e26 dL_law_436 ?_
  refine v_aload_n B dL_law_437 rfl rfl ?_
  refine v_iload B dL_law_438 rfl ?_
  refine v_bipush B (v := iI 7) dL_law_440 (by decide +kernel) ?_
  refine v_iadd B (v := iI (z + 7)) dL_law_442 (iI_add _ _) ?_
  obtain ⟨x28, e29, r30⟩ := iI_any (zx ((z + 7) : Int).toNat)
  refine u_sld B hz (z := (z + 7)) (v := x28) (by omega) e29 dL_law_443 ?_
  refine v_i2l B (v := lI x28) dL_law_444 (lI_i (by omega)) ?_
  refine v_bipush B (v := iI 32) dL_law_445 (by decide +kernel) ?_
  obtain ⟨y31, e32, r33⟩ := lI_any (lI x28 <<< ((iI 32).toInt64 &&& 63))
  refine v_lshl B (v := lI y31) dL_law_447 e32 ?_
  refine v_aload_n B dL_law_448 rfl rfl ?_
  refine v_iload B dL_law_449 rfl ?_
  refine v_bipush B (v := iI 8) dL_law_451 (by decide +kernel) ?_
  refine v_iadd B (v := iI (z + 8)) dL_law_453 (iI_add _ _) ?_
  obtain ⟨x34, e35, r36⟩ := iI_any (zx ((z + 8) : Int).toNat)
  refine u_sld B hz (z := (z + 8)) (v := x34) (by omega) e35 dL_law_454 ?_
  refine v_i2l B (v := lI x34) dL_law_455 (lI_i (by omega)) ?_
  refine v_ldc2 B (v := lI 4294967295) (u_cl tw_96 (by decide +kernel)) dL_law_456 ?_
  obtain ⟨y37, e38, r39⟩ := lI_any (lI x34 &&& lI 4294967295)
  refine v_land B (v := lI y37) dL_law_459 e38 ?_
  obtain ⟨y40, e41, r42⟩ := lI_any (lI y31 ||| lI y37)
  refine v_lor B (v := lI y40) dL_law_460 e41 ?_
  refine l_calli B hz Zx (a := hx) (n := 6) (As := [.int (iI x1), .long (lI y16), .int (iI x19), .int (iI x22), .int (iI x25), .long (lI y40)]) (rest := []) (wo := fd dm σm ++ [(ho, .inl (K 1, 1, .inr (.inl g)))]) (w2 := (fun σ9 => wL K dx dm ho σ9 σm g)) (List.Perm.refl _) (c_Low_connect l D K Zx zb zL zx zs hx x1 y16 x19 x22 x25 y40 tx ⟨by omega, by omega⟩ ⟨by omega, by omega⟩ ⟨by omega, by omega⟩ ⟨by omega, by omega⟩ ⟨by omega, by omega⟩ ⟨by omega, by omega⟩ σx Gx) gl_Low_connect_62 rfl rfl rfl (by decide +kernel) ⟨by decide +kernel, by decide +kernel⟩ tx (cls_Low Gx tx) rfl rfl rfl rfl (Nat.le_of_ble_eq_true rfl) dL_law_461 ⟨by show _ ≤ 601024; dsimp only; omega, by show _ ≤ 7293000; dsimp only; omega⟩ (fun σ9 => List.perm_append_comm) (fun r43 σ44 hp45 => ?_)
  obtain ⟨G49, -, z46, rfl, r48⟩ := hp45
  show V _ _ _ _ _ _ _ _ _ _ _ _ _ _ (2000 + n, 40000 + 6 * n) (wL K dx dm ho σ44 σm g) _ _ [.int (iI z46)]
  refine v_pop B dL_law_464 rfl ?_
  refine v_aload_n B dL_law_465 rfl rfl ?_
  refine v_aload_n B dL_law_466 rfl rfl ?_
  refine v_iload B dL_law_467 rfl ?_
  refine v_iconst B (v := iI 1) dL_law_469 rfl ?_
  refine v_iadd B (v := iI (z + 1)) dL_law_470 (iI_add _ _) ?_
  refine u_sld B hz (z := (z + 1)) (v := x1) (by omega) e2 dL_law_471 ?_
  refine v_aload_n B dL_law_472 rfl rfl ?_
  refine v_iload B dL_law_473 rfl ?_
  refine v_iconst B (v := iI 2) dL_law_475 rfl ?_
  refine v_iadd B (v := iI (z + 2)) dL_law_476 (iI_add _ _) ?_
  refine u_sld B hz (z := (z + 2)) (v := x4) (by omega) e5 dL_law_477 ?_
  refine v_i2l B (v := lI x4) dL_law_478 (lI_i (by omega)) ?_
  refine v_bipush B (v := iI 32) dL_law_479 (by decide +kernel) ?_
  obtain ⟨y52, e53, r54⟩ := lI_any (lI x4 <<< ((iI 32).toInt64 &&& 63))
  refine v_lshl B (v := lI y52) dL_law_481 e53 ?_
  refine v_aload_n B dL_law_482 rfl rfl ?_
  refine v_iload B dL_law_483 rfl ?_
  refine v_iconst B (v := iI 3) dL_law_485 rfl ?_
  refine v_iadd B (v := iI (z + 3)) dL_law_486 (iI_add _ _) ?_
  refine u_sld B hz (z := (z + 3)) (v := x10) (by omega) e11 dL_law_487 ?_
  refine v_i2l B (v := lI x10) dL_law_488 (lI_i (by omega)) ?_
  refine v_ldc2 B (v := lI 4294967295) (u_cl tw_96 (by decide +kernel)) dL_law_489 ?_
  obtain ⟨y55, e56, r57⟩ := lI_any (lI x10 &&& lI 4294967295)
  refine v_land B (v := lI y55) dL_law_492 e56 ?_
  obtain ⟨y58, e59, r60⟩ := lI_any (lI y52 ||| lI y55)
  refine v_lor B (v := lI y58) dL_law_493 e59 ?_
  refine v_aload_n B dL_law_494 rfl rfl ?_
  refine v_iload B dL_law_495 rfl ?_
  refine v_iconst B (v := iI 4) dL_law_497 rfl ?_
  refine v_iadd B (v := iI (z + 4)) dL_law_498 (iI_add _ _) ?_
  refine u_sld B hz (z := (z + 4)) (v := x19) (by omega) e20 dL_law_499 ?_
  refine v_aload_n B dL_law_500 rfl rfl ?_
  refine v_iload B dL_law_501 rfl ?_
  refine v_iconst B (v := iI 5) dL_law_503 rfl ?_
  refine v_iadd B (v := iI (z + 5)) dL_law_504 (iI_add _ _) ?_
  refine u_sld B hz (z := (z + 5)) (v := x22) (by omega) e23 dL_law_505 ?_
  refine v_aload_n B dL_law_506 rfl rfl ?_
  refine v_iload B dL_law_507 rfl ?_
  refine v_bipush B (v := iI 6) dL_law_509 (by decide +kernel) ?_
  refine v_iadd B (v := iI (z + 6)) dL_law_511 (iI_add _ _) ?_
  refine u_sld B hz (z := (z + 6)) (v := x25) (by omega) e26 dL_law_512 ?_
  refine v_aload_n B dL_law_513 rfl rfl ?_
  refine v_iload B dL_law_514 rfl ?_
  refine v_bipush B (v := iI 7) dL_law_516 (by decide +kernel) ?_
  refine v_iadd B (v := iI (z + 7)) dL_law_518 (iI_add _ _) ?_
  refine u_sld B hz (z := (z + 7)) (v := x28) (by omega) e29 dL_law_519 ?_
  refine v_i2l B (v := lI x28) dL_law_520 (lI_i (by omega)) ?_
  refine v_bipush B (v := iI 32) dL_law_521 (by decide +kernel) ?_
  obtain ⟨y61, e62, r63⟩ := lI_any (lI x28 <<< ((iI 32).toInt64 &&& 63))
  refine v_lshl B (v := lI y61) dL_law_523 e62 ?_
  refine v_aload_n B dL_law_524 rfl rfl ?_
  refine v_iload B dL_law_525 rfl ?_
  refine v_bipush B (v := iI 8) dL_law_527 (by decide +kernel) ?_
  refine v_iadd B (v := iI (z + 8)) dL_law_529 (iI_add _ _) ?_
  refine u_sld B hz (z := (z + 8)) (v := x34) (by omega) e35 dL_law_530 ?_
  refine v_i2l B (v := lI x34) dL_law_531 (lI_i (by omega)) ?_
  refine v_ldc2 B (v := lI 4294967295) (u_cl tw_96 (by decide +kernel)) dL_law_532 ?_
  obtain ⟨y64, e65, r66⟩ := lI_any (lI x34 &&& lI 4294967295)
  refine v_land B (v := lI y64) dL_law_535 e65 ?_
  obtain ⟨y67, e68, r69⟩ := lI_any (lI y61 ||| lI y64)
  refine v_lor B (v := lI y67) dL_law_536 e68 ?_
  refine l_calli B hz Zm (a := hm) (n := 6) (As := [.int (iI x1), .long (lI y58), .int (iI x19), .int (iI x22), .int (iI x25), .long (lI y67)]) (rest := []) (wo := fd dx σ44 ++ [(ho, .inl (K 1, 1, .inr (.inl g)))]) (w2 := (fun σ9 => wL K dx dm ho σ44 σ9 g)) (pL1 _ _ _) (c_M_connect l D K Zm zb zL zx zs hm q Y x1 y58 x19 x22 x25 y67 ⟨by omega, by omega⟩ ⟨by omega, by omega⟩ ⟨by omega, by omega⟩ ⟨by omega, by omega⟩ ⟨by omega, by omega⟩ ⟨by omega, by omega⟩ σm Gm) gl_M_connect_66 rfl rfl rfl (by decide +kernel) ⟨by decide +kernel, by decide +kernel⟩ Y.o (clsM Gm.t) rfl rfl rfl rfl (Nat.le_of_ble_eq_true rfl) dL_law_537 ⟨by show _ ≤ 601024; dsimp only; omega, by show _ ≤ 7293000; dsimp only; omega⟩ (fun σ9 => pm4 _ _ _) (fun r70 σ71 hp72 => ?_)
  obtain ⟨G76, -, z73, rfl, r75⟩ := hp72
  show V _ _ _ _ _ _ _ _ _ _ _ _ _ _ (2000 + n, 40000 + 6 * n) (wL K dx dm ho σ44 σ71 g) _ _ [.int (iI z73)]
  refine v_pop B dL_law_540 rfl ?_
  refine v_goto B (tgt := 1455) dL_law_541 (by decide +kernel) ?_
  refine v_widen (k := 2000 + (n + 1)) (n := 40000 + 6 * (n + 1)) (by show _ ≤ _; dsimp only; omega) (by show _ ≤ _; dsimp only; omega) ?_
  exact kk σ44 σ71 g G49 G76

set_option maxHeartbeats 4000000 in
set_option maxRecDepth 100000 in
theorem lc_stop {p : Program} {l : Launch} {e : Env} {s : State} {m : MethodId} {below : List Frame} {meth : Method} {c : Code} {D : va_G} {A : Nat → Prop} {Q : State → Prop} {zb zL : Nat} {zx : Nat → Int32} {zs : Nat → Nat} (hl0 : l.stackTraces = false) {K : Nat → ClassId} {τx τm : Nat → Option Ty} {dx dm : List Nat} (Zx : Sk τx dx) (Zm : Sk τm dm) {hx hm ho : Nat} {q : Nat → Nat} (tx : τx hx = some (41, 0, 0)) (Y : MS τm hm q) (B : Bx p s m #[.ref zb] c cL_law 7 RL lw_tbl D (tysA K) A) (hz : ZL zb zL zx zs A s s.heap) (z : Int) (n : Nat) (hi : 2 ≤ z ∧ z + 9 ≤ (zL : Int) ∧ (zL : Int) ≤ 4610) (hn : n ≤ 600) (σx σm : Nat → va_E) (g : Nat → Int64) (Gx : Good K τx σx) (Gm : GM K hm q σm) (kk : ∀ (σx σm : Nat → va_E) (g : Nat → Int64), Good K τx σx → GM K hm q σm → V p l e room_1 s m #[.ref zb] below meth c 7 D A Q (2000 + (n + 1), 40000 + 6 * (n + 1)) (wL K dx dm ho σx σm g) [(4, .int (iI z)), (3, .ref ho), (2, .ref hm), (1, .ref hx), (0, .ref zb)] 1455 []) : V p l e room_1 s m #[.ref zb] below meth c 7 D A Q (2000 + n, 40000 + 6 * n) (wL K dx dm ho σx σm g) [(4, .int (iI z)), (3, .ref ho), (2, .ref hm), (1, .ref hx), (0, .ref zb)] 544 [] := by
  refine v_aload_n B dL_law_544 rfl rfl ?_
  refine v_aload_n B dL_law_545 rfl rfl ?_
  refine v_iload B dL_law_546 rfl ?_
  refine v_iconst B (v := iI 1) dL_law_548 rfl ?_
  refine v_iadd B (v := iI (z + 1)) dL_law_549 (iI_add _ _) ?_
  obtain ⟨x1, e2, r3⟩ := iI_any (zx ((z + 1) : Int).toNat)
  refine u_sld B hz (z := (z + 1)) (v := x1) (by omega) e2 dL_law_550 ?_
  refine l_calli B hz Zx (a := hx) (n := 1) (As := [.int (iI x1)]) (rest := []) (wo := fd dm σm ++ [(ho, .inl (K 1, 1, .inr (.inl g)))]) (w2 := (fun σ9 => wL K dx dm ho σ9 σm g)) (List.Perm.refl _) (c_Low_stop l D K Zx zb zL zx zs hx x1 tx ⟨by omega, by omega⟩ σx Gx) gl_Low_stop_67 rfl rfl rfl (by decide +kernel) ⟨by decide +kernel, by decide +kernel⟩ tx (cls_Low Gx tx) rfl rfl rfl rfl (Nat.le_of_ble_eq_true rfl) dL_law_551 ⟨by show _ ≤ 601024; dsimp only; omega, by show _ ≤ 7293000; dsimp only; omega⟩ (fun σ9 => List.perm_append_comm) (fun r4 σ5 hp6 => ?_)
  obtain ⟨G10, -, z7, rfl, r9⟩ := hp6
  show V _ _ _ _ _ _ _ _ _ _ _ _ _ _ (2000 + n, 40000 + 6 * n) (wL K dx dm ho σ5 σm g) _ _ [.int (iI z7)]
  refine v_pop B dL_law_554 rfl ?_
  refine v_aload_n B dL_law_555 rfl rfl ?_
  refine v_aload_n B dL_law_556 rfl rfl ?_
  refine v_iload B dL_law_557 rfl ?_
  refine v_iconst B (v := iI 1) dL_law_559 rfl ?_
  refine v_iadd B (v := iI (z + 1)) dL_law_560 (iI_add _ _) ?_
  refine u_sld B hz (z := (z + 1)) (v := x1) (by omega) e2 dL_law_561 ?_
  refine l_calli B hz Zm (a := hm) (n := 1) (As := [.int (iI x1)]) (rest := []) (wo := fd dx σ5 ++ [(ho, .inl (K 1, 1, .inr (.inl g)))]) (w2 := (fun σ9 => wL K dx dm ho σ5 σ9 g)) (pL1 _ _ _) (c_M_stop l D K Zm zb zL zx zs hm q Y x1 ⟨by omega, by omega⟩ σm Gm) gl_M_stop_70 rfl rfl rfl (by decide +kernel) ⟨by decide +kernel, by decide +kernel⟩ Y.o (clsM Gm.t) rfl rfl rfl rfl (Nat.le_of_ble_eq_true rfl) dL_law_562 ⟨by show _ ≤ 601024; dsimp only; omega, by show _ ≤ 7293000; dsimp only; omega⟩ (fun σ9 => pm4 _ _ _) (fun r13 σ14 hp15 => ?_)
  obtain ⟨G19, -, z16, rfl, r18⟩ := hp15
  show V _ _ _ _ _ _ _ _ _ _ _ _ _ _ (2000 + n, 40000 + 6 * n) (wL K dx dm ho σ5 σ14 g) _ _ [.int (iI z16)]
  refine v_pop B dL_law_565 rfl ?_
  refine v_goto B (tgt := 1455) dL_law_566 (by decide +kernel) ?_
  refine v_widen (k := 2000 + (n + 1)) (n := 40000 + 6 * (n + 1)) (by show _ ≤ _; dsimp only; omega) (by show _ ≤ _; dsimp only; omega) ?_
  exact kk σ5 σ14 g G10 G19

