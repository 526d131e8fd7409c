set_option maxHeartbeats 4000000 in
set_option maxRecDepth 100000 in
theorem lc_set {p : Program} {l : Launch} {e : Env} {s : State} {m : MethodId} {below : List Frame} {meth : Method} {c : Code} {D : va_G} {A : Nat → Prop} {Q : State → Prop} {zb zL : Nat} {zx : Nat → Int32} {zs : Nat → Nat} (hl0 : l.stackTraces = false) {K : Nat → ClassId} {τx τm : Nat → Option Ty} {dx dm : List Nat} (Zx : Sk τx dx) (Zm : Sk τm dm) {hx hm ho : Nat} {q : Nat → Nat} (tx : τx hx = some (41, 0, 0)) (Y : MS τm hm q) (B : Bx p s m #[.ref zb] c cL_law 7 RL lw_tbl D (tysA K) A) (hz : ZL zb zL zx zs A s s.heap) (z : Int) (n : Nat) (hi : 2 ≤ z ∧ z + 9 ≤ (zL : Int) ∧ (zL : Int) ≤ 4610) (hn : n ≤ 600) (σx σm : Nat → va_E) (g : Nat → Int64) (Gx : Good K τx σx) (Gm : GM K hm q σm) (kk : ∀ (σx σm : Nat → va_E) (g : Nat → Int64), Good K τx σx → GM K hm q σm → V p l e room_1 s m #[.ref zb] below meth c 7 D A Q (2000 + (n + 1), 40000 + 6 * (n + 1)) (wL K dx dm ho σx σm g) [(4, .int (iI z)), (3, .ref ho), (2, .ref hm), (1, .ref hx), (0, .ref zb)] 1455 []) : V p l e room_1 s m #[.ref zb] below meth c 7 D A Q (2000 + n, 40000 + 6 * n) (wL K dx dm ho σx σm g) [(4, .int (iI z)), (3, .ref ho), (2, .ref hm), (1, .ref hx), (0, .ref zb)] 1157 [] := by
  refine v_aload_n B dL_law_1157 rfl rfl ?_
  refine v_aload_n B dL_law_1158 rfl rfl ?_
  refine v_iload B dL_law_1159 rfl ?_
  refine v_iconst B (v := iI 1) dL_law_1161 rfl ?_
  refine v_iadd B (v := iI (z + 1)) dL_law_1162 (iI_add _ _) ?_
  obtain ⟨x1, e2, r3⟩ := iI_any (zx ((z + 1) : Int).toNat)
  refine u_sld B hz (z := (z + 1)) (v := x1) (by omega) e2 dL_law_1163 ?_
  refine v_aload_n B dL_law_1164 rfl rfl ?_
  refine v_iload B dL_law_1165 rfl ?_
  refine v_iconst B (v := iI 2) dL_law_1167 rfl ?_
  refine v_iadd B (v := iI (z + 2)) dL_law_1168 (iI_add _ _) ?_
  obtain ⟨x4, e5, r6⟩ := iI_any (zx ((z + 2) : Int).toNat)
  refine u_sld B hz (z := (z + 2)) (v := x4) (by omega) e5 dL_law_1169 ?_
  refine l_calli B hz Zx (a := hx) (n := 2) (As := [.int (iI x1), .int (iI x4)]) (rest := []) (wo := fd dm σm ++ [(ho, .inl (K 1, 1, .inr (.inl g)))]) (w2 := (fun σ9 => wL K dx dm ho σ9 σm g)) (List.Perm.refl _) (c_Low_set l D K Zx zb zL zx zs hx x1 x4 tx ⟨by omega, by omega⟩ ⟨by omega, by omega⟩ σx Gx) gl_Low_set_129 rfl rfl rfl (by decide +kernel) ⟨by decide +kernel, by decide +kernel⟩ tx (cls_Low Gx tx) rfl rfl rfl rfl (Nat.le_of_ble_eq_true rfl) dL_law_1170 ⟨by show _ ≤ 601024; dsimp only; omega, by show _ ≤ 7293000; dsimp only; omega⟩ (fun σ9 => List.perm_append_comm) (fun r7 σ8 hp9 => ?_)
  obtain ⟨G13, -, z10, rfl, r12⟩ := hp9
  show V _ _ _ _ _ _ _ _ _ _ _ _ _ _ (2000 + n, 40000 + 6 * n) (wL K dx dm ho σ8 σm g) _ _ [.int (iI z10)]
  refine v_pop B dL_law_1173 rfl ?_
  refine v_aload_n B dL_law_1174 rfl rfl ?_
  refine v_aload_n B dL_law_1175 rfl rfl ?_
  refine v_iload B dL_law_1176 rfl ?_
  refine v_iconst B (v := iI 1) dL_law_1178 rfl ?_
  refine v_iadd B (v := iI (z + 1)) dL_law_1179 (iI_add _ _) ?_
  refine u_sld B hz (z := (z + 1)) (v := x1) (by omega) e2 dL_law_1180 ?_
  refine v_aload_n B dL_law_1181 rfl rfl ?_
  refine v_iload B dL_law_1182 rfl ?_
  refine v_iconst B (v := iI 2) dL_law_1184 rfl ?_
  refine v_iadd B (v := iI (z + 2)) dL_law_1185 (iI_add _ _) ?_
  refine u_sld B hz (z := (z + 2)) (v := x4) (by omega) e5 dL_law_1186 ?_
  refine l_calli B hz Zm (a := hm) (n := 2) (As := [.int (iI x1), .int (iI x4)]) (rest := []) (wo := fd dx σ8 ++ [(ho, .inl (K 1, 1, .inr (.inl g)))]) (w2 := (fun σ9 => wL K dx dm ho σ8 σ9 g)) (pL1 _ _ _) (c_M_set l D K Zm zb zL zx zs hm q Y x1 x4 ⟨by omega, by omega⟩ ⟨by omega, by omega⟩ σm Gm) gl_M_set_132 rfl rfl rfl (by decide +kernel) ⟨by decide +kernel, by decide +kernel⟩ Y.o (clsM Gm.t) rfl rfl rfl rfl (Nat.le_of_ble_eq_true rfl) dL_law_1187 ⟨by show _ ≤ 601024; dsimp only; omega, by show _ ≤ 7293000; dsimp only; omega⟩ (fun σ9 => pm4 _ _ _) (fun r16 σ17 hp18 => ?_)
  obtain ⟨G22, -, z19, rfl, r21⟩ := hp18
  show V _ _ _ _ _ _ _ _ _ _ _ _ _ _ (2000 + n, 40000 + 6 * n) (wL K dx dm ho σ8 σ17 g) _ _ [.int (iI z19)]
  refine v_pop B dL_law_1190 rfl ?_
  refine v_goto B (tgt := 1455) dL_law_1191 (by decide +kernel) ?_
  refine v_widen (k := 2000 + (n + 1)) (n := 40000 + 6 * (n + 1)) (by show _ ≤ _; dsimp only; omega) (by show _ ≤ _; dsimp only; omega) ?_
  exact kk σ8 σ17 g G13 G22

set_option maxHeartbeats 4000000 in
set_option maxRecDepth 100000 in
theorem lc_value {p : Program} {l : Launch} {e : Env} {s : State} {m : MethodId} {below : List Frame} {meth : Method} {c : Code} {D : va_G} {A : Nat → Prop} {Q : State → Prop} {zb zL : Nat} {zx : Nat → Int32} {zs : Nat → Nat} (hl0 : l.stackTraces = false) {K : Nat → ClassId} {τx τm : Nat → Option Ty} {dx dm : List Nat} (Zx : Sk τx dx) (Zm : Sk τm dm) {hx hm ho : Nat} {q : Nat → Nat} (tx : τx hx = some (41, 0, 0)) (Y : MS τm hm q) (B : Bx p s m #[.ref zb] c cL_law 7 RL lw_tbl D (tysA K) A) (hz : ZL zb zL zx zs A s s.heap) (z : Int) (n : Nat) (hi : 2 ≤ z ∧ z + 9 ≤ (zL : Int) ∧ (zL : Int) ≤ 4610) (hn : n ≤ 600) (σx σm : Nat → va_E) (g : Nat → Int64) (Gx : Good K τx σx) (Gm : GM K hm q σm) (kk : ∀ (σx σm : Nat → va_E) (g : Nat → Int64), Good K τx σx → GM K hm q σm → V p l e room_1 s m #[.ref zb] below meth c 7 D A Q (2000 + (n + 1), 40000 + 6 * (n + 1)) (wL K dx dm ho σx σm g) [(4, .int (iI z)), (3, .ref ho), (2, .ref hm), (1, .ref hx), (0, .ref zb)] 1455 []) : V p l e room_1 s m #[.ref zb] below meth c 7 D A Q (2000 + n, 40000 + 6 * n) (wL K dx dm ho σx σm g) [(4, .int (iI z)), (3, .ref ho), (2, .ref hm), (1, .ref hx), (0, .ref zb)] 1194 [] := by
  refine v_aload_n B dL_law_1194 rfl rfl ?_
  refine v_aload_n B dL_law_1195 rfl rfl ?_
  refine v_iload B dL_law_1196 rfl ?_
  refine v_iconst B (v := iI 1) dL_law_1198 rfl ?_
  refine v_iadd B (v := iI (z + 1)) dL_law_1199 (iI_add _ _) ?_
  obtain ⟨x1, e2, r3⟩ := iI_any (zx ((z + 1) : Int).toNat)
  refine u_sld B hz (z := (z + 1)) (v := x1) (by omega) e2 dL_law_1200 ?_
  refine v_aload_n B dL_law_1201 rfl rfl ?_
  refine v_iload B dL_law_1202 rfl ?_
  refine v_iconst B (v := iI 2) dL_law_1204 rfl ?_
  refine v_iadd B (v := iI (z + 2)) dL_law_1205 (iI_add _ _) ?_
  obtain ⟨x4, e5, r6⟩ := iI_any (zx ((z + 2) : Int).toNat)
  refine u_sld B hz (z := (z + 2)) (v := x4) (by omega) e5 dL_law_1206 ?_
  refine v_aload_n B dL_law_1207 rfl rfl ?_
  refine v_iload B dL_law_1208 rfl ?_
  refine v_iconst B (v := iI 3) dL_law_1210 rfl ?_
  refine v_iadd B (v := iI (z + 3)) dL_law_1211 (iI_add _ _) ?_
  obtain ⟨x7, e8, r9⟩ := iI_any (zx ((z + 3) : Int).toNat)
  refine u_sld B hz (z := (z + 3)) (v := x7) (by omega) e8 dL_law_1212 ?_
  refine v_aload_n B dL_law_1213 rfl rfl ?_
  refine v_perm (pL3 _ _ _) ?_
  refine v_callSiW B hz (n := 5) (As := [.ref hx, .int (iI x1), .int (iI x4), .int (iI x7), .ref ho]) (rest := []) (wc := fd dx σx ++ [(ho, .inl (K 1, 1, .inr (.inl g)))]) (wr := fd dm σm) (lk_value l hl0 D K Zx zb zL zx zs hx ho x1 x4 x7 tx ⟨by omega, by omega⟩ ⟨by omega, by omega⟩ ⟨by omega, by omega⟩ σx Gx g) gl_lk_value_133 rfl rfl rfl (by decide +kernel) ⟨by decide +kernel, by decide +kernel⟩ (sp_app _ _) rfl rfl (Nat.le_of_ble_eq_true rfl) dL_law_1214 ⟨by show _ ≤ 601024; dsimp only; omega, by show _ ≤ 7293000; dsimp only; omega⟩ (fun r10 u11 hp12 => ?_)
  obtain ⟨σ13, g14⟩ := u11
  obtain ⟨z15, rfl, r17⟩ : ∃ z : Int, r10 = iI z ∧ InR z := iI_any r10
  refine v_perm (pL4 _ _ _) ?_
  show V _ _ _ _ _ _ _ _ _ _ _ _ _ _ (2000 + n + 1, 40000 + 6 * n + 6) (wL K dx dm ho σ13 σm g14) _ _ [.int (iI z15)]
  refine v_istore B (lv' := [(5, .int (iI z15)), (4, .int (iI z)), (3, .ref ho), (2, .ref hm), (1, .ref hx), (0, .ref zb)]) dL_law_1217 (by decide +kernel) rfl ?_
  refine v_aload_n B dL_law_1219 rfl rfl ?_
  refine v_aload_n B dL_law_1220 rfl rfl ?_
  refine v_iload B dL_law_1221 rfl ?_
  refine v_iconst B (v := iI 1) dL_law_1223 rfl ?_
  refine v_iadd B (v := iI (z + 1)) dL_law_1224 (iI_add _ _) ?_
  refine u_sld B hz (z := (z + 1)) (v := x1) (by omega) e2 dL_law_1225 ?_
  refine v_aload_n B dL_law_1226 rfl rfl ?_
  refine v_iload B dL_law_1227 rfl ?_
  refine v_iconst B (v := iI 2) dL_law_1229 rfl ?_
  refine v_iadd B (v := iI (z + 2)) dL_law_1230 (iI_add _ _) ?_
  refine u_sld B hz (z := (z + 2)) (v := x4) (by omega) e5 dL_law_1231 ?_
  refine v_aload_n B dL_law_1232 rfl rfl ?_
  refine v_iload B dL_law_1233 rfl ?_
  refine v_iconst B (v := iI 3) dL_law_1235 rfl ?_
  refine v_iadd B (v := iI (z + 3)) dL_law_1236 (iI_add _ _) ?_
  refine u_sld B hz (z := (z + 3)) (v := x7) (by omega) e8 dL_law_1237 ?_
  refine l_calli B hz Zm (a := hm) (n := 3) (As := [.int (iI x1), .int (iI x4), .int (iI x7)]) (rest := []) (wo := fd dx σ13 ++ [(ho, .inl (K 1, 1, .inr (.inl g14)))]) (w2 := (fun σ9 => wL K dx dm ho σ13 σ9 g14)) (pL1 _ _ _) (c_M_value l D K Zm zb zL zx zs hm q Y x1 x4 x7 ⟨by omega, by omega⟩ ⟨by omega, by omega⟩ ⟨by omega, by omega⟩ σm Gm) gl_M_value_136 rfl rfl rfl (by decide +kernel) ⟨by decide +kernel, by decide +kernel⟩ Y.o (clsM Gm.t) rfl rfl rfl rfl (Nat.le_of_ble_eq_true rfl) dL_law_1238 ⟨by show _ ≤ 601024; dsimp only; omega, by show _ ≤ 7293000; dsimp only; omega⟩ (fun σ9 => pm4 _ _ _) (fun r18 σ19 hp20 => ?_)
  obtain ⟨G24, -, z21, rfl, r23⟩ := hp20
  show V _ _ _ _ _ _ _ _ _ _ _ _ _ _ (2000 + n + 1, 40000 + 6 * n + 6) (wL K dx dm ho σ13 σ19 g14) _ _ [.int (iI z21)]
  refine v_istore B (lv' := [(6, .int (iI z21)), (5, .int (iI z15)), (4, .int (iI z)), (3, .ref ho), (2, .ref hm), (1, .ref hx), (0, .ref zb)]) dL_law_1241 (by decide +kernel) rfl ?_
  refine v_goto B (tgt := 1455) dL_law_1243 (by decide +kernel) ?_
  refine v_lv [2, 3, 4, 5, 6] rfl ?_
  refine v_widen (k := 2000 + (n + 1)) (n := 40000 + 6 * (n + 1)) (by show _ ≤ _; dsimp only; omega) (by show _ ≤ _; dsimp only; omega) ?_
  exact kk σ13 σ19 g14 hp12 G24

set_option maxHeartbeats 4000000 in
set_option maxRecDepth 100000 in
theorem lc_mtu {p : Program} {l : Launch} {e : Env} {s : State} {m : MethodId} {below : List Frame} {meth : Method} {c : Code} {D : va_G} {A : Nat → Prop} {Q : State → Prop} {zb zL : Nat} {zx : Nat → Int32} {zs : Nat → Nat} (hl0 : l.stackTraces = false) {K : Nat → ClassId} {τx τm : Nat → Option Ty} {dx dm : List Nat} (Zx : Sk τx dx) (Zm : Sk τm dm) {hx hm ho : Nat} {q : Nat → Nat} (tx : τx hx = some (41, 0, 0)) (Y : MS τm hm q) (B : Bx p s m #[.ref zb] c cL_law 7 RL lw_tbl D (tysA K) A) (hz : ZL zb zL zx zs A s s.heap) (z : Int) (n : Nat) (hi : 2 ≤ z ∧ z + 9 ≤ (zL : Int) ∧ (zL : Int) ≤ 4610) (hn : n ≤ 600) (σx σm : Nat → va_E) (g : Nat → Int64) (Gx : Good K τx σx) (Gm : GM K hm q σm) (kk : ∀ (σx σm : Nat → va_E) (g : Nat → Int64), Good K τx σx → GM K hm q σm → V p l e room_1 s m #[.ref zb] below meth c 7 D A Q (2000 + (n + 1), 40000 + 6 * (n + 1)) (wL K dx dm ho σx σm g) [(4, .int (iI z)), (3, .ref ho), (2, .ref hm), (1, .ref hx), (0, .ref zb)] 1455 []) : V p l e room_1 s m #[.ref zb] below meth c 7 D A Q (2000 + n, 40000 + 6 * n) (wL K dx dm ho σx σm g) [(4, .int (iI z)), (3, .ref ho), (2, .ref hm), (1, .ref hx), (0, .ref zb)] 1246 [] := by
  refine v_aload_n B dL_law_1246 rfl rfl ?_
  refine v_aload_n B dL_law_1247 rfl rfl ?_
  refine v_iload B dL_law_1248 rfl ?_
  refine v_iconst B (v := iI 1) dL_law_1250 rfl ?_
  refine v_iadd B (v := iI (z + 1)) dL_law_1251 (iI_add _ _) ?_
  obtain ⟨x1, e2, r3⟩ := iI_any (zx ((z + 1) : Int).toNat)
  refine u_sld B hz (z := (z + 1)) (v := x1) (by omega) e2 dL_law_1252 ?_
  refine v_aload_n B dL_law_1253 rfl rfl ?_
  refine v_iload B dL_law_1254 rfl ?_
  refine v_iconst B (v := iI 2) dL_law_1256 rfl ?_
  refine v_iadd B (v := iI (z + 2)) dL_law_1257 (iI_add _ _) ?_
  obtain ⟨x4, e5, r6⟩ := iI_any (zx ((z + 2) : Int).toNat)
  refine u_sld B hz (z := (z + 2)) (v := x4) (by omega) e5 dL_law_1258 ?_
  refine l_calli B hz Zx (a := hx) (n := 2) (As := [.int (iI x1), .int (iI x4)]) (rest := []) (wo := fd dm σm ++ [(ho, .inl (K 1, 1, .inr (.inl g)))]) (w2 := (fun σ9 => wL K dx dm ho σ9 σm g)) (List.Perm.refl _) (c_Low_mtuX l D K Zx zb zL zx zs hx x1 x4 tx ⟨by omega, by omega⟩ ⟨by omega, by omega⟩ σx Gx) gl_Low_mtuX_137 rfl rfl rfl (by decide +kernel) ⟨by decide +kernel, by decide +kernel⟩ tx (cls_Low Gx tx) rfl rfl rfl rfl (Nat.le_of_ble_eq_true rfl) dL_law_1259 ⟨by show _ ≤ 601024; dsimp only; omega, by show _ ≤ 7293000; dsimp only; omega⟩ (fun σ9 => List.perm_append_comm) (fun r7 σ8 hp9 => ?_)
  obtain ⟨G13, -, z10, rfl, r12⟩ := hp9
  show V _ _ _ _ _ _ _ _ _ _ _ _ _ _ (2000 + n, 40000 + 6 * n) (wL K dx dm ho σ8 σm g) _ _ [.int (iI z10)]
  refine v_aload_n B dL_law_1262 rfl rfl ?_
  refine v_aload_n B dL_law_1263 rfl rfl ?_
  refine v_iload B dL_law_1264 rfl ?_
  refine v_iconst B (v := iI 1) dL_law_1266 rfl ?_
  refine v_iadd B (v := iI (z + 1)) dL_law_1267 (iI_add _ _) ?_
  refine u_sld B hz (z := (z + 1)) (v := x1) (by omega) e2 dL_law_1268 ?_
  refine v_aload_n B dL_law_1269 rfl rfl ?_
  refine v_iload B dL_law_1270 rfl ?_
  refine v_iconst B (v := iI 2) dL_law_1272 rfl ?_
  refine v_iadd B (v := iI (z + 2)) dL_law_1273 (iI_add _ _) ?_
  refine u_sld B hz (z := (z + 2)) (v := x4) (by omega) e5 dL_law_1274 ?_
  refine l_calli B hz Zm (a := hm) (n := 2) (As := [.int (iI x1), .int (iI x4)]) (rest := [.int (iI z10)]) (wo := fd dx σ8 ++ [(ho, .inl (K 1, 1, .inr (.inl g)))]) (w2 := (fun σ9 => wL K dx dm ho σ8 σ9 g)) (pL1 _ _ _) (c_M_mtu l D K Zm zb zL zx zs hm q Y x1 x4 ⟨by omega, by omega⟩ ⟨by omega, by omega⟩ σm Gm) gl_M_mtu_140 rfl rfl rfl (by decide +kernel) ⟨by decide +kernel, by decide +kernel⟩ Y.o (clsM Gm.t) rfl rfl rfl rfl (Nat.le_of_ble_eq_true rfl) dL_law_1275 ⟨by show _ ≤ 601024; dsimp only; omega, by show _ ≤ 7293000; dsimp only; omega⟩ (fun σ9 => pm4 _ _ _) (fun r16 σ17 hp18 => ?_)
  obtain ⟨G22, -, z19, rfl, r21⟩ := hp18
  show V _ _ _ _ _ _ _ _ _ _ _ _ _ _ (2000 + n, 40000 + 6 * n) (wL K dx dm ho σ8 σ17 g) _ _ [.int (iI z19), .int (iI z10)]
  refine u_icmp_eq B (tgt := 1455) (by omega) (by omega) dL_law_1278 (by decide +kernel) (fun c25 => ?_) (fun c25 => absurd c25 (by omega))
  refine v_widen (k := 2000 + (n + 1)) (n := 40000 + 6 * (n + 1)) (by show _ ≤ _; dsimp only; omega) (by show _ ≤ _; dsimp only; omega) ?_
  exact kk σ8 σ17 g G13 G22

set_option maxHeartbeats 4000000 in
set_option maxRecDepth 100000 in
theorem lc_job {p : Program} {l : Launch} {e : Env} {s : State} {m : MethodId} {below : List Frame} {meth : Method} {c : Code} {D : va_G} {A : Nat → Prop} {Q : State → Prop} {zb zL : Nat} {zx : Nat → Int32} {zs : Nat → Nat} (hl0 : l.stackTraces = false) {K : Nat → ClassId} {τx τm : Nat → Option Ty} {dx dm : List Nat} (Zx : Sk τx dx) (Zm : Sk τm dm) {hx hm ho : Nat} {q : Nat → Nat} (tx : τx hx = some (41, 0, 0)) (Y : MS τm hm q) (B : Bx p s m #[.ref zb] c cL_law 7 RL lw_tbl D (tysA K) A) (hz : ZL zb zL zx zs A s s.heap) (z : Int) (n : Nat) (hi : 2 ≤ z ∧ z + 9 ≤ (zL : Int) ∧ (zL : Int) ≤ 4610) (hn : n ≤ 600) (σx σm : Nat → va_E) (g : Nat → Int64) (Gx : Good K τx σx) (Gm : GM K hm q σm) (kk : ∀ (σx σm : Nat → va_E) (g : Nat → Int64), Good K τx σx → GM K hm q σm → V p l e room_1 s m #[.ref zb] below meth c 7 D A Q (2000 + (n + 1), 40000 + 6 * (n + 1)) (wL K dx dm ho σx σm g) [(4, .int (iI z)), (3, .ref ho), (2, .ref hm), (1, .ref hx), (0, .ref zb)] 1455 []) : V p l e room_1 s m #[.ref zb] below meth c 7 D A Q (2000 + n, 40000 + 6 * n) (wL K dx dm ho σx σm g) [(4, .int (iI z)), (3, .ref ho), (2, .ref hm), (1, .ref hx), (0, .ref zb)] 1283 [] := by
  refine v_aload_n B dL_law_1283 rfl rfl ?_
  refine v_aload_n B dL_law_1284 rfl rfl ?_
  refine v_iload B dL_law_1285 rfl ?_
  refine v_iconst B (v := iI 1) dL_law_1287 rfl ?_
  refine v_iadd B (v := iI (z + 1)) dL_law_1288 (iI_add _ _) ?_
  obtain ⟨x1, e2, r3⟩ := iI_any (zx ((z + 1) : Int).toNat)
  refine u_sld B hz (z := (z + 1)) (v := x1) (by omega) e2 dL_law_1289 ?_
  refine v_aload_n B dL_law_1290 rfl rfl ?_
  refine v_iload B dL_law_1291 rfl ?_
  refine v_iconst B (v := iI 2) dL_law_1293 rfl ?_
  refine v_iadd B (v := iI (z + 2)) dL_law_1294 (iI_add _ _) ?_
  obtain ⟨x4, e5, r6⟩ := iI_any (zx ((z + 2) : Int).toNat)
  refine u_sld B hz (z := (z + 2)) (v := x4) (by omega) e5 dL_law_1295 ?_
  refine v_aload_n B dL_law_1296 rfl rfl ?_
  refine v_iload B dL_law_1297 rfl ?_
  refine v_iconst B (v := iI 3) dL_law_1299 rfl ?_
  refine v_iadd B (v := iI (z + 3)) dL_law_1300 (iI_add _ _) ?_
  obtain ⟨x7, e8, r9⟩ := iI_any (zx ((z + 3) : Int).toNat)
  refine u_sld B hz (z := (z + 3)) (v := x7) (by omega) e8 dL_law_1301 ?_
  refine v_aload_n B dL_law_1302 rfl rfl ?_
  refine v_iload B dL_law_1303 rfl ?_
  refine v_iconst B (v := iI 4) dL_law_1305 rfl ?_
  refine v_iadd B (v := iI (z + 4)) dL_law_1306 (iI_add _ _) ?_
  obtain ⟨x10, e11, r12⟩ := iI_any (zx ((z + 4) : Int).toNat)
  refine u_sld B hz (z := (z + 4)) (v := x10) (by omega) e11 dL_law_1307 ?_
  refine l_calli B hz Zx (a := hx) (n := 4) (As := [.int (iI x1), .int (iI x4), .int (iI x7), .int (iI x10)]) (rest := []) (wo := fd dm σm ++ [(ho, .inl (K 1, 1, .inr (.inl g)))]) (w2 := (fun σ9 => wL K dx dm ho σ9 σm g)) (List.Perm.refl _) (c_Low_job l D K Zx zb zL zx zs hx x1 x4 x7 x10 tx ⟨by omega, by omega⟩ ⟨by omega, by omega⟩ ⟨by omega, by omega⟩ ⟨by omega, by omega⟩ σx Gx) gl_Low_job_141 rfl rfl rfl (by decide +kernel) ⟨by decide +kernel, by decide +kernel⟩ tx (cls_Low Gx tx) rfl rfl rfl rfl (Nat.le_of_ble_eq_true rfl) dL_law_1308 ⟨by show _ ≤ 601024; dsimp only; omega, by show _ ≤ 7293000; dsimp only; omega⟩ (fun σ9 => List.perm_append_comm) (fun r13 σ14 hp15 => ?_)
  obtain ⟨G19, -, z16, rfl, r18⟩ := hp15
  show V _ _ _ _ _ _ _ _ _ _ _ _ _ _ (2000 + n, 40000 + 6 * n) (wL K dx dm ho σ14 σm g) _ _ [.int (iI z16)]
  refine v_pop B dL_law_1311 rfl ?_
  refine v_aload_n B dL_law_1312 rfl rfl ?_
  refine v_aload_n B dL_law_1313 rfl rfl ?_
  refine v_iload B dL_law_1314 rfl ?_
  refine v_iconst B (v := iI 1) dL_law_1316 rfl ?_
  refine v_iadd B (v := iI (z + 1)) dL_law_1317 (iI_add _ _) ?_
  refine u_sld B hz (z := (z + 1)) (v := x1) (by omega) e2 dL_law_1318 ?_
  refine v_aload_n B dL_law_1319 rfl rfl ?_
  refine v_iload B dL_law_1320 rfl ?_
  refine v_iconst B (v := iI 2) dL_law_1322 rfl ?_
  refine v_iadd B (v := iI (z + 2)) dL_law_1323 (iI_add _ _) ?_
  refine u_sld B hz (z := (z + 2)) (v := x4) (by omega) e5 dL_law_1324 ?_
  refine v_aload_n B dL_law_1325 rfl rfl ?_
  refine v_iload B dL_law_1326 rfl ?_
  refine v_iconst B (v := iI 3) dL_law_1328 rfl ?_
  refine v_iadd B (v := iI (z + 3)) dL_law_1329 (iI_add _ _) ?_
  refine u_sld B hz (z := (z + 3)) (v := x7) (by omega) e8 dL_law_1330 ?_
  refine v_aload_n B dL_law_1331 rfl rfl ?_
  refine v_iload B dL_law_1332 rfl ?_
  refine v_iconst B (v := iI 4) dL_law_1334 rfl ?_
  refine v_iadd B (v := iI (z + 4)) dL_law_1335 (iI_add _ _) ?_
  refine u_sld B hz (z := (z + 4)) (v := x10) (by omega) e11 dL_law_1336 ?_
  refine l_calli B hz Zm (a := hm) (n := 4) (As := [.int (iI x1), .int (iI x4), .int (iI x7), .int (iI x10)]) (rest := []) (wo := fd dx σ14 ++ [(ho, .inl (K 1, 1, .inr (.inl g)))]) (w2 := (fun σ9 => wL K dx dm ho σ14 σ9 g)) (pL1 _ _ _) (c_M_job l D K Zm zb zL zx zs hm q Y x1 x4 x7 x10 ⟨by omega, by omega⟩ ⟨by omega, by omega⟩ ⟨by omega, by omega⟩ ⟨by omega, by omega⟩ σm Gm) gl_M_job_145 rfl rfl rfl (by decide +kernel) ⟨by decide +kernel, by decide +kernel⟩ Y.o (clsM Gm.t) rfl rfl rfl rfl (Nat.le_of_ble_eq_true rfl) dL_law_1337 ⟨by show _ ≤ 601024; dsimp only; omega, by show _ ≤ 7293000; dsimp only; omega⟩ (fun σ9 => pm4 _ _ _) (fun r22 σ23 hp24 => ?_)
  obtain ⟨G28, -, z25, rfl, r27⟩ := hp24
  show V _ _ _ _ _ _ _ _ _ _ _ _ _ _ (2000 + n, 40000 + 6 * n) (wL K dx dm ho σ14 σ23 g) _ _ [.int (iI z25)]
  refine v_pop B dL_law_1340 rfl ?_
  refine v_goto B (tgt := 1455) dL_law_1341 (by decide +kernel) ?_
  refine v_widen (k := 2000 + (n + 1)) (n := 40000 + 6 * (n + 1)) (by show _ ≤ _; dsimp only; omega) (by show _ ≤ _; dsimp only; omega) ?_
  exact kk σ14 σ23 g G19 G28

set_option maxHeartbeats 4000000 in
set_option maxRecDepth 100000 in
theorem lc_send {p : Program} {l : Launch} {e : Env} {s : State} {m : MethodId} {below : List Frame} {meth : Method} {c : Code} {D : va_G} {A : Nat → Prop} {Q : State → Prop} {zb zL : Nat} {zx : Nat → Int32} {zs : Nat → Nat} (hl0 : l.stackTraces = false) {K : Nat → ClassId} {τx τm : Nat → Option Ty} {dx dm : List Nat} (Zx : Sk τx dx) (Zm : Sk τm dm) {hx hm ho : Nat} {q : Nat → Nat} (tx : τx hx = some (41, 0, 0)) (Y : MS τm hm q) (B : Bx p s m #[.ref zb] c cL_law 7 RL lw_tbl D (tysA K) A) (hz : ZL zb zL zx zs A s s.heap) (z : Int) (n : Nat) (hi : 2 ≤ z ∧ z + 9 ≤ (zL : Int) ∧ (zL : Int) ≤ 4610) (hn : n ≤ 600) (σx σm : Nat → va_E) (g : Nat → Int64) (Gx : Good K τx σx) (Gm : GM K hm q σm) (kk : ∀ (σx σm : Nat → va_E) (g : Nat → Int64), Good K τx σx → GM K hm q σm → V p l e room_1 s m #[.ref zb] below meth c 7 D A Q (2000 + (n + 1), 40000 + 6 * (n + 1)) (wL K dx dm ho σx σm g) [(4, .int (iI z)), (3, .ref ho), (2, .ref hm), (1, .ref hx), (0, .ref zb)] 1455 []) : V p l e room_1 s m #[.ref zb] below meth c 7 D A Q (2000 + n, 40000 + 6 * n) (wL K dx dm ho σx σm g) [(4, .int (iI z)), (3, .ref ho), (2, .ref hm), (1, .ref hx), (0, .ref zb)] 1344 [] := by
  refine v_aload_n B dL_law_1344 rfl rfl ?_
  refine v_aload_n B dL_law_1345 rfl rfl ?_
  refine v_iload B dL_law_1346 rfl ?_
  refine v_iconst B (v := iI 1) dL_law_1348 rfl ?_
  refine v_iadd B (v := iI (z + 1)) dL_law_1349 (iI_add _ _) ?_
  obtain ⟨x1, e2, r3⟩ := iI_any (zx ((z + 1) : Int).toNat)
  refine u_sld B hz (z := (z + 1)) (v := x1) (by omega) e2 dL_law_1350 ?_
  refine v_aload_n B dL_law_1351 rfl rfl ?_
  refine v_iload B dL_law_1352 rfl ?_
  refine v_iconst B (v := iI 2) dL_law_1354 rfl ?_
  refine v_iadd B (v := iI (z + 2)) dL_law_1355 (iI_add _ _) ?_
  obtain ⟨x4, e5, r6⟩ := iI_any (zx ((z + 2) : Int).toNat)
  refine u_sld B hz (z := (z + 2)) (v := x4) (by omega) e5 dL_law_1356 ?_
  refine v_aload_n B dL_law_1357 rfl rfl ?_
  refine v_iload B dL_law_1358 rfl ?_
  refine v_iconst B (v := iI 3) dL_law_1360 rfl ?_
  refine v_iadd B (v := iI (z + 3)) dL_law_1361 (iI_add _ _) ?_
  obtain ⟨x7, e8, r9⟩ := iI_any (zx ((z + 3) : Int).toNat)
  refine u_sld B hz (z := (z + 3)) (v := x7) (by omega) e8 dL_law_1362 ?_
  refine l_calli B hz Zx (a := hx) (n := 3) (As := [.int (iI x1), .int (iI x4), .int (iI x7)]) (rest := []) (wo := fd dm σm ++ [(ho, .inl (K 1, 1, .inr (.inl g)))]) (w2 := (fun σ9 => wL K dx dm ho σ9 σm g)) (List.Perm.refl _) (c_Low_send l D K Zx zb zL zx zs hx x1 x4 x7 tx ⟨by omega, by omega⟩ ⟨by omega, by omega⟩ ⟨by omega, by omega⟩ σx Gx) gl_Low_send_146 rfl rfl rfl (by decide +kernel) ⟨by decide +kernel, by decide +kernel⟩ tx (cls_Low Gx tx) rfl rfl rfl rfl (Nat.le_of_ble_eq_true rfl) dL_law_1363 ⟨by show _ ≤ 601024; dsimp only; omega, by show _ ≤ 7293000; dsimp only; omega⟩ (fun σ9 => List.perm_append_comm) (fun r10 σ11 hp12 => ?_)
  obtain ⟨G16, -, z13, rfl, r15⟩ := hp12
  show V _ _ _ _ _ _ _ _ _ _ _ _ _ _ (2000 + n, 40000 + 6 * n) (wL K dx dm ho σ11 σm g) _ _ [.int (iI z13)]
  refine v_pop B dL_law_1366 rfl ?_
  refine v_aload_n B dL_law_1367 rfl rfl ?_
  refine v_aload_n B dL_law_1368 rfl rfl ?_
  refine v_iload B dL_law_1369 rfl ?_
  refine v_iconst B (v := iI 1) dL_law_1371 rfl ?_
  refine v_iadd B (v := iI (z + 1)) dL_law_1372 (iI_add _ _) ?_
  refine u_sld B hz (z := (z + 1)) (v := x1) (by omega) e2 dL_law_1373 ?_
  refine v_aload_n B dL_law_1374 rfl rfl ?_
  refine v_iload B dL_law_1375 rfl ?_
  refine v_iconst B (v := iI 2) dL_law_1377 rfl ?_
  refine v_iadd B (v := iI (z + 2)) dL_law_1378 (iI_add _ _) ?_
  refine u_sld B hz (z := (z + 2)) (v := x4) (by omega) e5 dL_law_1379 ?_
  refine v_aload_n B dL_law_1380 rfl rfl ?_
  refine v_iload B dL_law_1381 rfl ?_
  refine v_iconst B (v := iI 3) dL_law_1383 rfl ?_
  refine v_iadd B (v := iI (z + 3)) dL_law_1384 (iI_add _ _) ?_
  refine u_sld B hz (z := (z + 3)) (v := x7) (by omega) e8 dL_law_1385 ?_
  refine l_calli B hz Zm (a := hm) (n := 3) (As := [.int (iI x1), .int (iI x4), .int (iI x7)]) (rest := []) (wo := fd dx σ11 ++ [(ho, .inl (K 1, 1, .inr (.inl g)))]) (w2 := (fun σ9 => wL K dx dm ho σ11 σ9 g)) (pL1 _ _ _) (c_M_send l D K Zm zb zL zx zs hm q Y x1 x4 x7 ⟨by omega, by omega⟩ ⟨by omega, by omega⟩ ⟨by omega, by omega⟩ σm Gm) gl_M_send_150 rfl rfl rfl (by decide +kernel) ⟨by decide +kernel, by decide +kernel⟩ Y.o (clsM Gm.t) rfl rfl rfl rfl (Nat.le_of_ble_eq_true rfl) dL_law_1386 ⟨by show _ ≤ 601024; dsimp only; omega, by show _ ≤ 7293000; dsimp only; omega⟩ (fun σ9 => pm4 _ _ _) (fun r19 σ20 hp21 => ?_)
  obtain ⟨G25, -, z22, rfl, r24⟩ := hp21
  show V _ _ _ _ _ _ _ _ _ _ _ _ _ _ (2000 + n, 40000 + 6 * n) (wL K dx dm ho σ11 σ20 g) _ _ [.int (iI z22)]
  refine v_pop B dL_law_1389 rfl ?_
  refine v_goto B (tgt := 1455) dL_law_1390 (by decide +kernel) ?_
  refine v_widen (k := 2000 + (n + 1)) (n := 40000 + 6 * (n + 1)) (by show _ ≤ _; dsimp only; omega) (by show _ ≤ _; dsimp only; omega) ?_
  exact kk σ11 σ20 g G16 G25

set_option maxHeartbeats 4000000 in
set_option maxRecDepth 100000 in
theorem lc_completion {p : Program} {l : Launch} {e : Env} {s : State} {m : MethodId} {below : List Frame} {meth : Method} {c : Code} {D : va_G} {A : Nat → Prop} {Q : State → Prop} {zb zL : Nat} {zx : Nat → Int32} {zs : Nat → Nat} (hl0 : l.stackTraces = false) {K : Nat → ClassId} {τx τm : Nat → Option Ty} {dx dm : List Nat} (Zx : Sk τx dx) (Zm : Sk τm dm) {hx hm ho : Nat} {q : Nat → Nat} (tx : τx hx = some (41, 0, 0)) (Y : MS τm hm q) (B : Bx p s m #[.ref zb] c cL_law 7 RL lw_tbl D (tysA K) A) (hz : ZL zb zL zx zs A s s.heap) (z : Int) (n : Nat) (hi : 2 ≤ z ∧ z + 9 ≤ (zL : Int) ∧ (zL : Int) ≤ 4610) (hn : n ≤ 600) (σx σm : Nat → va_E) (g : Nat → Int64) (Gx : Good K τx σx) (Gm : GM K hm q σm) (kk : ∀ (σx σm : Nat → va_E) (g : Nat → Int64), Good K τx σx → GM K hm q σm → V p l e room_1 s m #[.ref zb] below meth c 7 D A Q (2000 + (n + 1), 40000 + 6 * (n + 1)) (wL K dx dm ho σx σm g) [(4, .int (iI z)), (3, .ref ho), (2, .ref hm), (1, .ref hx), (0, .ref zb)] 1455 []) : V p l e room_1 s m #[.ref zb] below meth c 7 D A Q (2000 + n, 40000 + 6 * n) (wL K dx dm ho σx σm g) [(4, .int (iI z)), (3, .ref ho), (2, .ref hm), (1, .ref hx), (0, .ref zb)] 1393 [] := by
  refine v_aload_n B dL_law_1393 rfl rfl ?_
  refine v_aload_n B dL_law_1394 rfl rfl ?_
  refine v_iload B dL_law_1395 rfl ?_
  refine v_iconst B (v := iI 1) dL_law_1397 rfl ?_
  refine v_iadd B (v := iI (z + 1)) dL_law_1398 (iI_add _ _) ?_
  obtain ⟨x1, e2, r3⟩ := iI_any (zx ((z + 1) : Int).toNat)
  refine u_sld B hz (z := (z + 1)) (v := x1) (by omega) e2 dL_law_1399 ?_
  refine v_aload_n B dL_law_1400 rfl rfl ?_
  refine v_iload B dL_law_1401 rfl ?_
  refine v_iconst B (v := iI 2) dL_law_1403 rfl ?_
  refine v_iadd B (v := iI (z + 2)) dL_law_1404 (iI_add _ _) ?_
  obtain ⟨x4, e5, r6⟩ := iI_any (zx ((z + 2) : Int).toNat)
  refine u_sld B hz (z := (z + 2)) (v := x4) (by omega) e5 dL_law_1405 ?_
  refine l_calli B hz Zx (a := hx) (n := 2) (As := [.int (iI x1), .int (iI x4)]) (rest := []) (wo := fd dm σm ++ [(ho, .inl (K 1, 1, .inr (.inl g)))]) (w2 := (fun σ9 => wL K dx dm ho σ9 σm g)) (List.Perm.refl _) (c_Low_completion l D K Zx zb zL zx zs hx x1 x4 tx ⟨by omega, by omega⟩ ⟨by omega, by omega⟩ σx Gx) gl_Low_completion_151 rfl rfl rfl (by decide +kernel) ⟨by decide +kernel, by decide +kernel⟩ tx (cls_Low Gx tx) rfl rfl rfl rfl (Nat.le_of_ble_eq_true rfl) dL_law_1406 ⟨by show _ ≤ 601024; dsimp only; omega, by show _ ≤ 7293000; dsimp only; omega⟩ (fun σ9 => List.perm_append_comm) (fun r7 σ8 hp9 => ?_)
  obtain ⟨rfl, z10, rfl, r12⟩ := hp9
  show V _ _ _ _ _ _ _ _ _ _ _ _ _ _ (2000 + n, 40000 + 6 * n) (wL K dx dm ho σx σm g) _ _ [.int (iI z10)]
  refine v_pop B dL_law_1409 rfl ?_
  refine v_aload_n B dL_law_1410 rfl rfl ?_
  refine v_aload_n B dL_law_1411 rfl rfl ?_
  refine v_iload B dL_law_1412 rfl ?_
  refine v_iconst B (v := iI 1) dL_law_1414 rfl ?_
  refine v_iadd B (v := iI (z + 1)) dL_law_1415 (iI_add _ _) ?_
  refine u_sld B hz (z := (z + 1)) (v := x1) (by omega) e2 dL_law_1416 ?_
  refine v_aload_n B dL_law_1417 rfl rfl ?_
  refine v_iload B dL_law_1418 rfl ?_
  refine v_iconst B (v := iI 2) dL_law_1420 rfl ?_
  refine v_iadd B (v := iI (z + 2)) dL_law_1421 (iI_add _ _) ?_
  refine u_sld B hz (z := (z + 2)) (v := x4) (by omega) e5 dL_law_1422 ?_
  refine l_calli B hz Zm (a := hm) (n := 2) (As := [.int (iI x1), .int (iI x4)]) (rest := []) (wo := fd dx σx ++ [(ho, .inl (K 1, 1, .inr (.inl g)))]) (w2 := (fun σ9 => wL K dx dm ho σx σ9 g)) (pL1 _ _ _) (c_M_completion l D K Zm zb zL zx zs hm q Y x1 x4 ⟨by omega, by omega⟩ ⟨by omega, by omega⟩ σm Gm) gl_M_completion_154 rfl rfl rfl (by decide +kernel) ⟨by decide +kernel, by decide +kernel⟩ Y.o (clsM Gm.t) rfl rfl rfl rfl (Nat.le_of_ble_eq_true rfl) dL_law_1423 ⟨by show _ ≤ 601024; dsimp only; omega, by show _ ≤ 7293000; dsimp only; omega⟩ (fun σ9 => pm4 _ _ _) (fun r16 σ17 hp18 => ?_)
  obtain ⟨G22, -, z19, rfl, r21⟩ := hp18
  show V _ _ _ _ _ _ _ _ _ _ _ _ _ _ (2000 + n, 40000 + 6 * n) (wL K dx dm ho σx σ17 g) _ _ [.int (iI z19)]
  refine v_pop B dL_law_1426 rfl ?_
  refine v_goto B (tgt := 1455) dL_law_1427 (by decide +kernel) ?_
  refine v_widen (k := 2000 + (n + 1)) (n := 40000 + 6 * (n + 1)) (by show _ ≤ _; dsimp only; omega) (by show _ ≤ _; dsimp only; omega) ?_
  exact kk σx σ17 g Gx G22

set_option maxHeartbeats 4000000 in
set_option maxRecDepth 100000 in
theorem lc_take {p : Program} {l : Launch} {e : Env} {s : State} {m : MethodId} {below : List Frame} {meth : Method} {c : Code} {D : va_G} {A : Nat → Prop} {Q : State → Prop} {zb zL : Nat} {zx : Nat → Int32} {zs : Nat → Nat} (hl0 : l.stackTraces = false) {K : Nat → ClassId} {τx τm : Nat → Option Ty} {dx dm : List Nat} (Zx : Sk τx dx) (Zm : Sk τm dm) {hx hm ho : Nat} {q : Nat → Nat} (tx : τx hx = some (41, 0, 0)) (Y : MS τm hm q) (B : Bx p s m #[.ref zb] c cL_law 7 RL lw_tbl D (tysA K) A) (hz : ZL zb zL zx zs A s s.heap) (z : Int) (n : Nat) (hi : 2 ≤ z ∧ z + 9 ≤ (zL : Int) ∧ (zL : Int) ≤ 4610) (hn : n ≤ 600) (σx σm : Nat → va_E) (g : Nat → Int64) (Gx : Good K τx σx) (Gm : GM K hm q σm) (kk : ∀ (σx σm : Nat → va_E) (g : Nat → Int64), Good K τx σx → GM K hm q σm → V p l e room_1 s m #[.ref zb] below meth c 7 D A Q (2000 + (n + 1), 40000 + 6 * (n + 1)) (wL K dx dm ho σx σm g) [(4, .int (iI z)), (3, .ref ho), (2, .ref hm), (1, .ref hx), (0, .ref zb)] 1455 []) : V p l e room_1 s m #[.ref zb] below meth c 7 D A Q (2000 + n, 40000 + 6 * n) (wL K dx dm ho σx σm g) [(4, .int (iI z)), (3, .ref ho), (2, .ref hm), (1, .ref hx), (0, .ref zb)] 1430 [] := by
  refine v_aload_n B dL_law_1430 rfl rfl ?_
  refine v_aload_n B dL_law_1431 rfl rfl ?_
  refine v_iload B dL_law_1432 rfl ?_
  refine v_iconst B (v := iI 1) dL_law_1434 rfl ?_
  refine v_iadd B (v := iI (z + 1)) dL_law_1435 (iI_add _ _) ?_
  obtain ⟨x1, e2, r3⟩ := iI_any (zx ((z + 1) : Int).toNat)
  refine u_sld B hz (z := (z + 1)) (v := x1) (by omega) e2 dL_law_1436 ?_
  refine l_calli B hz Zx (a := hx) (n := 1) (As := [.int (iI x1)]) (rest := []) (wo := fd dm σm ++ [(ho, .inl (K 1, 1, .inr (.inl g)))]) (w2 := (fun σ9 => wL K dx dm ho σ9 σm g)) (List.Perm.refl _) (c_Low_take l D K Zx zb zL zx zs hx x1 tx ⟨by omega, by omega⟩ σx Gx) gl_Low_take_155 rfl rfl rfl (by decide +kernel) ⟨by decide +kernel, by decide +kernel⟩ tx (cls_Low Gx tx) rfl rfl rfl rfl (Nat.le_of_ble_eq_true rfl) dL_law_1437 ⟨by show _ ≤ 601024; dsimp only; omega, by show _ ≤ 7293000; dsimp only; omega⟩ (fun σ9 => List.perm_append_comm) (fun r4 σ5 hp6 => ?_)
  obtain ⟨G10, -, z7, rfl, r9⟩ := hp6
  show V _ _ _ _ _ _ _ _ _ _ _ _ _ _ (2000 + n, 40000 + 6 * n) (wL K dx dm ho σ5 σm g) _ _ [.int (iI z7)]
  refine v_pop B dL_law_1440 rfl ?_
  refine v_aload_n B dL_law_1441 rfl rfl ?_
  refine v_aload_n B dL_law_1442 rfl rfl ?_
  refine v_iload B dL_law_1443 rfl ?_
  refine v_iconst B (v := iI 1) dL_law_1445 rfl ?_
  refine v_iadd B (v := iI (z + 1)) dL_law_1446 (iI_add _ _) ?_
  refine u_sld B hz (z := (z + 1)) (v := x1) (by omega) e2 dL_law_1447 ?_
  refine l_calli B hz Zm (a := hm) (n := 1) (As := [.int (iI x1)]) (rest := []) (wo := fd dx σ5 ++ [(ho, .inl (K 1, 1, .inr (.inl g)))]) (w2 := (fun σ9 => wL K dx dm ho σ5 σ9 g)) (pL1 _ _ _) (c_M_take l D K Zm zb zL zx zs hm q Y x1 ⟨by omega, by omega⟩ σm Gm) gl_M_take_158 rfl rfl rfl (by decide +kernel) ⟨by decide +kernel, by decide +kernel⟩ Y.o (clsM Gm.t) rfl rfl rfl rfl (Nat.le_of_ble_eq_true rfl) dL_law_1448 ⟨by show _ ≤ 601024; dsimp only; omega, by show _ ≤ 7293000; dsimp only; omega⟩ (fun σ9 => pm4 _ _ _) (fun r13 σ14 hp15 => ?_)
  obtain ⟨G19, -, z16, rfl, r18⟩ := hp15
  show V _ _ _ _ _ _ _ _ _ _ _ _ _ _ (2000 + n, 40000 + 6 * n) (wL K dx dm ho σ5 σ14 g) _ _ [.int (iI z16)]
  refine v_pop B dL_law_1451 rfl ?_
  refine v_goto B (tgt := 1455) dL_law_1452 (by decide +kernel) ?_
  refine v_widen (k := 2000 + (n + 1)) (n := 40000 + 6 * (n + 1)) (by show _ ≤ _; dsimp only; omega) (by show _ ≤ _; dsimp only; omega) ?_
  exact kk σ5 σ14 g G10 G19

