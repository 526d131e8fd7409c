def wp_M_sends : List Cond := .code yX12_sends cX12_sends 11 (some .int) :: (([.fieldLink RX12 176 "LowEnergyModel" "sending" "[B", .fieldLink RX12 164 "LowEnergyModel" "air" "[B", .methodLink RX12 29 yX12_copy, .static yX12_copy, .initialized RX12, .code yX12_copy cX12_copy 6 none, .fieldLink RX12 94 "LowEnergyModel" "lost" "[I", .fieldLink RX12 97 "LowEnergyModel" "noises" "[I", .fieldLink RX12 429 "LowEnergyModel" "packets" "I", .fieldLink RX12 167 "LowEnergyModel" "airMany" "[I", .fieldLink RX12 170 "LowEnergyModel" "airChannel" "[I", .fieldLink RX12 173 "LowEnergyModel" "airLost" "[Z", .fieldLink RX12 100 "LowEnergyModel" "noise" "[I", .methodLink RX12 425 yX12_whiten, .static yX12_whiten, .code yX12_whiten cX12_whiten 7 none, .methodLink RX12 422 yX12_crcByte, .static yX12_crcByte, .code yX12_crcByte cX12_crcByte 4 (some .int), .methodLink RX12 418 yX12_crc, .static yX12_crc, .code yX12_crc cX12_crc 7 (some .int), .constant RX12 417 (16777215)] : List Cond) ++ (wsX120 ++ ([])))
theorem hi_M_sends_X12 : ∀ x ∈ u_ws RX12 TX12 123, x ∈ wp_M_sends := fun _ h => List.mem_cons_of_mem _ (List.mem_append_right _ (List.mem_append_left _ h))
set_option maxRecDepth 100000 in
theorem gd_M_sends_M_copy_29 : GoodIn wp_M_sends (va_wsS RX12 29 yX12_copy wp_M_copy) := goodIn_app (goodIn_r _ [3, 4, 5] rfl rfl) (goodIn_ca (goodIn_r _ [6] rfl rfl) (goodIn_nil))
set_option maxRecDepth 100000 in
theorem gd_M_sends_M_whiten_425 : GoodIn wp_M_sends (va_wsS RX12 425 yX12_whiten wp_M_whiten) := goodIn_app (goodIn_r _ [14, 15, 5] rfl rfl) (goodIn_ca (goodIn_r _ [16] rfl rfl) (goodIn_nil))
set_option maxRecDepth 100000 in
theorem gd_M_sends_M_crcByte_422 : GoodIn wp_M_sends (va_wsS RX12 422 yX12_crcByte wp_M_crcByte) := goodIn_app (goodIn_r _ [17, 18, 5] rfl rfl) (goodIn_ca (goodIn_r _ [19] rfl rfl) (goodIn_nil))
set_option maxRecDepth 100000 in
theorem gd_M_sends_M_crc_418 : GoodIn wp_M_sends (va_wsS RX12 418 yX12_crc wp_M_crc) := goodIn_app (goodIn_r _ [20, 21, 5] rfl rfl) (goodIn_ca (goodIn_r _ [22, 23] rfl rfl) (goodIn_nil))
set_option maxHeartbeats 4000000 in
set_option maxRecDepth 100000 in
theorem b_M_sends {p : Program} {l : Launch} {e : Env} {R : Room} {s : State} {m : MethodId} {args : Array Value} {below : List Frame} {meth : Method} {c : Code} {D : va_G} {K : Nat → ClassId} {A : Nat → Prop} {Q : State → Prop} {τ : Nat → Option Ty} {dom : List Nat} {zb zL : Nat} {zx : Nat → Int32} {zs : Nat → Nat} (hR : 1 ≤ R.frames ∧ 26 ≤ R.locals) (B : Bx p s m args c cX12_sends 11 RX12 wp_M_sends D (tysA K) A) (Z : Sk τ dom) (hz : ZL zb zL zx zs A s s.heap) (h : Nat) (q : Nat → Nat) (Y : MS τ h q) (d : Int) (j2 Nj2 : Nat) (x3 : Int) (x4 : Int) (x5 : Int) (x6 : Int) (x7 : Int) (P : Int) (r_d : 0 ≤ d ∧ d ≤ 1) (hj_j2 : tabM[j2]? = some (2, Nj2, -128, 127)) (r_x3 : 0 ≤ x3 ∧ x3 ≤ 4) (r_x4 : -2147483648 ≤ x4 ∧ x4 ≤ 2147483647) (r_x5 : -2147483648 ≤ x5 ∧ x5 ≤ 2147483647) (r_x6 : -2147483648 ≤ x6 ∧ x6 ≤ 2147483647) (r_x7 : 0 ≤ x7 ∧ x7 ≤ 31) (r_P : 0 ≤ P ∧ P ≤ 15) (σ0 : Nat → va_E) (G0 : GM K h q σ0) (hc : x3 + 4 ≤ (Nj2 : Int)) (hp : Fld σ0 h 12 51 (fun y => y = P)) (hend : ∀ (σ' : Nat → va_E) (z : Int) (lv : List (Nat × Value)) (pc : Nat), GM K h q σ' → Fr τ [(152, 0), (124, 0), (50, 0), (148, 0), (149, 0), (150, 0), (123, 0), (147, 0)] σ0 σ' → (0 ≤ z ∧ z ≤ 15) → (At σ' (q 48) z.toNat 9 40 ∧ Fld σ' h 12 51 (fun y => y = P + 1)) → decode cX12_sends pc = .ok (.ireturn, 1) → V p l e R s m args below meth c 11 D A Q (0, 0) (fd dom σ') lv pc [.int (iI z)]) : V p l e R s m args below meth c 11 D A Q (0, 0) (fd dom σ0) [(0, .ref h), (1, .int (iI d)), (2, .ref (q j2)), (3, .int (iI x3)), (4, .int (iI x4)), (5, .int (iI x5)), (6, .int (iI x6)), (7, .int (iI x7))] 0 [] := by
  have F0 : Fr τ [(152, 0), (124, 0), (50, 0), (148, 0), (149, 0), (150, 0), (123, 0), (147, 0)] σ0 σ0 := Fr.rf
  have hN_j2 := lenB hj_j2
  obtain ⟨z1, z2, z3, z4, z5, h6, r7, r8, r9, r10, r11⟩ := G0.t.o
  have r12 : z4 = P := hp.use h6 (j := 51) rfl (by omega)
  have J250 : ∀ (σ_250 : Nat → va_E) (z250_9 : Int), GM K h q σ_250 → Fr τ [(152, 0), (124, 0), (50, 0), (148, 0), (149, 0), (150, 0), (123, 0), (147, 0)] σ0 σ_250 → (0 ≤ z250_9 ∧ z250_9 ≤ 15) → (At σ_250 (q 48) (z250_9 : Int).toNat (9) (40) ∧ Fld σ_250 h 12 51 (fun y => y = P + 1)) → V p l e R s m args below meth c 11 D A Q (0, 0) (fd dom σ_250) [(0, .ref h), (7, .int (iI x7)), (9, .int (iI z250_9))] 250 [] := by
    intro σ_250 z250_9 G_250 F_250 r250_9 i250
    obtain ⟨f13, h14, e15⟩ := ga_48 G_250.t
    obtain ⟨z16, e17, r18⟩ := e15 (z250_9 : Int).toNat
    have r19 := (i250.1).use h14 e17 (by omega)
    obtain ⟨z20, z21, z22, z23, z24, h25, r26, r27, r28, r29, r30⟩ := G_250.t.o
    have r31 : z23 = P + 1 := (i250.2).use h25 (j := 51) rfl (by omega)
    refine v_aload_n B dX12_sends_250 rfl rfl ?_
    refine u_get B Z (C := RX12) (T := TX12) (N := 123) (ci := 12) hi_M_sends_X12 Y.o h25 rfl 52 (by decide +kernel) (List.mem_of_getElem? (i := 1) rfl) rfl dX12_sends_251 ?_
    refine v_iconst B (v := iI 0) dX12_sends_254 rfl ?_
    refine v_aload_n B dX12_sends_255 rfl rfl ?_
    refine u_get B Z (C := RX12) (T := TX12) (N := 123) (ci := 12) hi_M_sends_X12 Y.o h25 rfl 47 (by decide +kernel) (List.mem_of_getElem? (i := 2) rfl) rfl dX12_sends_256 ?_
    refine v_bipush B (v := iI 40) dX12_sends_259 (by decide +kernel) ?_
    refine v_iload B dX12_sends_261 rfl ?_
    refine v_imul B (v := iI (40 * z250_9)) dX12_sends_263 ((iI_mul _ _).trans (congrArg iI (by omega))) ?_
    refine v_bipush B (v := iI 9) dX12_sends_264 (by decide +kernel) ?_
    refine v_iload B dX12_sends_266 rfl ?_
    refine v_iadd B (v := iI (x7 + 9)) dX12_sends_268 ((iI_add _ _).trans (congrArg iI (by omega))) ?_
    refine u_callSv B Z hz (n := 5) (As := [.ref (q 52), .int (iI 0), .ref (q 47), .int (iI (40 * z250_9)), .int (iI (x7 + 9))]) (rest := []) (c_M_copy l D K Z _ _ _ _ h q Y 52 40 0 47 640 (40 * z250_9) (x7 + 9) rfl ⟨by omega, by omega⟩ rfl ⟨by omega, by omega⟩ ⟨by omega, by omega⟩ σ_250 G_250 (by omega)) gd_M_sends_M_copy_29 rfl rfl rfl (by decide +kernel) ⟨Nat.le_trans (by decide +kernel) hR.1, Nat.le_trans (by decide +kernel) hR.2⟩ rfl rfl (Nat.le_of_ble_eq_true rfl) dX12_sends_269 ⟨Nat.zero_le _, Nat.zero_le _⟩ (fun σ32 p33 => ?_)
    obtain ⟨G35, F36⟩ := p33
    have F37 := F_250.call F36 (by first | rfl | simp)
    refine v_iload B dX12_sends_272 rfl ?_
    have h38 := (F36 (q 48) _ (ym_48 Y) (by first | rfl | simp)).trans (h14)
    have h39 := (F36 h _ Y.o (by first | rfl | simp)).trans (h25)
    exact hend σ32 z250_9 _ _ G35 F37 ⟨by omega, by omega⟩ ⟨(At.mk h38 e17 (by omega) ⟨by omega, by omega⟩), (Fld.mk h39 (j := 51) rfl (by omega) (show z23 = P + 1 from by omega))⟩ dX12_sends_274
  have J230 : ∀ (σ_230 : Nat → va_E) (z230_9 : Int) (z230_s0 : Int) (z230_s1 : Int), GM K h q σ_230 → Fr τ [(152, 0), (124, 0), (50, 0), (148, 0), (149, 0), (150, 0), (123, 0), (147, 0)] σ0 σ_230 → (0 ≤ z230_9 ∧ z230_9 ≤ 15) → (0 ≤ z230_s0 ∧ z230_s0 ≤ 1) → (0 ≤ z230_s1 ∧ z230_s1 ≤ 15) → (At σ_230 (q 48) (z230_9 : Int).toNat (9) (40) ∧ Fld σ_230 h 12 51 (fun y => y = P + 1)) → V p l e R s m args below meth c 11 D A Q (0, 0) (fd dom σ_230) [(0, .ref h), (1, .int (iI d)), (7, .int (iI x7)), (9, .int (iI z230_9))] 230 [.int (iI z230_s0), .int (iI z230_s1), .ref (q 50)] := by
    intro σ_230 z230_9 z230_s0 z230_s1 G_230 F_230 r230_9 r230_s0 r230_s1 i230
    obtain ⟨f40, h41, e42⟩ := ga_48 G_230.t
    obtain ⟨z43, e44, r45⟩ := e42 (z230_9 : Int).toNat
    have r46 := (i230.1).use h41 e44 (by omega)
    obtain ⟨z47, z48, z49, z50, z51, h52, r53, r54, r55, r56, r57⟩ := G_230.t.o
    have r58 : z50 = P + 1 := (i230.2).use h52 (j := 51) rfl (by omega)
    obtain ⟨f59, h60, e61⟩ := ga_50 G_230.t
    refine u_zast B Z (t0 := 3) (x := iI z230_s0) (y := iI z230_s0) (ym_50 Y) h60 rfl (by omega) (narZ (by omega)) dX12_sends_230 (fun σ62 h63 n64 => ?_)
    have e65 := el_upd (z := z230_s0) e61 ⟨by omega, by omega⟩ (z230_s1 : Int).toNat
    have F66 := F_230.put (ym_50 Y) (by simp) n64
    have G67 := gp_50 Y G_230 ⟨_, h63, e65⟩ n64
    refine v_aload_n B dX12_sends_231 rfl rfl ?_
    have h68 := (n64 h (ne_ty Y.o (ym_50 Y) (by decide))).trans (h52)
    refine u_get B Z (C := RX12) (T := TX12) (N := 123) (ci := 12) hi_M_sends_X12 Y.o h68 rfl 23 (by decide +kernel) (List.mem_of_getElem? (i := 7) rfl) rfl dX12_sends_232 ?_
    refine v_iload_n B dX12_sends_235 rfl rfl ?_
    obtain ⟨f69, h70, e71⟩ := ga_23 G67.t
    obtain ⟨z72, e73, r74⟩ := e71 (d : Int).toNat
    refine u_iald B Z (t0 := 0) (ym_23 Y) h70 rfl (by omega) e73 dX12_sends_236 ?_
    refine u_if_le B (tgt := 250) (by omega) dX12_sends_237 (by decide +kernel) (fun c75 => ?_) (fun c75 => ?_)
    · refine v_lv [0, 2, 3] rfl ?_
      have h76 := (n64 (q 48) (ne_ty (ym_48 Y) (ym_50 Y) (by decide))).trans (h41)
      exact J250 σ62 z230_9 G67 F66 ⟨by omega, by omega⟩ (⟨(At.mk h76 e44 (by omega) ⟨by omega, by omega⟩), (Fld.mk h68 (j := 51) rfl (by omega) (show z50 = P + 1 from by omega))⟩)
    · refine v_aload_n B dX12_sends_240 rfl rfl ?_
      refine u_get B Z (C := RX12) (T := TX12) (N := 123) (ci := 12) hi_M_sends_X12 Y.o h68 rfl 23 (by decide +kernel) (List.mem_of_getElem? (i := 7) rfl) rfl dX12_sends_241 ?_
      refine v_iload_n B dX12_sends_244 rfl rfl ?_
      refine v_dup2 B dX12_sends_245 rfl rfl ?_
      refine u_iald B Z (t0 := 0) (ym_23 Y) h70 rfl (by omega) e73 dX12_sends_246 ?_
      refine v_iconst B (v := iI 1) dX12_sends_247 rfl ?_
      refine v_isub B (v := iI (z72 + (-1))) dX12_sends_248 ((iI_sub _ _).trans (congrArg iI (by omega))) ?_
      refine u_iast B Z (t0 := 0) (x := iI (z72 + (-1))) (ym_23 Y) h70 rfl (by omega) dX12_sends_249 (fun σ77 h78 n79 => ?_)
      have e80 := el_upd (z := (z72 + (-1))) e71 ⟨by omega, by omega⟩ (d : Int).toNat
      have F81 := F66.put (ym_23 Y) (by simp) n79
      have G82 := gp_23 Y G67 ⟨_, h78, e80⟩ n79
      refine v_lv [0, 2, 3] rfl ?_
      have h83 := (n79 (q 48) (ne_ty (ym_48 Y) (ym_23 Y) (by decide))).trans ((n64 (q 48) (ne_ty (ym_48 Y) (ym_50 Y) (by decide))).trans (h41))
      have h84 := (n79 h (ne_ty Y.o (ym_23 Y) (by decide))).trans (h68)
      exact J250 σ77 z230_9 G82 F81 ⟨by omega, by omega⟩ (⟨(At.mk h83 e44 (by omega) ⟨by omega, by omega⟩), (Fld.mk h84 (j := 51) rfl (by omega) (show z50 = P + 1 from by omega))⟩)
  have J100 : ∀ (k100 : Nat) (σ_100 : Nat → va_E) (z100_9 : Int), (2147483648 - z100_9).toNat ≤ k100 → GM K h q σ_100 → Fr τ [(152, 0), (124, 0), (50, 0), (148, 0), (149, 0), (150, 0), (123, 0), (147, 0)] σ0 σ_100 → (σ_100 h = .inr (12, fsM q (iI z1) (iI z2) (iI z3) (iI z4) (iI z5))) → (0 ≤ z100_9 ∧ z100_9 ≤ 64) → V p l e R s m args below meth c 11 D A Q (0, 0) (fd dom σ_100) [(0, .ref h), (1, .int (iI d)), (5, .int (iI x5)), (7, .int (iI x7)), (9, .int (iI z100_9))] 100 [] := by
    intro k100
    induction k100 with
    | zero => intro σ_100 z100_9 m100 G_100 F_100 hc100_h r100_9; omega
    | succ k100 IH100 =>
      intro σ_100 z100_9 m100 G_100 F_100 hc100_h r100_9
      have J160 : ∀ (σ_160 : Nat → va_E), GM K h q σ_160 → Fr τ [(152, 0), (124, 0), (50, 0), (148, 0), (149, 0), (150, 0), (123, 0), (147, 0)] σ0 σ_160 → (σ_160 h = .inr (12, fsM q (iI z1) (iI z2) (iI z3) (iI z4) (iI z5))) → (0 ≤ z100_9 ∧ z100_9 ≤ 63) → V p l e R s m args below meth c 11 D A Q (0, 0) (fd dom σ_160) [(0, .ref h), (1, .int (iI d)), (5, .int (iI x5)), (7, .int (iI x7)), (9, .int (iI z100_9))] 160 [] := by
        intro σ_160 G_160 F_160 hc160_h rv160_z100_9
        refine v_iinc B (k := 4) (v := iI (z100_9 + 1)) (lv' := [(9, .int (iI (z100_9 + 1))), (0, .ref h), (1, .int (iI d)), (5, .int (iI x5)), (7, .int (iI x7))]) dX12_sends_160 rfl ((iI_add _ _).trans (congrArg iI (by omega))) (by decide +kernel) rfl ?_
        refine v_goto B (tgt := 100) dX12_sends_163 (by decide +kernel) ?_
        refine v_lv [1, 2, 3, 4, 0] rfl ?_
        exact IH100 σ_160 (z100_9 + 1) (by omega) G_160 F_160 hc160_h ⟨by omega, by omega⟩
      refine v_iload B dX12_sends_100 rfl ?_
      refine v_aload_n B dX12_sends_102 rfl rfl ?_
      refine u_get B Z (C := RX12) (T := TX12) (N := 123) (ci := 12) hi_M_sends_X12 Y.o hc100_h rfl 24 (by decide +kernel) (List.mem_of_getElem? (i := 8) rfl) rfl dX12_sends_103 ?_
      refine v_iload_n B dX12_sends_106 rfl rfl ?_
      obtain ⟨f85, h86, e87⟩ := ga_24 G_100.t
      obtain ⟨z88, e89, r90⟩ := e87 (d : Int).toNat
      refine u_iald B Z (t0 := 0) (ym_24 Y) h86 rfl (by omega) e89 dX12_sends_107 ?_
      refine u_icmp_ge B (tgt := 166) (by omega) (by omega) dX12_sends_108 (by decide +kernel) (fun c91 => ?_) (fun c91 => ?_)
      · refine v_aload_n B dX12_sends_166 rfl rfl ?_
        refine u_get B Z (C := RX12) (T := TX12) (N := 123) (ci := 12) hi_M_sends_X12 Y.o hc100_h rfl 24 (by decide +kernel) (List.mem_of_getElem? (i := 8) rfl) rfl dX12_sends_167 ?_
        refine v_iload_n B dX12_sends_170 rfl rfl ?_
        refine v_iconst B (v := iI 0) dX12_sends_171 rfl ?_
        refine u_iast B Z (t0 := 0) (x := iI 0) (ym_24 Y) h86 rfl (by omega) dX12_sends_172 (fun σ92 h93 n94 => ?_)
        have e95 := el_upd (z := 0) e87 ⟨by omega, by omega⟩ (d : Int).toNat
        have F96 := F_100.put (ym_24 Y) (by simp) n94
        have G97 := gp_24 Y G_100 ⟨_, h93, e95⟩ n94
        refine v_aload_n B dX12_sends_173 rfl rfl ?_
        have h98 := (n94 h (ne_ty Y.o (ym_24 Y) (by decide))).trans (hc100_h)
        refine u_get B Z (C := RX12) (T := TX12) (N := 123) (ci := 12) hi_M_sends_X12 Y.o h98 rfl 51 (by decide +kernel) (List.mem_of_getElem? (i := 9) rfl) rfl dX12_sends_174 ?_
        refine v_istore B (lv' := [(9, .int (iI z4)), (0, .ref h), (1, .int (iI d)), (5, .int (iI x5)), (7, .int (iI x7))]) dX12_sends_177 (by decide +kernel) rfl ?_
        refine v_aload_n B dX12_sends_179 rfl rfl ?_
        refine v_dup B dX12_sends_180 rfl ?_
        refine u_get B Z (C := RX12) (T := TX12) (N := 123) (ci := 12) hi_M_sends_X12 Y.o h98 rfl 51 (by decide +kernel) (List.mem_of_getElem? (i := 9) rfl) rfl dX12_sends_181 ?_
        refine v_iconst B (v := iI 1) dX12_sends_184 rfl ?_
        refine v_iadd B (v := iI (z4 + 1)) dX12_sends_185 ((iI_add _ _).trans (congrArg iI (by omega))) ?_
        refine u_put B Z (C := RX12) (T := TX12) (N := 123) (ci := 12) hi_M_sends_X12 Y.o h98 rfl 51 (by decide +kernel) tyX12 tyX12_ok nmX12 (List.mem_of_getElem? (i := 9) rfl) rfl (ty := .int) (tyX12_ok 51 (by decide +kernel)) rfl rfl (Nat.le_of_ble_eq_true rfl) (fs' := fsM q (iI z1) (iI z2) (iI z3) (iI (z4 + 1)) (iI z5)) rfl dX12_sends_186 (fun σ99 h100 n101 => ?_)
        have F102 := F96.put Y.o (by simp) n101
        have G103 := G97.putO Y ⟨z1, z2, z3, (z4 + 1), z5, h100, ⟨by omega, by omega⟩, ⟨by omega, by omega⟩, ⟨by omega, by omega⟩, ⟨by omega, by omega⟩, ⟨by omega, by omega⟩⟩ n101
        refine v_aload_n B dX12_sends_189 rfl rfl ?_
        refine u_get B Z (C := RX12) (T := TX12) (N := 123) (ci := 12) hi_M_sends_X12 Y.o h100 rfl 48 (by decide +kernel) (List.mem_of_getElem? (i := 10) rfl) rfl dX12_sends_190 ?_
        refine v_iload B dX12_sends_193 rfl ?_
        refine v_bipush B (v := iI 9) dX12_sends_195 (by decide +kernel) ?_
        refine v_iload B dX12_sends_197 rfl ?_
        refine v_iadd B (v := iI (x7 + 9)) dX12_sends_199 ((iI_add _ _).trans (congrArg iI (by omega))) ?_
        obtain ⟨f104, h105, e106⟩ := ga_48 G103.t
        refine u_iast B Z (t0 := 0) (x := iI (x7 + 9)) (ym_48 Y) h105 rfl (by omega) dX12_sends_200 (fun σ107 h108 n109 => ?_)
        have e110 := el_upd (z := (x7 + 9)) e106 ⟨by omega, by omega⟩ (z4 : Int).toNat
        have F111 := F102.put (ym_48 Y) (by simp) n109
        have G112 := gp_48 Y G103 ⟨_, h108, e110⟩ n109
        refine v_aload_n B dX12_sends_201 rfl rfl ?_
        have h113 := (n109 h (ne_ty Y.o (ym_48 Y) (by decide))).trans (h100)
        refine u_get B Z (C := RX12) (T := TX12) (N := 123) (ci := 12) hi_M_sends_X12 Y.o h113 rfl 49 (by decide +kernel) (List.mem_of_getElem? (i := 11) rfl) rfl dX12_sends_202 ?_
        refine v_iload B dX12_sends_205 rfl ?_
        refine v_iload B dX12_sends_207 rfl ?_
        obtain ⟨f114, h115, e116⟩ := ga_49 G112.t
        refine u_iast B Z (t0 := 0) (x := iI x5) (ym_49 Y) h115 rfl (by omega) dX12_sends_209 (fun σ117 h118 n119 => ?_)
        have e120 := el_upd (z := x5) e116 ⟨by omega, by omega⟩ (z4 : Int).toNat
        have F121 := F111.put (ym_49 Y) (by simp) n119
        have G122 := gp_49 Y G112 ⟨_, h118, e120⟩ n119
        refine v_aload_n B dX12_sends_210 rfl rfl ?_
        have h123 := (n119 h (ne_ty Y.o (ym_49 Y) (by decide))).trans (h113)
        refine u_get B Z (C := RX12) (T := TX12) (N := 123) (ci := 12) hi_M_sends_X12 Y.o h123 rfl 50 (by decide +kernel) (List.mem_of_getElem? (i := 12) rfl) rfl dX12_sends_211 ?_
        refine v_iload B dX12_sends_214 rfl ?_
        refine v_aload_n B dX12_sends_216 rfl rfl ?_
        refine u_get B Z (C := RX12) (T := TX12) (N := 123) (ci := 12) hi_M_sends_X12 Y.o h123 rfl 23 (by decide +kernel) (List.mem_of_getElem? (i := 7) rfl) rfl dX12_sends_217 ?_
        refine v_iload_n B dX12_sends_220 rfl rfl ?_
        obtain ⟨f124, h125, e126⟩ := ga_23 G122.t
        obtain ⟨z127, e128, r129⟩ := e126 (d : Int).toNat
        refine u_iald B Z (t0 := 0) (ym_23 Y) h125 rfl (by omega) e128 dX12_sends_221 ?_
        refine u_if_le B (tgt := 229) (by omega) dX12_sends_222 (by decide +kernel) (fun c130 => ?_) (fun c130 => ?_)
        · refine v_iconst B (v := iI 0) dX12_sends_229 rfl ?_
          refine v_lv [1, 2, 4, 0] rfl ?_
          have h131 := (n119 (q 48) (ne_ty (ym_48 Y) (ym_49 Y) (by decide))).trans (h108)
          exact J230 σ117 z4 0 z4 G122 F121 ⟨by omega, by omega⟩ ⟨by omega, by omega⟩ ⟨by omega, by omega⟩ (⟨(At.mk h131 upd_s (by omega) ⟨by omega, by omega⟩), (Fld.mk h123 (j := 51) rfl (by omega) (show (z4 + 1) = P + 1 from by omega))⟩)
        · refine v_iconst B (v := iI 1) dX12_sends_225 rfl ?_
          refine v_goto B (tgt := 230) dX12_sends_226 (by decide +kernel) ?_
          refine v_lv [1, 2, 4, 0] rfl ?_
          have h132 := (n119 (q 48) (ne_ty (ym_48 Y) (ym_49 Y) (by decide))).trans (h108)
          exact J230 σ117 z4 1 z4 G122 F121 ⟨by omega, by omega⟩ ⟨by omega, by omega⟩ ⟨by omega, by omega⟩ (⟨(At.mk h132 upd_s (by omega) ⟨by omega, by omega⟩), (Fld.mk h123 (j := 51) rfl (by omega) (show (z4 + 1) = P + 1 from by omega))⟩)
      · refine v_aload_n B dX12_sends_111 rfl rfl ?_
        refine u_get B Z (C := RX12) (T := TX12) (N := 123) (ci := 12) hi_M_sends_X12 Y.o hc100_h rfl 25 (by decide +kernel) (List.mem_of_getElem? (i := 13) rfl) rfl dX12_sends_112 ?_
        refine v_bipush B (v := iI 64) dX12_sends_115 (by decide +kernel) ?_
        refine v_iload_n B dX12_sends_117 rfl rfl ?_
        refine v_imul B (v := iI (64 * d)) dX12_sends_118 ((iI_mul _ _).trans (congrArg iI (by omega))) ?_
        refine v_iload B dX12_sends_119 rfl ?_
        refine v_iadd B (v := iI (64 * d + z100_9)) dX12_sends_121 ((iI_add _ _).trans (congrArg iI (by omega))) ?_
        obtain ⟨f133, h134, e135⟩ := ga_25 G_100.t
        obtain ⟨z136, e137, r138⟩ := e135 ((64 * d + z100_9) : Int).toNat
        refine u_iald B Z (t0 := 0) (ym_25 Y) h134 rfl (by omega) e137 dX12_sends_122 ?_
        refine v_istore B (lv' := [(10, .int (iI z136)), (0, .ref h), (1, .int (iI d)), (5, .int (iI x5)), (7, .int (iI x7)), (9, .int (iI z100_9))]) dX12_sends_123 (by decide +kernel) rfl ?_
        refine v_iload B dX12_sends_125 rfl ?_
        refine v_bipush B (v := iI 8) dX12_sends_127 (by decide +kernel) ?_
        refine v_bipush B (v := iI 9) dX12_sends_129 (by decide +kernel) ?_
        refine v_iload B dX12_sends_131 rfl ?_
        refine v_iadd B (v := iI (x7 + 9)) dX12_sends_133 ((iI_add _ _).trans (congrArg iI (by omega))) ?_
        refine v_imul B (v := iI (8 * x7 + 72)) dX12_sends_134 ((iI_mul _ _).trans (congrArg iI (by omega))) ?_
        refine u_icmp_ge B (tgt := 160) (by omega) (by omega) dX12_sends_135 (by decide +kernel) (fun c139 => ?_) (fun c139 => ?_)
        · refine v_lv [1, 2, 3, 4, 5] rfl ?_
          exact J160 σ_100 G_100 F_100 hc100_h ⟨by omega, by omega⟩
        · refine v_aload_n B dX12_sends_138 rfl rfl ?_
          refine u_get B Z (C := RX12) (T := TX12) (N := 123) (ci := 12) hi_M_sends_X12 Y.o hc100_h rfl 52 (by decide +kernel) (List.mem_of_getElem? (i := 1) rfl) rfl dX12_sends_139 ?_
          refine v_iload B dX12_sends_142 rfl ?_
          refine v_bipush B (v := iI 8) dX12_sends_144 (by decide +kernel) ?_
          obtain ⟨z140, e141⟩ : ∃ z : Int, z = z136 / 8 := ⟨_, rfl⟩
          refine v_idiv B (v := iI z140) dX12_sends_146 (fun q => absurd ((iI_eq (a := 8) (b := 0) (by omega) (by omega)).mp q) (by omega)) ((iI_ediv (a := z136) (b := 8) (by omega) (by omega)).trans (congrArg iI e141.symm)) ?_
          refine v_dup2 B dX12_sends_147 rfl rfl ?_
          obtain ⟨f142, h143, e144⟩ := ga_52 G_100.t
          obtain ⟨z145, e146, r147⟩ := e144 (z140 : Int).toNat
          refine u_bald B Z (t0 := 2) (ym_52 Y) h143 rfl (by omega) e146 dX12_sends_148 ?_
          refine v_iconst B (v := iI 1) dX12_sends_149 rfl ?_
          refine v_iload B dX12_sends_150 rfl ?_
          refine v_bipush B (v := iI 8) dX12_sends_152 (by decide +kernel) ?_
          obtain ⟨z148, e149⟩ : ∃ z : Int, z = z136 % 8 := ⟨_, rfl⟩
          refine v_irem B (v := iI z148) dX12_sends_154 (fun q => absurd ((iI_eq (a := 8) (b := 0) (by omega) (by omega)).mp q) (by omega)) ((iI_rem (a := z136) (b := 8) (by omega) (by omega)).trans (congrArg iI e149.symm)) ?_
          obtain ⟨z150, e151, r152⟩ := iI_shlv (a := 1) (c := z148) (A := 1) 7 (by decide) (by omega) (by omega)
          refine v_ishl B (v := iI z150) dX12_sends_155 e151 ?_
          obtain ⟨z153, e154, r155⟩ := iI_i8 z150
          refine v_i2b B (v := iI z153) dX12_sends_156 e154 ?_
          obtain ⟨z156, e157, r158⟩ := iI_any (iI z145 ^^^ iI z153)
          refine v_ixor B (v := iI z156) dX12_sends_157 e157 ?_
          obtain ⟨z159, e160, r161⟩ := iI_i8 z156
          refine v_i2b B (v := iI z159) dX12_sends_158 e160 ?_
          refine u_bast B Z (t0 := 2) (x := iI z159) (y := iI z159) (ym_52 Y) h143 rfl (by omega) (nar8 (by omega)) dX12_sends_159 (fun σ162 h163 n164 => ?_)
          have F165 := F_100.put (ym_52 Y) (by simp) n164
          have G166 := gp_52 Y G_100 ⟨_, h163, el_upd (z := z159) e144 ⟨by omega, by omega⟩ _⟩ n164
          refine v_lv [1, 2, 3, 4, 5] rfl ?_
          have h167 := (n164 h (ne_ty Y.o (ym_52 Y) (by decide))).trans (hc100_h)
          exact J160 σ162 G166 F165 h167 ⟨by omega, by omega⟩
  have J49 : ∀ (k49 : Nat) (σ_49 : Nat → va_E) (z49_8 : Int) (z49_9 : Int), (2147483648 - z49_9).toNat ≤ k49 → GM K h q σ_49 → Fr τ [(152, 0), (124, 0), (50, 0), (148, 0), (149, 0), (150, 0), (123, 0), (147, 0)] σ0 σ_49 → (σ_49 h = .inr (12, fsM q (iI z1) (iI z2) (iI z3) (iI z4) (iI z5))) → (-2147483648 ≤ z49_8 ∧ z49_8 ≤ 2147483647) → (0 ≤ z49_9 ∧ z49_9 ≤ 3) → V p l e R s m args below meth c 11 D A Q (0, 0) (fd dom σ_49) [(0, .ref h), (1, .int (iI d)), (5, .int (iI x5)), (7, .int (iI x7)), (8, .int (iI z49_8)), (9, .int (iI z49_9))] 49 [] := by
    intro k49
    induction k49 with
    | zero => intro σ_49 z49_8 z49_9 m49 G_49 F_49 hc49_h r49_8 r49_9; omega
    | succ k49 IH49 =>
      intro σ_49 z49_8 z49_9 m49 G_49 F_49 hc49_h r49_8 r49_9
      refine v_iload B dX12_sends_49 rfl ?_
      refine v_iconst B (v := iI 3) dX12_sends_51 rfl ?_
      refine u_icmp_ge B (tgt := 82) (by omega) (by omega) dX12_sends_52 (by decide +kernel) (fun c168 => ?_) (fun c168 => ?_)
      · refine v_aload_n B dX12_sends_82 rfl rfl ?_
        refine u_get B Z (C := RX12) (T := TX12) (N := 123) (ci := 12) hi_M_sends_X12 Y.o hc49_h rfl 52 (by decide +kernel) (List.mem_of_getElem? (i := 1) rfl) rfl dX12_sends_83 ?_
        refine v_iconst B (v := iI 4) dX12_sends_86 rfl ?_
        refine v_bipush B (v := iI 9) dX12_sends_87 (by decide +kernel) ?_
        refine v_iload B dX12_sends_89 rfl ?_
        refine v_iadd B (v := iI (x7 + 9)) dX12_sends_91 ((iI_add _ _).trans (congrArg iI (by omega))) ?_
        refine v_iload B dX12_sends_92 rfl ?_
        refine u_callSv B Z hz (n := 4) (As := [.ref (q 52), .int (iI 4), .int (iI (x7 + 9)), .int (iI x5)]) (rest := []) (c_M_whiten l D K Z _ _ _ _ h q Y 52 40 4 (x7 + 9) x5 rfl ⟨by omega, by omega⟩ ⟨by omega, by omega⟩ ⟨by omega, by omega⟩ σ_49 G_49 (by omega)) gd_M_sends_M_whiten_425 rfl rfl rfl (by decide +kernel) ⟨Nat.le_trans (by decide +kernel) hR.1, Nat.le_trans (by decide +kernel) hR.2⟩ rfl rfl (Nat.le_of_ble_eq_true rfl) dX12_sends_94 ⟨Nat.zero_le _, Nat.zero_le _⟩ (fun σ169 p170 => ?_)
        obtain ⟨G172, F173⟩ := p170
        have F174 := F_49.call F173 (by first | rfl | simp)
        refine v_iconst B (v := iI 0) dX12_sends_97 rfl ?_
        refine v_istore B (lv' := [(9, .int (iI 0)), (0, .ref h), (1, .int (iI d)), (5, .int (iI x5)), (7, .int (iI x7)), (8, .int (iI z49_8))]) dX12_sends_98 (by decide +kernel) rfl ?_
        refine v_lv [1, 2, 3, 4, 0] rfl ?_
        have h175 := (F173 h _ Y.o (by first | rfl | simp)).trans (hc49_h)
        exact J100 _ σ169 0 (Nat.le_refl _) G172 F174 h175 ⟨by omega, by omega⟩
      · refine v_aload_n B dX12_sends_55 rfl rfl ?_
        refine u_get B Z (C := RX12) (T := TX12) (N := 123) (ci := 12) hi_M_sends_X12 Y.o hc49_h rfl 52 (by decide +kernel) (List.mem_of_getElem? (i := 1) rfl) rfl dX12_sends_56 ?_
        refine v_bipush B (v := iI 6) dX12_sends_59 (by decide +kernel) ?_
        refine v_iload B dX12_sends_61 rfl ?_
        refine v_iadd B (v := iI (x7 + 6)) dX12_sends_63 ((iI_add _ _).trans (congrArg iI (by omega))) ?_
        refine v_iload B dX12_sends_64 rfl ?_
        refine v_iadd B (v := iI (x7 + z49_9 + 6)) dX12_sends_66 ((iI_add _ _).trans (congrArg iI (by omega))) ?_
        refine v_iload B dX12_sends_67 rfl ?_
        refine v_iload B dX12_sends_69 rfl ?_
        refine u_callSi B Z hz (n := 2) (As := [.int (iI z49_8), .int (iI z49_9)]) (rest := [.int (iI (x7 + z49_9 + 6)), .ref (q 52)]) (c_M_crcByte l D K Z _ _ _ _ h q Y z49_8 z49_9 ⟨by omega, by omega⟩ ⟨by omega, by omega⟩ σ_49 (G_49.t)) gd_M_sends_M_crcByte_422 rfl rfl rfl (by decide +kernel) ⟨Nat.le_trans (by decide +kernel) hR.1, Nat.le_trans (by decide +kernel) hR.2⟩ rfl rfl (Nat.le_of_ble_eq_true rfl) dX12_sends_71 ⟨Nat.zero_le _, Nat.zero_le _⟩ (fun v178 σ176 p177 => ?_)
        obtain ⟨rfl, z179, e180, r181⟩ := p177
        subst e180
        obtain ⟨z182, e183, r184⟩ := iI_i8 z179
        refine v_i2b B (v := iI z182) dX12_sends_74 e183 ?_
        obtain ⟨f185, h186, e187⟩ := ga_52 G_49.t
        refine u_bast B Z (t0 := 2) (x := iI z182) (y := iI z182) (ym_52 Y) h186 rfl (by omega) (nar8 (by omega)) dX12_sends_75 (fun σ188 h189 n190 => ?_)
        have F191 := F_49.put (ym_52 Y) (by simp) n190
        have G192 := gp_52 Y G_49 ⟨_, h189, el_upd (z := z182) e187 ⟨by omega, by omega⟩ _⟩ n190
        refine v_iinc B (k := 5) (v := iI (z49_9 + 1)) (lv' := [(9, .int (iI (z49_9 + 1))), (0, .ref h), (1, .int (iI d)), (5, .int (iI x5)), (7, .int (iI x7)), (8, .int (iI z49_8))]) dX12_sends_76 rfl ((iI_add _ _).trans (congrArg iI (by omega))) (by decide +kernel) rfl ?_
        refine v_goto B (tgt := 49) dX12_sends_79 (by decide +kernel) ?_
        refine v_lv [1, 2, 3, 4, 5, 0] rfl ?_
        have h193 := (n190 h (ne_ty Y.o (ym_52 Y) (by decide))).trans (hc49_h)
        exact IH49 σ188 z49_8 (z49_9 + 1) (by omega) G192 F191 h193 ⟨by omega, by omega⟩ ⟨by omega, by omega⟩
  refine v_aload_n B dX12_sends_0 rfl rfl ?_
  refine v_iload_n B dX12_sends_1 rfl rfl ?_
  refine v_aload_n B dX12_sends_2 rfl rfl ?_
  refine u_get B Z (C := RX12) (T := TX12) (N := 123) (ci := 12) hi_M_sends_X12 Y.o h6 rfl 52 (by decide +kernel) (List.mem_of_getElem? (i := 1) rfl) rfl dX12_sends_3 ?_
  refine v_iconst B (v := iI 0) dX12_sends_6 rfl ?_
  refine v_iconst B (v := iI 4) dX12_sends_7 rfl ?_
  refine u_callSv B Z hz (n := 5) (As := [.ref (q j2), .int (iI x3), .ref (q 52), .int (iI 0), .int (iI 4)]) (rest := []) (c_M_copy l D K Z _ _ _ _ h q Y j2 Nj2 x3 52 40 0 4 hj_j2 ⟨by omega, by omega⟩ rfl ⟨by omega, by omega⟩ ⟨by omega, by omega⟩ σ0 G0 (by omega)) gd_M_sends_M_copy_29 rfl rfl rfl (by decide +kernel) ⟨Nat.le_trans (by decide +kernel) hR.1, Nat.le_trans (by decide +kernel) hR.2⟩ rfl rfl (Nat.le_of_ble_eq_true rfl) dX12_sends_8 ⟨Nat.zero_le _, Nat.zero_le _⟩ (fun σ194 p195 => ?_)
  obtain ⟨G197, F198⟩ := p195
  have F199 := F0.call F198 (by first | rfl | simp)
  refine v_aload_n B dX12_sends_11 rfl rfl ?_
  have h200 := (F198 h _ Y.o (by first | rfl | simp)).trans (h6)
  refine u_get B Z (C := RX12) (T := TX12) (N := 123) (ci := 12) hi_M_sends_X12 Y.o h200 rfl 52 (by decide +kernel) (List.mem_of_getElem? (i := 1) rfl) rfl dX12_sends_12 ?_
  refine v_iconst B (v := iI 4) dX12_sends_15 rfl ?_
  refine v_iload B dX12_sends_16 rfl ?_
  obtain ⟨z201, e202, r203⟩ := iI_i8 x6
  refine v_i2b B (v := iI z201) dX12_sends_18 e202 ?_
  obtain ⟨f204, h205, e206⟩ := ga_52 G197.t
  refine u_bast B Z (t0 := 2) (x := iI z201) (y := iI z201) (ym_52 Y) h205 rfl (by omega) (nar8 (by omega)) dX12_sends_19 (fun σ207 h208 n209 => ?_)
  have F210 := F199.put (ym_52 Y) (by simp) n209
  have G211 := gp_52 Y G197 ⟨_, h208, el_upd (z := z201) e206 ⟨by omega, by omega⟩ _⟩ n209
  refine v_aload_n B dX12_sends_20 rfl rfl ?_
  have h212 := (n209 h (ne_ty Y.o (ym_52 Y) (by decide))).trans (h200)
  refine u_get B Z (C := RX12) (T := TX12) (N := 123) (ci := 12) hi_M_sends_X12 Y.o h212 rfl 52 (by decide +kernel) (List.mem_of_getElem? (i := 1) rfl) rfl dX12_sends_21 ?_
  refine v_iconst B (v := iI 5) dX12_sends_24 rfl ?_
  refine v_iload B dX12_sends_25 rfl ?_
  obtain ⟨z213, e214, r215⟩ := iI_i8 x7
  refine v_i2b B (v := iI z213) dX12_sends_27 e214 ?_
  obtain ⟨f216, h217, e218⟩ := ga_52 G211.t
  refine u_bast B Z (t0 := 2) (x := iI z213) (y := iI z213) (ym_52 Y) h217 rfl (by omega) (nar8 (by omega)) dX12_sends_28 (fun σ219 h220 n221 => ?_)
  have F222 := F210.put (ym_52 Y) (by simp) n221
  have G223 := gp_52 Y G211 ⟨_, h220, el_upd (z := z213) e218 ⟨by omega, by omega⟩ _⟩ n221
  refine v_aload_n B dX12_sends_29 rfl rfl ?_
  have h224 := (n221 h (ne_ty Y.o (ym_52 Y) (by decide))).trans (h212)
  refine u_get B Z (C := RX12) (T := TX12) (N := 123) (ci := 12) hi_M_sends_X12 Y.o h224 rfl 52 (by decide +kernel) (List.mem_of_getElem? (i := 1) rfl) rfl dX12_sends_30 ?_
  refine v_iconst B (v := iI 4) dX12_sends_33 rfl ?_
  refine v_bipush B (v := iI 6) dX12_sends_34 (by decide +kernel) ?_
  refine v_iload B dX12_sends_36 rfl ?_
  refine v_iadd B (v := iI (x7 + 6)) dX12_sends_38 ((iI_add _ _).trans (congrArg iI (by omega))) ?_
  refine v_iload B dX12_sends_39 rfl ?_
  refine u_callSi B Z hz (n := 4) (As := [.ref (q 52), .int (iI 4), .int (iI (x7 + 6)), .int (iI x4)]) (rest := []) (c_M_crc l D K Z _ _ _ _ h q Y 52 40 4 (x7 + 6) x4 rfl ⟨by omega, by omega⟩ ⟨by omega, by omega⟩ ⟨by omega, by omega⟩ σ219 (G223.t) (by omega)) gd_M_sends_M_crc_418 rfl rfl rfl (by decide +kernel) ⟨Nat.le_trans (by decide +kernel) hR.1, Nat.le_trans (by decide +kernel) hR.2⟩ rfl rfl (Nat.le_of_ble_eq_true rfl) dX12_sends_41 ⟨Nat.zero_le _, Nat.zero_le _⟩ (fun v227 σ225 p226 => ?_)
  obtain ⟨rfl, z228, e229, r230⟩ := p226
  subst e229
  refine v_istore B (lv' := [(8, .int (iI z228)), (0, .ref h), (1, .int (iI d)), (2, .ref (q j2)), (3, .int (iI x3)), (4, .int (iI x4)), (5, .int (iI x5)), (6, .int (iI x6)), (7, .int (iI x7))]) dX12_sends_44 (by decide +kernel) rfl ?_
  refine v_iconst B (v := iI 0) dX12_sends_46 rfl ?_
  refine v_istore B (lv' := [(9, .int (iI 0)), (8, .int (iI z228)), (0, .ref h), (1, .int (iI d)), (2, .ref (q j2)), (3, .int (iI x3)), (4, .int (iI x4)), (5, .int (iI x5)), (6, .int (iI x6)), (7, .int (iI x7))]) dX12_sends_47 (by decide +kernel) rfl ?_
  refine v_lv [2, 3, 7, 9, 1, 0] rfl ?_
  exact J49 _ σ219 z228 0 (Nat.le_refl _) G223 F222 h224 ⟨by omega, by omega⟩ ⟨by omega, by omega⟩
set_option maxRecDepth 100000 in
theorem c_M_sends (l : Launch) (D : va_G) (K : Nat → ClassId) {τ : Nat → Option Ty} {dom : List Nat} (Z : Sk τ dom) (zb zL : Nat) (zx : Nat → Int32) (zs : Nat → Nat) (h : Nat) (q : Nat → Nat) (Y : MS τ h q) (d : Int) (j2 Nj2 : Nat) (x3 : Int) (x4 : Int) (x5 : Int) (x6 : Int) (x7 : Int) (P : Int) (r_d : 0 ≤ d ∧ d ≤ 1) (hj_j2 : tabM[j2]? = some (2, Nj2, -128, 127)) (r_x3 : 0 ≤ x3 ∧ x3 ≤ 4) (r_x4 : -2147483648 ≤ x4 ∧ x4 ≤ 2147483647) (r_x5 : -2147483648 ≤ x5 ∧ x5 ≤ 2147483647) (r_x6 : -2147483648 ≤ x6 ∧ x6 ≤ 2147483647) (r_x7 : 0 ≤ x7 ∧ x7 ≤ 31) (r_P : 0 ≤ P ∧ P ≤ 15) (σ0 : Nat → va_E) (G0 : GM K h q σ0) (hc : x3 + 4 ≤ (Nj2 : Int)) (hp : Fld σ0 h 12 51 (fun y => y = P)) : MZ l yX12_sends wp_M_sends ({ frames := 1, cells := 0, slots := 0, locals := 26 }) D (tysA K) [.ref h, .int (iI d), .ref (q j2), .int (iI x3), .int (iI x4), .int (iI x5), .int (iI x6), .int (iI x7)] (fd dom σ0) zb zL zx zs (Qi D (fun r σ' => GM K h q σ' ∧ Fr τ [(152, 0), (124, 0), (50, 0), (148, 0), (149, 0), (150, 0), (123, 0), (147, 0)] σ0 σ' ∧ ∃ z : Int, r = iI z ∧ (0 ≤ z ∧ z ≤ 15) ∧ (At σ' (q 48) z.toNat 9 40 ∧ Fld σ' h 12 51 (fun y => y = P + 1))) (fun σ' => fd dom σ')) 0 0 := by
  refine mz_of (cc := cX12_sends) (maxL := 11) (ret := (some .int)) (by decide +kernel) rfl (Nat.le_of_ble_eq_true rfl) ?_
  intro p e s m below meth c A B hr hlk _ hz
  exact b_M_sends ⟨Nat.le_refl _, Nat.le_refl _⟩ B Z hz h q Y d j2 Nj2 x3 x4 x5 x6 x7 P r_d hj_j2 r_x3 r_x4 r_x5 r_x6 r_x7 r_P σ0 G0 hc hp (fun σ' z lv pc G F hZ hP hd => v_iret B hr hlk σ' ⟨G, F, z, rfl, hZ, hP⟩ rfl (Nat.le_refl _) (Nat.le_refl _) hd)

def wp_M_sendsS : List Cond := .code yX12_sends cX12_sends 11 (some .int) :: (([.fieldLink RX12 176 "LowEnergyModel" "sending" "[B", .fieldLink RX12 164 "LowEnergyModel" "air" "[B", .methodLink RX12 29 yX12_copy, .static yX12_copy, .initialized RX12, .code yX12_copy cX12_copy 6 none, .fieldLink RX12 94 "LowEnergyModel" "lost" "[I", .fieldLink RX12 97 "LowEnergyModel" "noises" "[I", .fieldLink RX12 429 "LowEnergyModel" "packets" "I", .fieldLink RX12 167 "LowEnergyModel" "airMany" "[I", .fieldLink RX12 170 "LowEnergyModel" "airChannel" "[I", .fieldLink RX12 173 "LowEnergyModel" "airLost" "[Z", .fieldLink RX12 100 "LowEnergyModel" "noise" "[I", .methodLink RX12 425 yX12_whiten, .static yX12_whiten, .code yX12_whiten cX12_whiten 7 none, .methodLink RX12 422 yX12_crcByte, .static yX12_crcByte, .code yX12_crcByte cX12_crcByte 4 (some .int), .methodLink RX12 418 yX12_crc, .static yX12_crc, .code yX12_crc cX12_crc 7 (some .int), .constant RX12 417 (16777215)] : List Cond) ++ (wsX120 ++ ([])))
theorem hi_M_sendsS_X12 : ∀ x ∈ u_ws RX12 TX12 123, x ∈ wp_M_sendsS := fun _ h => List.mem_cons_of_mem _ (List.mem_append_right _ (List.mem_append_left _ h))
set_option maxRecDepth 100000 in
theorem gd_M_sendsS_M_copy_29 : GoodIn wp_M_sendsS (va_wsS RX12 29 yX12_copy wp_M_copy) := goodIn_app (goodIn_r _ [3, 4, 5] rfl rfl) (goodIn_ca (goodIn_r _ [6] rfl rfl) (goodIn_nil))
set_option maxRecDepth 100000 in
theorem gd_M_sendsS_M_whiten_425 : GoodIn wp_M_sendsS (va_wsS RX12 425 yX12_whiten wp_M_whiten) := goodIn_app (goodIn_r _ [14, 15, 5] rfl rfl) (goodIn_ca (goodIn_r _ [16] rfl rfl) (goodIn_nil))
set_option maxRecDepth 100000 in
theorem gd_M_sendsS_M_crcByte_422 : GoodIn wp_M_sendsS (va_wsS RX12 422 yX12_crcByte wp_M_crcByte) := goodIn_app (goodIn_r _ [17, 18, 5] rfl rfl) (goodIn_ca (goodIn_r _ [19] rfl rfl) (goodIn_nil))
set_option maxRecDepth 100000 in
theorem gd_M_sendsS_M_copyS_29 : GoodIn wp_M_sendsS (va_wsS RX12 29 yX12_copy wp_M_copyS) := goodIn_app (goodIn_r _ [3, 4, 5] rfl rfl) (goodIn_ca (goodIn_r _ [6] rfl rfl) (goodIn_nil))
set_option maxRecDepth 100000 in
theorem gd_M_sendsS_M_crc_418 : GoodIn wp_M_sendsS (va_wsS RX12 418 yX12_crc wp_M_crc) := goodIn_app (goodIn_r _ [20, 21, 5] rfl rfl) (goodIn_ca (goodIn_r _ [22, 23] rfl rfl) (goodIn_nil))
set_option maxHeartbeats 4000000 in
set_option maxRecDepth 100000 in
theorem b_M_sendsS {p : Program} {l : Launch} {e : Env} {R : Room} {s : State} {m : MethodId} {args : Array Value} {below : List Frame} {meth : Method} {c : Code} {D : va_G} {K : Nat → ClassId} {A : Nat → Prop} {Q : State → Prop} {τ : Nat → Option Ty} {dom : List Nat} {zb zL : Nat} {zx : Nat → Int32} {zs : Nat → Nat} (hR : 1 ≤ R.frames ∧ 26 ≤ R.locals) (B : Bx p s m args c cX12_sends 11 RX12 wp_M_sendsS D (tysA K) A) (Z : Sk τ dom) (hz : ZL zb zL zx zs A s s.heap) (h : Nat) (q : Nat → Nat) (Y : MS τ h q) (d : Int) (x3 : Int) (x4 : Int) (x5 : Int) (x6 : Int) (x7 : Int) (P : Int) (r_d : 0 ≤ d ∧ d ≤ 1) (r_x3 : 0 ≤ x3 ∧ x3 ≤ 0) (r_x4 : -2147483648 ≤ x4 ∧ x4 ≤ 2147483647) (r_x5 : -2147483648 ≤ x5 ∧ x5 ≤ 2147483647) (r_x6 : -2147483648 ≤ x6 ∧ x6 ≤ 2147483647) (r_x7 : 0 ≤ x7 ∧ x7 ≤ 31) (r_P : 0 ≤ P ∧ P ≤ 15) (σ0 : Nat → va_E) (G0 : GM K h q σ0) (hp : Fld σ0 h 12 51 (fun y => y = P)) (hend : ∀ (σ' : Nat → va_E) (z : Int) (lv : List (Nat × Value)) (pc : Nat), GM K h q σ' → Fr τ [(152, 0), (124, 0), (50, 0), (148, 0), (149, 0), (150, 0), (123, 0), (147, 0)] σ0 σ' → (0 ≤ z ∧ z ≤ 15) → (At σ' (q 48) z.toNat 9 40 ∧ Fld σ' h 12 51 (fun y => y = P + 1)) → decode cX12_sends pc = .ok (.ireturn, 1) → V p l e R s m args below meth c 11 D A Q (0, 0) (fd dom σ') lv pc [.int (iI z)]) : V p l e R s m args below meth c 11 D A Q (0, 0) (fd dom σ0) [(0, .ref h), (1, .int (iI d)), (2, .ref (zs 4)), (3, .int (iI x3)), (4, .int (iI x4)), (5, .int (iI x5)), (6, .int (iI x6)), (7, .int (iI x7))] 0 [] := by
  have F0 : Fr τ [(152, 0), (124, 0), (50, 0), (148, 0), (149, 0), (150, 0), (123, 0), (147, 0)] σ0 σ0 := Fr.rf
  obtain ⟨z1, z2, z3, z4, z5, h6, r7, r8, r9, r10, r11⟩ := G0.t.o
  have r12 : z4 = P := hp.use h6 (j := 51) rfl (by omega)
  have J250 : ∀ (σ_250 : Nat → va_E) (z250_9 : Int), GM K h q σ_250 → Fr τ [(152, 0), (124, 0), (50, 0), (148, 0), (149, 0), (150, 0), (123, 0), (147, 0)] σ0 σ_250 → (0 ≤ z250_9 ∧ z250_9 ≤ 15) → (At σ_250 (q 48) (z250_9 : Int).toNat (9) (40) ∧ Fld σ_250 h 12 51 (fun y => y = P + 1)) → V p l e R s m args below meth c 11 D A Q (0, 0) (fd dom σ_250) [(0, .ref h), (7, .int (iI x7)), (9, .int (iI z250_9))] 250 [] := by
    intro σ_250 z250_9 G_250 F_250 r250_9 i250
    obtain ⟨f13, h14, e15⟩ := ga_48 G_250.t
    obtain ⟨z16, e17, r18⟩ := e15 (z250_9 : Int).toNat
    have r19 := (i250.1).use h14 e17 (by omega)
    obtain ⟨z20, z21, z22, z23, z24, h25, r26, r27, r28, r29, r30⟩ := G_250.t.o
    have r31 : z23 = P + 1 := (i250.2).use h25 (j := 51) rfl (by omega)
    refine v_aload_n B dX12_sends_250 rfl rfl ?_
    refine u_get B Z (C := RX12) (T := TX12) (N := 123) (ci := 12) hi_M_sendsS_X12 Y.o h25 rfl 52 (by decide +kernel) (List.mem_of_getElem? (i := 1) rfl) rfl dX12_sends_251 ?_
    refine v_iconst B (v := iI 0) dX12_sends_254 rfl ?_
    refine v_aload_n B dX12_sends_255 rfl rfl ?_
    refine u_get B Z (C := RX12) (T := TX12) (N := 123) (ci := 12) hi_M_sendsS_X12 Y.o h25 rfl 47 (by decide +kernel) (List.mem_of_getElem? (i := 2) rfl) rfl dX12_sends_256 ?_
    refine v_bipush B (v := iI 40) dX12_sends_259 (by decide +kernel) ?_
    refine v_iload B dX12_sends_261 rfl ?_
    refine v_imul B (v := iI (40 * z250_9)) dX12_sends_263 ((iI_mul _ _).trans (congrArg iI (by omega))) ?_
    refine v_bipush B (v := iI 9) dX12_sends_264 (by decide +kernel) ?_
    refine v_iload B dX12_sends_266 rfl ?_
    refine v_iadd B (v := iI (x7 + 9)) dX12_sends_268 ((iI_add _ _).trans (congrArg iI (by omega))) ?_
    refine u_callSv B Z hz (n := 5) (As := [.ref (q 52), .int (iI 0), .ref (q 47), .int (iI (40 * z250_9)), .int (iI (x7 + 9))]) (rest := []) (c_M_copy l D K Z _ _ _ _ h q Y 52 40 0 47 640 (40 * z250_9) (x7 + 9) rfl ⟨by omega, by omega⟩ rfl ⟨by omega, by omega⟩ ⟨by omega, by omega⟩ σ_250 G_250 (by omega)) gd_M_sendsS_M_copy_29 rfl rfl rfl (by decide +kernel) ⟨Nat.le_trans (by decide +kernel) hR.1, Nat.le_trans (by decide +kernel) hR.2⟩ rfl rfl (Nat.le_of_ble_eq_true rfl) dX12_sends_269 ⟨Nat.zero_le _, Nat.zero_le _⟩ (fun σ32 p33 => ?_)
    obtain ⟨G35, F36⟩ := p33
    have F37 := F_250.call F36 (by first | rfl | simp)
    refine v_iload B dX12_sends_272 rfl ?_
    have h38 := (F36 (q 48) _ (ym_48 Y) (by first | rfl | simp)).trans (h14)
    have h39 := (F36 h _ Y.o (by first | rfl | simp)).trans (h25)
    exact hend σ32 z250_9 _ _ G35 F37 ⟨by omega, by omega⟩ ⟨(At.mk h38 e17 (by omega) ⟨by omega, by omega⟩), (Fld.mk h39 (j := 51) rfl (by omega) (show z23 = P + 1 from by omega))⟩ dX12_sends_274
  have J230 : ∀ (σ_230 : Nat → va_E) (z230_9 : Int) (z230_s0 : Int) (z230_s1 : Int), GM K h q σ_230 → Fr τ [(152, 0), (124, 0), (50, 0), (148, 0), (149, 0), (150, 0), (123, 0), (147, 0)] σ0 σ_230 → (0 ≤ z230_9 ∧ z230_9 ≤ 15) → (0 ≤ z230_s0 ∧ z230_s0 ≤ 1) → (0 ≤ z230_s1 ∧ z230_s1 ≤ 15) → (At σ_230 (q 48) (z230_9 : Int).toNat (9) (40) ∧ Fld σ_230 h 12 51 (fun y => y = P + 1)) → V p l e R s m args below meth c 11 D A Q (0, 0) (fd dom σ_230) [(0, .ref h), (1, .int (iI d)), (7, .int (iI x7)), (9, .int (iI z230_9))] 230 [.int (iI z230_s0), .int (iI z230_s1), .ref (q 50)] := by
    intro σ_230 z230_9 z230_s0 z230_s1 G_230 F_230 r230_9 r230_s0 r230_s1 i230
    obtain ⟨f40, h41, e42⟩ := ga_48 G_230.t
    obtain ⟨z43, e44, r45⟩ := e42 (z230_9 : Int).toNat
    have r46 := (i230.1).use h41 e44 (by omega)
    obtain ⟨z47, z48, z49, z50, z51, h52, r53, r54, r55, r56, r57⟩ := G_230.t.o
    have r58 : z50 = P + 1 := (i230.2).use h52 (j := 51) rfl (by omega)
    obtain ⟨f59, h60, e61⟩ := ga_50 G_230.t
    refine u_zast B Z (t0 := 3) (x := iI z230_s0) (y := iI z230_s0) (ym_50 Y) h60 rfl (by omega) (narZ (by omega)) dX12_sends_230 (fun σ62 h63 n64 => ?_)
    have e65 := el_upd (z := z230_s0) e61 ⟨by omega, by omega⟩ (z230_s1 : Int).toNat
    have F66 := F_230.put (ym_50 Y) (by simp) n64
    have G67 := gp_50 Y G_230 ⟨_, h63, e65⟩ n64
    refine v_aload_n B dX12_sends_231 rfl rfl ?_
    have h68 := (n64 h (ne_ty Y.o (ym_50 Y) (by decide))).trans (h52)
    refine u_get B Z (C := RX12) (T := TX12) (N := 123) (ci := 12) hi_M_sendsS_X12 Y.o h68 rfl 23 (by decide +kernel) (List.mem_of_getElem? (i := 7) rfl) rfl dX12_sends_232 ?_
    refine v_iload_n B dX12_sends_235 rfl rfl ?_
    obtain ⟨f69, h70, e71⟩ := ga_23 G67.t
    obtain ⟨z72, e73, r74⟩ := e71 (d : Int).toNat
    refine u_iald B Z (t0 := 0) (ym_23 Y) h70 rfl (by omega) e73 dX12_sends_236 ?_
    refine u_if_le B (tgt := 250) (by omega) dX12_sends_237 (by decide +kernel) (fun c75 => ?_) (fun c75 => ?_)
    · refine v_lv [0, 2, 3] rfl ?_
      have h76 := (n64 (q 48) (ne_ty (ym_48 Y) (ym_50 Y) (by decide))).trans (h41)
      exact J250 σ62 z230_9 G67 F66 ⟨by omega, by omega⟩ (⟨(At.mk h76 e44 (by omega) ⟨by omega, by omega⟩), (Fld.mk h68 (j := 51) rfl (by omega) (show z50 = P + 1 from by omega))⟩)
    · refine v_aload_n B dX12_sends_240 rfl rfl ?_
      refine u_get B Z (C := RX12) (T := TX12) (N := 123) (ci := 12) hi_M_sendsS_X12 Y.o h68 rfl 23 (by decide +kernel) (List.mem_of_getElem? (i := 7) rfl) rfl dX12_sends_241 ?_
      refine v_iload_n B dX12_sends_244 rfl rfl ?_
      refine v_dup2 B dX12_sends_245 rfl rfl ?_
      refine u_iald B Z (t0 := 0) (ym_23 Y) h70 rfl (by omega) e73 dX12_sends_246 ?_
      refine v_iconst B (v := iI 1) dX12_sends_247 rfl ?_
      refine v_isub B (v := iI (z72 + (-1))) dX12_sends_248 ((iI_sub _ _).trans (congrArg iI (by omega))) ?_
      refine u_iast B Z (t0 := 0) (x := iI (z72 + (-1))) (ym_23 Y) h70 rfl (by omega) dX12_sends_249 (fun σ77 h78 n79 => ?_)
      have e80 := el_upd (z := (z72 + (-1))) e71 ⟨by omega, by omega⟩ (d : Int).toNat
      have F81 := F66.put (ym_23 Y) (by simp) n79
      have G82 := gp_23 Y G67 ⟨_, h78, e80⟩ n79
      refine v_lv [0, 2, 3] rfl ?_
      have h83 := (n79 (q 48) (ne_ty (ym_48 Y) (ym_23 Y) (by decide))).trans ((n64 (q 48) (ne_ty (ym_48 Y) (ym_50 Y) (by decide))).trans (h41))
      have h84 := (n79 h (ne_ty Y.o (ym_23 Y) (by decide))).trans (h68)
      exact J250 σ77 z230_9 G82 F81 ⟨by omega, by omega⟩ (⟨(At.mk h83 e44 (by omega) ⟨by omega, by omega⟩), (Fld.mk h84 (j := 51) rfl (by omega) (show z50 = P + 1 from by omega))⟩)
  have J100 : ∀ (k100 : Nat) (σ_100 : Nat → va_E) (z100_9 : Int), (2147483648 - z100_9).toNat ≤ k100 → GM K h q σ_100 → Fr τ [(152, 0), (124, 0), (50, 0), (148, 0), (149, 0), (150, 0), (123, 0), (147, 0)] σ0 σ_100 → (σ_100 h = .inr (12, fsM q (iI z1) (iI z2) (iI z3) (iI z4) (iI z5))) → (0 ≤ z100_9 ∧ z100_9 ≤ 64) → V p l e R s m args below meth c 11 D A Q (0, 0) (fd dom σ_100) [(0, .ref h), (1, .int (iI d)), (5, .int (iI x5)), (7, .int (iI x7)), (9, .int (iI z100_9))] 100 [] := by
    intro k100
    induction k100 with
    | zero => intro σ_100 z100_9 m100 G_100 F_100 hc100_h r100_9; omega
    | succ k100 IH100 =>
      intro σ_100 z100_9 m100 G_100 F_100 hc100_h r100_9
      have J160 : ∀ (σ_160 : Nat → va_E), GM K h q σ_160 → Fr τ [(152, 0), (124, 0), (50, 0), (148, 0), (149, 0), (150, 0), (123, 0), (147, 0)] σ0 σ_160 → (σ_160 h = .inr (12, fsM q (iI z1) (iI z2) (iI z3) (iI z4) (iI z5))) → (0 ≤ z100_9 ∧ z100_9 ≤ 63) → V p l e R s m args below meth c 11 D A Q (0, 0) (fd dom σ_160) [(0, .ref h), (1, .int (iI d)), (5, .int (iI x5)), (7, .int (iI x7)), (9, .int (iI z100_9))] 160 [] := by
        intro σ_160 G_160 F_160 hc160_h rv160_z100_9
        refine v_iinc B (k := 4) (v := iI (z100_9 + 1)) (lv' := [(9, .int (iI (z100_9 + 1))), (0, .ref h), (1, .int (iI d)), (5, .int (iI x5)), (7, .int (iI x7))]) dX12_sends_160 rfl ((iI_add _ _).trans (congrArg iI (by omega))) (by decide +kernel) rfl ?_
        refine v_goto B (tgt := 100) dX12_sends_163 (by decide +kernel) ?_
        refine v_lv [1, 2, 3, 4, 0] rfl ?_
        exact IH100 σ_160 (z100_9 + 1) (by omega) G_160 F_160 hc160_h ⟨by omega, by omega⟩
      refine v_iload B dX12_sends_100 rfl ?_
      refine v_aload_n B dX12_sends_102 rfl rfl ?_
      refine u_get B Z (C := RX12) (T := TX12) (N := 123) (ci := 12) hi_M_sendsS_X12 Y.o hc100_h rfl 24 (by decide +kernel) (List.mem_of_getElem? (i := 8) rfl) rfl dX12_sends_103 ?_
      refine v_iload_n B dX12_sends_106 rfl rfl ?_
      obtain ⟨f85, h86, e87⟩ := ga_24 G_100.t
      obtain ⟨z88, e89, r90⟩ := e87 (d : Int).toNat
      refine u_iald B Z (t0 := 0) (ym_24 Y) h86 rfl (by omega) e89 dX12_sends_107 ?_
      refine u_icmp_ge B (tgt := 166) (by omega) (by omega) dX12_sends_108 (by decide +kernel) (fun c91 => ?_) (fun c91 => ?_)
      · refine v_aload_n B dX12_sends_166 rfl rfl ?_
        refine u_get B Z (C := RX12) (T := TX12) (N := 123) (ci := 12) hi_M_sendsS_X12 Y.o hc100_h rfl 24 (by decide +kernel) (List.mem_of_getElem? (i := 8) rfl) rfl dX12_sends_167 ?_
        refine v_iload_n B dX12_sends_170 rfl rfl ?_
        refine v_iconst B (v := iI 0) dX12_sends_171 rfl ?_
        refine u_iast B Z (t0 := 0) (x := iI 0) (ym_24 Y) h86 rfl (by omega) dX12_sends_172 (fun σ92 h93 n94 => ?_)
        have e95 := el_upd (z := 0) e87 ⟨by omega, by omega⟩ (d : Int).toNat
        have F96 := F_100.put (ym_24 Y) (by simp) n94
        have G97 := gp_24 Y G_100 ⟨_, h93, e95⟩ n94
        refine v_aload_n B dX12_sends_173 rfl rfl ?_
        have h98 := (n94 h (ne_ty Y.o (ym_24 Y) (by decide))).trans (hc100_h)
        refine u_get B Z (C := RX12) (T := TX12) (N := 123) (ci := 12) hi_M_sendsS_X12 Y.o h98 rfl 51 (by decide +kernel) (List.mem_of_getElem? (i := 9) rfl) rfl dX12_sends_174 ?_
        refine v_istore B (lv' := [(9, .int (iI z4)), (0, .ref h), (1, .int (iI d)), (5, .int (iI x5)), (7, .int (iI x7))]) dX12_sends_177 (by decide +kernel) rfl ?_
        refine v_aload_n B dX12_sends_179 rfl rfl ?_
        refine v_dup B dX12_sends_180 rfl ?_
        refine u_get B Z (C := RX12) (T := TX12) (N := 123) (ci := 12) hi_M_sendsS_X12 Y.o h98 rfl 51 (by decide +kernel) (List.mem_of_getElem? (i := 9) rfl) rfl dX12_sends_181 ?_
        refine v_iconst B (v := iI 1) dX12_sends_184 rfl ?_
        refine v_iadd B (v := iI (z4 + 1)) dX12_sends_185 ((iI_add _ _).trans (congrArg iI (by omega))) ?_
        refine u_put B Z (C := RX12) (T := TX12) (N := 123) (ci := 12) hi_M_sendsS_X12 Y.o h98 rfl 51 (by decide +kernel) tyX12 tyX12_ok nmX12 (List.mem_of_getElem? (i := 9) rfl) rfl (ty := .int) (tyX12_ok 51 (by decide +kernel)) rfl rfl (Nat.le_of_ble_eq_true rfl) (fs' := fsM q (iI z1) (iI z2) (iI z3) (iI (z4 + 1)) (iI z5)) rfl dX12_sends_186 (fun σ99 h100 n101 => ?_)
        have F102 := F96.put Y.o (by simp) n101
        have G103 := G97.putO Y ⟨z1, z2, z3, (z4 + 1), z5, h100, ⟨by omega, by omega⟩, ⟨by omega, by omega⟩, ⟨by omega, by omega⟩, ⟨by omega, by omega⟩, ⟨by omega, by omega⟩⟩ n101
        refine v_aload_n B dX12_sends_189 rfl rfl ?_
        refine u_get B Z (C := RX12) (T := TX12) (N := 123) (ci := 12) hi_M_sendsS_X12 Y.o h100 rfl 48 (by decide +kernel) (List.mem_of_getElem? (i := 10) rfl) rfl dX12_sends_190 ?_
        refine v_iload B dX12_sends_193 rfl ?_
        refine v_bipush B (v := iI 9) dX12_sends_195 (by decide +kernel) ?_
        refine v_iload B dX12_sends_197 rfl ?_
        refine v_iadd B (v := iI (x7 + 9)) dX12_sends_199 ((iI_add _ _).trans (congrArg iI (by omega))) ?_
        obtain ⟨f104, h105, e106⟩ := ga_48 G103.t
        refine u_iast B Z (t0 := 0) (x := iI (x7 + 9)) (ym_48 Y) h105 rfl (by omega) dX12_sends_200 (fun σ107 h108 n109 => ?_)
        have e110 := el_upd (z := (x7 + 9)) e106 ⟨by omega, by omega⟩ (z4 : Int).toNat
        have F111 := F102.put (ym_48 Y) (by simp) n109
        have G112 := gp_48 Y G103 ⟨_, h108, e110⟩ n109
        refine v_aload_n B dX12_sends_201 rfl rfl ?_
        have h113 := (n109 h (ne_ty Y.o (ym_48 Y) (by decide))).trans (h100)
        refine u_get B Z (C := RX12) (T := TX12) (N := 123) (ci := 12) hi_M_sendsS_X12 Y.o h113 rfl 49 (by decide +kernel) (List.mem_of_getElem? (i := 11) rfl) rfl dX12_sends_202 ?_
        refine v_iload B dX12_sends_205 rfl ?_
        refine v_iload B dX12_sends_207 rfl ?_
        obtain ⟨f114, h115, e116⟩ := ga_49 G112.t
        refine u_iast B Z (t0 := 0) (x := iI x5) (ym_49 Y) h115 rfl (by omega) dX12_sends_209 (fun σ117 h118 n119 => ?_)
        have e120 := el_upd (z := x5) e116 ⟨by omega, by omega⟩ (z4 : Int).toNat
        have F121 := F111.put (ym_49 Y) (by simp) n119
        have G122 := gp_49 Y G112 ⟨_, h118, e120⟩ n119
        refine v_aload_n B dX12_sends_210 rfl rfl ?_
        have h123 := (n119 h (ne_ty Y.o (ym_49 Y) (by decide))).trans (h113)
        refine u_get B Z (C := RX12) (T := TX12) (N := 123) (ci := 12) hi_M_sendsS_X12 Y.o h123 rfl 50 (by decide +kernel) (List.mem_of_getElem? (i := 12) rfl) rfl dX12_sends_211 ?_
        refine v_iload B dX12_sends_214 rfl ?_
        refine v_aload_n B dX12_sends_216 rfl rfl ?_
        refine u_get B Z (C := RX12) (T := TX12) (N := 123) (ci := 12) hi_M_sendsS_X12 Y.o h123 rfl 23 (by decide +kernel) (List.mem_of_getElem? (i := 7) rfl) rfl dX12_sends_217 ?_
        refine v_iload_n B dX12_sends_220 rfl rfl ?_
        obtain ⟨f124, h125, e126⟩ := ga_23 G122.t
        obtain ⟨z127, e128, r129⟩ := e126 (d : Int).toNat
        refine u_iald B Z (t0 := 0) (ym_23 Y) h125 rfl (by omega) e128 dX12_sends_221 ?_
        refine u_if_le B (tgt := 229) (by omega) dX12_sends_222 (by decide +kernel) (fun c130 => ?_) (fun c130 => ?_)
        · refine v_iconst B (v := iI 0) dX12_sends_229 rfl ?_
          refine v_lv [1, 2, 4, 0] rfl ?_
          have h131 := (n119 (q 48) (ne_ty (ym_48 Y) (ym_49 Y) (by decide))).trans (h108)
          exact J230 σ117 z4 0 z4 G122 F121 ⟨by omega, by omega⟩ ⟨by omega, by omega⟩ ⟨by omega, by omega⟩ (⟨(At.mk h131 upd_s (by omega) ⟨by omega, by omega⟩), (Fld.mk h123 (j := 51) rfl (by omega) (show (z4 + 1) = P + 1 from by omega))⟩)
        · refine v_iconst B (v := iI 1) dX12_sends_225 rfl ?_
          refine v_goto B (tgt := 230) dX12_sends_226 (by decide +kernel) ?_
          refine v_lv [1, 2, 4, 0] rfl ?_
          have h132 := (n119 (q 48) (ne_ty (ym_48 Y) (ym_49 Y) (by decide))).trans (h108)
          exact J230 σ117 z4 1 z4 G122 F121 ⟨by omega, by omega⟩ ⟨by omega, by omega⟩ ⟨by omega, by omega⟩ (⟨(At.mk h132 upd_s (by omega) ⟨by omega, by omega⟩), (Fld.mk h123 (j := 51) rfl (by omega) (show (z4 + 1) = P + 1 from by omega))⟩)
      · refine v_aload_n B dX12_sends_111 rfl rfl ?_
        refine u_get B Z (C := RX12) (T := TX12) (N := 123) (ci := 12) hi_M_sendsS_X12 Y.o hc100_h rfl 25 (by decide +kernel) (List.mem_of_getElem? (i := 13) rfl) rfl dX12_sends_112 ?_
        refine v_bipush B (v := iI 64) dX12_sends_115 (by decide +kernel) ?_
        refine v_iload_n B dX12_sends_117 rfl rfl ?_
        refine v_imul B (v := iI (64 * d)) dX12_sends_118 ((iI_mul _ _).trans (congrArg iI (by omega))) ?_
        refine v_iload B dX12_sends_119 rfl ?_
        refine v_iadd B (v := iI (64 * d + z100_9)) dX12_sends_121 ((iI_add _ _).trans (congrArg iI (by omega))) ?_
        obtain ⟨f133, h134, e135⟩ := ga_25 G_100.t
        obtain ⟨z136, e137, r138⟩ := e135 ((64 * d + z100_9) : Int).toNat
        refine u_iald B Z (t0 := 0) (ym_25 Y) h134 rfl (by omega) e137 dX12_sends_122 ?_
        refine v_istore B (lv' := [(10, .int (iI z136)), (0, .ref h), (1, .int (iI d)), (5, .int (iI x5)), (7, .int (iI x7)), (9, .int (iI z100_9))]) dX12_sends_123 (by decide +kernel) rfl ?_
        refine v_iload B dX12_sends_125 rfl ?_
        refine v_bipush B (v := iI 8) dX12_sends_127 (by decide +kernel) ?_
        refine v_bipush B (v := iI 9) dX12_sends_129 (by decide +kernel) ?_
        refine v_iload B dX12_sends_131 rfl ?_
        refine v_iadd B (v := iI (x7 + 9)) dX12_sends_133 ((iI_add _ _).trans (congrArg iI (by omega))) ?_
        refine v_imul B (v := iI (8 * x7 + 72)) dX12_sends_134 ((iI_mul _ _).trans (congrArg iI (by omega))) ?_
        refine u_icmp_ge B (tgt := 160) (by omega) (by omega) dX12_sends_135 (by decide +kernel) (fun c139 => ?_) (fun c139 => ?_)
        · refine v_lv [1, 2, 3, 4, 5] rfl ?_
          exact J160 σ_100 G_100 F_100 hc100_h ⟨by omega, by omega⟩
        · refine v_aload_n B dX12_sends_138 rfl rfl ?_
          refine u_get B Z (C := RX12) (T := TX12) (N := 123) (ci := 12) hi_M_sendsS_X12 Y.o hc100_h rfl 52 (by decide +kernel) (List.mem_of_getElem? (i := 1) rfl) rfl dX12_sends_139 ?_
          refine v_iload B dX12_sends_142 rfl ?_
          refine v_bipush B (v := iI 8) dX12_sends_144 (by decide +kernel) ?_
          obtain ⟨z140, e141⟩ : ∃ z : Int, z = z136 / 8 := ⟨_, rfl⟩
          refine v_idiv B (v := iI z140) dX12_sends_146 (fun q => absurd ((iI_eq (a := 8) (b := 0) (by omega) (by omega)).mp q) (by omega)) ((iI_ediv (a := z136) (b := 8) (by omega) (by omega)).trans (congrArg iI e141.symm)) ?_
          refine v_dup2 B dX12_sends_147 rfl rfl ?_
          obtain ⟨f142, h143, e144⟩ := ga_52 G_100.t
          obtain ⟨z145, e146, r147⟩ := e144 (z140 : Int).toNat
          refine u_bald B Z (t0 := 2) (ym_52 Y) h143 rfl (by omega) e146 dX12_sends_148 ?_
          refine v_iconst B (v := iI 1) dX12_sends_149 rfl ?_
          refine v_iload B dX12_sends_150 rfl ?_
          refine v_bipush B (v := iI 8) dX12_sends_152 (by decide +kernel) ?_
          obtain ⟨z148, e149⟩ : ∃ z : Int, z = z136 % 8 := ⟨_, rfl⟩
          refine v_irem B (v := iI z148) dX12_sends_154 (fun q => absurd ((iI_eq (a := 8) (b := 0) (by omega) (by omega)).mp q) (by omega)) ((iI_rem (a := z136) (b := 8) (by omega) (by omega)).trans (congrArg iI e149.symm)) ?_
          obtain ⟨z150, e151, r152⟩ := iI_shlv (a := 1) (c := z148) (A := 1) 7 (by decide) (by omega) (by omega)
          refine v_ishl B (v := iI z150) dX12_sends_155 e151 ?_
          obtain ⟨z153, e154, r155⟩ := iI_i8 z150
          refine v_i2b B (v := iI z153) dX12_sends_156 e154 ?_
          obtain ⟨z156, e157, r158⟩ := iI_any (iI z145 ^^^ iI z153)
          refine v_ixor B (v := iI z156) dX12_sends_157 e157 ?_
          obtain ⟨z159, e160, r161⟩ := iI_i8 z156
          refine v_i2b B (v := iI z159) dX12_sends_158 e160 ?_
          refine u_bast B Z (t0 := 2) (x := iI z159) (y := iI z159) (ym_52 Y) h143 rfl (by omega) (nar8 (by omega)) dX12_sends_159 (fun σ162 h163 n164 => ?_)
          have F165 := F_100.put (ym_52 Y) (by simp) n164
          have G166 := gp_52 Y G_100 ⟨_, h163, el_upd (z := z159) e144 ⟨by omega, by omega⟩ _⟩ n164
          refine v_lv [1, 2, 3, 4, 5] rfl ?_
          have h167 := (n164 h (ne_ty Y.o (ym_52 Y) (by decide))).trans (hc100_h)
          exact J160 σ162 G166 F165 h167 ⟨by omega, by omega⟩
  have J49 : ∀ (k49 : Nat) (σ_49 : Nat → va_E) (z49_8 : Int) (z49_9 : Int), (2147483648 - z49_9).toNat ≤ k49 → GM K h q σ_49 → Fr τ [(152, 0), (124, 0), (50, 0), (148, 0), (149, 0), (150, 0), (123, 0), (147, 0)] σ0 σ_49 → (σ_49 h = .inr (12, fsM q (iI z1) (iI z2) (iI z3) (iI z4) (iI z5))) → (-2147483648 ≤ z49_8 ∧ z49_8 ≤ 2147483647) → (0 ≤ z49_9 ∧ z49_9 ≤ 3) → V p l e R s m args below meth c 11 D A Q (0, 0) (fd dom σ_49) [(0, .ref h), (1, .int (iI d)), (5, .int (iI x5)), (7, .int (iI x7)), (8, .int (iI z49_8)), (9, .int (iI z49_9))] 49 [] := by
    intro k49
    induction k49 with
    | zero => intro σ_49 z49_8 z49_9 m49 G_49 F_49 hc49_h r49_8 r49_9; omega
    | succ k49 IH49 =>
      intro σ_49 z49_8 z49_9 m49 G_49 F_49 hc49_h r49_8 r49_9
      refine v_iload B dX12_sends_49 rfl ?_
      refine v_iconst B (v := iI 3) dX12_sends_51 rfl ?_
      refine u_icmp_ge B (tgt := 82) (by omega) (by omega) dX12_sends_52 (by decide +kernel) (fun c168 => ?_) (fun c168 => ?_)
      · refine v_aload_n B dX12_sends_82 rfl rfl ?_
        refine u_get B Z (C := RX12) (T := TX12) (N := 123) (ci := 12) hi_M_sendsS_X12 Y.o hc49_h rfl 52 (by decide +kernel) (List.mem_of_getElem? (i := 1) rfl) rfl dX12_sends_83 ?_
        refine v_iconst B (v := iI 4) dX12_sends_86 rfl ?_
        refine v_bipush B (v := iI 9) dX12_sends_87 (by decide +kernel) ?_
        refine v_iload B dX12_sends_89 rfl ?_
        refine v_iadd B (v := iI (x7 + 9)) dX12_sends_91 ((iI_add _ _).trans (congrArg iI (by omega))) ?_
        refine v_iload B dX12_sends_92 rfl ?_
        refine u_callSv B Z hz (n := 4) (As := [.ref (q 52), .int (iI 4), .int (iI (x7 + 9)), .int (iI x5)]) (rest := []) (c_M_whiten l D K Z _ _ _ _ h q Y 52 40 4 (x7 + 9) x5 rfl ⟨by omega, by omega⟩ ⟨by omega, by omega⟩ ⟨by omega, by omega⟩ σ_49 G_49 (by omega)) gd_M_sendsS_M_whiten_425 rfl rfl rfl (by decide +kernel) ⟨Nat.le_trans (by decide +kernel) hR.1, Nat.le_trans (by decide +kernel) hR.2⟩ rfl rfl (Nat.le_of_ble_eq_true rfl) dX12_sends_94 ⟨Nat.zero_le _, Nat.zero_le _⟩ (fun σ169 p170 => ?_)
        obtain ⟨G172, F173⟩ := p170
        have F174 := F_49.call F173 (by first | rfl | simp)
        refine v_iconst B (v := iI 0) dX12_sends_97 rfl ?_
        refine v_istore B (lv' := [(9, .int (iI 0)), (0, .ref h), (1, .int (iI d)), (5, .int (iI x5)), (7, .int (iI x7)), (8, .int (iI z49_8))]) dX12_sends_98 (by decide +kernel) rfl ?_
        refine v_lv [1, 2, 3, 4, 0] rfl ?_
        have h175 := (F173 h _ Y.o (by first | rfl | simp)).trans (hc49_h)
        exact J100 _ σ169 0 (Nat.le_refl _) G172 F174 h175 ⟨by omega, by omega⟩
      · refine v_aload_n B dX12_sends_55 rfl rfl ?_
        refine u_get B Z (C := RX12) (T := TX12) (N := 123) (ci := 12) hi_M_sendsS_X12 Y.o hc49_h rfl 52 (by decide +kernel) (List.mem_of_getElem? (i := 1) rfl) rfl dX12_sends_56 ?_
        refine v_bipush B (v := iI 6) dX12_sends_59 (by decide +kernel) ?_
        refine v_iload B dX12_sends_61 rfl ?_
        refine v_iadd B (v := iI (x7 + 6)) dX12_sends_63 ((iI_add _ _).trans (congrArg iI (by omega))) ?_
        refine v_iload B dX12_sends_64 rfl ?_
        refine v_iadd B (v := iI (x7 + z49_9 + 6)) dX12_sends_66 ((iI_add _ _).trans (congrArg iI (by omega))) ?_
        refine v_iload B dX12_sends_67 rfl ?_
        refine v_iload B dX12_sends_69 rfl ?_
        refine u_callSi B Z hz (n := 2) (As := [.int (iI z49_8), .int (iI z49_9)]) (rest := [.int (iI (x7 + z49_9 + 6)), .ref (q 52)]) (c_M_crcByte l D K Z _ _ _ _ h q Y z49_8 z49_9 ⟨by omega, by omega⟩ ⟨by omega, by omega⟩ σ_49 (G_49.t)) gd_M_sendsS_M_crcByte_422 rfl rfl rfl (by decide +kernel) ⟨Nat.le_trans (by decide +kernel) hR.1, Nat.le_trans (by decide +kernel) hR.2⟩ rfl rfl (Nat.le_of_ble_eq_true rfl) dX12_sends_71 ⟨Nat.zero_le _, Nat.zero_le _⟩ (fun v178 σ176 p177 => ?_)
        obtain ⟨rfl, z179, e180, r181⟩ := p177
        subst e180
        obtain ⟨z182, e183, r184⟩ := iI_i8 z179
        refine v_i2b B (v := iI z182) dX12_sends_74 e183 ?_
        obtain ⟨f185, h186, e187⟩ := ga_52 G_49.t
        refine u_bast B Z (t0 := 2) (x := iI z182) (y := iI z182) (ym_52 Y) h186 rfl (by omega) (nar8 (by omega)) dX12_sends_75 (fun σ188 h189 n190 => ?_)
        have F191 := F_49.put (ym_52 Y) (by simp) n190
        have G192 := gp_52 Y G_49 ⟨_, h189, el_upd (z := z182) e187 ⟨by omega, by omega⟩ _⟩ n190
        refine v_iinc B (k := 5) (v := iI (z49_9 + 1)) (lv' := [(9, .int (iI (z49_9 + 1))), (0, .ref h), (1, .int (iI d)), (5, .int (iI x5)), (7, .int (iI x7)), (8, .int (iI z49_8))]) dX12_sends_76 rfl ((iI_add _ _).trans (congrArg iI (by omega))) (by decide +kernel) rfl ?_
        refine v_goto B (tgt := 49) dX12_sends_79 (by decide +kernel) ?_
        refine v_lv [1, 2, 3, 4, 5, 0] rfl ?_
        have h193 := (n190 h (ne_ty Y.o (ym_52 Y) (by decide))).trans (hc49_h)
        exact IH49 σ188 z49_8 (z49_9 + 1) (by omega) G192 F191 h193 ⟨by omega, by omega⟩ ⟨by omega, by omega⟩
  refine v_aload_n B dX12_sends_0 rfl rfl ?_
  refine v_iload_n B dX12_sends_1 rfl rfl ?_
  refine v_aload_n B dX12_sends_2 rfl rfl ?_
  refine u_get B Z (C := RX12) (T := TX12) (N := 123) (ci := 12) hi_M_sendsS_X12 Y.o h6 rfl 52 (by decide +kernel) (List.mem_of_getElem? (i := 1) rfl) rfl dX12_sends_3 ?_
  refine v_iconst B (v := iI 0) dX12_sends_6 rfl ?_
  refine v_iconst B (v := iI 4) dX12_sends_7 rfl ?_
  refine u_callSv B Z hz (n := 5) (As := [.ref (zs 4), .int (iI x3), .ref (q 52), .int (iI 0), .int (iI 4)]) (rest := []) (c_M_copyS l D K Z _ _ _ _ h q Y x3 52 40 0 4 ⟨by omega, by omega⟩ rfl ⟨by omega, by omega⟩ ⟨by omega, by omega⟩ σ0 G0 (by omega)) gd_M_sendsS_M_copyS_29 rfl rfl rfl (by decide +kernel) ⟨Nat.le_trans (by decide +kernel) hR.1, Nat.le_trans (by decide +kernel) hR.2⟩ rfl rfl (Nat.le_of_ble_eq_true rfl) dX12_sends_8 ⟨Nat.zero_le _, Nat.zero_le _⟩ (fun σ194 p195 => ?_)
  obtain ⟨G197, F198⟩ := p195
  have F199 := F0.call F198 (by first | rfl | simp)
  refine v_aload_n B dX12_sends_11 rfl rfl ?_
  have h200 := (F198 h _ Y.o (by first | rfl | simp)).trans (h6)
  refine u_get B Z (C := RX12) (T := TX12) (N := 123) (ci := 12) hi_M_sendsS_X12 Y.o h200 rfl 52 (by decide +kernel) (List.mem_of_getElem? (i := 1) rfl) rfl dX12_sends_12 ?_
  refine v_iconst B (v := iI 4) dX12_sends_15 rfl ?_
  refine v_iload B dX12_sends_16 rfl ?_
  obtain ⟨z201, e202, r203⟩ := iI_i8 x6
  refine v_i2b B (v := iI z201) dX12_sends_18 e202 ?_
  obtain ⟨f204, h205, e206⟩ := ga_52 G197.t
  refine u_bast B Z (t0 := 2) (x := iI z201) (y := iI z201) (ym_52 Y) h205 rfl (by omega) (nar8 (by omega)) dX12_sends_19 (fun σ207 h208 n209 => ?_)
  have F210 := F199.put (ym_52 Y) (by simp) n209
  have G211 := gp_52 Y G197 ⟨_, h208, el_upd (z := z201) e206 ⟨by omega, by omega⟩ _⟩ n209
  refine v_aload_n B dX12_sends_20 rfl rfl ?_
  have h212 := (n209 h (ne_ty Y.o (ym_52 Y) (by decide))).trans (h200)
  refine u_get B Z (C := RX12) (T := TX12) (N := 123) (ci := 12) hi_M_sendsS_X12 Y.o h212 rfl 52 (by decide +kernel) (List.mem_of_getElem? (i := 1) rfl) rfl dX12_sends_21 ?_
  refine v_iconst B (v := iI 5) dX12_sends_24 rfl ?_
  refine v_iload B dX12_sends_25 rfl ?_
  obtain ⟨z213, e214, r215⟩ := iI_i8 x7
  refine v_i2b B (v := iI z213) dX12_sends_27 e214 ?_
  obtain ⟨f216, h217, e218⟩ := ga_52 G211.t
  refine u_bast B Z (t0 := 2) (x := iI z213) (y := iI z213) (ym_52 Y) h217 rfl (by omega) (nar8 (by omega)) dX12_sends_28 (fun σ219 h220 n221 => ?_)
  have F222 := F210.put (ym_52 Y) (by simp) n221
  have G223 := gp_52 Y G211 ⟨_, h220, el_upd (z := z213) e218 ⟨by omega, by omega⟩ _⟩ n221
  refine v_aload_n B dX12_sends_29 rfl rfl ?_
  have h224 := (n221 h (ne_ty Y.o (ym_52 Y) (by decide))).trans (h212)
  refine u_get B Z (C := RX12) (T := TX12) (N := 123) (ci := 12) hi_M_sendsS_X12 Y.o h224 rfl 52 (by decide +kernel) (List.mem_of_getElem? (i := 1) rfl) rfl dX12_sends_30 ?_
  refine v_iconst B (v := iI 4) dX12_sends_33 rfl ?_
  refine v_bipush B (v := iI 6) dX12_sends_34 (by decide +kernel) ?_
  refine v_iload B dX12_sends_36 rfl ?_
  refine v_iadd B (v := iI (x7 + 6)) dX12_sends_38 ((iI_add _ _).trans (congrArg iI (by omega))) ?_
  refine v_iload B dX12_sends_39 rfl ?_
  refine u_callSi B Z hz (n := 4) (As := [.ref (q 52), .int (iI 4), .int (iI (x7 + 6)), .int (iI x4)]) (rest := []) (c_M_crc l D K Z _ _ _ _ h q Y 52 40 4 (x7 + 6) x4 rfl ⟨by omega, by omega⟩ ⟨by omega, by omega⟩ ⟨by omega, by omega⟩ σ219 (G223.t) (by omega)) gd_M_sendsS_M_crc_418 rfl rfl rfl (by decide +kernel) ⟨Nat.le_trans (by decide +kernel) hR.1, Nat.le_trans (by decide +kernel) hR.2⟩ rfl rfl (Nat.le_of_ble_eq_true rfl) dX12_sends_41 ⟨Nat.zero_le _, Nat.zero_le _⟩ (fun v227 σ225 p226 => ?_)
  obtain ⟨rfl, z228, e229, r230⟩ := p226
  subst e229
  refine v_istore B (lv' := [(8, .int (iI z228)), (0, .ref h), (1, .int (iI d)), (2, .ref (zs 4)), (3, .int (iI x3)), (4, .int (iI x4)), (5, .int (iI x5)), (6, .int (iI x6)), (7, .int (iI x7))]) dX12_sends_44 (by decide +kernel) rfl ?_
  refine v_iconst B (v := iI 0) dX12_sends_46 rfl ?_
  refine v_istore B (lv' := [(9, .int (iI 0)), (8, .int (iI z228)), (0, .ref h), (1, .int (iI d)), (2, .ref (zs 4)), (3, .int (iI x3)), (4, .int (iI x4)), (5, .int (iI x5)), (6, .int (iI x6)), (7, .int (iI x7))]) dX12_sends_47 (by decide +kernel) rfl ?_
  refine v_lv [2, 3, 7, 9, 1, 0] rfl ?_
  exact J49 _ σ219 z228 0 (Nat.le_refl _) G223 F222 h224 ⟨by omega, by omega⟩ ⟨by omega, by omega⟩
set_option maxRecDepth 100000 in
theorem c_M_sendsS (l : Launch) (D : va_G) (K : Nat → ClassId) {τ : Nat → Option Ty} {dom : List Nat} (Z : Sk τ dom) (zb zL : Nat) (zx : Nat → Int32) (zs : Nat → Nat) (h : Nat) (q : Nat → Nat) (Y : MS τ h q) (d : Int) (x3 : Int) (x4 : Int) (x5 : Int) (x6 : Int) (x7 : Int) (P : Int) (r_d : 0 ≤ d ∧ d ≤ 1) (r_x3 : 0 ≤ x3 ∧ x3 ≤ 0) (r_x4 : -2147483648 ≤ x4 ∧ x4 ≤ 2147483647) (r_x5 : -2147483648 ≤ x5 ∧ x5 ≤ 2147483647) (r_x6 : -2147483648 ≤ x6 ∧ x6 ≤ 2147483647) (r_x7 : 0 ≤ x7 ∧ x7 ≤ 31) (r_P : 0 ≤ P ∧ P ≤ 15) (σ0 : Nat → va_E) (G0 : GM K h q σ0) (hp : Fld σ0 h 12 51 (fun y => y = P)) : MZ l yX12_sends wp_M_sendsS ({ frames := 1, cells := 0, slots := 0, locals := 26 }) D (tysA K) [.ref h, .int (iI d), .ref (zs 4), .int (iI x3), .int (iI x4), .int (iI x5), .int (iI x6), .int (iI x7)] (fd dom σ0) zb zL zx zs (Qi D (fun r σ' => GM K h q σ' ∧ Fr τ [(152, 0), (124, 0), (50, 0), (148, 0), (149, 0), (150, 0), (123, 0), (147, 0)] σ0 σ' ∧ ∃ z : Int, r = iI z ∧ (0 ≤ z ∧ z ≤ 15) ∧ (At σ' (q 48) z.toNat 9 40 ∧ Fld σ' h 12 51 (fun y => y = P + 1))) (fun σ' => fd dom σ')) 0 0 := by
  refine mz_of (cc := cX12_sends) (maxL := 11) (ret := (some .int)) (by decide +kernel) rfl (Nat.le_of_ble_eq_true rfl) ?_
  intro p e s m below meth c A B hr hlk _ hz
  exact b_M_sendsS ⟨Nat.le_refl _, Nat.le_refl _⟩ B Z hz h q Y d x3 x4 x5 x6 x7 P r_d r_x3 r_x4 r_x5 r_x6 r_x7 r_P σ0 G0 hp (fun σ' z lv pc G F hZ hP hd => v_iret B hr hlk σ' ⟨G, F, z, rfl, hZ, hP⟩ rfl (Nat.le_refl _) (Nat.le_refl _) hd)

def wp_M_isHeard : List Cond := .code yX12_isHeard cX12_isHeard 7 (some .boolean) :: (([.fieldLink RX12 164 "LowEnergyModel" "air" "[B", .fieldLink RX12 173 "LowEnergyModel" "airLost" "[Z", .fieldLink RX12 170 "LowEnergyModel" "airChannel" "[I"] : List Cond) ++ (wsX120 ++ ([])))
theorem hi_M_isHeard_X12 : ∀ x ∈ u_ws RX12 TX12 123, x ∈ wp_M_isHeard := fun _ h => List.mem_cons_of_mem _ (List.mem_append_right _ (List.mem_append_left _ h))
set_option maxHeartbeats 4000000 in
set_option maxRecDepth 100000 in
theorem b_M_isHeard {p : Program} {l : Launch} {e : Env} {R : Room} {s : State} {m : MethodId} {args : Array Value} {below : List Frame} {meth : Method} {c : Code} {D : va_G} {K : Nat → ClassId} {A : Nat → Prop} {Q : State → Prop} {τ : Nat → Option Ty} {dom : List Nat} {zb zL : Nat} {zx : Nat → Int32} {zs : Nat → Nat} (hR : 0 ≤ R.frames ∧ 0 ≤ R.locals) (B : Bx p s m args c cX12_isHeard 7 RX12 wp_M_isHeard D (tysA K) A) (Z : Sk τ dom) (hz : ZL zb zL zx zs A s s.heap) (h : Nat) (q : Nat → Nat) (Y : MS τ h q) (x1 : Int) (j2 Nj2 : Nat) (x3 : Int) (x4 : Int) (r_x1 : 0 ≤ x1 ∧ x1 ≤ 15) (hj_j2 : tabM[j2]? = some (2, Nj2, -128, 127)) (r_x3 : 0 ≤ x3 ∧ x3 ≤ 4) (r_x4 : -2147483648 ≤ x4 ∧ x4 ≤ 2147483647) (σ0 : Nat → va_E) (G0 : GT K h q σ0) (hc : x3 + 4 ≤ (Nj2 : Int)) (hend : ∀ (z : Int) (lv : List (Nat × Value)) (pc : Nat), (0 ≤ z ∧ z ≤ 1) → decode cX12_isHeard pc = .ok (.ireturn, 1) → V p l e R s m args below meth c 7 D A Q (0, 0) (fd dom σ0) lv pc [.int (iI z)]) : V p l e R s m args below meth c 7 D A Q (0, 0) (fd dom σ0) [(0, .ref h), (1, .int (iI x1)), (2, .ref (q j2)), (3, .int (iI x3)), (4, .int (iI x4))] 0 [] := by
  have hN_j2 := lenB hj_j2
  obtain ⟨z1, z2, z3, z4, z5, h6, r7, r8, r9, r10, r11⟩ := G0.o
  have J30 : ∀ (k30 : Nat) (z30_5 : Int) (z30_6 : Int), (2147483648 - z30_6).toNat ≤ k30 → (0 ≤ z30_5 ∧ z30_5 ≤ 1) → (0 ≤ z30_6 ∧ z30_6 ≤ 4) → V p l e R s m args below meth c 7 D A Q (0, 0) (fd dom σ0) [(0, .ref h), (1, .int (iI x1)), (2, .ref (q j2)), (3, .int (iI x3)), (5, .int (iI z30_5)), (6, .int (iI z30_6))] 30 [] := by
    intro k30
    induction k30 with
    | zero => intro z30_5 z30_6 m30 r30_5 r30_6; omega
    | succ k30 IH30 =>
      intro z30_5 z30_6 m30 r30_5 r30_6
      have J67 : ∀ (z67_s0 : Int), (0 ≤ z30_6 ∧ z30_6 ≤ 3) → (0 ≤ z67_s0 ∧ z67_s0 ≤ 1) → V p l e R s m args below meth c 7 D A Q (0, 0) (fd dom σ0) [(0, .ref h), (1, .int (iI x1)), (2, .ref (q j2)), (3, .int (iI x3)), (6, .int (iI z30_6))] 67 [.int (iI z67_s0)] := by
        intro z67_s0 rv67_z30_6 r67_s0
        refine v_istore B (lv' := [(5, .int (iI z67_s0)), (0, .ref h), (1, .int (iI x1)), (2, .ref (q j2)), (3, .int (iI x3)), (6, .int (iI z30_6))]) dX12_isHeard_67 (by decide +kernel) rfl ?_
        refine v_iinc B (k := 5) (v := iI (z30_6 + 1)) (lv' := [(6, .int (iI (z30_6 + 1))), (5, .int (iI z67_s0)), (0, .ref h), (1, .int (iI x1)), (2, .ref (q j2)), (3, .int (iI x3))]) dX12_isHeard_69 rfl ((iI_add _ _).trans (congrArg iI (by omega))) (by decide +kernel) rfl ?_
        refine v_goto B (tgt := 30) dX12_isHeard_72 (by decide +kernel) ?_
        refine v_lv [2, 3, 4, 5, 1, 0] rfl ?_
        exact IH30 z67_s0 (z30_6 + 1) (by omega) ⟨by omega, by omega⟩ ⟨by omega, by omega⟩
      have J66 : (0 ≤ z30_6 ∧ z30_6 ≤ 3) → V p l e R s m args below meth c 7 D A Q (0, 0) (fd dom σ0) [(0, .ref h), (1, .int (iI x1)), (2, .ref (q j2)), (3, .int (iI x3)), (6, .int (iI z30_6))] 66 [] := by
        intro rv66_z30_6
        refine v_iconst B (v := iI 0) dX12_isHeard_66 rfl ?_
        exact J67 0 ⟨by omega, by omega⟩ ⟨by omega, by omega⟩
      refine v_iload B dX12_isHeard_30 rfl ?_
      refine v_iconst B (v := iI 4) dX12_isHeard_32 rfl ?_
      refine u_icmp_ge B (tgt := 75) (by omega) (by omega) dX12_isHeard_33 (by decide +kernel) (fun c12 => ?_) (fun c12 => ?_)
      · refine v_iload B dX12_isHeard_75 rfl ?_
        exact hend z30_5 _ _ ⟨by omega, by omega⟩ dX12_isHeard_77
      · refine v_iload B dX12_isHeard_36 rfl ?_
        refine u_if_eq B (tgt := 66) (by omega) dX12_isHeard_38 (by decide +kernel) (fun c13 => ?_) (fun c13 => ?_)
        · refine v_lv [0, 1, 2, 3, 5] rfl ?_
          exact J66 ⟨by omega, by omega⟩
        · refine v_aload_n B dX12_isHeard_41 rfl rfl ?_
          refine u_get B Z (C := RX12) (T := TX12) (N := 123) (ci := 12) hi_M_isHeard_X12 Y.o h6 rfl 47 (by decide +kernel) (List.mem_of_getElem? (i := 1) rfl) rfl dX12_isHeard_42 ?_
          refine v_bipush B (v := iI 40) dX12_isHeard_45 (by decide +kernel) ?_
          refine v_iload_n B dX12_isHeard_47 rfl rfl ?_
          refine v_imul B (v := iI (40 * x1)) dX12_isHeard_48 ((iI_mul _ _).trans (congrArg iI (by omega))) ?_
          refine v_iload B dX12_isHeard_49 rfl ?_
          refine v_iadd B (v := iI (40 * x1 + z30_6)) dX12_isHeard_51 ((iI_add _ _).trans (congrArg iI (by omega))) ?_
          obtain ⟨f14, h15, e16⟩ := ga_47 G0
          obtain ⟨z17, e18, r19⟩ := e16 ((40 * x1 + z30_6) : Int).toNat
          refine u_bald B Z (t0 := 2) (ym_47 Y) h15 rfl (by omega) e18 dX12_isHeard_52 ?_
          refine v_aload_n B dX12_isHeard_53 rfl rfl ?_
          refine v_iload_n B dX12_isHeard_54 rfl rfl ?_
          refine v_iload B dX12_isHeard_55 rfl ?_
          refine v_iadd B (v := iI (x3 + z30_6)) dX12_isHeard_57 ((iI_add _ _).trans (congrArg iI (by omega))) ?_
          obtain ⟨f20, h21, e22⟩ := G0.byte hj_j2
          obtain ⟨z23, e24, r25⟩ := e22 ((x3 + z30_6) : Int).toNat
          refine u_bald B Z (t0 := 2) (Y.byte hj_j2) h21 rfl (by omega) e24 dX12_isHeard_58 ?_
          refine u_icmp_ne B (tgt := 66) (by omega) (by omega) dX12_isHeard_59 (by decide +kernel) (fun c26 => ?_) (fun c26 => ?_)
          · refine v_lv [0, 1, 2, 3, 5] rfl ?_
            exact J66 ⟨by omega, by omega⟩
          · refine v_iconst B (v := iI 1) dX12_isHeard_62 rfl ?_
            refine v_goto B (tgt := 67) dX12_isHeard_63 (by decide +kernel) ?_
            refine v_lv [0, 1, 2, 3, 5] rfl ?_
            exact J67 1 ⟨by omega, by omega⟩ ⟨by omega, by omega⟩
  have J25 : ∀ (z25_s0 : Int), (0 ≤ z25_s0 ∧ z25_s0 ≤ 1) → V p l e R s m args below meth c 7 D A Q (0, 0) (fd dom σ0) [(0, .ref h), (1, .int (iI x1)), (2, .ref (q j2)), (3, .int (iI x3))] 25 [.int (iI z25_s0)] := by
    intro z25_s0 r25_s0
    refine v_istore B (lv' := [(5, .int (iI z25_s0)), (0, .ref h), (1, .int (iI x1)), (2, .ref (q j2)), (3, .int (iI x3))]) dX12_isHeard_25 (by decide +kernel) rfl ?_
    refine v_iconst B (v := iI 0) dX12_isHeard_27 rfl ?_
    refine v_istore B (lv' := [(6, .int (iI 0)), (5, .int (iI z25_s0)), (0, .ref h), (1, .int (iI x1)), (2, .ref (q j2)), (3, .int (iI x3))]) dX12_isHeard_28 (by decide +kernel) rfl ?_
    refine v_lv [2, 3, 4, 5, 1, 0] rfl ?_
    exact J30 _ z25_s0 0 (Nat.le_refl _) ⟨by omega, by omega⟩ ⟨by omega, by omega⟩
  have J24 : V p l e R s m args below meth c 7 D A Q (0, 0) (fd dom σ0) [(0, .ref h), (1, .int (iI x1)), (2, .ref (q j2)), (3, .int (iI x3))] 24 [] := by
    refine v_iconst B (v := iI 0) dX12_isHeard_24 rfl ?_
    exact J25 0 ⟨by omega, by omega⟩
  refine v_aload_n B dX12_isHeard_0 rfl rfl ?_
  refine u_get B Z (C := RX12) (T := TX12) (N := 123) (ci := 12) hi_M_isHeard_X12 Y.o h6 rfl 50 (by decide +kernel) (List.mem_of_getElem? (i := 2) rfl) rfl dX12_isHeard_1 ?_
  refine v_iload_n B dX12_isHeard_4 rfl rfl ?_
  obtain ⟨f27, h28, e29⟩ := ga_50 G0
  obtain ⟨z30, e31, r32⟩ := e29 (x1 : Int).toNat
  refine u_zald B Z (t0 := 3) (ym_50 Y) h28 rfl (by omega) e31 dX12_isHeard_5 ?_
  refine u_if_ne B (tgt := 24) (by omega) dX12_isHeard_6 (by decide +kernel) (fun c33 => ?_) (fun c33 => ?_)
  · refine v_lv [0, 1, 2, 3] rfl ?_
    exact J24
  · refine v_aload_n B dX12_isHeard_9 rfl rfl ?_
    refine u_get B Z (C := RX12) (T := TX12) (N := 123) (ci := 12) hi_M_isHeard_X12 Y.o h6 rfl 49 (by decide +kernel) (List.mem_of_getElem? (i := 3) rfl) rfl dX12_isHeard_10 ?_
    refine v_iload_n B dX12_isHeard_13 rfl rfl ?_
    obtain ⟨f34, h35, e36⟩ := ga_49 G0
    obtain ⟨z37, e38, r39⟩ := e36 (x1 : Int).toNat
    refine u_iald B Z (t0 := 0) (ym_49 Y) h35 rfl (by omega) e38 dX12_isHeard_14 ?_
    refine v_iload B dX12_isHeard_15 rfl ?_
    refine u_icmp_ne B (tgt := 24) (by omega) (by omega) dX12_isHeard_17 (by decide +kernel) (fun c40 => ?_) (fun c40 => ?_)
    · refine v_lv [0, 1, 2, 3] rfl ?_
      exact J24
    · refine v_iconst B (v := iI 1) dX12_isHeard_20 rfl ?_
      refine v_goto B (tgt := 25) dX12_isHeard_21 (by decide +kernel) ?_
      refine v_lv [0, 1, 2, 3] rfl ?_
      exact J25 1 ⟨by omega, by omega⟩
set_option maxRecDepth 100000 in
theorem c_M_isHeard (l : Launch) (D : va_G) (K : Nat → ClassId) {τ : Nat → Option Ty} {dom : List Nat} (Z : Sk τ dom) (zb zL : Nat) (zx : Nat → Int32) (zs : Nat → Nat) (h : Nat) (q : Nat → Nat) (Y : MS τ h q) (x1 : Int) (j2 Nj2 : Nat) (x3 : Int) (x4 : Int) (r_x1 : 0 ≤ x1 ∧ x1 ≤ 15) (hj_j2 : tabM[j2]? = some (2, Nj2, -128, 127)) (r_x3 : 0 ≤ x3 ∧ x3 ≤ 4) (r_x4 : -2147483648 ≤ x4 ∧ x4 ≤ 2147483647) (σ0 : Nat → va_E) (G0 : GT K h q σ0) (hc : x3 + 4 ≤ (Nj2 : Int)) : MZ l yX12_isHeard wp_M_isHeard ({ frames := 0, cells := 0, slots := 0, locals := 0 }) D (tysA K) [.ref h, .int (iI x1), .ref (q j2), .int (iI x3), .int (iI x4)] (fd dom σ0) zb zL zx zs (Qi D (fun r σ' => σ0 = σ' ∧ ∃ z : Int, r = iI z ∧ (0 ≤ z ∧ z ≤ 1)) (fun σ' => fd dom σ')) 0 0 := by
  refine mz_of (cc := cX12_isHeard) (maxL := 7) (ret := (some .boolean)) (by decide +kernel) rfl (Nat.le_of_ble_eq_true rfl) ?_
  intro p e s m below meth c A B hr hlk _ hz
  exact b_M_isHeard ⟨Nat.le_refl _, Nat.le_refl _⟩ B Z hz h q Y x1 j2 Nj2 x3 x4 r_x1 hj_j2 r_x3 r_x4 σ0 G0 hc (fun z lv pc hZ hd => v_zret B hr hlk (nar01 (by omega)) σ0 ⟨rfl, z, rfl, hZ⟩ rfl (Nat.le_refl _) (Nat.le_refl _) hd)

def wp_M_isHeardS : List Cond := .code yX12_isHeard cX12_isHeard 7 (some .boolean) :: (([.fieldLink RX12 164 "LowEnergyModel" "air" "[B", .fieldLink RX12 173 "LowEnergyModel" "airLost" "[Z", .fieldLink RX12 170 "LowEnergyModel" "airChannel" "[I"] : List Cond) ++ (wsX120 ++ ([])))
theorem hi_M_isHeardS_X12 : ∀ x ∈ u_ws RX12 TX12 123, x ∈ wp_M_isHeardS := fun _ h => List.mem_cons_of_mem _ (List.mem_append_right _ (List.mem_append_left _ h))
set_option maxHeartbeats 4000000 in
set_option maxRecDepth 100000 in
theorem b_M_isHeardS {p : Program} {l : Launch} {e : Env} {R : Room} {s : State} {m : MethodId} {args : Array Value} {below : List Frame} {meth : Method} {c : Code} {D : va_G} {K : Nat → ClassId} {A : Nat → Prop} {Q : State → Prop} {τ : Nat → Option Ty} {dom : List Nat} {zb zL : Nat} {zx : Nat → Int32} {zs : Nat → Nat} (hR : 0 ≤ R.frames ∧ 0 ≤ R.locals) (B : Bx p s m args c cX12_isHeard 7 RX12 wp_M_isHeardS D (tysA K) A) (Z : Sk τ dom) (hz : ZL zb zL zx zs A s s.heap) (h : Nat) (q : Nat → Nat) (Y : MS τ h q) (x1 : Int) (x3 : Int) (x4 : Int) (r_x1 : 0 ≤ x1 ∧ x1 ≤ 15) (r_x3 : 0 ≤ x3 ∧ x3 ≤ 0) (r_x4 : -2147483648 ≤ x4 ∧ x4 ≤ 2147483647) (σ0 : Nat → va_E) (G0 : GT K h q σ0) (hend : ∀ (z : Int) (lv : List (Nat × Value)) (pc : Nat), (0 ≤ z ∧ z ≤ 1) → decode cX12_isHeard pc = .ok (.ireturn, 1) → V p l e R s m args below meth c 7 D A Q (0, 0) (fd dom σ0) lv pc [.int (iI z)]) : V p l e R s m args below meth c 7 D A Q (0, 0) (fd dom σ0) [(0, .ref h), (1, .int (iI x1)), (2, .ref (zs 4)), (3, .int (iI x3)), (4, .int (iI x4))] 0 [] := by
  obtain ⟨z1, z2, z3, z4, z5, h6, r7, r8, r9, r10, r11⟩ := G0.o
  have J30 : ∀ (k30 : Nat) (z30_5 : Int) (z30_6 : Int), (2147483648 - z30_6).toNat ≤ k30 → (0 ≤ z30_5 ∧ z30_5 ≤ 1) → (0 ≤ z30_6 ∧ z30_6 ≤ 4) → V p l e R s m args below meth c 7 D A Q (0, 0) (fd dom σ0) [(0, .ref h), (1, .int (iI x1)), (2, .ref (zs 4)), (3, .int (iI x3)), (5, .int (iI z30_5)), (6, .int (iI z30_6))] 30 [] := by
    intro k30
    induction k30 with
    | zero => intro z30_5 z30_6 m30 r30_5 r30_6; omega
    | succ k30 IH30 =>
      intro z30_5 z30_6 m30 r30_5 r30_6
      have J67 : ∀ (z67_s0 : Int), (0 ≤ z30_6 ∧ z30_6 ≤ 3) → (0 ≤ z67_s0 ∧ z67_s0 ≤ 1) → V p l e R s m args below meth c 7 D A Q (0, 0) (fd dom σ0) [(0, .ref h), (1, .int (iI x1)), (2, .ref (zs 4)), (3, .int (iI x3)), (6, .int (iI z30_6))] 67 [.int (iI z67_s0)] := by
        intro z67_s0 rv67_z30_6 r67_s0
        refine v_istore B (lv' := [(5, .int (iI z67_s0)), (0, .ref h), (1, .int (iI x1)), (2, .ref (zs 4)), (3, .int (iI x3)), (6, .int (iI z30_6))]) dX12_isHeard_67 (by decide +kernel) rfl ?_
        refine v_iinc B (k := 5) (v := iI (z30_6 + 1)) (lv' := [(6, .int (iI (z30_6 + 1))), (5, .int (iI z67_s0)), (0, .ref h), (1, .int (iI x1)), (2, .ref (zs 4)), (3, .int (iI x3))]) dX12_isHeard_69 rfl ((iI_add _ _).trans (congrArg iI (by omega))) (by decide +kernel) rfl ?_
        refine v_goto B (tgt := 30) dX12_isHeard_72 (by decide +kernel) ?_
        refine v_lv [2, 3, 4, 5, 1, 0] rfl ?_
        exact IH30 z67_s0 (z30_6 + 1) (by omega) ⟨by omega, by omega⟩ ⟨by omega, by omega⟩
      have J66 : (0 ≤ z30_6 ∧ z30_6 ≤ 3) → V p l e R s m args below meth c 7 D A Q (0, 0) (fd dom σ0) [(0, .ref h), (1, .int (iI x1)), (2, .ref (zs 4)), (3, .int (iI x3)), (6, .int (iI z30_6))] 66 [] := by
        intro rv66_z30_6
        refine v_iconst B (v := iI 0) dX12_isHeard_66 rfl ?_
        exact J67 0 ⟨by omega, by omega⟩ ⟨by omega, by omega⟩
      refine v_iload B dX12_isHeard_30 rfl ?_
      refine v_iconst B (v := iI 4) dX12_isHeard_32 rfl ?_
      refine u_icmp_ge B (tgt := 75) (by omega) (by omega) dX12_isHeard_33 (by decide +kernel) (fun c12 => ?_) (fun c12 => ?_)
      · refine v_iload B dX12_isHeard_75 rfl ?_
        exact hend z30_5 _ _ ⟨by omega, by omega⟩ dX12_isHeard_77
      · refine v_iload B dX12_isHeard_36 rfl ?_
        refine u_if_eq B (tgt := 66) (by omega) dX12_isHeard_38 (by decide +kernel) (fun c13 => ?_) (fun c13 => ?_)
        · refine v_lv [0, 1, 2, 3, 5] rfl ?_
          exact J66 ⟨by omega, by omega⟩
        · refine v_aload_n B dX12_isHeard_41 rfl rfl ?_
          refine u_get B Z (C := RX12) (T := TX12) (N := 123) (ci := 12) hi_M_isHeardS_X12 Y.o h6 rfl 47 (by decide +kernel) (List.mem_of_getElem? (i := 1) rfl) rfl dX12_isHeard_42 ?_
          refine v_bipush B (v := iI 40) dX12_isHeard_45 (by decide +kernel) ?_
          refine v_iload_n B dX12_isHeard_47 rfl rfl ?_
          refine v_imul B (v := iI (40 * x1)) dX12_isHeard_48 ((iI_mul _ _).trans (congrArg iI (by omega))) ?_
          refine v_iload B dX12_isHeard_49 rfl ?_
          refine v_iadd B (v := iI (40 * x1 + z30_6)) dX12_isHeard_51 ((iI_add _ _).trans (congrArg iI (by omega))) ?_
          obtain ⟨f14, h15, e16⟩ := ga_47 G0
          obtain ⟨z17, e18, r19⟩ := e16 ((40 * x1 + z30_6) : Int).toNat
          refine u_bald B Z (t0 := 2) (ym_47 Y) h15 rfl (by omega) e18 dX12_isHeard_52 ?_
          refine v_aload_n B dX12_isHeard_53 rfl rfl ?_
          refine v_iload_n B dX12_isHeard_54 rfl rfl ?_
          refine v_iload B dX12_isHeard_55 rfl ?_
          refine v_iadd B (v := iI (x3 + z30_6)) dX12_isHeard_57 ((iI_add _ _).trans (congrArg iI (by omega))) ?_
          refine u_facc B hz (by omega) dX12_isHeard_58 (fun z20 r21 => ?_)
          refine u_icmp_ne B (tgt := 66) (by omega) (by omega) dX12_isHeard_59 (by decide +kernel) (fun c22 => ?_) (fun c22 => ?_)
          · refine v_lv [0, 1, 2, 3, 5] rfl ?_
            exact J66 ⟨by omega, by omega⟩
          · refine v_iconst B (v := iI 1) dX12_isHeard_62 rfl ?_
            refine v_goto B (tgt := 67) dX12_isHeard_63 (by decide +kernel) ?_
            refine v_lv [0, 1, 2, 3, 5] rfl ?_
            exact J67 1 ⟨by omega, by omega⟩ ⟨by omega, by omega⟩
  have J25 : ∀ (z25_s0 : Int), (0 ≤ z25_s0 ∧ z25_s0 ≤ 1) → V p l e R s m args below meth c 7 D A Q (0, 0) (fd dom σ0) [(0, .ref h), (1, .int (iI x1)), (2, .ref (zs 4)), (3, .int (iI x3))] 25 [.int (iI z25_s0)] := by
    intro z25_s0 r25_s0
    refine v_istore B (lv' := [(5, .int (iI z25_s0)), (0, .ref h), (1, .int (iI x1)), (2, .ref (zs 4)), (3, .int (iI x3))]) dX12_isHeard_25 (by decide +kernel) rfl ?_
    refine v_iconst B (v := iI 0) dX12_isHeard_27 rfl ?_
    refine v_istore B (lv' := [(6, .int (iI 0)), (5, .int (iI z25_s0)), (0, .ref h), (1, .int (iI x1)), (2, .ref (zs 4)), (3, .int (iI x3))]) dX12_isHeard_28 (by decide +kernel) rfl ?_
    refine v_lv [2, 3, 4, 5, 1, 0] rfl ?_
    exact J30 _ z25_s0 0 (Nat.le_refl _) ⟨by omega, by omega⟩ ⟨by omega, by omega⟩
  have J24 : V p l e R s m args below meth c 7 D A Q (0, 0) (fd dom σ0) [(0, .ref h), (1, .int (iI x1)), (2, .ref (zs 4)), (3, .int (iI x3))] 24 [] := by
    refine v_iconst B (v := iI 0) dX12_isHeard_24 rfl ?_
    exact J25 0 ⟨by omega, by omega⟩
  refine v_aload_n B dX12_isHeard_0 rfl rfl ?_
  refine u_get B Z (C := RX12) (T := TX12) (N := 123) (ci := 12) hi_M_isHeardS_X12 Y.o h6 rfl 50 (by decide +kernel) (List.mem_of_getElem? (i := 2) rfl) rfl dX12_isHeard_1 ?_
  refine v_iload_n B dX12_isHeard_4 rfl rfl ?_
  obtain ⟨f23, h24, e25⟩ := ga_50 G0
  obtain ⟨z26, e27, r28⟩ := e25 (x1 : Int).toNat
  refine u_zald B Z (t0 := 3) (ym_50 Y) h24 rfl (by omega) e27 dX12_isHeard_5 ?_
  refine u_if_ne B (tgt := 24) (by omega) dX12_isHeard_6 (by decide +kernel) (fun c29 => ?_) (fun c29 => ?_)
  · refine v_lv [0, 1, 2, 3] rfl ?_
    exact J24
  · refine v_aload_n B dX12_isHeard_9 rfl rfl ?_
    refine u_get B Z (C := RX12) (T := TX12) (N := 123) (ci := 12) hi_M_isHeardS_X12 Y.o h6 rfl 49 (by decide +kernel) (List.mem_of_getElem? (i := 3) rfl) rfl dX12_isHeard_10 ?_
    refine v_iload_n B dX12_isHeard_13 rfl rfl ?_
    obtain ⟨f30, h31, e32⟩ := ga_49 G0
    obtain ⟨z33, e34, r35⟩ := e32 (x1 : Int).toNat
    refine u_iald B Z (t0 := 0) (ym_49 Y) h31 rfl (by omega) e34 dX12_isHeard_14 ?_
    refine v_iload B dX12_isHeard_15 rfl ?_
    refine u_icmp_ne B (tgt := 24) (by omega) (by omega) dX12_isHeard_17 (by decide +kernel) (fun c36 => ?_) (fun c36 => ?_)
    · refine v_lv [0, 1, 2, 3] rfl ?_
      exact J24
    · refine v_iconst B (v := iI 1) dX12_isHeard_20 rfl ?_
      refine v_goto B (tgt := 25) dX12_isHeard_21 (by decide +kernel) ?_
      refine v_lv [0, 1, 2, 3] rfl ?_
      exact J25 1 ⟨by omega, by omega⟩
set_option maxRecDepth 100000 in
theorem c_M_isHeardS (l : Launch) (D : va_G) (K : Nat → ClassId) {τ : Nat → Option Ty} {dom : List Nat} (Z : Sk τ dom) (zb zL : Nat) (zx : Nat → Int32) (zs : Nat → Nat) (h : Nat) (q : Nat → Nat) (Y : MS τ h q) (x1 : Int) (x3 : Int) (x4 : Int) (r_x1 : 0 ≤ x1 ∧ x1 ≤ 15) (r_x3 : 0 ≤ x3 ∧ x3 ≤ 0) (r_x4 : -2147483648 ≤ x4 ∧ x4 ≤ 2147483647) (σ0 : Nat → va_E) (G0 : GT K h q σ0) : MZ l yX12_isHeard wp_M_isHeardS ({ frames := 0, cells := 0, slots := 0, locals := 0 }) D (tysA K) [.ref h, .int (iI x1), .ref (zs 4), .int (iI x3), .int (iI x4)] (fd dom σ0) zb zL zx zs (Qi D (fun r σ' => σ0 = σ' ∧ ∃ z : Int, r = iI z ∧ (0 ≤ z ∧ z ≤ 1)) (fun σ' => fd dom σ')) 0 0 := by
  refine mz_of (cc := cX12_isHeard) (maxL := 7) (ret := (some .boolean)) (by decide +kernel) rfl (Nat.le_of_ble_eq_true rfl) ?_
  intro p e s m below meth c A B hr hlk _ hz
  exact b_M_isHeardS ⟨Nat.le_refl _, Nat.le_refl _⟩ B Z hz h q Y x1 x3 x4 r_x1 r_x3 r_x4 σ0 G0 (fun z lv pc hZ hd => v_zret B hr hlk (nar01 (by omega)) σ0 ⟨rfl, z, rfl, hZ⟩ rfl (Nat.le_refl _) (Nat.le_refl _) hd)

def wp_M_isGood : List Cond := .code yX12_isGood cX12_isGood 6 (some .boolean) :: (([.fieldLink RX12 179 "LowEnergyModel" "got" "[B", .methodLink RX12 422 yX12_crcByte, .static yX12_crcByte, .initialized RX12, .code yX12_crcByte cX12_crcByte 4 (some .int), .fieldLink RX12 167 "LowEnergyModel" "airMany" "[I", .fieldLink RX12 164 "LowEnergyModel" "air" "[B", .methodLink RX12 29 yX12_copy, .static yX12_copy, .code yX12_copy cX12_copy 6 none, .fieldLink RX12 170 "LowEnergyModel" "airChannel" "[I", .methodLink RX12 425 yX12_whiten, .static yX12_whiten, .code yX12_whiten cX12_whiten 7 none, .methodLink RX12 418 yX12_crc, .static yX12_crc, .code yX12_crc cX12_crc 7 (some .int), .constant RX12 417 (16777215)] : List Cond) ++ (wsX120 ++ ([])))
theorem hi_M_isGood_X12 : ∀ x ∈ u_ws RX12 TX12 123, x ∈ wp_M_isGood := fun _ h => List.mem_cons_of_mem _ (List.mem_append_right _ (List.mem_append_left _ h))
set_option maxRecDepth 100000 in
theorem gd_M_isGood_M_crcByte_422 : GoodIn wp_M_isGood (va_wsS RX12 422 yX12_crcByte wp_M_crcByte) := goodIn_app (goodIn_r _ [2, 3, 4] rfl rfl) (goodIn_ca (goodIn_r _ [5] rfl rfl) (goodIn_nil))
set_option maxRecDepth 100000 in
theorem gd_M_isGood_M_copy_29 : GoodIn wp_M_isGood (va_wsS RX12 29 yX12_copy wp_M_copy) := goodIn_app (goodIn_r _ [8, 9, 4] rfl rfl) (goodIn_ca (goodIn_r _ [10] rfl rfl) (goodIn_nil))
set_option maxRecDepth 100000 in
theorem gd_M_isGood_M_whiten_425 : GoodIn wp_M_isGood (va_wsS RX12 425 yX12_whiten wp_M_whiten) := goodIn_app (goodIn_r _ [12, 13, 4] rfl rfl) (goodIn_ca (goodIn_r _ [14] rfl rfl) (goodIn_nil))
set_option maxRecDepth 100000 in
theorem gd_M_isGood_M_crc_418 : GoodIn wp_M_isGood (va_wsS RX12 418 yX12_crc wp_M_crc) := goodIn_app (goodIn_r _ [15, 16, 4] rfl rfl) (goodIn_ca (goodIn_r _ [17, 18] rfl rfl) (goodIn_nil))
set_option maxHeartbeats 4000000 in
set_option maxRecDepth 100000 in
theorem b_M_isGood {p : Program} {l : Launch} {e : Env} {R : Room} {s : State} {m : MethodId} {args : Array Value} {below : List Frame} {meth : Method} {c : Code} {D : va_G} {K : Nat → ClassId} {A : Nat → Prop} {Q : State → Prop} {τ : Nat → Option Ty} {dom : List Nat} {zb zL : Nat} {zx : Nat → Int32} {zs : Nat → Nat} (hR : 1 ≤ R.frames ∧ 26 ≤ R.locals) (B : Bx p s m args c cX12_isGood 6 RX12 wp_M_isGood D (tysA K) A) (Z : Sk τ dom) (hz : ZL zb zL zx zs A s s.heap) (h : Nat) (q : Nat → Nat) (Y : MS τ h q) (x1 : Int) (x2 : Int) (r_x1 : 0 ≤ x1 ∧ x1 ≤ 15) (r_x2 : -2147483648 ≤ x2 ∧ x2 ≤ 2147483647) (σ0 : Nat → va_E) (G0 : GM K h q σ0) (hend : ∀ (σ' : Nat → va_E) (z : Int) (lv : List (Nat × Value)) (pc : Nat), GM K h q σ' → Fr τ [(153, 0)] σ0 σ' → (0 ≤ z ∧ z ≤ 1) → decode cX12_isGood pc = .ok (.ireturn, 1) → V p l e R s m args below meth c 6 D A Q (0, 0) (fd dom σ') lv pc [.int (iI z)]) : V p l e R s m args below meth c 6 D A Q (0, 0) (fd dom σ0) [(0, .ref h), (1, .int (iI x1)), (2, .int (iI x2))] 0 [] := by
  have F0 : Fr τ [(153, 0)] σ0 σ0 := Fr.rf
  obtain ⟨z1, z2, z3, z4, z5, h6, r7, r8, r9, r10, r11⟩ := G0.t.o
  have J75 : ∀ (k75 : Nat) (σ_75 : Nat → va_E) (z75_3 : Int) (z75_4 : Int) (z75_5 : Int), (2147483648 - z75_5).toNat ≤ k75 → GM K h q σ_75 → Fr τ [(153, 0)] σ0 σ_75 → (σ_75 h = .inr (12, fsM q (iI z1) (iI z2) (iI z3) (iI z4) (iI z5))) → (9 ≤ z75_3 ∧ z75_3 ≤ 40) → (-2147483648 ≤ z75_4 ∧ z75_4 ≤ 2147483647) → (0 ≤ z75_5 ∧ z75_5 ≤ 3) → V p l e R s m args below meth c 6 D A Q (0, 0) (fd dom σ_75) [(0, .ref h), (3, .int (iI z75_3)), (4, .int (iI z75_4)), (5, .int (iI z75_5))] 75 [] := by
    intro k75
    induction k75 with
    | zero => intro σ_75 z75_3 z75_4 z75_5 m75 G_75 F_75 hc75_h r75_3 r75_4 r75_5; omega
    | succ k75 IH75 =>
      intro σ_75 z75_3 z75_4 z75_5 m75 G_75 F_75 hc75_h r75_3 r75_4 r75_5
      refine v_iload B dX12_isGood_75 rfl ?_
      refine v_iconst B (v := iI 3) dX12_isGood_77 rfl ?_
      refine u_icmp_ge B (tgt := 114) (by omega) (by omega) dX12_isGood_78 (by decide +kernel) (fun c12 => ?_) (fun c12 => ?_)
      · refine v_iconst B (v := iI 1) dX12_isGood_114 rfl ?_
        exact hend σ_75 1 _ _ G_75 F_75 ⟨by omega, by omega⟩ dX12_isGood_115
      · refine v_aload_n B dX12_isGood_81 rfl rfl ?_
        refine u_get B Z (C := RX12) (T := TX12) (N := 123) (ci := 12) hi_M_isGood_X12 Y.o hc75_h rfl 53 (by decide +kernel) (List.mem_of_getElem? (i := 1) rfl) rfl dX12_isGood_82 ?_
        refine v_iload_n B dX12_isGood_85 rfl rfl ?_
        refine v_iconst B (v := iI 3) dX12_isGood_86 rfl ?_
        refine v_isub B (v := iI (z75_3 + (-3))) dX12_isGood_87 ((iI_sub _ _).trans (congrArg iI (by omega))) ?_
        refine v_iload B dX12_isGood_88 rfl ?_
        refine v_iadd B (v := iI (z75_3 + z75_5 + (-3))) dX12_isGood_90 ((iI_add _ _).trans (congrArg iI (by omega))) ?_
        obtain ⟨f13, h14, e15⟩ := ga_53 G_75.t
        obtain ⟨z16, e17, r18⟩ := e15 ((z75_3 + z75_5 + (-3)) : Int).toNat
        refine u_bald B Z (t0 := 2) (ym_53 Y) h14 rfl (by omega) e17 dX12_isGood_91 ?_
        refine v_sipush B (v := iI 255) dX12_isGood_92 (by decide +kernel) ?_
        obtain ⟨z19, e20, r21⟩ := iI_and z16 (c := 255) (by decide) (by decide)
        refine v_iand B (v := iI z19) dX12_isGood_95 e20 ?_
        refine v_iload B dX12_isGood_96 rfl ?_
        refine v_iload B dX12_isGood_98 rfl ?_
        refine u_callSi B Z hz (n := 2) (As := [.int (iI z75_4), .int (iI z75_5)]) (rest := [.int (iI z19)]) (c_M_crcByte l D K Z _ _ _ _ h q Y z75_4 z75_5 ⟨by omega, by omega⟩ ⟨by omega, by omega⟩ σ_75 (G_75.t)) gd_M_isGood_M_crcByte_422 rfl rfl rfl (by decide +kernel) ⟨Nat.le_trans (by decide +kernel) hR.1, Nat.le_trans (by decide +kernel) hR.2⟩ rfl rfl (Nat.le_of_ble_eq_true rfl) dX12_isGood_100 ⟨Nat.zero_le _, Nat.zero_le _⟩ (fun v24 σ22 p23 => ?_)
        obtain ⟨rfl, z25, e26, r27⟩ := p23
        subst e26
        refine u_icmp_eq B (tgt := 108) (by omega) (by omega) dX12_isGood_103 (by decide +kernel) (fun c28 => ?_) (fun c28 => ?_)
        · refine v_iinc B (k := 3) (v := iI (z75_5 + 1)) (lv' := [(5, .int (iI (z75_5 + 1))), (0, .ref h), (3, .int (iI z75_3)), (4, .int (iI z75_4))]) dX12_isGood_108 rfl ((iI_add _ _).trans (congrArg iI (by omega))) (by decide +kernel) rfl ?_
          refine v_goto B (tgt := 75) dX12_isGood_111 (by decide +kernel) ?_
          refine v_lv [1, 2, 3, 0] rfl ?_
          exact IH75 σ_75 z75_3 z75_4 (z75_5 + 1) (by omega) G_75 F_75 hc75_h ⟨by omega, by omega⟩ ⟨by omega, by omega⟩ ⟨by omega, by omega⟩
        · refine v_iconst B (v := iI 0) dX12_isGood_106 rfl ?_
          exact hend σ_75 0 _ _ G_75 F_75 ⟨by omega, by omega⟩ dX12_isGood_107
  refine v_aload_n B dX12_isGood_0 rfl rfl ?_
  refine u_get B Z (C := RX12) (T := TX12) (N := 123) (ci := 12) hi_M_isGood_X12 Y.o h6 rfl 48 (by decide +kernel) (List.mem_of_getElem? (i := 6) rfl) rfl dX12_isGood_1 ?_
  refine v_iload_n B dX12_isGood_4 rfl rfl ?_
  obtain ⟨f29, h30, e31⟩ := ga_48 G0.t
  obtain ⟨z32, e33, r34⟩ := e31 (x1 : Int).toNat
  refine u_iald B Z (t0 := 0) (ym_48 Y) h30 rfl (by omega) e33 dX12_isGood_5 ?_
  refine v_istore_n B (lv' := [(3, .int (iI z32)), (0, .ref h), (1, .int (iI x1)), (2, .int (iI x2))]) dX12_isGood_6 rfl (by decide +kernel) rfl ?_
  refine v_aload_n B dX12_isGood_7 rfl rfl ?_
  refine u_get B Z (C := RX12) (T := TX12) (N := 123) (ci := 12) hi_M_isGood_X12 Y.o h6 rfl 47 (by decide +kernel) (List.mem_of_getElem? (i := 7) rfl) rfl dX12_isGood_8 ?_
  refine v_bipush B (v := iI 40) dX12_isGood_11 (by decide +kernel) ?_
  refine v_iload_n B dX12_isGood_13 rfl rfl ?_
  refine v_imul B (v := iI (40 * x1)) dX12_isGood_14 ((iI_mul _ _).trans (congrArg iI (by omega))) ?_
  refine v_aload_n B dX12_isGood_15 rfl rfl ?_
  refine u_get B Z (C := RX12) (T := TX12) (N := 123) (ci := 12) hi_M_isGood_X12 Y.o h6 rfl 53 (by decide +kernel) (List.mem_of_getElem? (i := 1) rfl) rfl dX12_isGood_16 ?_
  refine v_iconst B (v := iI 0) dX12_isGood_19 rfl ?_
  refine v_iload_n B dX12_isGood_20 rfl rfl ?_
  refine u_callSv B Z hz (n := 5) (As := [.ref (q 47), .int (iI (40 * x1)), .ref (q 53), .int (iI 0), .int (iI z32)]) (rest := []) (c_M_copy l D K Z _ _ _ _ h q Y 47 640 (40 * x1) 53 40 0 z32 rfl ⟨by omega, by omega⟩ rfl ⟨by omega, by omega⟩ ⟨by omega, by omega⟩ σ0 G0 (by omega)) gd_M_isGood_M_copy_29 rfl rfl rfl (by decide +kernel) ⟨Nat.le_trans (by decide +kernel) hR.1, Nat.le_trans (by decide +kernel) hR.2⟩ rfl rfl (Nat.le_of_ble_eq_true rfl) dX12_isGood_21 ⟨Nat.zero_le _, Nat.zero_le _⟩ (fun σ35 p36 => ?_)
  obtain ⟨G38, F39⟩ := p36
  have F40 := F0.call F39 (by first | rfl | simp)
  refine v_aload_n B dX12_isGood_24 rfl rfl ?_
  have h41 := (F39 h _ Y.o (by first | rfl | simp)).trans (h6)
  refine u_get B Z (C := RX12) (T := TX12) (N := 123) (ci := 12) hi_M_isGood_X12 Y.o h41 rfl 53 (by decide +kernel) (List.mem_of_getElem? (i := 1) rfl) rfl dX12_isGood_25 ?_
  refine v_iconst B (v := iI 4) dX12_isGood_28 rfl ?_
  refine v_iload_n B dX12_isGood_29 rfl rfl ?_
  refine v_aload_n B dX12_isGood_30 rfl rfl ?_
  refine u_get B Z (C := RX12) (T := TX12) (N := 123) (ci := 12) hi_M_isGood_X12 Y.o h41 rfl 49 (by decide +kernel) (List.mem_of_getElem? (i := 11) rfl) rfl dX12_isGood_31 ?_
  refine v_iload_n B dX12_isGood_34 rfl rfl ?_
  obtain ⟨f42, h43, e44⟩ := ga_49 G38.t
  obtain ⟨z45, e46, r47⟩ := e44 (x1 : Int).toNat
  refine u_iald B Z (t0 := 0) (ym_49 Y) h43 rfl (by omega) e46 dX12_isGood_35 ?_
  refine u_callSv B Z hz (n := 4) (As := [.ref (q 53), .int (iI 4), .int (iI z32), .int (iI z45)]) (rest := []) (c_M_whiten l D K Z _ _ _ _ h q Y 53 40 4 z32 z45 rfl ⟨by omega, by omega⟩ ⟨by omega, by omega⟩ ⟨by omega, by omega⟩ σ35 G38 (by omega)) gd_M_isGood_M_whiten_425 rfl rfl rfl (by decide +kernel) ⟨Nat.le_trans (by decide +kernel) hR.1, Nat.le_trans (by decide +kernel) hR.2⟩ rfl rfl (Nat.le_of_ble_eq_true rfl) dX12_isGood_36 ⟨Nat.zero_le _, Nat.zero_le _⟩ (fun σ48 p49 => ?_)
  obtain ⟨G51, F52⟩ := p49
  have F53 := F40.call F52 (by first | rfl | simp)
  refine v_aload_n B dX12_isGood_39 rfl rfl ?_
  have h54 := (F52 h _ Y.o (by first | rfl | simp)).trans (h41)
  refine u_get B Z (C := RX12) (T := TX12) (N := 123) (ci := 12) hi_M_isGood_X12 Y.o h54 rfl 53 (by decide +kernel) (List.mem_of_getElem? (i := 1) rfl) rfl dX12_isGood_40 ?_
  refine v_iconst B (v := iI 5) dX12_isGood_43 rfl ?_
  obtain ⟨f55, h56, e57⟩ := ga_53 G51.t
  obtain ⟨z58, e59, r60⟩ := e57 (5 : Int).toNat
  refine u_bald B Z (t0 := 2) (ym_53 Y) h56 rfl (by omega) e59 dX12_isGood_44 ?_
  refine v_sipush B (v := iI 255) dX12_isGood_45 (by decide +kernel) ?_
  obtain ⟨z61, e62, r63⟩ := iI_and z58 (c := 255) (by decide) (by decide)
  refine v_iand B (v := iI z61) dX12_isGood_48 e62 ?_
  refine v_iload_n B dX12_isGood_49 rfl rfl ?_
  refine v_bipush B (v := iI 9) dX12_isGood_50 (by decide +kernel) ?_
  refine v_isub B (v := iI (z32 + (-9))) dX12_isGood_52 ((iI_sub _ _).trans (congrArg iI (by omega))) ?_
  refine u_icmp_eq B (tgt := 58) (by omega) (by omega) dX12_isGood_53 (by decide +kernel) (fun c64 => ?_) (fun c64 => ?_)
  · refine v_aload_n B dX12_isGood_58 rfl rfl ?_
    refine u_get B Z (C := RX12) (T := TX12) (N := 123) (ci := 12) hi_M_isGood_X12 Y.o h54 rfl 53 (by decide +kernel) (List.mem_of_getElem? (i := 1) rfl) rfl dX12_isGood_59 ?_
    refine v_iconst B (v := iI 4) dX12_isGood_62 rfl ?_
    refine v_iload_n B dX12_isGood_63 rfl rfl ?_
    refine v_iconst B (v := iI 3) dX12_isGood_64 rfl ?_
    refine v_isub B (v := iI (z32 + (-3))) dX12_isGood_65 ((iI_sub _ _).trans (congrArg iI (by omega))) ?_
    refine v_iload_n B dX12_isGood_66 rfl rfl ?_
    refine u_callSi B Z hz (n := 4) (As := [.ref (q 53), .int (iI 4), .int (iI (z32 + (-3))), .int (iI x2)]) (rest := []) (c_M_crc l D K Z _ _ _ _ h q Y 53 40 4 (z32 + (-3)) x2 rfl ⟨by omega, by omega⟩ ⟨by omega, by omega⟩ ⟨by omega, by omega⟩ σ48 (G51.t) (by omega)) gd_M_isGood_M_crc_418 rfl rfl rfl (by decide +kernel) ⟨Nat.le_trans (by decide +kernel) hR.1, Nat.le_trans (by decide +kernel) hR.2⟩ rfl rfl (Nat.le_of_ble_eq_true rfl) dX12_isGood_67 ⟨Nat.zero_le _, Nat.zero_le _⟩ (fun v67 σ65 p66 => ?_)
    obtain ⟨rfl, z68, e69, r70⟩ := p66
    subst e69
    refine v_istore B (lv' := [(4, .int (iI z68)), (3, .int (iI z32)), (0, .ref h), (1, .int (iI x1)), (2, .int (iI x2))]) dX12_isGood_70 (by decide +kernel) rfl ?_
    refine v_iconst B (v := iI 0) dX12_isGood_72 rfl ?_
    refine v_istore B (lv' := [(5, .int (iI 0)), (4, .int (iI z68)), (3, .int (iI z32)), (0, .ref h), (1, .int (iI x1)), (2, .int (iI x2))]) dX12_isGood_73 (by decide +kernel) rfl ?_
    refine v_lv [3, 2, 1, 0] rfl ?_
    exact J75 _ σ48 z32 z68 0 (Nat.le_refl _) G51 F53 h54 ⟨by omega, by omega⟩ ⟨by omega, by omega⟩ ⟨by omega, by omega⟩
  · refine v_iconst B (v := iI 0) dX12_isGood_56 rfl ?_
    exact hend σ48 0 _ _ G51 F53 ⟨by omega, by omega⟩ dX12_isGood_57
set_option maxRecDepth 100000 in
theorem c_M_isGood (l : Launch) (D : va_G) (K : Nat → ClassId) {τ : Nat → Option Ty} {dom : List Nat} (Z : Sk τ dom) (zb zL : Nat) (zx : Nat → Int32) (zs : Nat → Nat) (h : Nat) (q : Nat → Nat) (Y : MS τ h q) (x1 : Int) (x2 : Int) (r_x1 : 0 ≤ x1 ∧ x1 ≤ 15) (r_x2 : -2147483648 ≤ x2 ∧ x2 ≤ 2147483647) (σ0 : Nat → va_E) (G0 : GM K h q σ0) : MZ l yX12_isGood wp_M_isGood ({ frames := 1, cells := 0, slots := 0, locals := 26 }) D (tysA K) [.ref h, .int (iI x1), .int (iI x2)] (fd dom σ0) zb zL zx zs (Qi D (fun r σ' => GM K h q σ' ∧ Fr τ [(153, 0)] σ0 σ' ∧ ∃ z : Int, r = iI z ∧ (0 ≤ z ∧ z ≤ 1)) (fun σ' => fd dom σ')) 0 0 := by
  refine mz_of (cc := cX12_isGood) (maxL := 6) (ret := (some .boolean)) (by decide +kernel) rfl (Nat.le_of_ble_eq_true rfl) ?_
  intro p e s m below meth c A B hr hlk _ hz
  exact b_M_isGood ⟨Nat.le_refl _, Nat.le_refl _⟩ B Z hz h q Y x1 x2 r_x1 r_x2 σ0 G0 (fun σ' z lv pc G F hZ hd => v_zret B hr hlk (nar01 (by omega)) σ' ⟨G, F, z, rfl, hZ⟩ rfl (Nat.le_refl _) (Nat.le_refl _) hd)

def wp_M_adds : List Cond := .code yX12_adds cX12_adds 5 none :: (([.fieldLink RX12 191 "LowEnergyModel" "controls" "[I", .fieldLink RX12 203 "LowEnergyModel" "control" "[B", .methodLink RX12 29 yX12_copy, .static yX12_copy, .initialized RX12, .code yX12_copy cX12_copy 6 none, .fieldLink RX12 221 "LowEnergyModel" "controlMany" "[I"] : List Cond) ++ (wsX120 ++ ([])))
theorem hi_M_adds_X12 : ∀ x ∈ u_ws RX12 TX12 123, x ∈ wp_M_adds := fun _ h => List.mem_cons_of_mem _ (List.mem_append_right _ (List.mem_append_left _ h))
set_option maxRecDepth 100000 in
theorem gd_M_adds_M_copy_29 : GoodIn wp_M_adds (va_wsS RX12 29 yX12_copy wp_M_copy) := goodIn_app (goodIn_r _ [3, 4, 5] rfl rfl) (goodIn_ca (goodIn_r _ [6] rfl rfl) (goodIn_nil))
set_option maxHeartbeats 4000000 in
set_option maxRecDepth 100000 in
theorem b_M_adds {p : Program} {l : Launch} {e : Env} {R : Room} {s : State} {m : MethodId} {args : Array Value} {below : List Frame} {meth : Method} {c : Code} {D : va_G} {K : Nat → ClassId} {A : Nat → Prop} {Q : State → Prop} {τ : Nat → Option Ty} {dom : List Nat} {zb zL : Nat} {zx : Nat → Int32} {zs : Nat → Nat} (hR : 1 ≤ R.frames ∧ 25 ≤ R.locals) (B : Bx p s m args c cX12_adds 5 RX12 wp_M_adds D (tysA K) A) (Z : Sk τ dom) (hz : ZL zb zL zx zs A s s.heap) (h : Nat) (q : Nat → Nat) (Y : MS τ h q) (d : Int) (x3 : Int) (Cn : Int) (r_d : 0 ≤ d ∧ d ≤ 1) (r_x3 : 1 ≤ x3 ∧ x3 ≤ 16) (r_Cn : 0 ≤ Cn ∧ Cn ≤ 5) (σ0 : Nat → va_E) (G0 : GM K h q σ0) (hC : At σ0 (q 57) (d : Int).toNat (Cn) (Cn)) (hend : ∀ (σ' : Nat → va_E) (lv : List (Nat × Value)) (pc : Nat), GM K h q σ' → Fr τ [(161, 0), (167, 0), (157, 0)] σ0 σ' → (At σ' (q 57) (d : Int).toNat (Cn + 1) (Cn + 1)) → decode cX12_adds pc = .ok (.return_, 1) → V p l e R s m args below meth c 5 D A Q (0, 0) (fd dom σ') lv pc []) : V p l e R s m args below meth c 5 D A Q (0, 0) (fd dom σ0) [(0, .ref h), (1, .int (iI d)), (2, .ref (q 80)), (3, .int (iI x3))] 0 [] := by
  have F0 : Fr τ [(161, 0), (167, 0), (157, 0)] σ0 σ0 := Fr.rf
  obtain ⟨z1, z2, z3, z4, z5, h6, r7, r8, r9, r10, r11⟩ := G0.t.o
  obtain ⟨f12, h13, e14⟩ := ga_57 G0.t
  obtain ⟨z15, e16, r17⟩ := e14 (d : Int).toNat
  have r18 := hC.use h13 e16 (by omega)
  refine v_bipush B (v := iI 6) dX12_adds_0 (by decide +kernel) ?_
  refine v_iload_n B dX12_adds_2 rfl rfl ?_
  refine v_imul B (v := iI (6 * d)) dX12_adds_3 ((iI_mul _ _).trans (congrArg iI (by omega))) ?_
  refine v_aload_n B dX12_adds_4 rfl rfl ?_
  refine u_get B Z (C := RX12) (T := TX12) (N := 123) (ci := 12) hi_M_adds_X12 Y.o h6 rfl 57 (by decide +kernel) (List.mem_of_getElem? (i := 1) rfl) rfl dX12_adds_5 ?_
  refine v_iload_n B dX12_adds_8 rfl rfl ?_
  refine u_iald B Z (t0 := 0) (ym_57 Y) h13 rfl (by omega) e16 dX12_adds_9 ?_
  refine v_iadd B (v := iI (6 * d + z15)) dX12_adds_10 ((iI_add _ _).trans (congrArg iI (by omega))) ?_
  refine v_istore B (lv' := [(4, .int (iI (6 * d + z15))), (0, .ref h), (1, .int (iI d)), (2, .ref (q 80)), (3, .int (iI x3))]) dX12_adds_11 (by decide +kernel) rfl ?_
  refine v_aload_n B dX12_adds_13 rfl rfl ?_
  refine v_iconst B (v := iI 0) dX12_adds_14 rfl ?_
  refine v_aload_n B dX12_adds_15 rfl rfl ?_
  refine u_get B Z (C := RX12) (T := TX12) (N := 123) (ci := 12) hi_M_adds_X12 Y.o h6 rfl 61 (by decide +kernel) (List.mem_of_getElem? (i := 2) rfl) rfl dX12_adds_16 ?_
  refine v_bipush B (v := iI 16) dX12_adds_19 (by decide +kernel) ?_
  refine v_iload B dX12_adds_21 rfl ?_
  refine v_imul B (v := iI (96 * d + 16 * z15)) dX12_adds_23 ((iI_mul _ _).trans (congrArg iI (by omega))) ?_
  refine v_iload_n B dX12_adds_24 rfl rfl ?_
  refine u_callSv B Z hz (n := 5) (As := [.ref (q 80), .int (iI 0), .ref (q 61), .int (iI (96 * d + 16 * z15)), .int (iI x3)]) (rest := []) (c_M_copy l D K Z _ _ _ _ h q Y 80 40 0 61 192 (96 * d + 16 * z15) x3 rfl ⟨by omega, by omega⟩ rfl ⟨by omega, by omega⟩ ⟨by omega, by omega⟩ σ0 G0 (by omega)) gd_M_adds_M_copy_29 rfl rfl rfl (by decide +kernel) ⟨Nat.le_trans (by decide +kernel) hR.1, Nat.le_trans (by decide +kernel) hR.2⟩ rfl rfl (Nat.le_of_ble_eq_true rfl) dX12_adds_25 ⟨Nat.zero_le _, Nat.zero_le _⟩ (fun σ19 p20 => ?_)
  obtain ⟨G22, F23⟩ := p20
  have F24 := F0.call F23 (by first | rfl | simp)
  refine v_aload_n B dX12_adds_28 rfl rfl ?_
  have h25 := (F23 h _ Y.o (by first | rfl | simp)).trans (h6)
  refine u_get B Z (C := RX12) (T := TX12) (N := 123) (ci := 12) hi_M_adds_X12 Y.o h25 rfl 67 (by decide +kernel) (List.mem_of_getElem? (i := 7) rfl) rfl dX12_adds_29 ?_
  refine v_iload B dX12_adds_32 rfl ?_
  refine v_iload_n B dX12_adds_34 rfl rfl ?_
  obtain ⟨f26, h27, e28⟩ := ga_67 G22.t
  refine u_iast B Z (t0 := 0) (x := iI x3) (ym_67 Y) h27 rfl (by omega) dX12_adds_35 (fun σ29 h30 n31 => ?_)
  have e32 := el_upd (z := x3) e28 ⟨by omega, by omega⟩ ((6 * d + z15) : Int).toNat
  have F33 := F24.put (ym_67 Y) (by simp) n31
  have G34 := gp_67 Y G22 ⟨_, h30, e32⟩ n31
  refine v_aload_n B dX12_adds_36 rfl rfl ?_
  have h35 := (n31 h (ne_ty Y.o (ym_67 Y) (by decide))).trans (h25)
  refine u_get B Z (C := RX12) (T := TX12) (N := 123) (ci := 12) hi_M_adds_X12 Y.o h35 rfl 57 (by decide +kernel) (List.mem_of_getElem? (i := 1) rfl) rfl dX12_adds_37 ?_
  refine v_iload_n B dX12_adds_40 rfl rfl ?_
  refine v_dup2 B dX12_adds_41 rfl rfl ?_
  have h36 := (n31 (q 57) (ne_ty (ym_57 Y) (ym_67 Y) (by decide))).trans ((F23 (q 57) _ (ym_57 Y) (by first | rfl | simp)).trans (h13))
  refine u_iald B Z (t0 := 0) (ym_57 Y) h36 rfl (by omega) e16 dX12_adds_42 ?_
  refine v_iconst B (v := iI 1) dX12_adds_43 rfl ?_
  refine v_iadd B (v := iI (z15 + 1)) dX12_adds_44 ((iI_add _ _).trans (congrArg iI (by omega))) ?_
  refine u_iast B Z (t0 := 0) (x := iI (z15 + 1)) (ym_57 Y) h36 rfl (by omega) dX12_adds_45 (fun σ37 h38 n39 => ?_)
  have e40 := el_upd (z := (z15 + 1)) e14 ⟨by omega, by omega⟩ (d : Int).toNat
  have F41 := F33.put (ym_57 Y) (by simp) n39
  have G42 := gp_57 Y G34 ⟨_, h38, e40⟩ n39
  exact hend σ37 _ _ G42 F41 (At.mk h38 upd_s (by omega) ⟨by omega, by omega⟩) dX12_adds_46
set_option maxRecDepth 100000 in
theorem c_M_adds (l : Launch) (D : va_G) (K : Nat → ClassId) {τ : Nat → Option Ty} {dom : List Nat} (Z : Sk τ dom) (zb zL : Nat) (zx : Nat → Int32) (zs : Nat → Nat) (h : Nat) (q : Nat → Nat) (Y : MS τ h q) (d : Int) (x3 : Int) (Cn : Int) (r_d : 0 ≤ d ∧ d ≤ 1) (r_x3 : 1 ≤ x3 ∧ x3 ≤ 16) (r_Cn : 0 ≤ Cn ∧ Cn ≤ 5) (σ0 : Nat → va_E) (G0 : GM K h q σ0) (hC : At σ0 (q 57) (d : Int).toNat (Cn) (Cn)) : MZ l yX12_adds wp_M_adds ({ frames := 1, cells := 0, slots := 0, locals := 25 }) D (tysA K) [.ref h, .int (iI d), .ref (q 80), .int (iI x3)] (fd dom σ0) zb zL zx zs (Qv D (fun σ' => GM K h q σ' ∧ Fr τ [(161, 0), (167, 0), (157, 0)] σ0 σ' ∧ (At σ' (q 57) (d : Int).toNat (Cn + 1) (Cn + 1))) (fun σ' => fd dom σ')) 0 0 := by
  refine mz_of (cc := cX12_adds) (maxL := 5) (ret := none) (by decide +kernel) rfl (Nat.le_of_ble_eq_true rfl) ?_
  intro p e s m below meth c A B hr hlk _ hz
  exact b_M_adds ⟨Nat.le_refl _, Nat.le_refl _⟩ B Z hz h q Y d x3 Cn r_d r_x3 r_Cn σ0 G0 hC (fun σ' lv pc G F hP hd => v_vret B hr hlk σ' ⟨G, F, hP⟩ rfl (Nat.le_refl _) (Nat.le_refl _) hd)

def wp_M_adds4 : List Cond := .code yX12_adds_ cX12_adds_ 5 none :: (([.fieldLink RX12 260 "LowEnergyModel" "pdu" "[B", .methodLink RX12 432 yX12_number, .static yX12_number, .initialized RX12, .code yX12_number cX12_number 6 none, .methodLink RX12 436 yX12_adds, .instanceMethod yX12_adds, .selects RX12 yX12_adds yX12_adds, .code yX12_adds cX12_adds 5 none, .fieldLink RX12 191 "LowEnergyModel" "controls" "[I", .fieldLink RX12 203 "LowEnergyModel" "control" "[B", .methodLink RX12 29 yX12_copy, .static yX12_copy, .code yX12_copy cX12_copy 6 none, .fieldLink RX12 221 "LowEnergyModel" "controlMany" "[I"] : List Cond) ++ (wsX120 ++ ([])))
theorem hi_M_adds4_X12 : ∀ x ∈ u_ws RX12 TX12 123, x ∈ wp_M_adds4 := fun _ h => List.mem_cons_of_mem _ (List.mem_append_right _ (List.mem_append_left _ h))
set_option maxRecDepth 100000 in
theorem gd_M_adds4_M_numberP_432 : GoodIn wp_M_adds4 (va_wsS RX12 432 yX12_number wp_M_numberP) := goodIn_app (goodIn_r _ [2, 3, 4] rfl rfl) (goodIn_ca (goodIn_r _ [5] rfl rfl) (goodIn_nil))
set_option maxRecDepth 100000 in
theorem gd_M_adds4_M_adds_436 : GoodIn wp_M_adds4 (wsV RX12 436 RX12 yX12_adds wp_M_adds) := goodIn_app (goodIn_r _ [6, 7, 8, 4] rfl rfl) (goodIn_ca (goodIn_r _ [9, 10, 11, 12, 13, 4, 14, 15] rfl rfl) (goodIn_app (goodIn_cls hi_M_adds4_X12 gw_X12) (goodIn_nil)))
set_option maxHeartbeats 4000000 in
set_option maxRecDepth 100000 in
theorem b_M_adds4 {p : Program} {l : Launch} {e : Env} {R : Room} {s : State} {m : MethodId} {args : Array Value} {below : List Frame} {meth : Method} {c : Code} {D : va_G} {K : Nat → ClassId} {A : Nat → Prop} {Q : State → Prop} {τ : Nat → Option Ty} {dom : List Nat} {zb zL : Nat} {zx : Nat → Int32} {zs : Nat → Nat} (hR : 2 ≤ R.frames ∧ 49 ≤ R.locals) (B : Bx p s m args c cX12_adds_ 5 RX12 wp_M_adds4 D (tysA K) A) (Z : Sk τ dom) (hz : ZL zb zL zx zs A s s.heap) (h : Nat) (q : Nat → Nat) (Y : MS τ h q) (d : Int) (x2 : Int) (x3 : Int) (x4 : Int) (Cn : Int) (r_d : 0 ≤ d ∧ d ≤ 1) (r_x2 : -2147483648 ≤ x2 ∧ x2 ≤ 2147483647) (r_x3 : -2147483648 ≤ x3 ∧ x3 ≤ 2147483647) (r_x4 : 0 ≤ x4 ∧ x4 ≤ 1) (r_Cn : 0 ≤ Cn ∧ Cn ≤ 5) (σ0 : Nat → va_E) (G0 : GM K h q σ0) (hC : At σ0 (q 57) (d : Int).toNat (Cn) (Cn)) (hend : ∀ (σ' : Nat → va_E) (lv : List (Nat × Value)) (pc : Nat), GM K h q σ' → Fr τ [(180, 0), (161, 0), (167, 0), (157, 0)] σ0 σ' → (At σ' (q 57) (d : Int).toNat (Cn + 1) (Cn + 1)) → decode cX12_adds_ pc = .ok (.return_, 1) → V p l e R s m args below meth c 5 D A Q (0, 0) (fd dom σ') lv pc []) : V p l e R s m args below meth c 5 D A Q (0, 0) (fd dom σ0) [(0, .ref h), (1, .int (iI d)), (2, .int (iI x2)), (3, .int (iI x3)), (4, .int (iI x4))] 0 [] := by
  have F0 : Fr τ [(180, 0), (161, 0), (167, 0), (157, 0)] σ0 σ0 := Fr.rf
  obtain ⟨z1, z2, z3, z4, z5, h6, r7, r8, r9, r10, r11⟩ := G0.t.o
  obtain ⟨f12, h13, e14⟩ := ga_57 G0.t
  obtain ⟨z15, e16, r17⟩ := e14 (d : Int).toNat
  have r18 := hC.use h13 e16 (by omega)
  refine v_aload_n B dX12_adds__0 rfl rfl ?_
  refine u_get B Z (C := RX12) (T := TX12) (N := 123) (ci := 12) hi_M_adds4_X12 Y.o h6 rfl 80 (by decide +kernel) (List.mem_of_getElem? (i := 1) rfl) rfl dX12_adds__1 ?_
  refine v_iconst B (v := iI 0) dX12_adds__4 rfl ?_
  refine v_iload_n B dX12_adds__5 rfl rfl ?_
  obtain ⟨z19, e20, r21⟩ := iI_i8 x2
  refine v_i2b B (v := iI z19) dX12_adds__6 e20 ?_
  obtain ⟨f22, h23, e24⟩ := ga_80 G0.t
  refine u_bast B Z (t0 := 2) (x := iI z19) (y := iI z19) (ym_80 Y) h23 rfl (by omega) (nar8 (by omega)) dX12_adds__7 (fun σ25 h26 n27 => ?_)
  have F28 := F0.put (ym_80 Y) (by simp) n27
  have G29 := gp_80 Y G0 ⟨_, h26, el_upd (z := z19) e24 ⟨by omega, by omega⟩ _⟩ n27
  refine v_aload_n B dX12_adds__8 rfl rfl ?_
  have h30 := (n27 h (ne_ty Y.o (ym_80 Y) (by decide))).trans (h6)
  refine u_get B Z (C := RX12) (T := TX12) (N := 123) (ci := 12) hi_M_adds4_X12 Y.o h30 rfl 80 (by decide +kernel) (List.mem_of_getElem? (i := 1) rfl) rfl dX12_adds__9 ?_
  refine v_iconst B (v := iI 1) dX12_adds__12 rfl ?_
  refine v_iload_n B dX12_adds__13 rfl rfl ?_
  refine v_i2l B (v := lI x3) dX12_adds__14 (lI_i (by omega)) ?_
  refine v_iload B dX12_adds__15 rfl ?_
  refine u_callSv B Z hz (n := 4) (As := [.ref (q 80), .int (iI 1), .long (lI x3), .int (iI x4)]) (rest := []) (c_M_numberP l D K Z _ _ _ _ h q Y 80 40 1 x3 x4 rfl ⟨by omega, by omega⟩ ⟨by omega, by omega⟩ ⟨by omega, by omega⟩ σ25 G29 (by omega)) gd_M_adds4_M_numberP_432 rfl rfl rfl (by decide +kernel) ⟨Nat.le_trans (by decide +kernel) hR.1, Nat.le_trans (by decide +kernel) hR.2⟩ rfl rfl (Nat.le_of_ble_eq_true rfl) dX12_adds__17 ⟨Nat.zero_le _, Nat.zero_le _⟩ (fun σ31 p32 => ?_)
  obtain ⟨G34, F35⟩ := p32
  have F36 := F28.call F35 (by first | rfl | simp)
  refine v_aload_n B dX12_adds__20 rfl rfl ?_
  refine v_iload_n B dX12_adds__21 rfl rfl ?_
  refine v_aload_n B dX12_adds__22 rfl rfl ?_
  have h37 := (F35 h _ Y.o (by first | rfl | simp)).trans (h30)
  refine u_get B Z (C := RX12) (T := TX12) (N := 123) (ci := 12) hi_M_adds4_X12 Y.o h37 rfl 80 (by decide +kernel) (List.mem_of_getElem? (i := 1) rfl) rfl dX12_adds__23 ?_
  refine v_iload B dX12_adds__26 rfl ?_
  refine v_iconst B (v := iI 1) dX12_adds__28 rfl ?_
  refine v_iadd B (v := iI (x4 + 1)) dX12_adds__29 ((iI_add _ _).trans (congrArg iI (by omega))) ?_
  have h38 := (F35 (q 57) _ (ym_57 Y) (by first | rfl | simp)).trans ((n27 (q 57) (ne_ty (ym_57 Y) (ym_80 Y) (by decide))).trans (h13))
  refine u_callVv B Z hz (n := 3) (As := [.int (iI d), .ref (q 80), .int (iI (x4 + 1))]) (rest := []) (c_M_adds l D K Z _ _ _ _ h q Y d (x4 + 1) z15 ⟨by omega, by omega⟩ ⟨by omega, by omega⟩ ⟨by omega, by omega⟩ σ31 G34 (At.mk h38 e16 (by omega) ⟨by omega, by omega⟩)) gd_M_adds4_M_adds_436 rfl rfl rfl (by decide +kernel) ⟨Nat.le_trans (by decide +kernel) hR.1, Nat.le_trans (by decide +kernel) hR.2⟩ Y.o (clsM G34.t) rfl rfl rfl rfl (Nat.le_of_ble_eq_true rfl) dX12_adds__30 ⟨Nat.zero_le _, Nat.zero_le _⟩ (fun σ39 p40 => ?_)
  obtain ⟨G43, F44, po42⟩ := p40
  have F45 := F36.call F44 (by first | rfl | simp)
  obtain ⟨f46, h47, e48⟩ := ga_57 G43.t
  obtain ⟨z49, e50, r51⟩ := e48 (d : Int).toNat
  have r52 := po42.use h47 e50 (by omega)
  exact hend σ39 _ _ G43 F45 (At.mk h47 e50 (by omega) ⟨by omega, by omega⟩) dX12_adds__33
set_option maxRecDepth 100000 in
theorem c_M_adds4 (l : Launch) (D : va_G) (K : Nat → ClassId) {τ : Nat → Option Ty} {dom : List Nat} (Z : Sk τ dom) (zb zL : Nat) (zx : Nat → Int32) (zs : Nat → Nat) (h : Nat) (q : Nat → Nat) (Y : MS τ h q) (d : Int) (x2 : Int) (x3 : Int) (x4 : Int) (Cn : Int) (r_d : 0 ≤ d ∧ d ≤ 1) (r_x2 : -2147483648 ≤ x2 ∧ x2 ≤ 2147483647) (r_x3 : -2147483648 ≤ x3 ∧ x3 ≤ 2147483647) (r_x4 : 0 ≤ x4 ∧ x4 ≤ 1) (r_Cn : 0 ≤ Cn ∧ Cn ≤ 5) (σ0 : Nat → va_E) (G0 : GM K h q σ0) (hC : At σ0 (q 57) (d : Int).toNat (Cn) (Cn)) : MZ l yX12_adds_ wp_M_adds4 ({ frames := 2, cells := 0, slots := 0, locals := 49 }) D (tysA K) [.ref h, .int (iI d), .int (iI x2), .int (iI x3), .int (iI x4)] (fd dom σ0) zb zL zx zs (Qv D (fun σ' => GM K h q σ' ∧ Fr τ [(180, 0), (161, 0), (167, 0), (157, 0)] σ0 σ' ∧ (At σ' (q 57) (d : Int).toNat (Cn + 1) (Cn + 1))) (fun σ' => fd dom σ')) 0 0 := by
  refine mz_of (cc := cX12_adds_) (maxL := 5) (ret := none) (by decide +kernel) rfl (Nat.le_of_ble_eq_true rfl) ?_
  intro p e s m below meth c A B hr hlk _ hz
  exact b_M_adds4 ⟨Nat.le_refl _, Nat.le_refl _⟩ B Z hz h q Y d x2 x3 x4 Cn r_d r_x2 r_x3 r_x4 r_Cn σ0 G0 hC (fun σ' lv pc G F hP hd => v_vret B hr hlk σ' ⟨G, F, hP⟩ rfl (Nat.le_refl _) (Nat.le_refl _) hd)

def wp_M_nonce : List Cond := .code yX12_nonce cX12_nonce 7 none :: (([.fieldLink RX12 251 "LowEnergyModel" "block" "[B", .methodLink RX12 432 yX12_number, .static yX12_number, .initialized RX12, .code yX12_number cX12_number 6 none, .fieldLink RX12 212 "LowEnergyModel" "iv" "[B", .methodLink RX12 29 yX12_copy, .static yX12_copy, .code yX12_copy cX12_copy 6 none] : List Cond) ++ (wsX120 ++ ([])))
theorem hi_M_nonce_X12 : ∀ x ∈ u_ws RX12 TX12 123, x ∈ wp_M_nonce := fun _ h => List.mem_cons_of_mem _ (List.mem_append_right _ (List.mem_append_left _ h))
set_option maxRecDepth 100000 in
theorem gd_M_nonce_M_numberP_432 : GoodIn wp_M_nonce (va_wsS RX12 432 yX12_number wp_M_numberP) := goodIn_app (goodIn_r _ [2, 3, 4] rfl rfl) (goodIn_ca (goodIn_r _ [5] rfl rfl) (goodIn_nil))
set_option maxRecDepth 100000 in
theorem gd_M_nonce_M_copy_29 : GoodIn wp_M_nonce (va_wsS RX12 29 yX12_copy wp_M_copy) := goodIn_app (goodIn_r _ [7, 8, 4] rfl rfl) (goodIn_ca (goodIn_r _ [9] rfl rfl) (goodIn_nil))
set_option maxHeartbeats 4000000 in
set_option maxRecDepth 100000 in
theorem b_M_nonce {p : Program} {l : Launch} {e : Env} {R : Room} {s : State} {m : MethodId} {args : Array Value} {below : List Frame} {meth : Method} {c : Code} {D : va_G} {K : Nat → ClassId} {A : Nat → Prop} {Q : State → Prop} {τ : Nat → Option Ty} {dom : List Nat} {zb zL : Nat} {zx : Nat → Int32} {zs : Nat → Nat} (hR : 1 ≤ R.frames ∧ 25 ≤ R.locals) (B : Bx p s m args c cX12_nonce 7 RX12 wp_M_nonce D (tysA K) A) (Z : Sk τ dom) (hz : ZL zb zL zx zs A s s.heap) (h : Nat) (q : Nat → Nat) (Y : MS τ h q) (d : Int) (x2 : Int) (y3 : Int) (x5 : Int) (x6 : Int) (r_d : 0 ≤ d ∧ d ≤ 1) (r_x2 : -2147483648 ≤ x2 ∧ x2 ≤ 2147483647) (r_y3 : InL y3) (r_x5 : -2147483648 ≤ x5 ∧ x5 ≤ 2147483647) (r_x6 : -2147483648 ≤ x6 ∧ x6 ≤ 2147483647) (σ0 : Nat → va_E) (G0 : GM K h q σ0) (hend : ∀ (σ' : Nat → va_E) (lv : List (Nat × Value)) (pc : Nat), GM K h q σ' → Fr τ [(177, 0)] σ0 σ' → decode cX12_nonce pc = .ok (.return_, 1) → V p l e R s m args below meth c 7 D A Q (0, 0) (fd dom σ') lv pc []) : V p l e R s m args below meth c 7 D A Q (0, 0) (fd dom σ0) [(0, .ref h), (1, .int (iI d)), (2, .int (iI x2)), (3, .long (lI y3)), (5, .int (iI x5)), (6, .int (iI x6))] 0 [] := by
  have F0 : Fr τ [(177, 0)] σ0 σ0 := Fr.rf
  obtain ⟨z1, z2, z3, z4, z5, h6, r7, r8, r9, r10, r11⟩ := G0.t.o
  refine v_aload_n B dX12_nonce_0 rfl rfl ?_
  refine u_get B Z (C := RX12) (T := TX12) (N := 123) (ci := 12) hi_M_nonce_X12 Y.o h6 rfl 77 (by decide +kernel) (List.mem_of_getElem? (i := 1) rfl) rfl dX12_nonce_1 ?_
  refine v_iconst B (v := iI 0) dX12_nonce_4 rfl ?_
  refine v_iload_n B dX12_nonce_5 rfl rfl ?_
  obtain ⟨z12, e13, r14⟩ := iI_i8 x2
  refine v_i2b B (v := iI z12) dX12_nonce_6 e13 ?_
  obtain ⟨f15, h16, e17⟩ := ga_77 G0.t
  refine u_bast B Z (t0 := 2) (x := iI z12) (y := iI z12) (ym_77 Y) h16 rfl (by omega) (nar8 (by omega)) dX12_nonce_7 (fun σ18 h19 n20 => ?_)
  have F21 := F0.put (ym_77 Y) (by simp) n20
  have G22 := gp_77 Y G0 ⟨_, h19, el_upd (z := z12) e17 ⟨by omega, by omega⟩ _⟩ n20
  refine v_aload_n B dX12_nonce_8 rfl rfl ?_
  have h23 := (n20 h (ne_ty Y.o (ym_77 Y) (by decide))).trans (h6)
  refine u_get B Z (C := RX12) (T := TX12) (N := 123) (ci := 12) hi_M_nonce_X12 Y.o h23 rfl 77 (by decide +kernel) (List.mem_of_getElem? (i := 1) rfl) rfl dX12_nonce_9 ?_
  refine v_iconst B (v := iI 1) dX12_nonce_12 rfl ?_
  refine v_lload_n B dX12_nonce_13 rfl rfl ?_
  refine v_iconst B (v := iI 5) dX12_nonce_14 rfl ?_
  refine u_callSv B Z hz (n := 4) (As := [.ref (q 77), .int (iI 1), .long (lI y3), .int (iI 5)]) (rest := []) (c_M_numberP l D K Z _ _ _ _ h q Y 77 16 1 y3 5 rfl ⟨by omega, by omega⟩ ⟨by omega, by omega⟩ ⟨by omega, by omega⟩ σ18 G22 (by omega)) gd_M_nonce_M_numberP_432 rfl rfl rfl (by decide +kernel) ⟨Nat.le_trans (by decide +kernel) hR.1, Nat.le_trans (by decide +kernel) hR.2⟩ rfl rfl (Nat.le_of_ble_eq_true rfl) dX12_nonce_15 ⟨Nat.zero_le _, Nat.zero_le _⟩ (fun σ24 p25 => ?_)
  obtain ⟨G27, F28⟩ := p25
  have F29 := F21.call F28 (by first | rfl | simp)
  refine v_aload_n B dX12_nonce_18 rfl rfl ?_
  have h30 := (F28 h _ Y.o (by first | rfl | simp)).trans (h23)
  refine u_get B Z (C := RX12) (T := TX12) (N := 123) (ci := 12) hi_M_nonce_X12 Y.o h30 rfl 77 (by decide +kernel) (List.mem_of_getElem? (i := 1) rfl) rfl dX12_nonce_19 ?_
  refine v_iconst B (v := iI 5) dX12_nonce_22 rfl ?_
  refine v_dup2 B dX12_nonce_23 rfl rfl ?_
  obtain ⟨f31, h32, e33⟩ := ga_77 G27.t
  obtain ⟨z34, e35, r36⟩ := e33 (5 : Int).toNat
  refine u_bald B Z (t0 := 2) (ym_77 Y) h32 rfl (by omega) e35 dX12_nonce_24 ?_
  refine v_iload B dX12_nonce_25 rfl ?_
  refine v_bipush B (v := iI 7) dX12_nonce_27 (by decide +kernel) ?_
  obtain ⟨z37, e38, r39⟩ := iI_any (iI x5 <<< (iI 7 &&& 31))
  refine v_ishl B (v := iI z37) dX12_nonce_29 e38 ?_
  obtain ⟨z40, e41, r42⟩ := iI_i8 z37
  refine v_i2b B (v := iI z40) dX12_nonce_30 e41 ?_
  obtain ⟨z43, e44, r45⟩ := iI_any (iI z34 ^^^ iI z40)
  refine v_ixor B (v := iI z43) dX12_nonce_31 e44 ?_
  obtain ⟨z46, e47, r48⟩ := iI_i8 z43
  refine v_i2b B (v := iI z46) dX12_nonce_32 e47 ?_
  refine u_bast B Z (t0 := 2) (x := iI z46) (y := iI z46) (ym_77 Y) h32 rfl (by omega) (nar8 (by omega)) dX12_nonce_33 (fun σ49 h50 n51 => ?_)
  have F52 := F29.put (ym_77 Y) (by simp) n51
  have G53 := gp_77 Y G27 ⟨_, h50, el_upd (z := z46) e33 ⟨by omega, by omega⟩ _⟩ n51
  refine v_aload_n B dX12_nonce_34 rfl rfl ?_
  have h54 := (n51 h (ne_ty Y.o (ym_77 Y) (by decide))).trans (h30)
  refine u_get B Z (C := RX12) (T := TX12) (N := 123) (ci := 12) hi_M_nonce_X12 Y.o h54 rfl 64 (by decide +kernel) (List.mem_of_getElem? (i := 6) rfl) rfl dX12_nonce_35 ?_
  refine v_bipush B (v := iI 8) dX12_nonce_38 (by decide +kernel) ?_
  refine v_iload_n B dX12_nonce_40 rfl rfl ?_
  refine v_imul B (v := iI (8 * d)) dX12_nonce_41 ((iI_mul _ _).trans (congrArg iI (by omega))) ?_
  refine v_aload_n B dX12_nonce_42 rfl rfl ?_
  refine u_get B Z (C := RX12) (T := TX12) (N := 123) (ci := 12) hi_M_nonce_X12 Y.o h54 rfl 77 (by decide +kernel) (List.mem_of_getElem? (i := 1) rfl) rfl dX12_nonce_43 ?_
  refine v_bipush B (v := iI 6) dX12_nonce_46 (by decide +kernel) ?_
  refine v_bipush B (v := iI 8) dX12_nonce_48 (by decide +kernel) ?_
  refine u_callSv B Z hz (n := 5) (As := [.ref (q 64), .int (iI (8 * d)), .ref (q 77), .int (iI 6), .int (iI 8)]) (rest := []) (c_M_copy l D K Z _ _ _ _ h q Y 64 16 (8 * d) 77 16 6 8 rfl ⟨by omega, by omega⟩ rfl ⟨by omega, by omega⟩ ⟨by omega, by omega⟩ σ49 G53 (by omega)) gd_M_nonce_M_copy_29 rfl rfl rfl (by decide +kernel) ⟨Nat.le_trans (by decide +kernel) hR.1, Nat.le_trans (by decide +kernel) hR.2⟩ rfl rfl (Nat.le_of_ble_eq_true rfl) dX12_nonce_50 ⟨Nat.zero_le _, Nat.zero_le _⟩ (fun σ55 p56 => ?_)
  obtain ⟨G58, F59⟩ := p56
  have F60 := F52.call F59 (by first | rfl | simp)
  refine v_aload_n B dX12_nonce_53 rfl rfl ?_
  have h61 := (F59 h _ Y.o (by first | rfl | simp)).trans (h54)
  refine u_get B Z (C := RX12) (T := TX12) (N := 123) (ci := 12) hi_M_nonce_X12 Y.o h61 rfl 77 (by decide +kernel) (List.mem_of_getElem? (i := 1) rfl) rfl dX12_nonce_54 ?_
  refine v_bipush B (v := iI 14) dX12_nonce_57 (by decide +kernel) ?_
  refine v_iconst B (v := iI 0) dX12_nonce_59 rfl ?_
  obtain ⟨f62, h63, e64⟩ := ga_77 G58.t
  refine u_bast B Z (t0 := 2) (x := iI 0) (y := iI 0) (ym_77 Y) h63 rfl (by omega) (nar8 (by omega)) dX12_nonce_60 (fun σ65 h66 n67 => ?_)
  have F68 := F60.put (ym_77 Y) (by simp) n67
  have G69 := gp_77 Y G58 ⟨_, h66, el_upd (z := 0) e64 ⟨by omega, by omega⟩ _⟩ n67
  refine v_aload_n B dX12_nonce_61 rfl rfl ?_
  have h70 := (n67 h (ne_ty Y.o (ym_77 Y) (by decide))).trans (h61)
  refine u_get B Z (C := RX12) (T := TX12) (N := 123) (ci := 12) hi_M_nonce_X12 Y.o h70 rfl 77 (by decide +kernel) (List.mem_of_getElem? (i := 1) rfl) rfl dX12_nonce_62 ?_
  refine v_bipush B (v := iI 15) dX12_nonce_65 (by decide +kernel) ?_
  refine v_iload B dX12_nonce_67 rfl ?_
  obtain ⟨z71, e72, r73⟩ := iI_i8 x6
  refine v_i2b B (v := iI z71) dX12_nonce_69 e72 ?_
  obtain ⟨f74, h75, e76⟩ := ga_77 G69.t
  refine u_bast B Z (t0 := 2) (x := iI z71) (y := iI z71) (ym_77 Y) h75 rfl (by omega) (nar8 (by omega)) dX12_nonce_70 (fun σ77 h78 n79 => ?_)
  have F80 := F68.put (ym_77 Y) (by simp) n79
  have G81 := gp_77 Y G69 ⟨_, h78, el_upd (z := z71) e76 ⟨by omega, by omega⟩ _⟩ n79
  exact hend σ77 _ _ G81 F80 dX12_nonce_71
set_option maxRecDepth 100000 in
theorem c_M_nonce (l : Launch) (D : va_G) (K : Nat → ClassId) {τ : Nat → Option Ty} {dom : List Nat} (Z : Sk τ dom) (zb zL : Nat) (zx : Nat → Int32) (zs : Nat → Nat) (h : Nat) (q : Nat → Nat) (Y : MS τ h q) (d : Int) (x2 : Int) (y3 : Int) (x5 : Int) (x6 : Int) (r_d : 0 ≤ d ∧ d ≤ 1) (r_x2 : -2147483648 ≤ x2 ∧ x2 ≤ 2147483647) (r_y3 : InL y3) (r_x5 : -2147483648 ≤ x5 ∧ x5 ≤ 2147483647) (r_x6 : -2147483648 ≤ x6 ∧ x6 ≤ 2147483647) (σ0 : Nat → va_E) (G0 : GM K h q σ0) : MZ l yX12_nonce wp_M_nonce ({ frames := 1, cells := 0, slots := 0, locals := 25 }) D (tysA K) [.ref h, .int (iI d), .int (iI x2), .long (lI y3), .int (iI x5), .int (iI x6)] (fd dom σ0) zb zL zx zs (Qv D (fun σ' => GM K h q σ' ∧ Fr τ [(177, 0)] σ0 σ') (fun σ' => fd dom σ')) 0 0 := by
  refine mz_of (cc := cX12_nonce) (maxL := 7) (ret := none) (by decide +kernel) rfl (Nat.le_of_ble_eq_true rfl) ?_
  intro p e s m below meth c A B hr hlk _ hz
  exact b_M_nonce ⟨Nat.le_refl _, Nat.le_refl _⟩ B Z hz h q Y d x2 y3 x5 x6 r_d r_x2 r_y3 r_x5 r_x6 σ0 G0 (fun σ' lv pc G F hd => v_vret B hr hlk σ' ⟨G, F⟩ rfl (Nat.le_refl _) (Nat.le_refl _) hd)

def wp_M_turnsC : List Cond := .code yX12_turns cX12_turns 9 none :: (([.fieldLink RX12 257 "LowEnergyModel" "stream" "[B", .methodLink RX12 440 yX12_nonce, .instanceMethod yX12_nonce, .selects RX12 yX12_nonce yX12_nonce, .initialized RX12, .code yX12_nonce cX12_nonce 7 none, .fieldLink RX12 251 "LowEnergyModel" "block" "[B", .methodLink RX12 432 yX12_number, .static yX12_number, .code yX12_number cX12_number 6 none, .fieldLink RX12 212 "LowEnergyModel" "iv" "[B", .methodLink RX12 29 yX12_copy, .static yX12_copy, .code yX12_copy cX12_copy 6 none, .fieldLink RX12 209 "LowEnergyModel" "session" "[B", .methodLink RX12 444 yX12_e, .instanceMethod yX12_e, .selects RX12 yX12_e yX12_e, .code yX12_e cX12_e 13 none, .fieldLink RX12 33 "LowEnergyModel" "cells" "[B", .fieldLink RX12 26 "LowEnergyModel" "round" "[B", .fieldLink RX12 36 "LowEnergyModel" "moved" "[B", .methodLink RX12 14 yX12_twice, .static yX12_twice, .code yX12_twice cX12_twice 1 (some .int), .fieldLink RX12 22 "LowEnergyModel" "box" "[I"] : List Cond) ++ (wsX120 ++ ([])))
theorem hi_M_turnsC_X12 : ∀ x ∈ u_ws RX12 TX12 123, x ∈ wp_M_turnsC := fun _ h => List.mem_cons_of_mem _ (List.mem_append_right _ (List.mem_append_left _ h))
set_option maxRecDepth 100000 in
theorem gd_M_turnsC_M_nonce_440 : GoodIn wp_M_turnsC (wsV RX12 440 RX12 yX12_nonce wp_M_nonce) := goodIn_app (goodIn_r _ [2, 3, 4, 5] rfl rfl) (goodIn_ca (goodIn_r _ [6, 7, 8, 9, 5, 10, 11, 12, 13, 14] rfl rfl) (goodIn_app (goodIn_cls hi_M_turnsC_X12 gw_X12) (goodIn_nil)))
set_option maxRecDepth 100000 in
theorem gd_M_turnsC_M_e_444 : GoodIn wp_M_turnsC (wsV RX12 444 RX12 yX12_e wp_M_e) := goodIn_app (goodIn_r _ [16, 17, 18, 5] rfl rfl) (goodIn_ca (goodIn_r _ [19, 20, 21, 22, 23, 24, 5, 25, 26, 12, 13, 14] rfl rfl) (goodIn_app (goodIn_cls hi_M_turnsC_X12 gw_X12) (goodIn_nil)))
set_option maxHeartbeats 4000000 in
set_option maxRecDepth 100000 in
theorem b_M_turnsC {p : Program} {l : Launch} {e : Env} {R : Room} {s : State} {m : MethodId} {args : Array Value} {below : List Frame} {meth : Method} {c : Code} {D : va_G} {K : Nat → ClassId} {A : Nat → Prop} {Q : State → Prop} {τ : Nat → Option Ty} {dom : List Nat} {zb zL : Nat} {zx : Nat → Int32} {zs : Nat → Nat} (hR : 2 ≤ R.frames ∧ 57 ≤ R.locals) (B : Bx p s m args c cX12_turns 9 RX12 wp_M_turnsC D (tysA K) A) (Z : Sk τ dom) (hz : ZL zb zL zx zs A s s.heap) (h : Nat) (q : Nat → Nat) (Y : MS τ h q) (d : Int) (x3 : Int) (x4 : Int) (y5 : Int) (x7 : Int) (r_d : 0 ≤ d ∧ d ≤ 1) (r_x3 : 0 ≤ x3 ∧ x3 ≤ 40) (r_x4 : 0 ≤ x4 ∧ x4 ≤ 31) (r_y5 : InL y5) (r_x7 : -2147483648 ≤ x7 ∧ x7 ≤ 2147483647) (σ0 : Nat → va_E) (G0 : GM K h q σ0) (hc : x3 + x4 ≤ 80) (hend : ∀ (σ' : Nat → va_E) (lv : List (Nat × Value)) (pc : Nat), GM K h q σ' → Fr τ [(177, 0), (104, 0), (105, 0), (106, 0), (179, 0), (160, 0)] σ0 σ' → decode cX12_turns pc = .ok (.return_, 1) → V p l e R s m args below meth c 9 D A Q (0, 0) (fd dom σ') lv pc []) : V p l e R s m args below meth c 9 D A Q (0, 0) (fd dom σ0) [(0, .ref h), (1, .int (iI d)), (2, .ref (q 60)), (3, .int (iI x3)), (4, .int (iI x4)), (5, .long (lI y5)), (7, .int (iI x7))] 0 [] := by
  have F0 : Fr τ [(177, 0), (104, 0), (105, 0), (106, 0), (179, 0), (160, 0)] σ0 σ0 := Fr.rf
  obtain ⟨z1, z2, z3, z4, z5, h6, r7, r8, r9, r10, r11⟩ := G0.t.o
  have J3 : ∀ (k3 : Nat) (σ_3 : Nat → va_E) (z3_8 : Int), (2147483648 - z3_8).toNat ≤ k3 → GM K h q σ_3 → Fr τ [(177, 0), (104, 0), (105, 0), (106, 0), (179, 0), (160, 0)] σ0 σ_3 → (σ_3 h = .inr (12, fsM q (iI z1) (iI z2) (iI z3) (iI z4) (iI z5))) → (0 ≤ z3_8 ∧ z3_8 ≤ 31) → V p l e R s m args below meth c 9 D A Q (0, 0) (fd dom σ_3) [(0, .ref h), (1, .int (iI d)), (2, .ref (q 60)), (3, .int (iI x3)), (4, .int (iI x4)), (5, .long (lI y5)), (7, .int (iI x7)), (8, .int (iI z3_8))] 3 [] := by
    intro k3
    induction k3 with
    | zero => intro σ_3 z3_8 m3 G_3 F_3 hc3_h r3_8; omega
    | succ k3 IH3 =>
      intro σ_3 z3_8 m3 G_3 F_3 hc3_h r3_8
      have J57 : ∀ (σ_57 : Nat → va_E), GM K h q σ_57 → Fr τ [(177, 0), (104, 0), (105, 0), (106, 0), (179, 0), (160, 0)] σ0 σ_57 → (σ_57 h = .inr (12, fsM q (iI z1) (iI z2) (iI z3) (iI z4) (iI z5))) → (1 ≤ x4 ∧ x4 ≤ 31) → (0 ≤ z3_8 ∧ z3_8 ≤ 30) → (z3_8 < x4) → V p l e R s m args below meth c 9 D A Q (0, 0) (fd dom σ_57) [(0, .ref h), (1, .int (iI d)), (2, .ref (q 60)), (3, .int (iI x3)), (4, .int (iI x4)), (5, .long (lI y5)), (7, .int (iI x7)), (8, .int (iI z3_8))] 57 [] := by
        intro σ_57 G_57 F_57 hc57_h rv57_x4 rv57_z3_8 i57
        refine v_aload_n B dX12_turns_57 rfl rfl ?_
        refine v_iload_n B dX12_turns_58 rfl rfl ?_
        refine v_iload B dX12_turns_59 rfl ?_
        refine v_iadd B (v := iI (x3 + z3_8)) dX12_turns_61 ((iI_add _ _).trans (congrArg iI (by omega))) ?_
        refine v_dup2 B dX12_turns_62 rfl rfl ?_
        obtain ⟨f12, h13, e14⟩ := ga_60 G_57.t
        obtain ⟨z15, e16, r17⟩ := e14 ((x3 + z3_8) : Int).toNat
        refine u_bald B Z (t0 := 2) (ym_60 Y) h13 rfl (by omega) e16 dX12_turns_63 ?_
        refine v_aload_n B dX12_turns_64 rfl rfl ?_
        refine u_get B Z (C := RX12) (T := TX12) (N := 123) (ci := 12) hi_M_turnsC_X12 Y.o hc57_h rfl 79 (by decide +kernel) (List.mem_of_getElem? (i := 1) rfl) rfl dX12_turns_65 ?_
        refine v_iload B dX12_turns_68 rfl ?_
        refine v_bipush B (v := iI 16) dX12_turns_70 (by decide +kernel) ?_
        obtain ⟨z18, e19⟩ : ∃ z : Int, z = z3_8 % 16 := ⟨_, rfl⟩
        refine v_irem B (v := iI z18) dX12_turns_72 (fun q => absurd ((iI_eq (a := 16) (b := 0) (by omega) (by omega)).mp q) (by omega)) ((iI_rem (a := z3_8) (b := 16) (by omega) (by omega)).trans (congrArg iI e19.symm)) ?_
        obtain ⟨f20, h21, e22⟩ := ga_79 G_57.t
        obtain ⟨z23, e24, r25⟩ := e22 (z18 : Int).toNat
        refine u_bald B Z (t0 := 2) (ym_79 Y) h21 rfl (by omega) e24 dX12_turns_73 ?_
        obtain ⟨z26, e27, r28⟩ := iI_any (iI z15 ^^^ iI z23)
        refine v_ixor B (v := iI z26) dX12_turns_74 e27 ?_
        obtain ⟨z29, e30, r31⟩ := iI_i8 z26
        refine v_i2b B (v := iI z29) dX12_turns_75 e30 ?_
        refine u_bast B Z (t0 := 2) (x := iI z29) (y := iI z29) (ym_60 Y) h13 rfl (by omega) (nar8 (by omega)) dX12_turns_76 (fun σ32 h33 n34 => ?_)
        have F35 := F_57.put (ym_60 Y) (by simp) n34
        have G36 := gp_60 Y G_57 ⟨_, h33, el_upd (z := z29) e14 ⟨by omega, by omega⟩ _⟩ n34
        refine v_iinc B (k := 7) (v := iI (z3_8 + 1)) (lv' := [(8, .int (iI (z3_8 + 1))), (0, .ref h), (1, .int (iI d)), (2, .ref (q 60)), (3, .int (iI x3)), (4, .int (iI x4)), (5, .long (lI y5)), (7, .int (iI x7))]) dX12_turns_77 rfl ((iI_add _ _).trans (congrArg iI (by omega))) (by decide +kernel) rfl ?_
        refine v_goto B (tgt := 3) dX12_turns_80 (by decide +kernel) ?_
        refine v_lv [1, 2, 3, 4, 5, 6, 7, 0] rfl ?_
        have h37 := (n34 h (ne_ty Y.o (ym_60 Y) (by decide))).trans (hc57_h)
        exact IH3 σ32 (z3_8 + 1) (by omega) G36 F35 h37 ⟨by omega, by omega⟩
      refine v_iload B dX12_turns_3 rfl ?_
      refine v_iload B dX12_turns_5 rfl ?_
      refine u_icmp_ge B (tgt := 83) (by omega) (by omega) dX12_turns_7 (by decide +kernel) (fun c38 => ?_) (fun c38 => ?_)
      · exact hend σ_3 _ _ G_3 F_3 dX12_turns_83
      · refine v_iload B dX12_turns_10 rfl ?_
        refine v_bipush B (v := iI 16) dX12_turns_12 (by decide +kernel) ?_
        obtain ⟨z39, e40⟩ : ∃ z : Int, z = z3_8 % 16 := ⟨_, rfl⟩
        refine v_irem B (v := iI z39) dX12_turns_14 (fun q => absurd ((iI_eq (a := 16) (b := 0) (by omega) (by omega)).mp q) (by omega)) ((iI_rem (a := z3_8) (b := 16) (by omega) (by omega)).trans (congrArg iI e40.symm)) ?_
        refine u_if_ne B (tgt := 57) (by omega) dX12_turns_15 (by decide +kernel) (fun c41 => ?_) (fun c41 => ?_)
        · exact J57 σ_3 G_3 F_3 hc3_h ⟨by omega, by omega⟩ ⟨by omega, by omega⟩ (by omega)
        · refine v_aload_n B dX12_turns_18 rfl rfl ?_
          refine v_iload_n B dX12_turns_19 rfl rfl ?_
          refine v_iconst B (v := iI 1) dX12_turns_20 rfl ?_
          refine v_lload B dX12_turns_21 rfl ?_
          refine v_iload B dX12_turns_23 rfl ?_
          refine v_iconst B (v := iI 1) dX12_turns_25 rfl ?_
          refine v_iload B dX12_turns_26 rfl ?_
          refine v_bipush B (v := iI 16) dX12_turns_28 (by decide +kernel) ?_
          obtain ⟨z42, e43⟩ : ∃ z : Int, z = z3_8 / 16 := ⟨_, rfl⟩
          refine v_idiv B (v := iI z42) dX12_turns_30 (fun q => absurd ((iI_eq (a := 16) (b := 0) (by omega) (by omega)).mp q) (by omega)) ((iI_ediv (a := z3_8) (b := 16) (by omega) (by omega)).trans (congrArg iI e43.symm)) ?_
          refine v_iadd B (v := iI (z42 + 1)) dX12_turns_31 ((iI_add _ _).trans (congrArg iI (by omega))) ?_
          refine u_callVv B Z hz (n := 5) (As := [.int (iI d), .int (iI 1), .long (lI y5), .int (iI x7), .int (iI (z42 + 1))]) (rest := []) (c_M_nonce l D K Z _ _ _ _ h q Y d 1 y5 x7 (z42 + 1) ⟨by omega, by omega⟩ ⟨by omega, by omega⟩ ⟨by omega, by omega⟩ ⟨by omega, by omega⟩ ⟨by omega, by omega⟩ σ_3 G_3) gd_M_turnsC_M_nonce_440 rfl rfl rfl (by decide +kernel) ⟨Nat.le_trans (by decide +kernel) hR.1, Nat.le_trans (by decide +kernel) hR.2⟩ Y.o (clsM G_3.t) rfl rfl rfl rfl (Nat.le_of_ble_eq_true rfl) dX12_turns_32 ⟨Nat.zero_le _, Nat.zero_le _⟩ (fun σ44 p45 => ?_)
          obtain ⟨G47, F48⟩ := p45
          have F49 := F_3.call F48 (by first | rfl | simp)
          refine v_aload_n B dX12_turns_35 rfl rfl ?_
          refine v_aload_n B dX12_turns_36 rfl rfl ?_
          have h50 := (F48 h _ Y.o (by first | rfl | simp)).trans (hc3_h)
          refine u_get B Z (C := RX12) (T := TX12) (N := 123) (ci := 12) hi_M_turnsC_X12 Y.o h50 rfl 63 (by decide +kernel) (List.mem_of_getElem? (i := 15) rfl) rfl dX12_turns_37 ?_
          refine v_bipush B (v := iI 16) dX12_turns_40 (by decide +kernel) ?_
          refine v_iload_n B dX12_turns_42 rfl rfl ?_
          refine v_imul B (v := iI (16 * d)) dX12_turns_43 ((iI_mul _ _).trans (congrArg iI (by omega))) ?_
          refine v_aload_n B dX12_turns_44 rfl rfl ?_
          refine u_get B Z (C := RX12) (T := TX12) (N := 123) (ci := 12) hi_M_turnsC_X12 Y.o h50 rfl 77 (by decide +kernel) (List.mem_of_getElem? (i := 7) rfl) rfl dX12_turns_45 ?_
          refine v_iconst B (v := iI 0) dX12_turns_48 rfl ?_
          refine v_aload_n B dX12_turns_49 rfl rfl ?_
          refine u_get B Z (C := RX12) (T := TX12) (N := 123) (ci := 12) hi_M_turnsC_X12 Y.o h50 rfl 79 (by decide +kernel) (List.mem_of_getElem? (i := 1) rfl) rfl dX12_turns_50 ?_
          refine v_iconst B (v := iI 0) dX12_turns_53 rfl ?_
          refine u_callVv B Z hz (n := 6) (As := [.ref (q 63), .int (iI (16 * d)), .ref (q 77), .int (iI 0), .ref (q 79), .int (iI 0)]) (rest := []) (c_M_e l D K Z _ _ _ _ h q Y 63 32 (16 * d) 77 16 0 79 16 0 rfl ⟨by omega, by omega⟩ rfl ⟨by omega, by omega⟩ rfl ⟨by omega, by omega⟩ σ44 G47 (by omega)) gd_M_turnsC_M_e_444 rfl rfl rfl (by decide +kernel) ⟨Nat.le_trans (by decide +kernel) hR.1, Nat.le_trans (by decide +kernel) hR.2⟩ Y.o (clsM G47.t) rfl rfl rfl rfl (Nat.le_of_ble_eq_true rfl) dX12_turns_54 ⟨Nat.zero_le _, Nat.zero_le _⟩ (fun σ51 p52 => ?_)
          obtain ⟨G54, F55⟩ := p52
          have F56 := F49.call F55 (by first | rfl | simp)
          have h57 := (F55 h _ Y.o (by first | rfl | simp)).trans (h50)
          exact J57 σ51 G54 F56 h57 ⟨by omega, by omega⟩ ⟨by omega, by omega⟩ (by omega)
  refine v_iconst B (v := iI 0) dX12_turns_0 rfl ?_
  refine v_istore B (lv' := [(8, .int (iI 0)), (0, .ref h), (1, .int (iI d)), (2, .ref (q 60)), (3, .int (iI x3)), (4, .int (iI x4)), (5, .long (lI y5)), (7, .int (iI x7))]) dX12_turns_1 (by decide +kernel) rfl ?_
  refine v_lv [1, 2, 3, 4, 5, 6, 7, 0] rfl ?_
  exact J3 _ σ0 0 (Nat.le_refl _) G0 F0 h6 ⟨by omega, by omega⟩
set_option maxRecDepth 100000 in
theorem c_M_turnsC (l : Launch) (D : va_G) (K : Nat → ClassId) {τ : Nat → Option Ty} {dom : List Nat} (Z : Sk τ dom) (zb zL : Nat) (zx : Nat → Int32) (zs : Nat → Nat) (h : Nat) (q : Nat → Nat) (Y : MS τ h q) (d : Int) (x3 : Int) (x4 : Int) (y5 : Int) (x7 : Int) (r_d : 0 ≤ d ∧ d ≤ 1) (r_x3 : 0 ≤ x3 ∧ x3 ≤ 40) (r_x4 : 0 ≤ x4 ∧ x4 ≤ 31) (r_y5 : InL y5) (r_x7 : -2147483648 ≤ x7 ∧ x7 ≤ 2147483647) (σ0 : Nat → va_E) (G0 : GM K h q σ0) (hc : x3 + x4 ≤ 80) : MZ l yX12_turns wp_M_turnsC ({ frames := 2, cells := 0, slots := 0, locals := 57 }) D (tysA K) [.ref h, .int (iI d), .ref (q 60), .int (iI x3), .int (iI x4), .long (lI y5), .int (iI x7)] (fd dom σ0) zb zL zx zs (Qv D (fun σ' => GM K h q σ' ∧ Fr τ [(177, 0), (104, 0), (105, 0), (106, 0), (179, 0), (160, 0)] σ0 σ') (fun σ' => fd dom σ')) 0 0 := by
  refine mz_of (cc := cX12_turns) (maxL := 9) (ret := none) (by decide +kernel) rfl (Nat.le_of_ble_eq_true rfl) ?_
  intro p e s m below meth c A B hr hlk _ hz
  exact b_M_turnsC ⟨Nat.le_refl _, Nat.le_refl _⟩ B Z hz h q Y d x3 x4 y5 x7 r_d r_x3 r_x4 r_y5 r_x7 σ0 G0 hc (fun σ' lv pc G F hd => v_vret B hr hlk σ' ⟨G, F⟩ rfl (Nat.le_refl _) (Nat.le_refl _) hd)

def wp_M_turnsG : List Cond := .code yX12_turns cX12_turns 9 none :: (([.fieldLink RX12 257 "LowEnergyModel" "stream" "[B", .methodLink RX12 440 yX12_nonce, .instanceMethod yX12_nonce, .selects RX12 yX12_nonce yX12_nonce, .initialized RX12, .code yX12_nonce cX12_nonce 7 none, .fieldLink RX12 251 "LowEnergyModel" "block" "[B", .methodLink RX12 432 yX12_number, .static yX12_number, .code yX12_number cX12_number 6 none, .fieldLink RX12 212 "LowEnergyModel" "iv" "[B", .methodLink RX12 29 yX12_copy, .static yX12_copy, .code yX12_copy cX12_copy 6 none, .fieldLink RX12 209 "LowEnergyModel" "session" "[B", .methodLink RX12 444 yX12_e, .instanceMethod yX12_e, .selects RX12 yX12_e yX12_e, .code yX12_e cX12_e 13 none, .fieldLink RX12 33 "LowEnergyModel" "cells" "[B", .fieldLink RX12 26 "LowEnergyModel" "round" "[B", .fieldLink RX12 36 "LowEnergyModel" "moved" "[B", .methodLink RX12 14 yX12_twice, .static yX12_twice, .code yX12_twice cX12_twice 1 (some .int), .fieldLink RX12 22 "LowEnergyModel" "box" "[I"] : List Cond) ++ (wsX120 ++ ([])))
theorem hi_M_turnsG_X12 : ∀ x ∈ u_ws RX12 TX12 123, x ∈ wp_M_turnsG := fun _ h => List.mem_cons_of_mem _ (List.mem_append_right _ (List.mem_append_left _ h))
set_option maxRecDepth 100000 in
theorem gd_M_turnsG_M_nonce_440 : GoodIn wp_M_turnsG (wsV RX12 440 RX12 yX12_nonce wp_M_nonce) := goodIn_app (goodIn_r _ [2, 3, 4, 5] rfl rfl) (goodIn_ca (goodIn_r _ [6, 7, 8, 9, 5, 10, 11, 12, 13, 14] rfl rfl) (goodIn_app (goodIn_cls hi_M_turnsG_X12 gw_X12) (goodIn_nil)))
set_option maxRecDepth 100000 in
theorem gd_M_turnsG_M_e_444 : GoodIn wp_M_turnsG (wsV RX12 444 RX12 yX12_e wp_M_e) := goodIn_app (goodIn_r _ [16, 17, 18, 5] rfl rfl) (goodIn_ca (goodIn_r _ [19, 20, 21, 22, 23, 24, 5, 25, 26, 12, 13, 14] rfl rfl) (goodIn_app (goodIn_cls hi_M_turnsG_X12 gw_X12) (goodIn_nil)))
set_option maxHeartbeats 4000000 in
set_option maxRecDepth 100000 in
theorem b_M_turnsG {p : Program} {l : Launch} {e : Env} {R : Room} {s : State} {m : MethodId} {args : Array Value} {below : List Frame} {meth : Method} {c : Code} {D : va_G} {K : Nat → ClassId} {A : Nat → Prop} {Q : State → Prop} {τ : Nat → Option Ty} {dom : List Nat} {zb zL : Nat} {zx : Nat → Int32} {zs : Nat → Nat} (hR : 2 ≤ R.frames ∧ 57 ≤ R.locals) (B : Bx p s m args c cX12_turns 9 RX12 wp_M_turnsG D (tysA K) A) (Z : Sk τ dom) (hz : ZL zb zL zx zs A s s.heap) (h : Nat) (q : Nat → Nat) (Y : MS τ h q) (d : Int) (x3 : Int) (x4 : Int) (y5 : Int) (x7 : Int) (r_d : 0 ≤ d ∧ d ≤ 1) (r_x3 : 0 ≤ x3 ∧ x3 ≤ 40) (r_x4 : 0 ≤ x4 ∧ x4 ≤ 31) (r_y5 : InL y5) (r_x7 : -2147483648 ≤ x7 ∧ x7 ≤ 2147483647) (σ0 : Nat → va_E) (G0 : GM K h q σ0) (hc : x3 + x4 ≤ 40) (hend : ∀ (σ' : Nat → va_E) (lv : List (Nat × Value)) (pc : Nat), GM K h q σ' → Fr τ [(177, 0), (104, 0), (105, 0), (106, 0), (179, 0), (153, 0)] σ0 σ' → decode cX12_turns pc = .ok (.return_, 1) → V p l e R s m args below meth c 9 D A Q (0, 0) (fd dom σ') lv pc []) : V p l e R s m args below meth c 9 D A Q (0, 0) (fd dom σ0) [(0, .ref h), (1, .int (iI d)), (2, .ref (q 53)), (3, .int (iI x3)), (4, .int (iI x4)), (5, .long (lI y5)), (7, .int (iI x7))] 0 [] := by
  have F0 : Fr τ [(177, 0), (104, 0), (105, 0), (106, 0), (179, 0), (153, 0)] σ0 σ0 := Fr.rf
  obtain ⟨z1, z2, z3, z4, z5, h6, r7, r8, r9, r10, r11⟩ := G0.t.o
  have J3 : ∀ (k3 : Nat) (σ_3 : Nat → va_E) (z3_8 : Int), (2147483648 - z3_8).toNat ≤ k3 → GM K h q σ_3 → Fr τ [(177, 0), (104, 0), (105, 0), (106, 0), (179, 0), (153, 0)] σ0 σ_3 → (σ_3 h = .inr (12, fsM q (iI z1) (iI z2) (iI z3) (iI z4) (iI z5))) → (0 ≤ z3_8 ∧ z3_8 ≤ 31) → V p l e R s m args below meth c 9 D A Q (0, 0) (fd dom σ_3) [(0, .ref h), (1, .int (iI d)), (2, .ref (q 53)), (3, .int (iI x3)), (4, .int (iI x4)), (5, .long (lI y5)), (7, .int (iI x7)), (8, .int (iI z3_8))] 3 [] := by
    intro k3
    induction k3 with
    | zero => intro σ_3 z3_8 m3 G_3 F_3 hc3_h r3_8; omega
    | succ k3 IH3 =>
      intro σ_3 z3_8 m3 G_3 F_3 hc3_h r3_8
      have J57 : ∀ (σ_57 : Nat → va_E), GM K h q σ_57 → Fr τ [(177, 0), (104, 0), (105, 0), (106, 0), (179, 0), (153, 0)] σ0 σ_57 → (σ_57 h = .inr (12, fsM q (iI z1) (iI z2) (iI z3) (iI z4) (iI z5))) → (1 ≤ x4 ∧ x4 ≤ 31) → (0 ≤ z3_8 ∧ z3_8 ≤ 30) → (z3_8 < x4) → V p l e R s m args below meth c 9 D A Q (0, 0) (fd dom σ_57) [(0, .ref h), (1, .int (iI d)), (2, .ref (q 53)), (3, .int (iI x3)), (4, .int (iI x4)), (5, .long (lI y5)), (7, .int (iI x7)), (8, .int (iI z3_8))] 57 [] := by
        intro σ_57 G_57 F_57 hc57_h rv57_x4 rv57_z3_8 i57
        refine v_aload_n B dX12_turns_57 rfl rfl ?_
        refine v_iload_n B dX12_turns_58 rfl rfl ?_
        refine v_iload B dX12_turns_59 rfl ?_
        refine v_iadd B (v := iI (x3 + z3_8)) dX12_turns_61 ((iI_add _ _).trans (congrArg iI (by omega))) ?_
        refine v_dup2 B dX12_turns_62 rfl rfl ?_
        obtain ⟨f12, h13, e14⟩ := ga_53 G_57.t
        obtain ⟨z15, e16, r17⟩ := e14 ((x3 + z3_8) : Int).toNat
        refine u_bald B Z (t0 := 2) (ym_53 Y) h13 rfl (by omega) e16 dX12_turns_63 ?_
        refine v_aload_n B dX12_turns_64 rfl rfl ?_
        refine u_get B Z (C := RX12) (T := TX12) (N := 123) (ci := 12) hi_M_turnsG_X12 Y.o hc57_h rfl 79 (by decide +kernel) (List.mem_of_getElem? (i := 1) rfl) rfl dX12_turns_65 ?_
        refine v_iload B dX12_turns_68 rfl ?_
        refine v_bipush B (v := iI 16) dX12_turns_70 (by decide +kernel) ?_
        obtain ⟨z18, e19⟩ : ∃ z : Int, z = z3_8 % 16 := ⟨_, rfl⟩
        refine v_irem B (v := iI z18) dX12_turns_72 (fun q => absurd ((iI_eq (a := 16) (b := 0) (by omega) (by omega)).mp q) (by omega)) ((iI_rem (a := z3_8) (b := 16) (by omega) (by omega)).trans (congrArg iI e19.symm)) ?_
        obtain ⟨f20, h21, e22⟩ := ga_79 G_57.t
        obtain ⟨z23, e24, r25⟩ := e22 (z18 : Int).toNat
        refine u_bald B Z (t0 := 2) (ym_79 Y) h21 rfl (by omega) e24 dX12_turns_73 ?_
        obtain ⟨z26, e27, r28⟩ := iI_any (iI z15 ^^^ iI z23)
        refine v_ixor B (v := iI z26) dX12_turns_74 e27 ?_
        obtain ⟨z29, e30, r31⟩ := iI_i8 z26
        refine v_i2b B (v := iI z29) dX12_turns_75 e30 ?_
        refine u_bast B Z (t0 := 2) (x := iI z29) (y := iI z29) (ym_53 Y) h13 rfl (by omega) (nar8 (by omega)) dX12_turns_76 (fun σ32 h33 n34 => ?_)
        have F35 := F_57.put (ym_53 Y) (by simp) n34
        have G36 := gp_53 Y G_57 ⟨_, h33, el_upd (z := z29) e14 ⟨by omega, by omega⟩ _⟩ n34
        refine v_iinc B (k := 7) (v := iI (z3_8 + 1)) (lv' := [(8, .int (iI (z3_8 + 1))), (0, .ref h), (1, .int (iI d)), (2, .ref (q 53)), (3, .int (iI x3)), (4, .int (iI x4)), (5, .long (lI y5)), (7, .int (iI x7))]) dX12_turns_77 rfl ((iI_add _ _).trans (congrArg iI (by omega))) (by decide +kernel) rfl ?_
        refine v_goto B (tgt := 3) dX12_turns_80 (by decide +kernel) ?_
        refine v_lv [1, 2, 3, 4, 5, 6, 7, 0] rfl ?_
        have h37 := (n34 h (ne_ty Y.o (ym_53 Y) (by decide))).trans (hc57_h)
        exact IH3 σ32 (z3_8 + 1) (by omega) G36 F35 h37 ⟨by omega, by omega⟩
      refine v_iload B dX12_turns_3 rfl ?_
      refine v_iload B dX12_turns_5 rfl ?_
      refine u_icmp_ge B (tgt := 83) (by omega) (by omega) dX12_turns_7 (by decide +kernel) (fun c38 => ?_) (fun c38 => ?_)
      · exact hend σ_3 _ _ G_3 F_3 dX12_turns_83
      · refine v_iload B dX12_turns_10 rfl ?_
        refine v_bipush B (v := iI 16) dX12_turns_12 (by decide +kernel) ?_
        obtain ⟨z39, e40⟩ : ∃ z : Int, z = z3_8 % 16 := ⟨_, rfl⟩
        refine v_irem B (v := iI z39) dX12_turns_14 (fun q => absurd ((iI_eq (a := 16) (b := 0) (by omega) (by omega)).mp q) (by omega)) ((iI_rem (a := z3_8) (b := 16) (by omega) (by omega)).trans (congrArg iI e40.symm)) ?_
        refine u_if_ne B (tgt := 57) (by omega) dX12_turns_15 (by decide +kernel) (fun c41 => ?_) (fun c41 => ?_)
        · exact J57 σ_3 G_3 F_3 hc3_h ⟨by omega, by omega⟩ ⟨by omega, by omega⟩ (by omega)
        · refine v_aload_n B dX12_turns_18 rfl rfl ?_
          refine v_iload_n B dX12_turns_19 rfl rfl ?_
          refine v_iconst B (v := iI 1) dX12_turns_20 rfl ?_
          refine v_lload B dX12_turns_21 rfl ?_
          refine v_iload B dX12_turns_23 rfl ?_
          refine v_iconst B (v := iI 1) dX12_turns_25 rfl ?_
          refine v_iload B dX12_turns_26 rfl ?_
          refine v_bipush B (v := iI 16) dX12_turns_28 (by decide +kernel) ?_
          obtain ⟨z42, e43⟩ : ∃ z : Int, z = z3_8 / 16 := ⟨_, rfl⟩
          refine v_idiv B (v := iI z42) dX12_turns_30 (fun q => absurd ((iI_eq (a := 16) (b := 0) (by omega) (by omega)).mp q) (by omega)) ((iI_ediv (a := z3_8) (b := 16) (by omega) (by omega)).trans (congrArg iI e43.symm)) ?_
          refine v_iadd B (v := iI (z42 + 1)) dX12_turns_31 ((iI_add _ _).trans (congrArg iI (by omega))) ?_
          refine u_callVv B Z hz (n := 5) (As := [.int (iI d), .int (iI 1), .long (lI y5), .int (iI x7), .int (iI (z42 + 1))]) (rest := []) (c_M_nonce l D K Z _ _ _ _ h q Y d 1 y5 x7 (z42 + 1) ⟨by omega, by omega⟩ ⟨by omega, by omega⟩ ⟨by omega, by omega⟩ ⟨by omega, by omega⟩ ⟨by omega, by omega⟩ σ_3 G_3) gd_M_turnsG_M_nonce_440 rfl rfl rfl (by decide +kernel) ⟨Nat.le_trans (by decide +kernel) hR.1, Nat.le_trans (by decide +kernel) hR.2⟩ Y.o (clsM G_3.t) rfl rfl rfl rfl (Nat.le_of_ble_eq_true rfl) dX12_turns_32 ⟨Nat.zero_le _, Nat.zero_le _⟩ (fun σ44 p45 => ?_)
          obtain ⟨G47, F48⟩ := p45
          have F49 := F_3.call F48 (by first | rfl | simp)
          refine v_aload_n B dX12_turns_35 rfl rfl ?_
          refine v_aload_n B dX12_turns_36 rfl rfl ?_
          have h50 := (F48 h _ Y.o (by first | rfl | simp)).trans (hc3_h)
          refine u_get B Z (C := RX12) (T := TX12) (N := 123) (ci := 12) hi_M_turnsG_X12 Y.o h50 rfl 63 (by decide +kernel) (List.mem_of_getElem? (i := 15) rfl) rfl dX12_turns_37 ?_
          refine v_bipush B (v := iI 16) dX12_turns_40 (by decide +kernel) ?_
          refine v_iload_n B dX12_turns_42 rfl rfl ?_
          refine v_imul B (v := iI (16 * d)) dX12_turns_43 ((iI_mul _ _).trans (congrArg iI (by omega))) ?_
          refine v_aload_n B dX12_turns_44 rfl rfl ?_
          refine u_get B Z (C := RX12) (T := TX12) (N := 123) (ci := 12) hi_M_turnsG_X12 Y.o h50 rfl 77 (by decide +kernel) (List.mem_of_getElem? (i := 7) rfl) rfl dX12_turns_45 ?_
          refine v_iconst B (v := iI 0) dX12_turns_48 rfl ?_
          refine v_aload_n B dX12_turns_49 rfl rfl ?_
          refine u_get B Z (C := RX12) (T := TX12) (N := 123) (ci := 12) hi_M_turnsG_X12 Y.o h50 rfl 79 (by decide +kernel) (List.mem_of_getElem? (i := 1) rfl) rfl dX12_turns_50 ?_
          refine v_iconst B (v := iI 0) dX12_turns_53 rfl ?_
          refine u_callVv B Z hz (n := 6) (As := [.ref (q 63), .int (iI (16 * d)), .ref (q 77), .int (iI 0), .ref (q 79), .int (iI 0)]) (rest := []) (c_M_e l D K Z _ _ _ _ h q Y 63 32 (16 * d) 77 16 0 79 16 0 rfl ⟨by omega, by omega⟩ rfl ⟨by omega, by omega⟩ rfl ⟨by omega, by omega⟩ σ44 G47 (by omega)) gd_M_turnsG_M_e_444 rfl rfl rfl (by decide +kernel) ⟨Nat.le_trans (by decide +kernel) hR.1, Nat.le_trans (by decide +kernel) hR.2⟩ Y.o (clsM G47.t) rfl rfl rfl rfl (Nat.le_of_ble_eq_true rfl) dX12_turns_54 ⟨Nat.zero_le _, Nat.zero_le _⟩ (fun σ51 p52 => ?_)
          obtain ⟨G54, F55⟩ := p52
          have F56 := F49.call F55 (by first | rfl | simp)
          have h57 := (F55 h _ Y.o (by first | rfl | simp)).trans (h50)
          exact J57 σ51 G54 F56 h57 ⟨by omega, by omega⟩ ⟨by omega, by omega⟩ (by omega)
  refine v_iconst B (v := iI 0) dX12_turns_0 rfl ?_
  refine v_istore B (lv' := [(8, .int (iI 0)), (0, .ref h), (1, .int (iI d)), (2, .ref (q 53)), (3, .int (iI x3)), (4, .int (iI x4)), (5, .long (lI y5)), (7, .int (iI x7))]) dX12_turns_1 (by decide +kernel) rfl ?_
  refine v_lv [1, 2, 3, 4, 5, 6, 7, 0] rfl ?_
  exact J3 _ σ0 0 (Nat.le_refl _) G0 F0 h6 ⟨by omega, by omega⟩
set_option maxRecDepth 100000 in
theorem c_M_turnsG (l : Launch) (D : va_G) (K : Nat → ClassId) {τ : Nat → Option Ty} {dom : List Nat} (Z : Sk τ dom) (zb zL : Nat) (zx : Nat → Int32) (zs : Nat → Nat) (h : Nat) (q : Nat → Nat) (Y : MS τ h q) (d : Int) (x3 : Int) (x4 : Int) (y5 : Int) (x7 : Int) (r_d : 0 ≤ d ∧ d ≤ 1) (r_x3 : 0 ≤ x3 ∧ x3 ≤ 40) (r_x4 : 0 ≤ x4 ∧ x4 ≤ 31) (r_y5 : InL y5) (r_x7 : -2147483648 ≤ x7 ∧ x7 ≤ 2147483647) (σ0 : Nat → va_E) (G0 : GM K h q σ0) (hc : x3 + x4 ≤ 40) : MZ l yX12_turns wp_M_turnsG ({ frames := 2, cells := 0, slots := 0, locals := 57 }) D (tysA K) [.ref h, .int (iI d), .ref (q 53), .int (iI x3), .int (iI x4), .long (lI y5), .int (iI x7)] (fd dom σ0) zb zL zx zs (Qv D (fun σ' => GM K h q σ' ∧ Fr τ [(177, 0), (104, 0), (105, 0), (106, 0), (179, 0), (153, 0)] σ0 σ') (fun σ' => fd dom σ')) 0 0 := by
  refine mz_of (cc := cX12_turns) (maxL := 9) (ret := none) (by decide +kernel) rfl (Nat.le_of_ble_eq_true rfl) ?_
  intro p e s m below meth c A B hr hlk _ hz
  exact b_M_turnsG ⟨Nat.le_refl _, Nat.le_refl _⟩ B Z hz h q Y d x3 x4 y5 x7 r_d r_x3 r_x4 r_y5 r_x7 σ0 G0 hc (fun σ' lv pc G F hd => v_vret B hr hlk σ' ⟨G, F⟩ rfl (Nat.le_refl _) (Nat.le_refl _) hd)

def wp_M_macs : List Cond := .code yX12_macs cX12_macs 10 none :: (([.fieldLink RX12 254 "LowEnergyModel" "mac" "[B", .fieldLink RX12 257 "LowEnergyModel" "stream" "[B", .fieldLink RX12 209 "LowEnergyModel" "session" "[B", .methodLink RX12 444 yX12_e, .instanceMethod yX12_e, .selects RX12 yX12_e yX12_e, .initialized RX12, .code yX12_e cX12_e 13 none, .fieldLink RX12 33 "LowEnergyModel" "cells" "[B", .fieldLink RX12 26 "LowEnergyModel" "round" "[B", .fieldLink RX12 36 "LowEnergyModel" "moved" "[B", .methodLink RX12 14 yX12_twice, .static yX12_twice, .code yX12_twice cX12_twice 1 (some .int), .fieldLink RX12 22 "LowEnergyModel" "box" "[I", .methodLink RX12 29 yX12_copy, .static yX12_copy, .code yX12_copy cX12_copy 6 none, .methodLink RX12 440 yX12_nonce, .instanceMethod yX12_nonce, .selects RX12 yX12_nonce yX12_nonce, .code yX12_nonce cX12_nonce 7 none, .fieldLink RX12 251 "LowEnergyModel" "block" "[B", .methodLink RX12 432 yX12_number, .static yX12_number, .code yX12_number cX12_number 6 none, .fieldLink RX12 212 "LowEnergyModel" "iv" "[B"] : List Cond) ++ (wsX120 ++ ([])))
theorem hi_M_macs_X12 : ∀ x ∈ u_ws RX12 TX12 123, x ∈ wp_M_macs := fun _ h => List.mem_cons_of_mem _ (List.mem_append_right _ (List.mem_append_left _ h))
set_option maxRecDepth 100000 in
theorem gd_M_macs_M_e_444 : GoodIn wp_M_macs (wsV RX12 444 RX12 yX12_e wp_M_e) := goodIn_app (goodIn_r _ [4, 5, 6, 7] rfl rfl) (goodIn_ca (goodIn_r _ [8, 9, 10, 11, 12, 13, 7, 14, 15, 16, 17, 18] rfl rfl) (goodIn_app (goodIn_cls hi_M_macs_X12 gw_X12) (goodIn_nil)))
set_option maxRecDepth 100000 in
theorem gd_M_macs_M_nonce_440 : GoodIn wp_M_macs (wsV RX12 440 RX12 yX12_nonce wp_M_nonce) := goodIn_app (goodIn_r _ [19, 20, 21, 7] rfl rfl) (goodIn_ca (goodIn_r _ [22, 23, 24, 25, 7, 26, 27, 16, 17, 18] rfl rfl) (goodIn_app (goodIn_cls hi_M_macs_X12 gw_X12) (goodIn_nil)))
set_option maxHeartbeats 4000000 in
set_option maxRecDepth 100000 in
theorem b_M_macs {p : Program} {l : Launch} {e : Env} {R : Room} {s : State} {m : MethodId} {args : Array Value} {below : List Frame} {meth : Method} {c : Code} {D : va_G} {K : Nat → ClassId} {A : Nat → Prop} {Q : State → Prop} {τ : Nat → Option Ty} {dom : List Nat} {zb zL : Nat} {zx : Nat → Int32} {zs : Nat → Nat} (hR : 2 ≤ R.frames ∧ 57 ≤ R.locals) (B : Bx p s m args c cX12_macs 10 RX12 wp_M_macs D (tysA K) A) (Z : Sk τ dom) (hz : ZL zb zL zx zs A s s.heap) (h : Nat) (q : Nat → Nat) (Y : MS τ h q) (d : Int) (j2 Nj2 : Nat) (x3 : Int) (x4 : Int) (y5 : Int) (x7 : Int) (x8 : Int) (r_d : 0 ≤ d ∧ d ≤ 1) (hj_j2 : tabM[j2]? = some (2, Nj2, -128, 127)) (r_x3 : 0 ≤ x3 ∧ x3 ≤ 40) (r_x4 : 0 ≤ x4 ∧ x4 ≤ 31) (r_y5 : InL y5) (r_x7 : -2147483648 ≤ x7 ∧ x7 ≤ 2147483647) (r_x8 : -2147483648 ≤ x8 ∧ x8 ≤ 2147483647) (σ0 : Nat → va_E) (G0 : GM K h q σ0) (hc : x3 + x4 ≤ (Nj2 : Int)) (hend : ∀ (σ' : Nat → va_E) (lv : List (Nat × Value)) (pc : Nat), GM K h q σ' → Fr τ [(177, 0), (104, 0), (105, 0), (106, 0), (178, 0), (179, 0)] σ0 σ' → decode cX12_macs pc = .ok (.return_, 1) → V p l e R s m args below meth c 10 D A Q (0, 0) (fd dom σ') lv pc []) : V p l e R s m args below meth c 10 D A Q (0, 0) (fd dom σ0) [(0, .ref h), (1, .int (iI d)), (2, .ref (q j2)), (3, .int (iI x3)), (4, .int (iI x4)), (5, .long (lI y5)), (7, .int (iI x7)), (8, .int (iI x8))] 0 [] := by
  have F0 : Fr τ [(177, 0), (104, 0), (105, 0), (106, 0), (178, 0), (179, 0)] σ0 σ0 := Fr.rf
  have hN_j2 := lenB hj_j2
  obtain ⟨z1, z2, z3, z4, z5, h6, r7, r8, r9, r10, r11⟩ := G0.t.o
  have J194 : ∀ (k194 : Nat) (σ_194 : Nat → va_E) (z194_9 : Int), (2147483648 - z194_9).toNat ≤ k194 → GM K h q σ_194 → Fr τ [(177, 0), (104, 0), (105, 0), (106, 0), (178, 0), (179, 0)] σ0 σ_194 → (σ_194 h = .inr (12, fsM q (iI z1) (iI z2) (iI z3) (iI z4) (iI z5))) → (0 ≤ z194_9 ∧ z194_9 ≤ 4) → V p l e R s m args below meth c 10 D A Q (0, 0) (fd dom σ_194) [(0, .ref h), (9, .int (iI z194_9))] 194 [] := by
    intro k194
    induction k194 with
    | zero => intro σ_194 z194_9 m194 G_194 F_194 hc194_h r194_9; omega
    | succ k194 IH194 =>
      intro σ_194 z194_9 m194 G_194 F_194 hc194_h r194_9
      refine v_iload B dX12_macs_194 rfl ?_
      refine v_iconst B (v := iI 4) dX12_macs_196 rfl ?_
      refine u_icmp_ge B (tgt := 224) (by omega) (by omega) dX12_macs_197 (by decide +kernel) (fun c12 => ?_) (fun c12 => ?_)
      · exact hend σ_194 _ _ G_194 F_194 dX12_macs_224
      · refine v_aload_n B dX12_macs_200 rfl rfl ?_
        refine u_get B Z (C := RX12) (T := TX12) (N := 123) (ci := 12) hi_M_macs_X12 Y.o hc194_h rfl 78 (by decide +kernel) (List.mem_of_getElem? (i := 1) rfl) rfl dX12_macs_201 ?_
        refine v_iload B dX12_macs_204 rfl ?_
        refine v_dup2 B dX12_macs_206 rfl rfl ?_
        obtain ⟨f13, h14, e15⟩ := ga_78 G_194.t
        obtain ⟨z16, e17, r18⟩ := e15 (z194_9 : Int).toNat
        refine u_bald B Z (t0 := 2) (ym_78 Y) h14 rfl (by omega) e17 dX12_macs_207 ?_
        refine v_aload_n B dX12_macs_208 rfl rfl ?_
        refine u_get B Z (C := RX12) (T := TX12) (N := 123) (ci := 12) hi_M_macs_X12 Y.o hc194_h rfl 79 (by decide +kernel) (List.mem_of_getElem? (i := 2) rfl) rfl dX12_macs_209 ?_
        refine v_iload B dX12_macs_212 rfl ?_
        obtain ⟨f19, h20, e21⟩ := ga_79 G_194.t
        obtain ⟨z22, e23, r24⟩ := e21 (z194_9 : Int).toNat
        refine u_bald B Z (t0 := 2) (ym_79 Y) h20 rfl (by omega) e23 dX12_macs_214 ?_
        obtain ⟨z25, e26, r27⟩ := iI_any (iI z16 ^^^ iI z22)
        refine v_ixor B (v := iI z25) dX12_macs_215 e26 ?_
        obtain ⟨z28, e29, r30⟩ := iI_i8 z25
        refine v_i2b B (v := iI z28) dX12_macs_216 e29 ?_
        refine u_bast B Z (t0 := 2) (x := iI z28) (y := iI z28) (ym_78 Y) h14 rfl (by omega) (nar8 (by omega)) dX12_macs_217 (fun σ31 h32 n33 => ?_)
        have F34 := F_194.put (ym_78 Y) (by simp) n33
        have G35 := gp_78 Y G_194 ⟨_, h32, el_upd (z := z28) e15 ⟨by omega, by omega⟩ _⟩ n33
        refine v_iinc B (k := 1) (v := iI (z194_9 + 1)) (lv' := [(9, .int (iI (z194_9 + 1))), (0, .ref h)]) dX12_macs_218 rfl ((iI_add _ _).trans (congrArg iI (by omega))) (by decide +kernel) rfl ?_
        refine v_goto B (tgt := 194) dX12_macs_221 (by decide +kernel) ?_
        refine v_lv [1, 0] rfl ?_
        have h36 := (n33 h (ne_ty Y.o (ym_78 Y) (by decide))).trans (hc194_h)
        exact IH194 σ31 (z194_9 + 1) (by omega) G35 F34 h36 ⟨by omega, by omega⟩
  have J84 : ∀ (k84 : Nat) (σ_84 : Nat → va_E) (z84_9 : Int), (2147483648 - z84_9).toNat ≤ k84 → GM K h q σ_84 → Fr τ [(177, 0), (104, 0), (105, 0), (106, 0), (178, 0), (179, 0)] σ0 σ_84 → (σ_84 h = .inr (12, fsM q (iI z1) (iI z2) (iI z3) (iI z4) (iI z5))) → (0 ≤ z84_9 ∧ z84_9 ≤ 31) → V p l e R s m args below meth c 10 D A Q (0, 0) (fd dom σ_84) [(0, .ref h), (1, .int (iI d)), (2, .ref (q j2)), (3, .int (iI x3)), (4, .int (iI x4)), (5, .long (lI y5)), (7, .int (iI x7)), (9, .int (iI z84_9))] 84 [] := by
    intro k84
    induction k84 with
    | zero => intro σ_84 z84_9 m84 G_84 F_84 hc84_h r84_9; omega
    | succ k84 IH84 =>
      intro σ_84 z84_9 m84 G_84 F_84 hc84_h r84_9
      have J152 : ∀ (σ_152 : Nat → va_E), GM K h q σ_152 → Fr τ [(177, 0), (104, 0), (105, 0), (106, 0), (178, 0), (179, 0)] σ0 σ_152 → (σ_152 h = .inr (12, fsM q (iI z1) (iI z2) (iI z3) (iI z4) (iI z5))) → (1 ≤ x4 ∧ x4 ≤ 31) → (0 ≤ z84_9 ∧ z84_9 ≤ 30) → V p l e R s m args below meth c 10 D A Q (0, 0) (fd dom σ_152) [(0, .ref h), (1, .int (iI d)), (2, .ref (q j2)), (3, .int (iI x3)), (4, .int (iI x4)), (5, .long (lI y5)), (7, .int (iI x7)), (9, .int (iI z84_9))] 152 [] := by
        intro σ_152 G_152 F_152 hc152_h rv152_x4 rv152_z84_9
        refine v_iinc B (k := 7) (v := iI (z84_9 + 1)) (lv' := [(9, .int (iI (z84_9 + 1))), (0, .ref h), (1, .int (iI d)), (2, .ref (q j2)), (3, .int (iI x3)), (4, .int (iI x4)), (5, .long (lI y5)), (7, .int (iI x7))]) dX12_macs_152 rfl ((iI_add _ _).trans (congrArg iI (by omega))) (by decide +kernel) rfl ?_
        refine v_goto B (tgt := 84) dX12_macs_155 (by decide +kernel) ?_
        refine v_lv [1, 2, 3, 4, 5, 6, 7, 0] rfl ?_
        exact IH84 σ_152 (z84_9 + 1) (by omega) G_152 F_152 hc152_h ⟨by omega, by omega⟩
      have J130 : ∀ (σ_130 : Nat → va_E), GM K h q σ_130 → Fr τ [(177, 0), (104, 0), (105, 0), (106, 0), (178, 0), (179, 0)] σ0 σ_130 → (σ_130 h = .inr (12, fsM q (iI z1) (iI z2) (iI z3) (iI z4) (iI z5))) → (1 ≤ x4 ∧ x4 ≤ 31) → (0 ≤ z84_9 ∧ z84_9 ≤ 30) → V p l e R s m args below meth c 10 D A Q (0, 0) (fd dom σ_130) [(0, .ref h), (1, .int (iI d)), (2, .ref (q j2)), (3, .int (iI x3)), (4, .int (iI x4)), (5, .long (lI y5)), (7, .int (iI x7)), (9, .int (iI z84_9))] 130 [] := by
        intro σ_130 G_130 F_130 hc130_h rv130_x4 rv130_z84_9
        refine v_aload_n B dX12_macs_130 rfl rfl ?_
        refine v_aload_n B dX12_macs_131 rfl rfl ?_
        refine u_get B Z (C := RX12) (T := TX12) (N := 123) (ci := 12) hi_M_macs_X12 Y.o hc130_h rfl 63 (by decide +kernel) (List.mem_of_getElem? (i := 3) rfl) rfl dX12_macs_132 ?_
        refine v_bipush B (v := iI 16) dX12_macs_135 (by decide +kernel) ?_
        refine v_iload_n B dX12_macs_137 rfl rfl ?_
        refine v_imul B (v := iI (16 * d)) dX12_macs_138 ((iI_mul _ _).trans (congrArg iI (by omega))) ?_
        refine v_aload_n B dX12_macs_139 rfl rfl ?_
        refine u_get B Z (C := RX12) (T := TX12) (N := 123) (ci := 12) hi_M_macs_X12 Y.o hc130_h rfl 78 (by decide +kernel) (List.mem_of_getElem? (i := 1) rfl) rfl dX12_macs_140 ?_
        refine v_iconst B (v := iI 0) dX12_macs_143 rfl ?_
        refine v_aload_n B dX12_macs_144 rfl rfl ?_
        refine u_get B Z (C := RX12) (T := TX12) (N := 123) (ci := 12) hi_M_macs_X12 Y.o hc130_h rfl 78 (by decide +kernel) (List.mem_of_getElem? (i := 1) rfl) rfl dX12_macs_145 ?_
        refine v_iconst B (v := iI 0) dX12_macs_148 rfl ?_
        refine u_callVv B Z hz (n := 6) (As := [.ref (q 63), .int (iI (16 * d)), .ref (q 78), .int (iI 0), .ref (q 78), .int (iI 0)]) (rest := []) (c_M_e l D K Z _ _ _ _ h q Y 63 32 (16 * d) 78 16 0 78 16 0 rfl ⟨by omega, by omega⟩ rfl ⟨by omega, by omega⟩ rfl ⟨by omega, by omega⟩ σ_130 G_130 (by omega)) gd_M_macs_M_e_444 rfl rfl rfl (by decide +kernel) ⟨Nat.le_trans (by decide +kernel) hR.1, Nat.le_trans (by decide +kernel) hR.2⟩ Y.o (clsM G_130.t) rfl rfl rfl rfl (Nat.le_of_ble_eq_true rfl) dX12_macs_149 ⟨Nat.zero_le _, Nat.zero_le _⟩ (fun σ37 p38 => ?_)
        obtain ⟨G40, F41⟩ := p38
        have F42 := F_130.call F41 (by first | rfl | simp)
        have h43 := (F41 h _ Y.o (by first | rfl | simp)).trans (hc130_h)
        exact J152 σ37 G40 F42 h43 ⟨by omega, by omega⟩ ⟨by omega, by omega⟩
      refine v_iload B dX12_macs_84 rfl ?_
      refine v_iload B dX12_macs_86 rfl ?_
      refine u_icmp_ge B (tgt := 158) (by omega) (by omega) dX12_macs_88 (by decide +kernel) (fun c44 => ?_) (fun c44 => ?_)
      · refine v_aload_n B dX12_macs_158 rfl rfl ?_
        refine v_iload_n B dX12_macs_159 rfl rfl ?_
        refine v_iconst B (v := iI 1) dX12_macs_160 rfl ?_
        refine v_lload B dX12_macs_161 rfl ?_
        refine v_iload B dX12_macs_163 rfl ?_
        refine v_iconst B (v := iI 0) dX12_macs_165 rfl ?_
        refine u_callVv B Z hz (n := 5) (As := [.int (iI d), .int (iI 1), .long (lI y5), .int (iI x7), .int (iI 0)]) (rest := []) (c_M_nonce l D K Z _ _ _ _ h q Y d 1 y5 x7 0 ⟨by omega, by omega⟩ ⟨by omega, by omega⟩ ⟨by omega, by omega⟩ ⟨by omega, by omega⟩ ⟨by omega, by omega⟩ σ_84 G_84) gd_M_macs_M_nonce_440 rfl rfl rfl (by decide +kernel) ⟨Nat.le_trans (by decide +kernel) hR.1, Nat.le_trans (by decide +kernel) hR.2⟩ Y.o (clsM G_84.t) rfl rfl rfl rfl (Nat.le_of_ble_eq_true rfl) dX12_macs_166 ⟨Nat.zero_le _, Nat.zero_le _⟩ (fun σ45 p46 => ?_)
        obtain ⟨G48, F49⟩ := p46
        have F50 := F_84.call F49 (by first | rfl | simp)
        refine v_aload_n B dX12_macs_169 rfl rfl ?_
        refine v_aload_n B dX12_macs_170 rfl rfl ?_
        have h51 := (F49 h _ Y.o (by first | rfl | simp)).trans (hc84_h)
        refine u_get B Z (C := RX12) (T := TX12) (N := 123) (ci := 12) hi_M_macs_X12 Y.o h51 rfl 63 (by decide +kernel) (List.mem_of_getElem? (i := 3) rfl) rfl dX12_macs_171 ?_
        refine v_bipush B (v := iI 16) dX12_macs_174 (by decide +kernel) ?_
        refine v_iload_n B dX12_macs_176 rfl rfl ?_
        refine v_imul B (v := iI (16 * d)) dX12_macs_177 ((iI_mul _ _).trans (congrArg iI (by omega))) ?_
        refine v_aload_n B dX12_macs_178 rfl rfl ?_
        refine u_get B Z (C := RX12) (T := TX12) (N := 123) (ci := 12) hi_M_macs_X12 Y.o h51 rfl 77 (by decide +kernel) (List.mem_of_getElem? (i := 23) rfl) rfl dX12_macs_179 ?_
        refine v_iconst B (v := iI 0) dX12_macs_182 rfl ?_
        refine v_aload_n B dX12_macs_183 rfl rfl ?_
        refine u_get B Z (C := RX12) (T := TX12) (N := 123) (ci := 12) hi_M_macs_X12 Y.o h51 rfl 79 (by decide +kernel) (List.mem_of_getElem? (i := 2) rfl) rfl dX12_macs_184 ?_
        refine v_iconst B (v := iI 0) dX12_macs_187 rfl ?_
        refine u_callVv B Z hz (n := 6) (As := [.ref (q 63), .int (iI (16 * d)), .ref (q 77), .int (iI 0), .ref (q 79), .int (iI 0)]) (rest := []) (c_M_e l D K Z _ _ _ _ h q Y 63 32 (16 * d) 77 16 0 79 16 0 rfl ⟨by omega, by omega⟩ rfl ⟨by omega, by omega⟩ rfl ⟨by omega, by omega⟩ σ45 G48 (by omega)) gd_M_macs_M_e_444 rfl rfl rfl (by decide +kernel) ⟨Nat.le_trans (by decide +kernel) hR.1, Nat.le_trans (by decide +kernel) hR.2⟩ Y.o (clsM G48.t) rfl rfl rfl rfl (Nat.le_of_ble_eq_true rfl) dX12_macs_188 ⟨Nat.zero_le _, Nat.zero_le _⟩ (fun σ52 p53 => ?_)
        obtain ⟨G55, F56⟩ := p53
        have F57 := F50.call F56 (by first | rfl | simp)
        refine v_iconst B (v := iI 0) dX12_macs_191 rfl ?_
        refine v_istore B (lv' := [(9, .int (iI 0)), (0, .ref h), (1, .int (iI d)), (2, .ref (q j2)), (3, .int (iI x3)), (4, .int (iI x4)), (5, .long (lI y5)), (7, .int (iI x7))]) dX12_macs_192 (by decide +kernel) rfl ?_
        refine v_lv [1, 0] rfl ?_
        have h58 := (F56 h _ Y.o (by first | rfl | simp)).trans (h51)
        exact J194 _ σ52 0 (Nat.le_refl _) G55 F57 h58 ⟨by omega, by omega⟩
      · refine v_aload_n B dX12_macs_91 rfl rfl ?_
        refine u_get B Z (C := RX12) (T := TX12) (N := 123) (ci := 12) hi_M_macs_X12 Y.o hc84_h rfl 78 (by decide +kernel) (List.mem_of_getElem? (i := 1) rfl) rfl dX12_macs_92 ?_
        refine v_iload B dX12_macs_95 rfl ?_
        refine v_bipush B (v := iI 16) dX12_macs_97 (by decide +kernel) ?_
        obtain ⟨z59, e60⟩ : ∃ z : Int, z = z84_9 % 16 := ⟨_, rfl⟩
        refine v_irem B (v := iI z59) dX12_macs_99 (fun q => absurd ((iI_eq (a := 16) (b := 0) (by omega) (by omega)).mp q) (by omega)) ((iI_rem (a := z84_9) (b := 16) (by omega) (by omega)).trans (congrArg iI e60.symm)) ?_
        refine v_dup2 B dX12_macs_100 rfl rfl ?_
        obtain ⟨f61, h62, e63⟩ := ga_78 G_84.t
        obtain ⟨z64, e65, r66⟩ := e63 (z59 : Int).toNat
        refine u_bald B Z (t0 := 2) (ym_78 Y) h62 rfl (by omega) e65 dX12_macs_101 ?_
        refine v_aload_n B dX12_macs_102 rfl rfl ?_
        refine v_iload_n B dX12_macs_103 rfl rfl ?_
        refine v_iload B dX12_macs_104 rfl ?_
        refine v_iadd B (v := iI (x3 + z84_9)) dX12_macs_106 ((iI_add _ _).trans (congrArg iI (by omega))) ?_
        obtain ⟨f67, h68, e69⟩ := G_84.t.byte hj_j2
        obtain ⟨z70, e71, r72⟩ := e69 ((x3 + z84_9) : Int).toNat
        refine u_bald B Z (t0 := 2) (Y.byte hj_j2) h68 rfl (by omega) e71 dX12_macs_107 ?_
        obtain ⟨z73, e74, r75⟩ := iI_any (iI z64 ^^^ iI z70)
        refine v_ixor B (v := iI z73) dX12_macs_108 e74 ?_
        obtain ⟨z76, e77, r78⟩ := iI_i8 z73
        refine v_i2b B (v := iI z76) dX12_macs_109 e77 ?_
        refine u_bast B Z (t0 := 2) (x := iI z76) (y := iI z76) (ym_78 Y) h62 rfl (by omega) (nar8 (by omega)) dX12_macs_110 (fun σ79 h80 n81 => ?_)
        have F82 := F_84.put (ym_78 Y) (by simp) n81
        have G83 := gp_78 Y G_84 ⟨_, h80, el_upd (z := z76) e63 ⟨by omega, by omega⟩ _⟩ n81
        refine v_iload B dX12_macs_111 rfl ?_
        refine v_bipush B (v := iI 16) dX12_macs_113 (by decide +kernel) ?_
        obtain ⟨z84, e85⟩ : ∃ z : Int, z = z84_9 % 16 := ⟨_, rfl⟩
        refine v_irem B (v := iI z84) dX12_macs_115 (fun q => absurd ((iI_eq (a := 16) (b := 0) (by omega) (by omega)).mp q) (by omega)) ((iI_rem (a := z84_9) (b := 16) (by omega) (by omega)).trans (congrArg iI e85.symm)) ?_
        refine v_bipush B (v := iI 15) dX12_macs_116 (by decide +kernel) ?_
        refine u_icmp_eq B (tgt := 130) (by omega) (by omega) dX12_macs_118 (by decide +kernel) (fun c86 => ?_) (fun c86 => ?_)
        · have h87 := (n81 h (ne_ty Y.o (ym_78 Y) (by decide))).trans (hc84_h)
          exact J130 σ79 G83 F82 h87 ⟨by omega, by omega⟩ ⟨by omega, by omega⟩
        · refine v_iload B dX12_macs_121 rfl ?_
          refine v_iload B dX12_macs_123 rfl ?_
          refine v_iconst B (v := iI 1) dX12_macs_125 rfl ?_
          refine v_isub B (v := iI (x4 + (-1))) dX12_macs_126 ((iI_sub _ _).trans (congrArg iI (by omega))) ?_
          refine u_icmp_ne B (tgt := 152) (by omega) (by omega) dX12_macs_127 (by decide +kernel) (fun c88 => ?_) (fun c88 => ?_)
          · have h89 := (n81 h (ne_ty Y.o (ym_78 Y) (by decide))).trans (hc84_h)
            exact J152 σ79 G83 F82 h89 ⟨by omega, by omega⟩ ⟨by omega, by omega⟩
          · have h90 := (n81 h (ne_ty Y.o (ym_78 Y) (by decide))).trans (hc84_h)
            exact J130 σ79 G83 F82 h90 ⟨by omega, by omega⟩ ⟨by omega, by omega⟩
  refine v_aload_n B dX12_macs_0 rfl rfl ?_
  refine v_iload_n B dX12_macs_1 rfl rfl ?_
  refine v_bipush B (v := iI 73) dX12_macs_2 (by decide +kernel) ?_
  refine v_lload B dX12_macs_4 rfl ?_
  refine v_iload B dX12_macs_6 rfl ?_
  refine v_iload B dX12_macs_8 rfl ?_
  refine u_callVv B Z hz (n := 5) (As := [.int (iI d), .int (iI 73), .long (lI y5), .int (iI x7), .int (iI x4)]) (rest := []) (c_M_nonce l D K Z _ _ _ _ h q Y d 73 y5 x7 x4 ⟨by omega, by omega⟩ ⟨by omega, by omega⟩ ⟨by omega, by omega⟩ ⟨by omega, by omega⟩ ⟨by omega, by omega⟩ σ0 G0) gd_M_macs_M_nonce_440 rfl rfl rfl (by decide +kernel) ⟨Nat.le_trans (by decide +kernel) hR.1, Nat.le_trans (by decide +kernel) hR.2⟩ Y.o (clsM G0.t) rfl rfl rfl rfl (Nat.le_of_ble_eq_true rfl) dX12_macs_10 ⟨Nat.zero_le _, Nat.zero_le _⟩ (fun σ91 p92 => ?_)
  obtain ⟨G94, F95⟩ := p92
  have F96 := F0.call F95 (by first | rfl | simp)
  refine v_aload_n B dX12_macs_13 rfl rfl ?_
  refine v_aload_n B dX12_macs_14 rfl rfl ?_
  have h97 := (F95 h _ Y.o (by first | rfl | simp)).trans (h6)
  refine u_get B Z (C := RX12) (T := TX12) (N := 123) (ci := 12) hi_M_macs_X12 Y.o h97 rfl 63 (by decide +kernel) (List.mem_of_getElem? (i := 3) rfl) rfl dX12_macs_15 ?_
  refine v_bipush B (v := iI 16) dX12_macs_18 (by decide +kernel) ?_
  refine v_iload_n B dX12_macs_20 rfl rfl ?_
  refine v_imul B (v := iI (16 * d)) dX12_macs_21 ((iI_mul _ _).trans (congrArg iI (by omega))) ?_
  refine v_aload_n B dX12_macs_22 rfl rfl ?_
  refine u_get B Z (C := RX12) (T := TX12) (N := 123) (ci := 12) hi_M_macs_X12 Y.o h97 rfl 77 (by decide +kernel) (List.mem_of_getElem? (i := 23) rfl) rfl dX12_macs_23 ?_
  refine v_iconst B (v := iI 0) dX12_macs_26 rfl ?_
  refine v_aload_n B dX12_macs_27 rfl rfl ?_
  refine u_get B Z (C := RX12) (T := TX12) (N := 123) (ci := 12) hi_M_macs_X12 Y.o h97 rfl 78 (by decide +kernel) (List.mem_of_getElem? (i := 1) rfl) rfl dX12_macs_28 ?_
  refine v_iconst B (v := iI 0) dX12_macs_31 rfl ?_
  refine u_callVv B Z hz (n := 6) (As := [.ref (q 63), .int (iI (16 * d)), .ref (q 77), .int (iI 0), .ref (q 78), .int (iI 0)]) (rest := []) (c_M_e l D K Z _ _ _ _ h q Y 63 32 (16 * d) 77 16 0 78 16 0 rfl ⟨by omega, by omega⟩ rfl ⟨by omega, by omega⟩ rfl ⟨by omega, by omega⟩ σ91 G94 (by omega)) gd_M_macs_M_e_444 rfl rfl rfl (by decide +kernel) ⟨Nat.le_trans (by decide +kernel) hR.1, Nat.le_trans (by decide +kernel) hR.2⟩ Y.o (clsM G94.t) rfl rfl rfl rfl (Nat.le_of_ble_eq_true rfl) dX12_macs_32 ⟨Nat.zero_le _, Nat.zero_le _⟩ (fun σ98 p99 => ?_)
  obtain ⟨G101, F102⟩ := p99
  have F103 := F96.call F102 (by first | rfl | simp)
  refine v_aload_n B dX12_macs_35 rfl rfl ?_
  have h104 := (F102 h _ Y.o (by first | rfl | simp)).trans (h97)
  refine u_get B Z (C := RX12) (T := TX12) (N := 123) (ci := 12) hi_M_macs_X12 Y.o h104 rfl 78 (by decide +kernel) (List.mem_of_getElem? (i := 1) rfl) rfl dX12_macs_36 ?_
  refine v_iconst B (v := iI 1) dX12_macs_39 rfl ?_
  refine v_dup2 B dX12_macs_40 rfl rfl ?_
  obtain ⟨f105, h106, e107⟩ := ga_78 G101.t
  obtain ⟨z108, e109, r110⟩ := e107 (1 : Int).toNat
  refine u_bald B Z (t0 := 2) (ym_78 Y) h106 rfl (by omega) e109 dX12_macs_41 ?_
  refine v_iconst B (v := iI 1) dX12_macs_42 rfl ?_
  obtain ⟨z111, e112, r113⟩ := iI_any (iI z108 ^^^ iI 1)
  refine v_ixor B (v := iI z111) dX12_macs_43 e112 ?_
  obtain ⟨z114, e115, r116⟩ := iI_i8 z111
  refine v_i2b B (v := iI z114) dX12_macs_44 e115 ?_
  refine u_bast B Z (t0 := 2) (x := iI z114) (y := iI z114) (ym_78 Y) h106 rfl (by omega) (nar8 (by omega)) dX12_macs_45 (fun σ117 h118 n119 => ?_)
  have F120 := F103.put (ym_78 Y) (by simp) n119
  have G121 := gp_78 Y G101 ⟨_, h118, el_upd (z := z114) e107 ⟨by omega, by omega⟩ _⟩ n119
  refine v_aload_n B dX12_macs_46 rfl rfl ?_
  have h122 := (n119 h (ne_ty Y.o (ym_78 Y) (by decide))).trans (h104)
  refine u_get B Z (C := RX12) (T := TX12) (N := 123) (ci := 12) hi_M_macs_X12 Y.o h122 rfl 78 (by decide +kernel) (List.mem_of_getElem? (i := 1) rfl) rfl dX12_macs_47 ?_
  refine v_iconst B (v := iI 2) dX12_macs_50 rfl ?_
  refine v_dup2 B dX12_macs_51 rfl rfl ?_
  obtain ⟨f123, h124, e125⟩ := ga_78 G121.t
  obtain ⟨z126, e127, r128⟩ := e125 (2 : Int).toNat
  refine u_bald B Z (t0 := 2) (ym_78 Y) h124 rfl (by omega) e127 dX12_macs_52 ?_
  refine v_iload B dX12_macs_53 rfl ?_
  obtain ⟨z129, e130, r131⟩ := iI_i8 x8
  refine v_i2b B (v := iI z129) dX12_macs_55 e130 ?_
  obtain ⟨z132, e133, r134⟩ := iI_any (iI z126 ^^^ iI z129)
  refine v_ixor B (v := iI z132) dX12_macs_56 e133 ?_
  obtain ⟨z135, e136, r137⟩ := iI_i8 z132
  refine v_i2b B (v := iI z135) dX12_macs_57 e136 ?_
  refine u_bast B Z (t0 := 2) (x := iI z135) (y := iI z135) (ym_78 Y) h124 rfl (by omega) (nar8 (by omega)) dX12_macs_58 (fun σ138 h139 n140 => ?_)
  have F141 := F120.put (ym_78 Y) (by simp) n140
  have G142 := gp_78 Y G121 ⟨_, h139, el_upd (z := z135) e125 ⟨by omega, by omega⟩ _⟩ n140
  refine v_aload_n B dX12_macs_59 rfl rfl ?_
  refine v_aload_n B dX12_macs_60 rfl rfl ?_
  have h143 := (n140 h (ne_ty Y.o (ym_78 Y) (by decide))).trans (h122)
  refine u_get B Z (C := RX12) (T := TX12) (N := 123) (ci := 12) hi_M_macs_X12 Y.o h143 rfl 63 (by decide +kernel) (List.mem_of_getElem? (i := 3) rfl) rfl dX12_macs_61 ?_
  refine v_bipush B (v := iI 16) dX12_macs_64 (by decide +kernel) ?_
  refine v_iload_n B dX12_macs_66 rfl rfl ?_
  refine v_imul B (v := iI (16 * d)) dX12_macs_67 ((iI_mul _ _).trans (congrArg iI (by omega))) ?_
  refine v_aload_n B dX12_macs_68 rfl rfl ?_
  refine u_get B Z (C := RX12) (T := TX12) (N := 123) (ci := 12) hi_M_macs_X12 Y.o h143 rfl 78 (by decide +kernel) (List.mem_of_getElem? (i := 1) rfl) rfl dX12_macs_69 ?_
  refine v_iconst B (v := iI 0) dX12_macs_72 rfl ?_
  refine v_aload_n B dX12_macs_73 rfl rfl ?_
  refine u_get B Z (C := RX12) (T := TX12) (N := 123) (ci := 12) hi_M_macs_X12 Y.o h143 rfl 78 (by decide +kernel) (List.mem_of_getElem? (i := 1) rfl) rfl dX12_macs_74 ?_
  refine v_iconst B (v := iI 0) dX12_macs_77 rfl ?_
  refine u_callVv B Z hz (n := 6) (As := [.ref (q 63), .int (iI (16 * d)), .ref (q 78), .int (iI 0), .ref (q 78), .int (iI 0)]) (rest := []) (c_M_e l D K Z _ _ _ _ h q Y 63 32 (16 * d) 78 16 0 78 16 0 rfl ⟨by omega, by omega⟩ rfl ⟨by omega, by omega⟩ rfl ⟨by omega, by omega⟩ σ138 G142 (by omega)) gd_M_macs_M_e_444 rfl rfl rfl (by decide +kernel) ⟨Nat.le_trans (by decide +kernel) hR.1, Nat.le_trans (by decide +kernel) hR.2⟩ Y.o (clsM G142.t) rfl rfl rfl rfl (Nat.le_of_ble_eq_true rfl) dX12_macs_78 ⟨Nat.zero_le _, Nat.zero_le _⟩ (fun σ144 p145 => ?_)
  obtain ⟨G147, F148⟩ := p145
  have F149 := F141.call F148 (by first | rfl | simp)
  refine v_iconst B (v := iI 0) dX12_macs_81 rfl ?_
  refine v_istore B (lv' := [(9, .int (iI 0)), (0, .ref h), (1, .int (iI d)), (2, .ref (q j2)), (3, .int (iI x3)), (4, .int (iI x4)), (5, .long (lI y5)), (7, .int (iI x7)), (8, .int (iI x8))]) dX12_macs_82 (by decide +kernel) rfl ?_
  refine v_lv [1, 2, 3, 4, 5, 6, 7, 0] rfl ?_
  have h150 := (F148 h _ Y.o (by first | rfl | simp)).trans (h143)
  exact J84 _ σ144 0 (Nat.le_refl _) G147 F149 h150 ⟨by omega, by omega⟩
set_option maxRecDepth 100000 in
theorem c_M_macs (l : Launch) (D : va_G) (K : Nat → ClassId) {τ : Nat → Option Ty} {dom : List Nat} (Z : Sk τ dom) (zb zL : Nat) (zx : Nat → Int32) (zs : Nat → Nat) (h : Nat) (q : Nat → Nat) (Y : MS τ h q) (d : Int) (j2 Nj2 : Nat) (x3 : Int) (x4 : Int) (y5 : Int) (x7 : Int) (x8 : Int) (r_d : 0 ≤ d ∧ d ≤ 1) (hj_j2 : tabM[j2]? = some (2, Nj2, -128, 127)) (r_x3 : 0 ≤ x3 ∧ x3 ≤ 40) (r_x4 : 0 ≤ x4 ∧ x4 ≤ 31) (r_y5 : InL y5) (r_x7 : -2147483648 ≤ x7 ∧ x7 ≤ 2147483647) (r_x8 : -2147483648 ≤ x8 ∧ x8 ≤ 2147483647) (σ0 : Nat → va_E) (G0 : GM K h q σ0) (hc : x3 + x4 ≤ (Nj2 : Int)) : MZ l yX12_macs wp_M_macs ({ frames := 2, cells := 0, slots := 0, locals := 57 }) D (tysA K) [.ref h, .int (iI d), .ref (q j2), .int (iI x3), .int (iI x4), .long (lI y5), .int (iI x7), .int (iI x8)] (fd dom σ0) zb zL zx zs (Qv D (fun σ' => GM K h q σ' ∧ Fr τ [(177, 0), (104, 0), (105, 0), (106, 0), (178, 0), (179, 0)] σ0 σ') (fun σ' => fd dom σ')) 0 0 := by
  refine mz_of (cc := cX12_macs) (maxL := 10) (ret := none) (by decide +kernel) rfl (Nat.le_of_ble_eq_true rfl) ?_
  intro p e s m below meth c A B hr hlk _ hz
  exact b_M_macs ⟨Nat.le_refl _, Nat.le_refl _⟩ B Z hz h q Y d j2 Nj2 x3 x4 y5 x7 x8 r_d hj_j2 r_x3 r_x4 r_y5 r_x7 r_x8 σ0 G0 hc (fun σ' lv pc G F hd => v_vret B hr hlk σ' ⟨G, F⟩ rfl (Nat.le_refl _) (Nat.le_refl _) hd)
