def wp_M_sendsFirst : List Cond := .code yX12_sendsFirst cX12_sendsFirst 3 (some .int) :: (([.fieldLink RX12 176 "LowEnergyModel" "sending" "[B", .fieldLink RX12 60 "LowEnergyModel" "address" "[J", .methodLink RX12 432 yX12_number, .static yX12_number, .initialized RX12, .code yX12_number cX12_number 6 none, .fieldLink RX12 82 "LowEnergyModel" "data" "[B", .fieldLink RX12 57 "LowEnergyModel" "advertised" "[I", .methodLink RX12 29 yX12_copy, .static yX12_copy, .code yX12_copy cX12_copy 6 none, .fieldLink RX12 633 "LowEnergyModel" "FIRST_ACCESS" "[B", .constant RX12 636 (5592405), .methodLink RX12 466 yX12_sends, .instanceMethod yX12_sends, .selects RX12 yX12_sends yX12_sends, .code yX12_sends cX12_sends 11 (some .int), .fieldLink RX12 164 "LowEnergyModel" "air" "[B", .fieldLink RX12 94 "LowEnergyModel" "lost" "[I", .fieldLink RX12 97 "LowEnergyModel" "noises" "[I", .fieldLink RX12 429 "LowEnergyModel" "packets" "I", .fieldLink RX12 167 "LowEnergyModel" "airMany" "[I", .fieldLink RX12 170 "LowEnergyModel" "airChannel" "[I", .fieldLink RX12 173 "LowEnergyModel" "airLost" "[Z", .fieldLink RX12 100 "LowEnergyModel" "noise" "[I", .methodLink RX12 425 yX12_whiten, .static yX12_whiten, .code yX12_whiten cX12_whiten 7 none, .methodLink RX12 422 yX12_crcByte, .static yX12_crcByte, .code yX12_crcByte cX12_crcByte 4 (some .int), .methodLink RX12 418 yX12_crc, .static yX12_crc, .code yX12_crc cX12_crc 7 (some .int), .constant RX12 417 (16777215)] : List Cond) ++ (wsX120 ++ ([])))
theorem hi_M_sendsFirst_X12 : ∀ x ∈ u_ws RX12 TX12 123, x ∈ wp_M_sendsFirst := fun _ h => List.mem_cons_of_mem _ (List.mem_append_right _ (List.mem_append_left _ h))
set_option maxRecDepth 100000 in
theorem gd_M_sendsFirst_M_numberP_432 : GoodIn wp_M_sendsFirst (va_wsS RX12 432 yX12_number wp_M_numberP) := goodIn_app (goodIn_r _ [3, 4, 5] rfl rfl) (goodIn_ca (goodIn_r _ [6] rfl rfl) (goodIn_nil))
set_option maxRecDepth 100000 in
theorem gd_M_sendsFirst_M_copy_29 : GoodIn wp_M_sendsFirst (va_wsS RX12 29 yX12_copy wp_M_copy) := goodIn_app (goodIn_r _ [9, 10, 5] rfl rfl) (goodIn_ca (goodIn_r _ [11] rfl rfl) (goodIn_nil))
set_option maxRecDepth 100000 in
theorem gd_M_sendsFirst_M_sendsS_466 : GoodIn wp_M_sendsFirst (wsV RX12 466 RX12 yX12_sends wp_M_sendsS) := goodIn_app (goodIn_r _ [14, 15, 16, 5] rfl rfl) (goodIn_ca (goodIn_r _ [17, 1, 18, 9, 10, 5, 11, 19, 20, 21, 22, 23, 24, 25, 26, 27, 28, 29, 30, 31, 32, 33, 34, 35] rfl rfl) (goodIn_app (goodIn_cls hi_M_sendsFirst_X12 gw_X12) (goodIn_nil)))
set_option maxHeartbeats 4000000 in
set_option maxRecDepth 100000 in
theorem b_M_sendsFirst {p : Program} {l : Launch} {e : Env} {R : Room} {s : State} {m : MethodId} {args : Array Value} {below : List Frame} {meth : Method} {c : Code} {D : va_G} {K : Nat → ClassId} {A : Nat → Prop} {Q : State → Prop} {τ : Nat → Option Ty} {dom : List Nat} {zb zL : Nat} {zx : Nat → Int32} {zs : Nat → Nat} (hR : 2 ≤ R.frames ∧ 56 ≤ R.locals) (B : Bx p s m args c cX12_sendsFirst 3 RX12 wp_M_sendsFirst D (tysA K) A) (Z : Sk τ dom) (hz : ZL zb zL zx zs A s s.heap) (h : Nat) (q : Nat → Nat) (Y : MS τ h q) (d : Int) (x2 : Int) (P : Int) (r_d : 0 ≤ d ∧ d ≤ 1) (r_x2 : -2147483648 ≤ x2 ∧ x2 ≤ 2147483647) (r_P : 0 ≤ P ∧ P ≤ 15) (σ0 : Nat → va_E) (G0 : GM K h q σ0) (hp : Fld σ0 h 12 51 (fun y => y = P)) (hend : ∀ (σ' : Nat → va_E) (z : Int) (lv : List (Nat × Value)) (pc : Nat), GM K h q σ' → Fr τ [(152, 0), (124, 0), (50, 0), (148, 0), (149, 0), (150, 0), (123, 0), (147, 0)] σ0 σ' → (0 ≤ z ∧ z ≤ 15) → (At σ' (q 48) z.toNat 9 40 ∧ Fld σ' h 12 51 (fun y => y = P + 1)) → decode cX12_sendsFirst pc = .ok (.ireturn, 1) → V p l e R s m args below meth c 3 D A Q (0, 0) (fd dom σ') lv pc [.int (iI z)]) : V p l e R s m args below meth c 3 D A Q (0, 0) (fd dom σ0) [(0, .ref h), (1, .int (iI d)), (2, .int (iI x2))] 0 [] := by
  have F0 : Fr τ [(152, 0), (124, 0), (50, 0), (148, 0), (149, 0), (150, 0), (123, 0), (147, 0)] σ0 σ0 := Fr.rf
  obtain ⟨z1, z2, z3, z4, z5, h6, r7, r8, r9, r10, r11⟩ := G0.t.o
  have r12 : z4 = P := hp.use h6 (j := 51) rfl (by omega)
  refine v_aload_n B dX12_sendsFirst_0 rfl rfl ?_
  refine u_get B Z (C := RX12) (T := TX12) (N := 123) (ci := 12) hi_M_sendsFirst_X12 Y.o h6 rfl 52 (by decide +kernel) (List.mem_of_getElem? (i := 1) rfl) rfl dX12_sendsFirst_1 ?_
  refine v_bipush B (v := iI 6) dX12_sendsFirst_4 (by decide +kernel) ?_
  refine v_aload_n B dX12_sendsFirst_6 rfl rfl ?_
  refine u_get B Z (C := RX12) (T := TX12) (N := 123) (ci := 12) hi_M_sendsFirst_X12 Y.o h6 rfl 12 (by decide +kernel) (List.mem_of_getElem? (i := 2) rfl) rfl dX12_sendsFirst_7 ?_
  refine v_iload_n B dX12_sendsFirst_10 rfl rfl ?_
  obtain ⟨f13, h14⟩ := ga_12 G0.t
  obtain ⟨yy16, e17, r18⟩ := lI_any (f13 (d : Int).toNat)
  refine u_lald B Z (t0 := 1) (ym_12 Y) h14 rfl (by omega) e17 dX12_sendsFirst_11 ?_
  refine v_bipush B (v := iI 6) dX12_sendsFirst_12 (by decide +kernel) ?_
  refine u_callSv B Z hz (n := 4) (As := [.ref (q 52), .int (iI 6), .long (lI yy16), .int (iI 6)]) (rest := []) (c_M_numberP l D K Z _ _ _ _ h q Y 52 40 6 yy16 6 rfl ⟨by omega, by omega⟩ ⟨by omega, by omega⟩ ⟨by omega, by omega⟩ σ0 G0 (by omega)) gd_M_sendsFirst_M_numberP_432 rfl rfl rfl (by decide +kernel) ⟨Nat.le_trans (by decide +kernel) hR.1, Nat.le_trans (by decide +kernel) hR.2⟩ rfl rfl (Nat.le_of_ble_eq_true rfl) dX12_sendsFirst_14 ⟨Nat.zero_le _, Nat.zero_le _⟩ (fun σ19 p20 => ?_)
  obtain ⟨G22, F23⟩ := p20
  have F24 := F0.call F23 (by first | rfl | simp)
  refine v_aload_n B dX12_sendsFirst_17 rfl rfl ?_
  have h25 := (F23 h _ Y.o (by first | rfl | simp)).trans (h6)
  refine u_get B Z (C := RX12) (T := TX12) (N := 123) (ci := 12) hi_M_sendsFirst_X12 Y.o h25 rfl 19 (by decide +kernel) (List.mem_of_getElem? (i := 7) rfl) rfl dX12_sendsFirst_18 ?_
  refine v_bipush B (v := iI 20) dX12_sendsFirst_21 (by decide +kernel) ?_
  refine v_iload_n B dX12_sendsFirst_23 rfl rfl ?_
  refine v_imul B (v := iI (20 * d)) dX12_sendsFirst_24 ((iI_mul _ _).trans (congrArg iI (by omega))) ?_
  refine v_aload_n B dX12_sendsFirst_25 rfl rfl ?_
  refine u_get B Z (C := RX12) (T := TX12) (N := 123) (ci := 12) hi_M_sendsFirst_X12 Y.o h25 rfl 52 (by decide +kernel) (List.mem_of_getElem? (i := 1) rfl) rfl dX12_sendsFirst_26 ?_
  refine v_bipush B (v := iI 12) dX12_sendsFirst_29 (by decide +kernel) ?_
  refine v_aload_n B dX12_sendsFirst_31 rfl rfl ?_
  refine u_get B Z (C := RX12) (T := TX12) (N := 123) (ci := 12) hi_M_sendsFirst_X12 Y.o h25 rfl 11 (by decide +kernel) (List.mem_of_getElem? (i := 8) rfl) rfl dX12_sendsFirst_32 ?_
  refine v_iload_n B dX12_sendsFirst_35 rfl rfl ?_
  obtain ⟨f26, h27, e28⟩ := ga_11 G22.t
  obtain ⟨z29, e30, r31⟩ := e28 (d : Int).toNat
  refine u_iald B Z (t0 := 0) (ym_11 Y) h27 rfl (by omega) e30 dX12_sendsFirst_36 ?_
  refine u_callSv B Z hz (n := 5) (As := [.ref (q 19), .int (iI (20 * d)), .ref (q 52), .int (iI 12), .int (iI z29)]) (rest := []) (c_M_copy l D K Z _ _ _ _ h q Y 19 40 (20 * d) 52 40 12 z29 rfl ⟨by omega, by omega⟩ rfl ⟨by omega, by omega⟩ ⟨by omega, by omega⟩ σ19 G22 (by omega)) gd_M_sendsFirst_M_copy_29 rfl rfl rfl (by decide +kernel) ⟨Nat.le_trans (by decide +kernel) hR.1, Nat.le_trans (by decide +kernel) hR.2⟩ rfl rfl (Nat.le_of_ble_eq_true rfl) dX12_sendsFirst_37 ⟨Nat.zero_le _, Nat.zero_le _⟩ (fun σ32 p33 => ?_)
  obtain ⟨G35, F36⟩ := p33
  have F37 := F24.call F36 (by first | rfl | simp)
  refine v_aload_n B dX12_sendsFirst_40 rfl rfl ?_
  refine v_iload_n B dX12_sendsFirst_41 rfl rfl ?_
  refine u_gets4 B hz (List.mem_of_getElem? (i := 12) rfl) dX12_sendsFirst_42 ?_
  refine v_iconst B (v := iI 0) dX12_sendsFirst_45 rfl ?_
  refine v_ldcw B (v := iI 5592405) (u_ci (List.mem_of_getElem? (i := 13) rfl) (by decide +kernel)) dX12_sendsFirst_46 ?_
  refine v_iload_n B dX12_sendsFirst_49 rfl rfl ?_
  refine v_iconst B (v := iI 0) dX12_sendsFirst_50 rfl ?_
  refine v_bipush B (v := iI 6) dX12_sendsFirst_51 (by decide +kernel) ?_
  refine v_aload_n B dX12_sendsFirst_53 rfl rfl ?_
  have h38 := (F36 h _ Y.o (by first | rfl | simp)).trans (h25)
  refine u_get B Z (C := RX12) (T := TX12) (N := 123) (ci := 12) hi_M_sendsFirst_X12 Y.o h38 rfl 11 (by decide +kernel) (List.mem_of_getElem? (i := 8) rfl) rfl dX12_sendsFirst_54 ?_
  refine v_iload_n B dX12_sendsFirst_57 rfl rfl ?_
  have h39 := (F36 (q 11) _ (ym_11 Y) (by first | rfl | simp)).trans (h27)
  refine u_iald B Z (t0 := 0) (ym_11 Y) h39 rfl (by omega) e30 dX12_sendsFirst_58 ?_
  refine v_iadd B (v := iI (z29 + 6)) dX12_sendsFirst_59 ((iI_add _ _).trans (congrArg iI (by omega))) ?_
  refine u_callVi B Z hz (n := 7) (As := [.int (iI d), .ref (zs 4), .int (iI 0), .int (iI 5592405), .int (iI x2), .int (iI 0), .int (iI (z29 + 6))]) (rest := []) (c_M_sendsS l D K Z _ _ _ _ h q Y d 0 5592405 x2 0 (z29 + 6) z4 ⟨by omega, by omega⟩ ⟨by omega, by omega⟩ ⟨by omega, by omega⟩ ⟨by omega, by omega⟩ ⟨by omega, by omega⟩ ⟨by omega, by omega⟩ ⟨by omega, by omega⟩ σ32 G35 (Fld.mk h38 (j := 51) rfl (by omega) rfl)) gd_M_sendsFirst_M_sendsS_466 rfl rfl rfl (by decide +kernel) ⟨Nat.le_trans (by decide +kernel) hR.1, Nat.le_trans (by decide +kernel) hR.2⟩ Y.o (clsM G35.t) rfl rfl rfl rfl (Nat.le_of_ble_eq_true rfl) dX12_sendsFirst_60 ⟨Nat.zero_le _, Nat.zero_le _⟩ (fun v42 σ40 p41 => ?_)
  obtain ⟨G48, F49, z43, e44, r45, po46, po47⟩ := p41
  subst e44
  have F50 := F37.call F49 (by first | rfl | simp)
  obtain ⟨z51, z52, z53, z54, z55, h56, r57, r58, r59, r60, r61⟩ := G48.t.o
  have r62 : z54 = z4 + 1 := po47.use h56 (j := 51) rfl (by omega)
  obtain ⟨f63, h64, e65⟩ := ga_48 G48.t
  obtain ⟨z66, e67, r68⟩ := e65 (z43 : Int).toNat
  have r69 := po46.use h64 e67 (by omega)
  exact hend σ40 z43 _ _ G48 F50 ⟨by omega, by omega⟩ ⟨(At.mk h64 e67 (by omega) ⟨by omega, by omega⟩), (Fld.mk h56 (j := 51) rfl (by omega) (show z54 = P + 1 from by omega))⟩ dX12_sendsFirst_63
set_option maxRecDepth 100000 in
theorem c_M_sendsFirst (l : Launch) (D : va_G) (K : Nat → ClassId) {τ : Nat → Option Ty} {dom : List Nat} (Z : Sk τ dom) (zb zL : Nat) (zx : Nat → Int32) (zs : Nat → Nat) (h : Nat) (q : Nat → Nat) (Y : MS τ h q) (d : Int) (x2 : Int) (P : Int) (r_d : 0 ≤ d ∧ d ≤ 1) (r_x2 : -2147483648 ≤ x2 ∧ x2 ≤ 2147483647) (r_P : 0 ≤ P ∧ P ≤ 15) (σ0 : Nat → va_E) (G0 : GM K h q σ0) (hp : Fld σ0 h 12 51 (fun y => y = P)) : MZ l yX12_sendsFirst wp_M_sendsFirst ({ frames := 2, cells := 0, slots := 0, locals := 56 }) D (tysA K) [.ref h, .int (iI d), .int (iI x2)] (fd dom σ0) zb zL zx zs (Qi D (fun r σ' => GM K h q σ' ∧ Fr τ [(152, 0), (124, 0), (50, 0), (148, 0), (149, 0), (150, 0), (123, 0), (147, 0)] σ0 σ' ∧ ∃ z : Int, r = iI z ∧ (0 ≤ z ∧ z ≤ 15) ∧ (At σ' (q 48) z.toNat 9 40 ∧ Fld σ' h 12 51 (fun y => y = P + 1))) (fun σ' => fd dom σ')) 0 0 := by
  refine mz_of (cc := cX12_sendsFirst) (maxL := 3) (ret := (some .int)) (by decide +kernel) rfl (Nat.le_of_ble_eq_true rfl) ?_
  intro p e s m below meth c A B hr hlk _ hz
  exact b_M_sendsFirst ⟨Nat.le_refl _, Nat.le_refl _⟩ B Z hz h q Y d x2 P r_d r_x2 r_P σ0 G0 hp (fun σ' z lv pc G F hZ hP hd => v_iret B hr hlk σ' ⟨G, F, z, rfl, hZ, hP⟩ rfl (Nat.le_refl _) (Nat.le_refl _) hd)

def wp_M_begins : List Cond := .code yX12_begins cX12_begins 3 none :: (([.methodLink RX12 391 yX12_fresh, .instanceMethod yX12_fresh, .selects RX12 yX12_fresh yX12_fresh, .initialized RX12, .code yX12_fresh cX12_fresh 2 none, .fieldLink RX12 118 "LowEnergyModel" "channel" "[I", .fieldLink RX12 133 "LowEnergyModel" "reason" "[I", .fieldLink RX12 136 "LowEnergyModel" "ending" "[I", .fieldLink RX12 145 "LowEnergyModel" "hasGood" "[Z", .fieldLink RX12 149 "LowEnergyModel" "mapWaits" "[Z", .fieldLink RX12 182 "LowEnergyModel" "currentSort" "[I", .fieldLink RX12 185 "LowEnergyModel" "currentMany" "[I", .fieldLink RX12 188 "LowEnergyModel" "currentOp" "[I", .fieldLink RX12 191 "LowEnergyModel" "controls" "[I", .fieldLink RX12 224 "LowEnergyModel" "held" "[Z", .fieldLink RX12 227 "LowEnergyModel" "asked" "[Z", .fieldLink RX12 230 "LowEnergyModel" "hasFour" "[Z", .fieldLink RX12 233 "LowEnergyModel" "sealsOut" "[Z", .fieldLink RX12 236 "LowEnergyModel" "sealsIn" "[Z", .fieldLink RX12 194 "LowEnergyModel" "out" "[I", .fieldLink RX12 197 "LowEnergyModel" "opened" "[I", .fieldLink RX12 239 "LowEnergyModel" "isSecure" "[Z", .fieldLink RX12 242 "LowEnergyModel" "hasSession" "[Z", .fieldLink RX12 248 "LowEnergyModel" "toldVersion" "[Z", .fieldLink RX12 275 "LowEnergyModel" "messages" "[I", .fieldLink RX12 278 "LowEnergyModel" "taken" "[I", .fieldLink RX12 287 "LowEnergyModel" "begun" "[Z", .fieldLink RX12 296 "LowEnergyModel" "step" "[I", .fieldLink RX12 332 "LowEnergyModel" "mtu" "[I", .fieldLink RX12 338 "LowEnergyModel" "parts" "[I", .fieldLink RX12 362 "LowEnergyModel" "waits30" "[Z", .fieldLink RX12 365 "LowEnergyModel" "job" "[I", .fieldLink RX12 45 "LowEnergyModel" "state" "[I", .fieldLink RX12 121 "LowEnergyModel" "anchor" "[I", .fieldLink RX12 470 "LowEnergyModel" "t" "I", .fieldLink RX12 51 "LowEnergyModel" "interval" "[I", .fieldLink RX12 112 "LowEnergyModel" "event" "[I", .fieldLink RX12 115 "LowEnergyModel" "u" "[I", .fieldLink RX12 124 "LowEnergyModel" "sn" "[I", .fieldLink RX12 127 "LowEnergyModel" "nesn" "[I", .fieldLink RX12 130 "LowEnergyModel" "heardAt" "[I", .methodLink RX12 504 yX12_complete_, .instanceMethod yX12_complete_, .selects RX12 yX12_complete_ yX12_complete_, .code yX12_complete_ cX12_complete_ 6 none, .fieldLink RX12 10 "LowEnergyModel" "tape" "[B", .methodLink RX12 409 yX12_complete, .instanceMethod yX12_complete, .selects RX12 yX12_complete yX12_complete, .code yX12_complete cX12_complete 11 none, .fieldLink RX12 155 "LowEnergyModel" "kept" "[I", .fieldLink RX12 158 "LowEnergyModel" "keptMany" "[I", .methodLink RX12 404 Lib.Math.min.name, .static Lib.Math.min.name, .initialized "java/lang/Math", .code Lib.Math.min.name Lib.Math.min.code 2 (some .int), .fieldLink RX12 161 "LowEnergyModel" "notKept" "[I"] : List Cond) ++ (wsX120 ++ ([])))
theorem hi_M_begins_X12 : ∀ x ∈ u_ws RX12 TX12 123, x ∈ wp_M_begins := fun _ h => List.mem_cons_of_mem _ (List.mem_append_right _ (List.mem_append_left _ h))
set_option maxRecDepth 100000 in
theorem gd_M_begins_M_fresh_391 : GoodIn wp_M_begins (wsV RX12 391 RX12 yX12_fresh wp_M_fresh) := goodIn_app (goodIn_r _ [1, 2, 3, 4] rfl rfl) (goodIn_ca (goodIn_r _ [5, 6, 7, 8, 9, 10, 11, 12, 13, 14, 15, 16, 17, 18, 19, 20, 21, 22, 23, 24, 25, 26, 27, 28, 29, 30, 31, 32] rfl rfl) (goodIn_app (goodIn_cls hi_M_begins_X12 gw_X12) (goodIn_nil)))
set_option maxRecDepth 100000 in
theorem gd_M_begins_M_complete5_504 : GoodIn wp_M_begins (wsV RX12 504 RX12 yX12_complete_ wp_M_complete5) := goodIn_app (goodIn_r _ [42, 43, 44, 4] rfl rfl) (goodIn_ca (goodIn_r _ [45, 46, 47, 48, 49, 4, 50, 51, 52, 53, 54, 55, 56, 57] rfl rfl) (goodIn_app (goodIn_cls hi_M_begins_X12 gw_X12) (goodIn_nil)))
set_option maxHeartbeats 4000000 in
set_option maxRecDepth 100000 in
theorem b_M_begins {p : Program} {l : Launch} {e : Env} {R : Room} {s : State} {m : MethodId} {args : Array Value} {below : List Frame} {meth : Method} {c : Code} {D : va_G} {K : Nat → ClassId} {A : Nat → Prop} {Q : State → Prop} {τ : Nat → Option Ty} {dom : List Nat} {zb zL : Nat} {zx : Nat → Int32} {zs : Nat → Nat} (hR : 3 ≤ R.frames ∧ 70 ≤ R.locals) (B : Bx p s m args c cX12_begins 3 RX12 wp_M_begins D (tysA K) A) (Z : Sk τ dom) (hz : ZL zb zL zx zs A s s.heap) (h : Nat) (q : Nat → Nat) (Y : MS τ h q) (d : Int) (x2 : Int) (r_d : 0 ≤ d ∧ d ≤ 1) (r_x2 : 4 ≤ x2 ∧ x2 ≤ 5) (σ0 : Nat → va_E) (G0 : GM K h q σ0) (hH : AtH σ0 (q 15) (d : Int).toNat) (hend : ∀ (σ' : Nat → va_E) (lv : List (Nat × Value)) (pc : Nat), GM K h q σ' → Fr τ [(131, 0), (136, 0), (137, 0), (140, 0), (141, 0), (154, 0), (155, 0), (156, 0), (157, 0), (168, 0), (169, 0), (170, 0), (171, 0), (172, 0), (158, 0), (159, 0), (173, 0), (174, 0), (176, 0), (185, 0), (186, 0), (189, 0), (192, 0), (204, 0), (206, 0), (214, 0), (216, 0), (107, 0), (132, 0), (129, 0), (130, 0), (133, 0), (134, 0), (135, 0), (145, 0), (144, 0), (146, 0)] σ0 σ' → decode cX12_begins pc = .ok (.return_, 1) → V p l e R s m args below meth c 3 D A Q (0, 0) (fd dom σ') lv pc []) : V p l e R s m args below meth c 3 D A Q (0, 0) (fd dom σ0) [(0, .ref h), (1, .int (iI d)), (2, .int (iI x2))] 0 [] := by
  have F0 : Fr τ [(131, 0), (136, 0), (137, 0), (140, 0), (141, 0), (154, 0), (155, 0), (156, 0), (157, 0), (168, 0), (169, 0), (170, 0), (171, 0), (172, 0), (158, 0), (159, 0), (173, 0), (174, 0), (176, 0), (185, 0), (186, 0), (189, 0), (192, 0), (204, 0), (206, 0), (214, 0), (216, 0), (107, 0), (132, 0), (129, 0), (130, 0), (133, 0), (134, 0), (135, 0), (145, 0), (144, 0), (146, 0)] σ0 σ0 := Fr.rf
  obtain ⟨z1, z2, z3, z4, z5, h6, r7, r8, r9, r10, r11⟩ := G0.t.o
  obtain ⟨f12, h13⟩ := ga_15 G0.t
  have hb15 := hH _ _ _ h13
  refine v_aload_n B dX12_begins_0 rfl rfl ?_
  refine v_iload_n B dX12_begins_1 rfl rfl ?_
  refine u_callVv B Z hz (n := 1) (As := [.int (iI d)]) (rest := []) (c_M_fresh l D K Z _ _ _ _ h q Y d ⟨by omega, by omega⟩ σ0 G0) gd_M_begins_M_fresh_391 rfl rfl rfl (by decide +kernel) ⟨Nat.le_trans (by decide +kernel) hR.1, Nat.le_trans (by decide +kernel) hR.2⟩ Y.o (clsM G0.t) rfl rfl rfl rfl (Nat.le_of_ble_eq_true rfl) dX12_begins_2 ⟨Nat.zero_le _, Nat.zero_le _⟩ (fun σ16 p17 => ?_)
  obtain ⟨G19, F20⟩ := p17
  have F21 := F0.call F20 (by first | rfl | simp)
  refine v_aload_n B dX12_begins_5 rfl rfl ?_
  have h22 := (F20 h _ Y.o (by first | rfl | simp)).trans (h6)
  refine u_get B Z (C := RX12) (T := TX12) (N := 123) (ci := 12) hi_M_begins_X12 Y.o h22 rfl 7 (by decide +kernel) (List.mem_of_getElem? (i := 33) rfl) rfl dX12_begins_6 ?_
  refine v_iload_n B dX12_begins_9 rfl rfl ?_
  refine v_iload_n B dX12_begins_10 rfl rfl ?_
  obtain ⟨f23, h24, e25⟩ := ga_7 G19.t
  have h26 := (F20 (q 15) _ (ym_15 Y) (by first | rfl | simp)).trans (h13)
  have ra27 := G19.c _ _ _ _ _ _ h24 h26
  refine u_iast B Z (t0 := 0) (x := iI x2) (ym_7 Y) h24 rfl (by omega) dX12_begins_11 (fun σ28 h29 n30 => ?_)
  have e31 := el_upd (z := x2) e25 ⟨by omega, by omega⟩ (d : Int).toNat
  have F32 := F21.put (ym_7 Y) (by simp) n30
  have T33 := gp_7 Y G19.t ⟨_, h29, e31⟩ n30
  have R34 := (G19.a).kept (n30 _ (ne_ty (ym_85 Y) (ym_7 Y) (by decide))) (n30 _ (ne_ty (ym_86 Y) (ym_7 Y) (by decide))) (n30 _ (ne_ty (ym_84 Y) (ym_7 Y) (by decide)))
  have R35 := (G19.b).kept (n30 _ (ne_ty (ym_106 Y) (ym_7 Y) (by decide))) (n30 _ (ne_ty (ym_110 Y) (ym_7 Y) (by decide)))
  have R36 := (G19.d).kept (n30 _ (ne_ty (ym_41 Y) (ym_7 Y) (by decide))) (n30 _ (ne_ty (ym_16 Y) (ym_7 Y) (by decide)))
  have h37 := (n30 (q 15) (ne_ty (ym_15 Y) (ym_7 Y) (by decide))).trans (h26)
  have R38 : RelC q σ28 := RelC.mk h29 h37 (RC.set ra27 (d : Int).toNat (fun i hi => upd_n hi) (fun _ _ => rfl) (fun x e1 r1 hx => hb15))
  have G39 : GM K h q σ28 := ⟨T33, R34, R35, R38, R36⟩
  refine v_aload_n B dX12_begins_12 rfl rfl ?_
  have h40 := (n30 h (ne_ty Y.o (ym_7 Y) (by decide))).trans (h22)
  refine u_get B Z (C := RX12) (T := TX12) (N := 123) (ci := 12) hi_M_begins_X12 Y.o h40 rfl 32 (by decide +kernel) (List.mem_of_getElem? (i := 34) rfl) rfl dX12_begins_13 ?_
  refine v_iload_n B dX12_begins_16 rfl rfl ?_
  refine v_aload_n B dX12_begins_17 rfl rfl ?_
  refine u_get B Z (C := RX12) (T := TX12) (N := 123) (ci := 12) hi_M_begins_X12 Y.o h40 rfl 43 (by decide +kernel) (List.mem_of_getElem? (i := 35) rfl) rfl dX12_begins_18 ?_
  refine v_aload_n B dX12_begins_21 rfl rfl ?_
  refine u_get B Z (C := RX12) (T := TX12) (N := 123) (ci := 12) hi_M_begins_X12 Y.o h40 rfl 9 (by decide +kernel) (List.mem_of_getElem? (i := 36) rfl) rfl dX12_begins_22 ?_
  refine v_iload_n B dX12_begins_25 rfl rfl ?_
  obtain ⟨f41, h42, e43⟩ := ga_9 G39.t
  obtain ⟨z44, e45, r46⟩ := e43 (d : Int).toNat
  refine u_iald B Z (t0 := 0) (ym_9 Y) h42 rfl (by omega) e45 dX12_begins_26 ?_
  obtain ⟨z47, e48, r49⟩ := iI_any (iI z3 + iI z44)
  refine v_iadd B (v := iI z47) dX12_begins_27 e48 ?_
  obtain ⟨f50, h51, e52⟩ := ga_32 G39.t
  refine u_iast B Z (t0 := 0) (x := iI z47) (ym_32 Y) h51 rfl (by omega) dX12_begins_28 (fun σ53 h54 n55 => ?_)
  have e56 := el_upd (z := z47) e52 ⟨by omega, by omega⟩ (d : Int).toNat
  have F57 := F32.put (ym_32 Y) (by simp) n55
  have G58 := gp_32 Y G39 ⟨_, h54, e56⟩ n55
  refine v_aload_n B dX12_begins_29 rfl rfl ?_
  have h59 := (n55 h (ne_ty Y.o (ym_32 Y) (by decide))).trans (h40)
  refine u_get B Z (C := RX12) (T := TX12) (N := 123) (ci := 12) hi_M_begins_X12 Y.o h59 rfl 29 (by decide +kernel) (List.mem_of_getElem? (i := 37) rfl) rfl dX12_begins_30 ?_
  refine v_iload_n B dX12_begins_33 rfl rfl ?_
  refine v_iconst B (v := iI 0) dX12_begins_34 rfl ?_
  obtain ⟨f60, h61, e62⟩ := ga_29 G58.t
  refine u_iast B Z (t0 := 0) (x := iI 0) (ym_29 Y) h61 rfl (by omega) dX12_begins_35 (fun σ63 h64 n65 => ?_)
  have e66 := el_upd (z := 0) e62 ⟨by omega, by omega⟩ (d : Int).toNat
  have F67 := F57.put (ym_29 Y) (by simp) n65
  have G68 := gp_29 Y G58 ⟨_, h64, e66⟩ n65
  refine v_aload_n B dX12_begins_36 rfl rfl ?_
  have h69 := (n65 h (ne_ty Y.o (ym_29 Y) (by decide))).trans (h59)
  refine u_get B Z (C := RX12) (T := TX12) (N := 123) (ci := 12) hi_M_begins_X12 Y.o h69 rfl 30 (by decide +kernel) (List.mem_of_getElem? (i := 38) rfl) rfl dX12_begins_37 ?_
  refine v_iload_n B dX12_begins_40 rfl rfl ?_
  refine v_iconst B (v := iI 0) dX12_begins_41 rfl ?_
  obtain ⟨f70, h71, e72⟩ := ga_30 G68.t
  refine u_iast B Z (t0 := 0) (x := iI 0) (ym_30 Y) h71 rfl (by omega) dX12_begins_42 (fun σ73 h74 n75 => ?_)
  have e76 := el_upd (z := 0) e72 ⟨by omega, by omega⟩ (d : Int).toNat
  have F77 := F67.put (ym_30 Y) (by simp) n75
  have G78 := gp_30 Y G68 ⟨_, h74, e76⟩ n75
  refine v_aload_n B dX12_begins_43 rfl rfl ?_
  have h79 := (n75 h (ne_ty Y.o (ym_30 Y) (by decide))).trans (h69)
  refine u_get B Z (C := RX12) (T := TX12) (N := 123) (ci := 12) hi_M_begins_X12 Y.o h79 rfl 33 (by decide +kernel) (List.mem_of_getElem? (i := 39) rfl) rfl dX12_begins_44 ?_
  refine v_iload_n B dX12_begins_47 rfl rfl ?_
  refine v_iconst B (v := iI 0) dX12_begins_48 rfl ?_
  obtain ⟨f80, h81, e82⟩ := ga_33 G78.t
  refine u_iast B Z (t0 := 0) (x := iI 0) (ym_33 Y) h81 rfl (by omega) dX12_begins_49 (fun σ83 h84 n85 => ?_)
  have e86 := el_upd (z := 0) e82 ⟨by omega, by omega⟩ (d : Int).toNat
  have F87 := F77.put (ym_33 Y) (by simp) n85
  have G88 := gp_33 Y G78 ⟨_, h84, e86⟩ n85
  refine v_aload_n B dX12_begins_50 rfl rfl ?_
  have h89 := (n85 h (ne_ty Y.o (ym_33 Y) (by decide))).trans (h79)
  refine u_get B Z (C := RX12) (T := TX12) (N := 123) (ci := 12) hi_M_begins_X12 Y.o h89 rfl 34 (by decide +kernel) (List.mem_of_getElem? (i := 40) rfl) rfl dX12_begins_51 ?_
  refine v_iload_n B dX12_begins_54 rfl rfl ?_
  refine v_iconst B (v := iI 0) dX12_begins_55 rfl ?_
  obtain ⟨f90, h91, e92⟩ := ga_34 G88.t
  refine u_iast B Z (t0 := 0) (x := iI 0) (ym_34 Y) h91 rfl (by omega) dX12_begins_56 (fun σ93 h94 n95 => ?_)
  have e96 := el_upd (z := 0) e92 ⟨by omega, by omega⟩ (d : Int).toNat
  have F97 := F87.put (ym_34 Y) (by simp) n95
  have G98 := gp_34 Y G88 ⟨_, h94, e96⟩ n95
  refine v_aload_n B dX12_begins_57 rfl rfl ?_
  have h99 := (n95 h (ne_ty Y.o (ym_34 Y) (by decide))).trans (h89)
  refine u_get B Z (C := RX12) (T := TX12) (N := 123) (ci := 12) hi_M_begins_X12 Y.o h99 rfl 35 (by decide +kernel) (List.mem_of_getElem? (i := 41) rfl) rfl dX12_begins_58 ?_
  refine v_iload_n B dX12_begins_61 rfl rfl ?_
  refine v_aload_n B dX12_begins_62 rfl rfl ?_
  refine u_get B Z (C := RX12) (T := TX12) (N := 123) (ci := 12) hi_M_begins_X12 Y.o h99 rfl 43 (by decide +kernel) (List.mem_of_getElem? (i := 35) rfl) rfl dX12_begins_63 ?_
  obtain ⟨f100, h101, e102⟩ := ga_35 G98.t
  refine u_iast B Z (t0 := 0) (x := iI z3) (ym_35 Y) h101 rfl (by omega) dX12_begins_66 (fun σ103 h104 n105 => ?_)
  have e106 := el_upd (z := z3) e102 ⟨by omega, by omega⟩ (d : Int).toNat
  have F107 := F97.put (ym_35 Y) (by simp) n105
  have G108 := gp_35 Y G98 ⟨_, h104, e106⟩ n105
  refine v_aload_n B dX12_begins_67 rfl rfl ?_
  refine v_iload_n B dX12_begins_68 rfl rfl ?_
  refine v_iconst B (v := iI 0) dX12_begins_69 rfl ?_
  refine v_iload_n B dX12_begins_70 rfl rfl ?_
  refine v_iconst B (v := iI 0) dX12_begins_71 rfl ?_
  refine v_iconst B (v := iI 0) dX12_begins_72 rfl ?_
  refine u_callVv B Z hz (n := 5) (As := [.int (iI d), .int (iI 0), .int (iI x2), .int (iI 0), .int (iI 0)]) (rest := []) (c_M_complete5 l D K Z _ _ _ _ h q Y d 0 x2 0 0 ⟨by omega, by omega⟩ ⟨by omega, by omega⟩ ⟨by omega, by omega⟩ ⟨by omega, by omega⟩ ⟨by omega, by omega⟩ σ103 G108) gd_M_begins_M_complete5_504 rfl rfl rfl (by decide +kernel) ⟨Nat.le_trans (by decide +kernel) hR.1, Nat.le_trans (by decide +kernel) hR.2⟩ Y.o (clsM G108.t) rfl rfl rfl rfl (Nat.le_of_ble_eq_true rfl) dX12_begins_73 ⟨Nat.zero_le _, Nat.zero_le _⟩ (fun σ109 p110 => ?_)
  obtain ⟨G112, F113⟩ := p110
  have F114 := F107.call F113 (by first | rfl | simp)
  exact hend σ109 _ _ G112 F114 dX12_begins_76
set_option maxRecDepth 100000 in
theorem c_M_begins (l : Launch) (D : va_G) (K : Nat → ClassId) {τ : Nat → Option Ty} {dom : List Nat} (Z : Sk τ dom) (zb zL : Nat) (zx : Nat → Int32) (zs : Nat → Nat) (h : Nat) (q : Nat → Nat) (Y : MS τ h q) (d : Int) (x2 : Int) (r_d : 0 ≤ d ∧ d ≤ 1) (r_x2 : 4 ≤ x2 ∧ x2 ≤ 5) (σ0 : Nat → va_E) (G0 : GM K h q σ0) (hH : AtH σ0 (q 15) (d : Int).toNat) : MZ l yX12_begins wp_M_begins ({ frames := 3, cells := 0, slots := 0, locals := 70 }) D (tysA K) [.ref h, .int (iI d), .int (iI x2)] (fd dom σ0) zb zL zx zs (Qv D (fun σ' => GM K h q σ' ∧ Fr τ [(131, 0), (136, 0), (137, 0), (140, 0), (141, 0), (154, 0), (155, 0), (156, 0), (157, 0), (168, 0), (169, 0), (170, 0), (171, 0), (172, 0), (158, 0), (159, 0), (173, 0), (174, 0), (176, 0), (185, 0), (186, 0), (189, 0), (192, 0), (204, 0), (206, 0), (214, 0), (216, 0), (107, 0), (132, 0), (129, 0), (130, 0), (133, 0), (134, 0), (135, 0), (145, 0), (144, 0), (146, 0)] σ0 σ') (fun σ' => fd dom σ')) 0 0 := by
  refine mz_of (cc := cX12_begins) (maxL := 3) (ret := none) (by decide +kernel) rfl (Nat.le_of_ble_eq_true rfl) ?_
  intro p e s m below meth c A B hr hlk _ hz
  exact b_M_begins ⟨Nat.le_refl _, Nat.le_refl _⟩ B Z hz h q Y d x2 r_d r_x2 σ0 G0 hH (fun σ' lv pc G F hd => v_vret B hr hlk σ' ⟨G, F⟩ rfl (Nat.le_refl _) (Nat.le_refl _) hd)

def wp_M_looks : List Cond := .code yX12_looks cX12_looks 4 none :: (([.fieldLink RX12 133 "LowEnergyModel" "reason" "[I", .fieldLink RX12 45 "LowEnergyModel" "state" "[I", .methodLink RX12 391 yX12_fresh, .instanceMethod yX12_fresh, .selects RX12 yX12_fresh yX12_fresh, .initialized RX12, .code yX12_fresh cX12_fresh 2 none, .fieldLink RX12 118 "LowEnergyModel" "channel" "[I", .fieldLink RX12 136 "LowEnergyModel" "ending" "[I", .fieldLink RX12 145 "LowEnergyModel" "hasGood" "[Z", .fieldLink RX12 149 "LowEnergyModel" "mapWaits" "[Z", .fieldLink RX12 182 "LowEnergyModel" "currentSort" "[I", .fieldLink RX12 185 "LowEnergyModel" "currentMany" "[I", .fieldLink RX12 188 "LowEnergyModel" "currentOp" "[I", .fieldLink RX12 191 "LowEnergyModel" "controls" "[I", .fieldLink RX12 224 "LowEnergyModel" "held" "[Z", .fieldLink RX12 227 "LowEnergyModel" "asked" "[Z", .fieldLink RX12 230 "LowEnergyModel" "hasFour" "[Z", .fieldLink RX12 233 "LowEnergyModel" "sealsOut" "[Z", .fieldLink RX12 236 "LowEnergyModel" "sealsIn" "[Z", .fieldLink RX12 194 "LowEnergyModel" "out" "[I", .fieldLink RX12 197 "LowEnergyModel" "opened" "[I", .fieldLink RX12 239 "LowEnergyModel" "isSecure" "[Z", .fieldLink RX12 242 "LowEnergyModel" "hasSession" "[Z", .fieldLink RX12 248 "LowEnergyModel" "toldVersion" "[Z", .fieldLink RX12 275 "LowEnergyModel" "messages" "[I", .fieldLink RX12 278 "LowEnergyModel" "taken" "[I", .fieldLink RX12 287 "LowEnergyModel" "begun" "[Z", .fieldLink RX12 296 "LowEnergyModel" "step" "[I", .fieldLink RX12 332 "LowEnergyModel" "mtu" "[I", .fieldLink RX12 338 "LowEnergyModel" "parts" "[I", .fieldLink RX12 362 "LowEnergyModel" "waits30" "[Z", .fieldLink RX12 365 "LowEnergyModel" "job" "[I", .methodLink RX12 504 yX12_complete_, .instanceMethod yX12_complete_, .selects RX12 yX12_complete_ yX12_complete_, .code yX12_complete_ cX12_complete_ 6 none, .fieldLink RX12 10 "LowEnergyModel" "tape" "[B", .methodLink RX12 409 yX12_complete, .instanceMethod yX12_complete, .selects RX12 yX12_complete yX12_complete, .code yX12_complete cX12_complete 11 none, .fieldLink RX12 155 "LowEnergyModel" "kept" "[I", .fieldLink RX12 158 "LowEnergyModel" "keptMany" "[I", .methodLink RX12 404 Lib.Math.min.name, .static Lib.Math.min.name, .initialized "java/lang/Math", .code Lib.Math.min.name Lib.Math.min.code 2 (some .int), .fieldLink RX12 161 "LowEnergyModel" "notKept" "[I", .fieldLink RX12 103 "LowEnergyModel" "timeout" "[I", .methodLink RX12 459 yX12_reasons, .instanceMethod yX12_reasons, .selects RX12 yX12_reasons yX12_reasons, .code yX12_reasons cX12_reasons 3 none, .fieldLink RX12 470 "LowEnergyModel" "t" "I", .fieldLink RX12 130 "LowEnergyModel" "heardAt" "[I", .fieldLink RX12 51 "LowEnergyModel" "interval" "[I"] : List Cond) ++ (wsX120 ++ ([])))
theorem hi_M_looks_X12 : ∀ x ∈ u_ws RX12 TX12 123, x ∈ wp_M_looks := fun _ h => List.mem_cons_of_mem _ (List.mem_append_right _ (List.mem_append_left _ h))
set_option maxRecDepth 100000 in
theorem gd_M_looks_M_fresh_391 : GoodIn wp_M_looks (wsV RX12 391 RX12 yX12_fresh wp_M_fresh) := goodIn_app (goodIn_r _ [3, 4, 5, 6] rfl rfl) (goodIn_ca (goodIn_r _ [7, 8, 1, 9, 10, 11, 12, 13, 14, 15, 16, 17, 18, 19, 20, 21, 22, 23, 24, 25, 26, 27, 28, 29, 30, 31, 32, 33] rfl rfl) (goodIn_app (goodIn_cls hi_M_looks_X12 gw_X12) (goodIn_nil)))
set_option maxRecDepth 100000 in
theorem gd_M_looks_M_complete5_504 : GoodIn wp_M_looks (wsV RX12 504 RX12 yX12_complete_ wp_M_complete5) := goodIn_app (goodIn_r _ [34, 35, 36, 6] rfl rfl) (goodIn_ca (goodIn_r _ [37, 38, 39, 40, 41, 6, 42, 43, 44, 45, 46, 47, 48, 49] rfl rfl) (goodIn_app (goodIn_cls hi_M_looks_X12 gw_X12) (goodIn_nil)))
set_option maxRecDepth 100000 in
theorem gd_M_looks_M_reasons_459 : GoodIn wp_M_looks (wsV RX12 459 RX12 yX12_reasons wp_M_reasons) := goodIn_app (goodIn_r _ [51, 52, 53, 6] rfl rfl) (goodIn_ca (goodIn_r _ [54, 1] rfl rfl) (goodIn_app (goodIn_cls hi_M_looks_X12 gw_X12) (goodIn_nil)))
set_option maxHeartbeats 4000000 in
set_option maxRecDepth 100000 in
theorem b_M_looks {p : Program} {l : Launch} {e : Env} {R : Room} {s : State} {m : MethodId} {args : Array Value} {below : List Frame} {meth : Method} {c : Code} {D : va_G} {K : Nat → ClassId} {A : Nat → Prop} {Q : State → Prop} {τ : Nat → Option Ty} {dom : List Nat} {zb zL : Nat} {zx : Nat → Int32} {zs : Nat → Nat} (hR : 3 ≤ R.frames ∧ 70 ≤ R.locals) (B : Bx p s m args c cX12_looks 4 RX12 wp_M_looks D (tysA K) A) (Z : Sk τ dom) (hz : ZL zb zL zx zs A s s.heap) (h : Nat) (q : Nat → Nat) (Y : MS τ h q) (d : Int) (r_d : 0 ≤ d ∧ d ≤ 1) (σ0 : Nat → va_E) (G0 : GM K h q σ0) (hend : ∀ (σ' : Nat → va_E) (lv : List (Nat × Value)) (pc : Nat), GM K h q σ' → Fr τ [(136, 0), (107, 0), (131, 0), (137, 0), (140, 0), (141, 0), (154, 0), (155, 0), (156, 0), (157, 0), (168, 0), (169, 0), (170, 0), (171, 0), (172, 0), (158, 0), (159, 0), (173, 0), (174, 0), (176, 0), (185, 0), (186, 0), (189, 0), (192, 0), (204, 0), (206, 0), (214, 0), (216, 0), (145, 0), (144, 0), (146, 0)] σ0 σ' → decode cX12_looks pc = .ok (.return_, 1) → V p l e R s m args below meth c 4 D A Q (0, 0) (fd dom σ') lv pc []) : V p l e R s m args below meth c 4 D A Q (0, 0) (fd dom σ0) [(0, .ref h), (1, .int (iI d))] 0 [] := by
  have F0 : Fr τ [(136, 0), (107, 0), (131, 0), (137, 0), (140, 0), (141, 0), (154, 0), (155, 0), (156, 0), (157, 0), (168, 0), (169, 0), (170, 0), (171, 0), (172, 0), (158, 0), (159, 0), (173, 0), (174, 0), (176, 0), (185, 0), (186, 0), (189, 0), (192, 0), (204, 0), (206, 0), (214, 0), (216, 0), (145, 0), (144, 0), (146, 0)] σ0 σ0 := Fr.rf
  obtain ⟨z1, z2, z3, z4, z5, h6, r7, r8, r9, r10, r11⟩ := G0.t.o
  have J67 : ∀ (σ_67 : Nat → va_E), GM K h q σ_67 → Fr τ [(136, 0), (107, 0), (131, 0), (137, 0), (140, 0), (141, 0), (154, 0), (155, 0), (156, 0), (157, 0), (168, 0), (169, 0), (170, 0), (171, 0), (172, 0), (158, 0), (159, 0), (173, 0), (174, 0), (176, 0), (185, 0), (186, 0), (189, 0), (192, 0), (204, 0), (206, 0), (214, 0), (216, 0), (145, 0), (144, 0), (146, 0)] σ0 σ_67 → (σ_67 h = .inr (12, fsM q (iI z1) (iI z2) (iI z3) (iI z4) (iI z5))) → V p l e R s m args below meth c 4 D A Q (0, 0) (fd dom σ_67) [(0, .ref h), (1, .int (iI d))] 67 [] := by
    intro σ_67 G_67 F_67 hc67_h
    refine v_aload_n B dX12_looks_67 rfl rfl ?_
    refine u_get B Z (C := RX12) (T := TX12) (N := 123) (ci := 12) hi_M_looks_X12 Y.o hc67_h rfl 36 (by decide +kernel) (List.mem_of_getElem? (i := 1) rfl) rfl dX12_looks_68 ?_
    refine v_iload_n B dX12_looks_71 rfl rfl ?_
    obtain ⟨f12, h13, e14⟩ := ga_36 G_67.t
    obtain ⟨z15, e16, r17⟩ := e14 (d : Int).toNat
    refine u_iald B Z (t0 := 0) (ym_36 Y) h13 rfl (by omega) e16 dX12_looks_72 ?_
    refine v_iconst B (v := iI (-1)) dX12_looks_73 rfl ?_
    refine u_icmp_ne B (tgt := 78) (by omega) (by omega) dX12_looks_74 (by decide +kernel) (fun c18 => ?_) (fun c18 => ?_)
    · refine v_aload_n B dX12_looks_78 rfl rfl ?_
      refine u_get B Z (C := RX12) (T := TX12) (N := 123) (ci := 12) hi_M_looks_X12 Y.o hc67_h rfl 36 (by decide +kernel) (List.mem_of_getElem? (i := 1) rfl) rfl dX12_looks_79 ?_
      refine v_iload_n B dX12_looks_82 rfl rfl ?_
      refine u_iald B Z (t0 := 0) (ym_36 Y) h13 rfl (by omega) e16 dX12_looks_83 ?_
      refine v_istore_n B (lv' := [(3, .int (iI z15)), (0, .ref h), (1, .int (iI d))]) dX12_looks_84 rfl (by decide +kernel) rfl ?_
      refine v_aload_n B dX12_looks_85 rfl rfl ?_
      refine u_get B Z (C := RX12) (T := TX12) (N := 123) (ci := 12) hi_M_looks_X12 Y.o hc67_h rfl 7 (by decide +kernel) (List.mem_of_getElem? (i := 2) rfl) rfl dX12_looks_86 ?_
      refine v_iload_n B dX12_looks_89 rfl rfl ?_
      refine v_iconst B (v := iI 0) dX12_looks_90 rfl ?_
      obtain ⟨f19, h20, e21⟩ := ga_7 G_67.t
      obtain ⟨f22, h23⟩ := ga_15 G_67.t
      have ra25 := G_67.c _ _ _ _ _ _ h20 h23
      refine u_iast B Z (t0 := 0) (x := iI 0) (ym_7 Y) h20 rfl (by omega) dX12_looks_91 (fun σ26 h27 n28 => ?_)
      have e29 := el_upd (z := 0) e21 ⟨by omega, by omega⟩ (d : Int).toNat
      have F30 := F_67.put (ym_7 Y) (by simp) n28
      have T31 := gp_7 Y G_67.t ⟨_, h27, e29⟩ n28
      have R32 := (G_67.a).kept (n28 _ (ne_ty (ym_85 Y) (ym_7 Y) (by decide))) (n28 _ (ne_ty (ym_86 Y) (ym_7 Y) (by decide))) (n28 _ (ne_ty (ym_84 Y) (ym_7 Y) (by decide)))
      have R33 := (G_67.b).kept (n28 _ (ne_ty (ym_106 Y) (ym_7 Y) (by decide))) (n28 _ (ne_ty (ym_110 Y) (ym_7 Y) (by decide)))
      have R34 := (G_67.d).kept (n28 _ (ne_ty (ym_41 Y) (ym_7 Y) (by decide))) (n28 _ (ne_ty (ym_16 Y) (ym_7 Y) (by decide)))
      have h35 := (n28 (q 15) (ne_ty (ym_15 Y) (ym_7 Y) (by decide))).trans (h23)
      have R36 : RelC q σ26 := RelC.mk h27 h35 (RC.set ra25 (d : Int).toNat (fun i hi => upd_n hi) (fun _ _ => rfl) (fun x e1 r1 hx => by have a1 : 0 = x := (iI_eq (by omega) r1).mp ((upd_s).symm.trans e1); omega))
      have G37 : GM K h q σ26 := ⟨T31, R32, R33, R36, R34⟩
      refine v_aload_n B dX12_looks_92 rfl rfl ?_
      refine v_iload_n B dX12_looks_93 rfl rfl ?_
      refine u_callVv B Z hz (n := 1) (As := [.int (iI d)]) (rest := []) (c_M_fresh l D K Z _ _ _ _ h q Y d ⟨by omega, by omega⟩ σ26 G37) gd_M_looks_M_fresh_391 rfl rfl rfl (by decide +kernel) ⟨Nat.le_trans (by decide +kernel) hR.1, Nat.le_trans (by decide +kernel) hR.2⟩ Y.o (clsM G37.t) rfl rfl rfl rfl (Nat.le_of_ble_eq_true rfl) dX12_looks_94 ⟨Nat.zero_le _, Nat.zero_le _⟩ (fun σ38 p39 => ?_)
      obtain ⟨G41, F42⟩ := p39
      have F43 := F30.call F42 (by first | rfl | simp)
      refine v_aload_n B dX12_looks_97 rfl rfl ?_
      refine v_iload_n B dX12_looks_98 rfl rfl ?_
      refine v_bipush B (v := iI 7) dX12_looks_99 (by decide +kernel) ?_
      refine v_iload_n B dX12_looks_101 rfl rfl ?_
      refine v_iconst B (v := iI 0) dX12_looks_102 rfl ?_
      refine v_iconst B (v := iI 0) dX12_looks_103 rfl ?_
      refine u_callVv B Z hz (n := 5) (As := [.int (iI d), .int (iI 7), .int (iI z15), .int (iI 0), .int (iI 0)]) (rest := []) (c_M_complete5 l D K Z _ _ _ _ h q Y d 7 z15 0 0 ⟨by omega, by omega⟩ ⟨by omega, by omega⟩ ⟨by omega, by omega⟩ ⟨by omega, by omega⟩ ⟨by omega, by omega⟩ σ38 G41) gd_M_looks_M_complete5_504 rfl rfl rfl (by decide +kernel) ⟨Nat.le_trans (by decide +kernel) hR.1, Nat.le_trans (by decide +kernel) hR.2⟩ Y.o (clsM G41.t) rfl rfl rfl rfl (Nat.le_of_ble_eq_true rfl) dX12_looks_104 ⟨Nat.zero_le _, Nat.zero_le _⟩ (fun σ44 p45 => ?_)
      obtain ⟨G47, F48⟩ := p45
      have F49 := F43.call F48 (by first | rfl | simp)
      exact hend σ44 _ _ G47 F49 dX12_looks_107
    · exact hend σ_67 _ _ G_67 F_67 dX12_looks_77
  have J41 : ∀ (σ_41 : Nat → va_E) (z41_2 : Int), GM K h q σ_41 → Fr τ [(136, 0), (107, 0), (131, 0), (137, 0), (140, 0), (141, 0), (154, 0), (155, 0), (156, 0), (157, 0), (168, 0), (169, 0), (170, 0), (171, 0), (172, 0), (158, 0), (159, 0), (173, 0), (174, 0), (176, 0), (185, 0), (186, 0), (189, 0), (192, 0), (204, 0), (206, 0), (214, 0), (216, 0), (145, 0), (144, 0), (146, 0)] σ0 σ_41 → (σ_41 h = .inr (12, fsM q (iI z1) (iI z2) (iI z3) (iI z4) (iI z5))) → (-2147483648 ≤ z41_2 ∧ z41_2 ≤ 2147483647) → V p l e R s m args below meth c 4 D A Q (0, 0) (fd dom σ_41) [(0, .ref h), (1, .int (iI d)), (2, .int (iI z41_2))] 41 [] := by
    intro σ_41 z41_2 G_41 F_41 hc41_h r41_2
    refine v_aload_n B dX12_looks_41 rfl rfl ?_
    refine u_get B Z (C := RX12) (T := TX12) (N := 123) (ci := 12) hi_M_looks_X12 Y.o hc41_h rfl 40 (by decide +kernel) (List.mem_of_getElem? (i := 10) rfl) rfl dX12_looks_42 ?_
    refine v_iload_n B dX12_looks_45 rfl rfl ?_
    obtain ⟨f50, h51, e52⟩ := ga_40 G_41.t
    obtain ⟨z53, e54, r55⟩ := e52 (d : Int).toNat
    refine u_zald B Z (t0 := 3) (ym_40 Y) h51 rfl (by omega) e54 dX12_looks_46 ?_
    refine u_if_eq B (tgt := 67) (by omega) dX12_looks_47 (by decide +kernel) (fun c56 => ?_) (fun c56 => ?_)
    · refine v_lv [0, 1] rfl ?_
      exact J67 σ_41 G_41 F_41 hc41_h
    · refine v_iload_n B dX12_looks_50 rfl rfl ?_
      refine v_aload_n B dX12_looks_51 rfl rfl ?_
      refine u_get B Z (C := RX12) (T := TX12) (N := 123) (ci := 12) hi_M_looks_X12 Y.o hc41_h rfl 26 (by decide +kernel) (List.mem_of_getElem? (i := 50) rfl) rfl dX12_looks_52 ?_
      refine v_iload_n B dX12_looks_55 rfl rfl ?_
      obtain ⟨f57, h58, e59⟩ := ga_26 G_41.t
      obtain ⟨z60, e61, r62⟩ := e59 (d : Int).toNat
      refine u_iald B Z (t0 := 0) (ym_26 Y) h58 rfl (by omega) e61 dX12_looks_56 ?_
      refine u_icmp_lt B (tgt := 67) (by omega) (by omega) dX12_looks_57 (by decide +kernel) (fun c63 => ?_) (fun c63 => ?_)
      · refine v_lv [0, 1] rfl ?_
        exact J67 σ_41 G_41 F_41 hc41_h
      · refine v_aload_n B dX12_looks_60 rfl rfl ?_
        refine v_iload_n B dX12_looks_61 rfl rfl ?_
        refine v_bipush B (v := iI 8) dX12_looks_62 (by decide +kernel) ?_
        refine u_callVv B Z hz (n := 2) (As := [.int (iI d), .int (iI 8)]) (rest := []) (c_M_reasons l D K Z _ _ _ _ h q Y d 8 ⟨by omega, by omega⟩ ⟨by omega, by omega⟩ σ_41 G_41) gd_M_looks_M_reasons_459 rfl rfl rfl (by decide +kernel) ⟨Nat.le_trans (by decide +kernel) hR.1, Nat.le_trans (by decide +kernel) hR.2⟩ Y.o (clsM G_41.t) rfl rfl rfl rfl (Nat.le_of_ble_eq_true rfl) dX12_looks_64 ⟨Nat.zero_le _, Nat.zero_le _⟩ (fun σ64 p65 => ?_)
        obtain ⟨G67, F68⟩ := p65
        have F69 := F_41.call F68 (by first | rfl | simp)
        refine v_lv [0, 1] rfl ?_
        have h70 := (F68 h _ Y.o (by first | rfl | simp)).trans (hc41_h)
        exact J67 σ64 G67 F69 h70
  refine v_aload_n B dX12_looks_0 rfl rfl ?_
  refine u_get B Z (C := RX12) (T := TX12) (N := 123) (ci := 12) hi_M_looks_X12 Y.o h6 rfl 43 (by decide +kernel) (List.mem_of_getElem? (i := 55) rfl) rfl dX12_looks_1 ?_
  refine v_aload_n B dX12_looks_4 rfl rfl ?_
  refine u_get B Z (C := RX12) (T := TX12) (N := 123) (ci := 12) hi_M_looks_X12 Y.o h6 rfl 35 (by decide +kernel) (List.mem_of_getElem? (i := 56) rfl) rfl dX12_looks_5 ?_
  refine v_iload_n B dX12_looks_8 rfl rfl ?_
  obtain ⟨f71, h72, e73⟩ := ga_35 G0.t
  obtain ⟨z74, e75, r76⟩ := e73 (d : Int).toNat
  refine u_iald B Z (t0 := 0) (ym_35 Y) h72 rfl (by omega) e75 dX12_looks_9 ?_
  obtain ⟨z77, e78, r79⟩ := iI_any (iI z3 - iI z74)
  refine v_isub B (v := iI z77) dX12_looks_10 e78 ?_
  refine v_istore_n B (lv' := [(2, .int (iI z77)), (0, .ref h), (1, .int (iI d))]) dX12_looks_11 rfl (by decide +kernel) rfl ?_
  refine v_aload_n B dX12_looks_12 rfl rfl ?_
  refine u_get B Z (C := RX12) (T := TX12) (N := 123) (ci := 12) hi_M_looks_X12 Y.o h6 rfl 40 (by decide +kernel) (List.mem_of_getElem? (i := 10) rfl) rfl dX12_looks_13 ?_
  refine v_iload_n B dX12_looks_16 rfl rfl ?_
  obtain ⟨f80, h81, e82⟩ := ga_40 G0.t
  obtain ⟨z83, e84, r85⟩ := e82 (d : Int).toNat
  refine u_zald B Z (t0 := 3) (ym_40 Y) h81 rfl (by omega) e84 dX12_looks_17 ?_
  refine u_if_ne B (tgt := 41) (by omega) dX12_looks_18 (by decide +kernel) (fun c86 => ?_) (fun c86 => ?_)
  · refine v_lv [1, 2, 0] rfl ?_
    exact J41 σ0 z77 G0 F0 h6 ⟨by omega, by omega⟩
  · refine v_iload_n B dX12_looks_21 rfl rfl ?_
    refine v_bipush B (v := iI 6) dX12_looks_22 (by decide +kernel) ?_
    refine v_aload_n B dX12_looks_24 rfl rfl ?_
    refine u_get B Z (C := RX12) (T := TX12) (N := 123) (ci := 12) hi_M_looks_X12 Y.o h6 rfl 9 (by decide +kernel) (List.mem_of_getElem? (i := 57) rfl) rfl dX12_looks_25 ?_
    refine v_iload_n B dX12_looks_28 rfl rfl ?_
    obtain ⟨f87, h88, e89⟩ := ga_9 G0.t
    obtain ⟨z90, e91, r92⟩ := e89 (d : Int).toNat
    refine u_iald B Z (t0 := 0) (ym_9 Y) h88 rfl (by omega) e91 dX12_looks_29 ?_
    obtain ⟨z93, e94, r95⟩ := iI_any (iI 6 * iI z90)
    refine v_imul B (v := iI z93) dX12_looks_30 e94 ?_
    refine u_icmp_lt B (tgt := 41) (by omega) (by omega) dX12_looks_31 (by decide +kernel) (fun c96 => ?_) (fun c96 => ?_)
    · refine v_lv [1, 2, 0] rfl ?_
      exact J41 σ0 z77 G0 F0 h6 ⟨by omega, by omega⟩
    · refine v_aload_n B dX12_looks_34 rfl rfl ?_
      refine v_iload_n B dX12_looks_35 rfl rfl ?_
      refine v_bipush B (v := iI 62) dX12_looks_36 (by decide +kernel) ?_
      refine u_callVv B Z hz (n := 2) (As := [.int (iI d), .int (iI 62)]) (rest := []) (c_M_reasons l D K Z _ _ _ _ h q Y d 62 ⟨by omega, by omega⟩ ⟨by omega, by omega⟩ σ0 G0) gd_M_looks_M_reasons_459 rfl rfl rfl (by decide +kernel) ⟨Nat.le_trans (by decide +kernel) hR.1, Nat.le_trans (by decide +kernel) hR.2⟩ Y.o (clsM G0.t) rfl rfl rfl rfl (Nat.le_of_ble_eq_true rfl) dX12_looks_38 ⟨Nat.zero_le _, Nat.zero_le _⟩ (fun σ97 p98 => ?_)
      obtain ⟨G100, F101⟩ := p98
      have F102 := F0.call F101 (by first | rfl | simp)
      refine v_lv [1, 2, 0] rfl ?_
      have h103 := (F101 h _ Y.o (by first | rfl | simp)).trans (h6)
      exact J41 σ97 z77 G100 F102 h103 ⟨by omega, by omega⟩
set_option maxRecDepth 100000 in
theorem c_M_looks (l : Launch) (D : va_G) (K : Nat → ClassId) {τ : Nat → Option Ty} {dom : List Nat} (Z : Sk τ dom) (zb zL : Nat) (zx : Nat → Int32) (zs : Nat → Nat) (h : Nat) (q : Nat → Nat) (Y : MS τ h q) (d : Int) (r_d : 0 ≤ d ∧ d ≤ 1) (σ0 : Nat → va_E) (G0 : GM K h q σ0) : MZ l yX12_looks wp_M_looks ({ frames := 3, cells := 0, slots := 0, locals := 70 }) D (tysA K) [.ref h, .int (iI d)] (fd dom σ0) zb zL zx zs (Qv D (fun σ' => GM K h q σ' ∧ Fr τ [(136, 0), (107, 0), (131, 0), (137, 0), (140, 0), (141, 0), (154, 0), (155, 0), (156, 0), (157, 0), (168, 0), (169, 0), (170, 0), (171, 0), (172, 0), (158, 0), (159, 0), (173, 0), (174, 0), (176, 0), (185, 0), (186, 0), (189, 0), (192, 0), (204, 0), (206, 0), (214, 0), (216, 0), (145, 0), (144, 0), (146, 0)] σ0 σ') (fun σ' => fd dom σ')) 0 0 := by
  refine mz_of (cc := cX12_looks) (maxL := 4) (ret := none) (by decide +kernel) rfl (Nat.le_of_ble_eq_true rfl) ?_
  intro p e s m below meth c A B hr hlk _ hz
  exact b_M_looks ⟨Nat.le_refl _, Nat.le_refl _⟩ B Z hz h q Y d r_d σ0 G0 (fun σ' lv pc G F hd => v_vret B hr hlk σ' ⟨G, F⟩ rfl (Nat.le_refl _) (Nat.le_refl _) hd)

def wp_M_hops : List Cond := .code yX12_hops cX12_hops 4 none :: (([.fieldLink RX12 70 "LowEnergyModel" "map" "[J", .fieldLink RX12 118 "LowEnergyModel" "channel" "[I", .fieldLink RX12 115 "LowEnergyModel" "u" "[I", .fieldLink RX12 106 "LowEnergyModel" "hop" "[I", .methodLink RX12 398 yJ13_bitCount_95d88, .static yJ13_bitCount_95d88, .initialized RJ13, .code yJ13_bitCount_95d88 cJ13_bitCount_95d88 2 (some .int), .constantLong RJ13 314 (6148914691236517205), .constantLong RJ13 316 (3689348814741910323), .constantLong RJ13 318 (1085102592571150095), .fieldLink RX12 149 "LowEnergyModel" "mapWaits" "[Z", .fieldLink RX12 112 "LowEnergyModel" "event" "[I", .fieldLink RX12 139 "LowEnergyModel" "instant" "[I", .fieldLink RX12 73 "LowEnergyModel" "newMap" "[J"] : List Cond) ++ (wsX120 ++ ([])))
theorem hi_M_hops_X12 : ∀ x ∈ u_ws RX12 TX12 123, x ∈ wp_M_hops := fun _ h => List.mem_cons_of_mem _ (List.mem_append_right _ (List.mem_append_left _ h))
set_option maxRecDepth 100000 in
theorem gd_M_hops_MbitCount_398 : GoodIn wp_M_hops (va_wsS RX12 398 yJ13_bitCount_95d88 wp_MbitCount) := goodIn_app (goodIn_r _ [5, 6, 7] rfl rfl) (goodIn_ca (goodIn_r _ [8, 9, 10, 11] rfl rfl) (goodIn_nil))
set_option maxHeartbeats 4000000 in
set_option maxRecDepth 100000 in
theorem b_M_hops {p : Program} {l : Launch} {e : Env} {R : Room} {s : State} {m : MethodId} {args : Array Value} {below : List Frame} {meth : Method} {c : Code} {D : va_G} {K : Nat → ClassId} {A : Nat → Prop} {Q : State → Prop} {τ : Nat → Option Ty} {dom : List Nat} {zb zL : Nat} {zx : Nat → Int32} {zs : Nat → Nat} (hR : 1 ≤ R.frames ∧ 21 ≤ R.locals) (B : Bx p s m args c cX12_hops 4 RX12 wp_M_hops D (tysA K) A) (Z : Sk τ dom) (hz : ZL zb zL zx zs A s s.heap) (h : Nat) (q : Nat → Nat) (Y : MS τ h q) (d : Int) (r_d : 0 ≤ d ∧ d ≤ 1) (σ0 : Nat → va_E) (G0 : GM K h q σ0) (hS : At σ0 (q 7) (d : Int).toNat (3) (5)) (hend : ∀ (σ' : Nat → va_E) (lv : List (Nat × Value)) (pc : Nat), GM K h q σ' → Fr τ [(115, 0), (141, 0), (130, 0), (131, 0)] σ0 σ' → decode cX12_hops pc = .ok (.return_, 1) → V p l e R s m args below meth c 4 D A Q (0, 0) (fd dom σ') lv pc []) : V p l e R s m args below meth c 4 D A Q (0, 0) (fd dom σ0) [(0, .ref h), (1, .int (iI d))] 0 [] := by
  have F0 : Fr τ [(115, 0), (141, 0), (130, 0), (131, 0)] σ0 σ0 := Fr.rf
  obtain ⟨z1, z2, z3, z4, z5, h6, r7, r8, r9, r10, r11⟩ := G0.t.o
  obtain ⟨f12, h13, e14⟩ := ga_7 G0.t
  obtain ⟨z15, e16, r17⟩ := e14 (d : Int).toNat
  have r18 := hS.use h13 e16 (by omega)
  have J117 : ∀ (k117 : Nat) (σ_117 : Nat → va_E) (z117_2 : Int) (z117_3 : Int) (b0_117 : Int), (64 * z117_2 + (b0_117 - z117_3) % 64 + 1).toNat ≤ k117 → GM K h q σ_117 → Fr τ [(115, 0), (141, 0), (130, 0), (131, 0)] σ0 σ_117 → (σ_117 (q 7) = .inl (K 0, 2, .inl f12)) → (σ_117 h = .inr (12, fsM q (iI z1) (iI z2) (iI z3) (iI z4) (iI z5))) → (0 ≤ z117_2 ∧ z117_2 ≤ 126) → (0 ≤ z117_3 ∧ z117_3 ≤ 8127) → (0 ≤ b0_117 ∧ b0_117 ≤ 63) → ((z117_3 + 64 * z117_2 + (b0_117 - z117_3) % 64 ≤ 8127) ∧ AtB σ_117 (q 15) (d : Int).toNat b0_117) → V p l e R s m args below meth c 4 D A Q (0, 0) (fd dom σ_117) [(0, .ref h), (1, .int (iI d)), (2, .int (iI z117_2)), (3, .int (iI z117_3))] 117 [] := by
    intro k117
    induction k117 with
    | zero => intro σ_117 z117_2 z117_3 b0_117 m117 G_117 F_117 hc117_q7 hc117_h r117_2 r117_3 rc117_b0 i117; omega
    | succ k117 IH117 =>
      intro σ_117 z117_2 z117_3 b0_117 m117 G_117 F_117 hc117_q7 hc117_h r117_2 r117_3 rc117_b0 i117
      obtain ⟨f19, h20⟩ := ga_15 G_117.t
      have hb22 := i117.2 _ _ _ h20
      obtain ⟨yy23, e24, r25⟩ := lI_any (f19 (d : Int).toNat)
      have hb26 : bitA (lI yy23) b0_117 := e24 ▸ hb22
      have r27 := i117.1
      refine v_aload_n B dX12_hops_117 rfl rfl ?_
      refine u_get B Z (C := RX12) (T := TX12) (N := 123) (ci := 12) hi_M_hops_X12 Y.o hc117_h rfl 15 (by decide +kernel) (List.mem_of_getElem? (i := 1) rfl) rfl dX12_hops_118 ?_
      refine v_iload_n B dX12_hops_121 rfl rfl ?_
      refine u_lald B Z (t0 := 1) (ym_15 Y) h20 rfl (by omega) e24 dX12_hops_122 ?_
      refine v_iload_n B dX12_hops_123 rfl rfl ?_
      obtain ⟨yy28, e29, r30⟩ := lI_any (lI yy23 >>> ((iI z117_3).toInt64 &&& 63))
      refine v_lshr B (v := lI yy28) dX12_hops_124 e29 ?_
      refine v_lconst B (v := lI 1) dX12_hops_125 (by decide +kernel) ?_
      obtain ⟨yy31, e32, r33⟩ := lI_and yy28 (c := 1) (by decide) (by decide)
      refine v_land B (v := lI yy31) dX12_hops_126 e32 ?_
      have r34 : z117_3 % 64 = b0_117 → yy31 = 1 := hop_bit (by omega) hb26 e29 e32 r33
      refine v_lconst B (v := lI 0) dX12_hops_127 (by decide +kernel) ?_
      obtain ⟨z35, e36, r37, r38⟩ := lcmp_z (a := yy31) (b := 0) (by omega) (by omega)
      refine v_lcmp B (v := iI z35) dX12_hops_128 e36 ?_
      refine u_if_eq B (tgt := 136) (by omega) dX12_hops_129 (by decide +kernel) (fun c39 => ?_) (fun c39 => ?_)
      · refine v_iload_n B dX12_hops_136 rfl rfl ?_
        refine v_aload_n B dX12_hops_137 rfl rfl ?_
        refine u_get B Z (C := RX12) (T := TX12) (N := 123) (ci := 12) hi_M_hops_X12 Y.o hc117_h rfl 15 (by decide +kernel) (List.mem_of_getElem? (i := 1) rfl) rfl dX12_hops_138 ?_
        refine v_iload_n B dX12_hops_141 rfl rfl ?_
        refine u_lald B Z (t0 := 1) (ym_15 Y) h20 rfl (by omega) e24 dX12_hops_142 ?_
        refine v_iload_n B dX12_hops_143 rfl rfl ?_
        refine v_lshr B (v := lI yy28) dX12_hops_144 e29 ?_
        refine v_lconst B (v := lI 1) dX12_hops_145 (by decide +kernel) ?_
        refine v_land B (v := lI yy31) dX12_hops_146 e32 ?_
        refine v_lconst B (v := lI 1) dX12_hops_147 (by decide +kernel) ?_
        obtain ⟨z40, e41, r42, r43⟩ := lcmp_z (a := yy31) (b := 1) (by omega) (by omega)
        refine v_lcmp B (v := iI z40) dX12_hops_148 e41 ?_
        refine u_if_ne B (tgt := 156) (by omega) dX12_hops_149 (by decide +kernel) (fun c44 => ?_) (fun c44 => ?_)
        · refine v_iconst B (v := iI 0) dX12_hops_156 rfl ?_
          refine v_isub B (v := iI z117_2) dX12_hops_157 ((iI_sub _ _).trans (congrArg iI (by omega))) ?_
          refine v_istore_n B (lv' := [(2, .int (iI z117_2)), (0, .ref h), (1, .int (iI d)), (3, .int (iI z117_3))]) dX12_hops_158 rfl (by decide +kernel) rfl ?_
          refine v_iinc B (k := 3) (v := iI (z117_3 + 1)) (lv' := [(3, .int (iI (z117_3 + 1))), (2, .int (iI z117_2)), (0, .ref h), (1, .int (iI d))]) dX12_hops_159 rfl ((iI_add _ _).trans (congrArg iI (by omega))) (by decide +kernel) rfl ?_
          refine v_goto B (tgt := 117) dX12_hops_162 (by decide +kernel) ?_
          refine v_lv [2, 3, 1, 0] rfl ?_
          exact IH117 σ_117 z117_2 (z117_3 + 1) b0_117 (by omega) G_117 F_117 hc117_q7 hc117_h ⟨by omega, by omega⟩ ⟨by omega, by omega⟩ ⟨by omega, by omega⟩ (⟨by omega, AtB.mk h20 hb22⟩)
        · omega
      · refine v_iload_n B dX12_hops_132 rfl rfl ?_
        refine u_if_le B (tgt := 165) (by omega) dX12_hops_133 (by decide +kernel) (fun c45 => ?_) (fun c45 => ?_)
        · refine v_aload_n B dX12_hops_165 rfl rfl ?_
          refine u_get B Z (C := RX12) (T := TX12) (N := 123) (ci := 12) hi_M_hops_X12 Y.o hc117_h rfl 31 (by decide +kernel) (List.mem_of_getElem? (i := 2) rfl) rfl dX12_hops_166 ?_
          refine v_iload_n B dX12_hops_169 rfl rfl ?_
          refine v_iload_n B dX12_hops_170 rfl rfl ?_
          obtain ⟨f46, h47, e48⟩ := ga_31 G_117.t
          refine u_iast B Z (t0 := 0) (x := iI z117_3) (ym_31 Y) h47 rfl (by omega) dX12_hops_171 (fun σ49 h50 n51 => ?_)
          have e52 := el_upd (z := z117_3) e48 ⟨by omega, by omega⟩ (d : Int).toNat
          have F53 := F_117.put (ym_31 Y) (by simp) n51
          have G54 := gp_31 Y G_117 ⟨_, h50, e52⟩ n51
          exact hend σ49 _ _ G54 F53 dX12_hops_172
        · refine v_iload_n B dX12_hops_136 rfl rfl ?_
          refine v_aload_n B dX12_hops_137 rfl rfl ?_
          refine u_get B Z (C := RX12) (T := TX12) (N := 123) (ci := 12) hi_M_hops_X12 Y.o hc117_h rfl 15 (by decide +kernel) (List.mem_of_getElem? (i := 1) rfl) rfl dX12_hops_138 ?_
          refine v_iload_n B dX12_hops_141 rfl rfl ?_
          refine u_lald B Z (t0 := 1) (ym_15 Y) h20 rfl (by omega) e24 dX12_hops_142 ?_
          refine v_iload_n B dX12_hops_143 rfl rfl ?_
          refine v_lshr B (v := lI yy28) dX12_hops_144 e29 ?_
          refine v_lconst B (v := lI 1) dX12_hops_145 (by decide +kernel) ?_
          refine v_land B (v := lI yy31) dX12_hops_146 e32 ?_
          refine v_lconst B (v := lI 1) dX12_hops_147 (by decide +kernel) ?_
          obtain ⟨z55, e56, r57, r58⟩ := lcmp_z (a := yy31) (b := 1) (by omega) (by omega)
          refine v_lcmp B (v := iI z55) dX12_hops_148 e56 ?_
          refine u_if_ne B (tgt := 156) (by omega) dX12_hops_149 (by decide +kernel) (fun c59 => ?_) (fun c59 => ?_)
          · omega
          · refine v_iconst B (v := iI 1) dX12_hops_152 rfl ?_
            refine v_goto B (tgt := 157) dX12_hops_153 (by decide +kernel) ?_
            refine v_isub B (v := iI (z117_2 + (-1))) dX12_hops_157 ((iI_sub _ _).trans (congrArg iI (by omega))) ?_
            refine v_istore_n B (lv' := [(2, .int (iI (z117_2 + (-1)))), (0, .ref h), (1, .int (iI d)), (3, .int (iI z117_3))]) dX12_hops_158 rfl (by decide +kernel) rfl ?_
            refine v_iinc B (k := 3) (v := iI (z117_3 + 1)) (lv' := [(3, .int (iI (z117_3 + 1))), (2, .int (iI (z117_2 + (-1)))), (0, .ref h), (1, .int (iI d))]) dX12_hops_159 rfl ((iI_add _ _).trans (congrArg iI (by omega))) (by decide +kernel) rfl ?_
            refine v_goto B (tgt := 117) dX12_hops_162 (by decide +kernel) ?_
            refine v_lv [2, 3, 1, 0] rfl ?_
            exact IH117 σ_117 (z117_2 + (-1)) (z117_3 + 1) b0_117 (by omega) G_117 F_117 hc117_q7 hc117_h ⟨by omega, by omega⟩ ⟨by omega, by omega⟩ ⟨by omega, by omega⟩ (⟨by omega, AtB.mk h20 hb22⟩)
  have J43 : ∀ (σ_43 : Nat → va_E), GM K h q σ_43 → Fr τ [(115, 0), (141, 0), (130, 0), (131, 0)] σ0 σ_43 → (σ_43 (q 7) = .inl (K 0, 2, .inl f12)) → (σ_43 h = .inr (12, fsM q (iI z1) (iI z2) (iI z3) (iI z4) (iI z5))) → V p l e R s m args below meth c 4 D A Q (0, 0) (fd dom σ_43) [(0, .ref h), (1, .int (iI d))] 43 [] := by
    intro σ_43 G_43 F_43 hc43_q7 hc43_h
    obtain ⟨f60, h61⟩ := ga_15 G_43.t
    have ra63 := G_43.c _ _ _ _ _ _ hc43_q7 h61
    have hb64 : hb (f60 (d : Int).toNat) := ra63 (d : Int).toNat (by omega) z15 e16 (by omega) (by omega)
    refine v_aload_n B dX12_hops_43 rfl rfl ?_
    refine u_get B Z (C := RX12) (T := TX12) (N := 123) (ci := 12) hi_M_hops_X12 Y.o hc43_h rfl 30 (by decide +kernel) (List.mem_of_getElem? (i := 3) rfl) rfl dX12_hops_44 ?_
    refine v_iload_n B dX12_hops_47 rfl rfl ?_
    refine v_aload_n B dX12_hops_48 rfl rfl ?_
    refine u_get B Z (C := RX12) (T := TX12) (N := 123) (ci := 12) hi_M_hops_X12 Y.o hc43_h rfl 30 (by decide +kernel) (List.mem_of_getElem? (i := 3) rfl) rfl dX12_hops_49 ?_
    refine v_iload_n B dX12_hops_52 rfl rfl ?_
    obtain ⟨f65, h66, e67⟩ := ga_30 G_43.t
    obtain ⟨z68, e69, r70⟩ := e67 (d : Int).toNat
    refine u_iald B Z (t0 := 0) (ym_30 Y) h66 rfl (by omega) e69 dX12_hops_53 ?_
    refine v_aload_n B dX12_hops_54 rfl rfl ?_
    refine u_get B Z (C := RX12) (T := TX12) (N := 123) (ci := 12) hi_M_hops_X12 Y.o hc43_h rfl 27 (by decide +kernel) (List.mem_of_getElem? (i := 4) rfl) rfl dX12_hops_55 ?_
    refine v_iload_n B dX12_hops_58 rfl rfl ?_
    obtain ⟨f71, h72, e73⟩ := ga_27 G_43.t
    obtain ⟨z74, e75, r76⟩ := e73 (d : Int).toNat
    refine u_iald B Z (t0 := 0) (ym_27 Y) h72 rfl (by omega) e75 dX12_hops_59 ?_
    refine v_iadd B (v := iI (z68 + z74)) dX12_hops_60 ((iI_add _ _).trans (congrArg iI (by omega))) ?_
    refine v_bipush B (v := iI 37) dX12_hops_61 (by decide +kernel) ?_
    obtain ⟨z77, e78⟩ : ∃ z : Int, z = (z68 + z74) % 37 := ⟨_, rfl⟩
    refine v_irem B (v := iI z77) dX12_hops_63 (fun q => absurd ((iI_eq (a := 37) (b := 0) (by omega) (by omega)).mp q) (by omega)) ((iI_rem (a := (z68 + z74)) (b := 37) (by omega) (by omega)).trans (congrArg iI e78.symm)) ?_
    refine u_iast B Z (t0 := 0) (x := iI z77) (ym_30 Y) h66 rfl (by omega) dX12_hops_64 (fun σ79 h80 n81 => ?_)
    have e82 := el_upd (z := z77) e67 ⟨by omega, by omega⟩ (d : Int).toNat
    have F83 := F_43.put (ym_30 Y) (by simp) n81
    have G84 := gp_30 Y G_43 ⟨_, h80, e82⟩ n81
    refine v_aload_n B dX12_hops_65 rfl rfl ?_
    have h85 := (n81 h (ne_ty Y.o (ym_30 Y) (by decide))).trans (hc43_h)
    refine u_get B Z (C := RX12) (T := TX12) (N := 123) (ci := 12) hi_M_hops_X12 Y.o h85 rfl 31 (by decide +kernel) (List.mem_of_getElem? (i := 2) rfl) rfl dX12_hops_66 ?_
    refine v_iload_n B dX12_hops_69 rfl rfl ?_
    refine v_aload_n B dX12_hops_70 rfl rfl ?_
    refine u_get B Z (C := RX12) (T := TX12) (N := 123) (ci := 12) hi_M_hops_X12 Y.o h85 rfl 30 (by decide +kernel) (List.mem_of_getElem? (i := 3) rfl) rfl dX12_hops_71 ?_
    refine v_iload_n B dX12_hops_74 rfl rfl ?_
    refine u_iald B Z (t0 := 0) (ym_30 Y) h80 rfl (by omega) upd_s dX12_hops_75 ?_
    obtain ⟨f86, h87, e88⟩ := ga_31 G84.t
    refine u_iast B Z (t0 := 0) (x := iI z77) (ym_31 Y) h87 rfl (by omega) dX12_hops_76 (fun σ89 h90 n91 => ?_)
    have e92 := el_upd (z := z77) e88 ⟨by omega, by omega⟩ (d : Int).toNat
    have F93 := F83.put (ym_31 Y) (by simp) n91
    have G94 := gp_31 Y G84 ⟨_, h90, e92⟩ n91
    refine v_aload_n B dX12_hops_77 rfl rfl ?_
    have h95 := (n91 h (ne_ty Y.o (ym_31 Y) (by decide))).trans (h85)
    refine u_get B Z (C := RX12) (T := TX12) (N := 123) (ci := 12) hi_M_hops_X12 Y.o h95 rfl 15 (by decide +kernel) (List.mem_of_getElem? (i := 1) rfl) rfl dX12_hops_78 ?_
    refine v_iload_n B dX12_hops_81 rfl rfl ?_
    have h96 := (n91 (q 15) (ne_ty (ym_15 Y) (ym_31 Y) (by decide))).trans ((n81 (q 15) (ne_ty (ym_15 Y) (ym_30 Y) (by decide))).trans (h61))
    obtain ⟨yy97, e98, r99⟩ := lI_any (f60 (d : Int).toNat)
    refine u_lald B Z (t0 := 1) (ym_15 Y) h96 rfl (by omega) e98 dX12_hops_82 ?_
    refine v_aload_n B dX12_hops_83 rfl rfl ?_
    refine u_get B Z (C := RX12) (T := TX12) (N := 123) (ci := 12) hi_M_hops_X12 Y.o h95 rfl 30 (by decide +kernel) (List.mem_of_getElem? (i := 3) rfl) rfl dX12_hops_84 ?_
    refine v_iload_n B dX12_hops_87 rfl rfl ?_
    have h100 := (n91 (q 30) (ne_ty (ym_30 Y) (ym_31 Y) (by decide))).trans (h80)
    refine u_iald B Z (t0 := 0) (ym_30 Y) h100 rfl (by omega) upd_s dX12_hops_88 ?_
    obtain ⟨yy101, e102, r103⟩ := lI_any (lI yy97 >>> ((iI z77).toInt64 &&& 63))
    refine v_lshr B (v := lI yy101) dX12_hops_89 e102 ?_
    refine v_lconst B (v := lI 1) dX12_hops_90 (by decide +kernel) ?_
    obtain ⟨yy104, e105, r106⟩ := lI_and yy101 (c := 1) (by decide) (by decide)
    refine v_land B (v := lI yy104) dX12_hops_91 e105 ?_
    refine v_lconst B (v := lI 1) dX12_hops_92 (by decide +kernel) ?_
    obtain ⟨z107, e108, r109, r110⟩ := lcmp_z (a := yy104) (b := 1) (by omega) (by omega)
    refine v_lcmp B (v := iI z107) dX12_hops_93 e108 ?_
    refine u_if_ne B (tgt := 98) (by omega) dX12_hops_94 (by decide +kernel) (fun c111 => ?_) (fun c111 => ?_)
    · refine v_aload_n B dX12_hops_98 rfl rfl ?_
      refine u_get B Z (C := RX12) (T := TX12) (N := 123) (ci := 12) hi_M_hops_X12 Y.o h95 rfl 30 (by decide +kernel) (List.mem_of_getElem? (i := 3) rfl) rfl dX12_hops_99 ?_
      refine v_iload_n B dX12_hops_102 rfl rfl ?_
      refine u_iald B Z (t0 := 0) (ym_30 Y) h100 rfl (by omega) upd_s dX12_hops_103 ?_
      refine v_aload_n B dX12_hops_104 rfl rfl ?_
      refine u_get B Z (C := RX12) (T := TX12) (N := 123) (ci := 12) hi_M_hops_X12 Y.o h95 rfl 15 (by decide +kernel) (List.mem_of_getElem? (i := 1) rfl) rfl dX12_hops_105 ?_
      refine v_iload_n B dX12_hops_108 rfl rfl ?_
      refine u_lald B Z (t0 := 1) (ym_15 Y) h96 rfl (by omega) e98 dX12_hops_109 ?_
      refine u_callSi B Z hz (n := 1) (As := [.long (lI yy97)]) (rest := [.int (iI z77)]) (c_MbitCount l D K Z _ _ _ _ h q Y yy97 ⟨by omega, by omega⟩ σ89 (G94.t)) gd_M_hops_MbitCount_398 rfl rfl rfl (by decide +kernel) ⟨Nat.le_trans (by decide +kernel) hR.1, Nat.le_trans (by decide +kernel) hR.2⟩ rfl rfl (Nat.le_of_ble_eq_true rfl) dX12_hops_110 ⟨Nat.zero_le _, Nat.zero_le _⟩ (fun v114 σ112 p113 => ?_)
      obtain ⟨rfl, z115, e116, r117, po118⟩ := p113
      subst e116
      have r119 : 1 ≤ z115 := by have h9 := hb64; rw [e98] at h9; unfold hb at h9; rw [← po118, iI_toInt (by omega)] at h9; exact h9
      obtain ⟨z120, e121⟩ : ∃ z : Int, z = z77 % z115 := ⟨_, rfl⟩
      have r122 : 0 ≤ z120 := e121 ▸ Int.emod_nonneg _ (by omega)
      have r123 : z120 < z115 := e121 ▸ Int.emod_lt_of_pos _ (by omega)
      refine v_irem B (v := iI z120) dX12_hops_113 (fun q => absurd ((iI_eq (a := z115) (b := 0) (by omega) (by omega)).mp q) (by omega)) ((iI_rem (a := z77) (b := z115) (by omega) (by omega)).trans (congrArg iI e121.symm)) ?_
      refine v_istore_n B (lv' := [(2, .int (iI z120)), (0, .ref h), (1, .int (iI d))]) dX12_hops_114 rfl (by decide +kernel) rfl ?_
      obtain ⟨b124, r125, hb126⟩ := hb_bit hb64
      refine v_iconst B (v := iI 0) dX12_hops_115 rfl ?_
      refine v_istore_n B (lv' := [(3, .int (iI 0)), (2, .int (iI z120)), (0, .ref h), (1, .int (iI d))]) dX12_hops_116 rfl (by decide +kernel) rfl ?_
      refine v_lv [2, 3, 1, 0] rfl ?_
      have h127 := (n91 (q 7) (ne_ty (ym_7 Y) (ym_31 Y) (by decide))).trans ((n81 (q 7) (ne_ty (ym_7 Y) (ym_30 Y) (by decide))).trans (hc43_q7))
      exact J117 _ σ89 z120 0 b124 (Nat.le_refl _) G94 F93 h127 h95 ⟨by omega, by omega⟩ ⟨by omega, by omega⟩ ⟨by omega, by omega⟩ (⟨by omega, AtB.mk h96 hb126⟩)
    · exact hend σ89 _ _ G94 F93 dX12_hops_97
  refine v_aload_n B dX12_hops_0 rfl rfl ?_
  refine u_get B Z (C := RX12) (T := TX12) (N := 123) (ci := 12) hi_M_hops_X12 Y.o h6 rfl 41 (by decide +kernel) (List.mem_of_getElem? (i := 12) rfl) rfl dX12_hops_1 ?_
  refine v_iload_n B dX12_hops_4 rfl rfl ?_
  obtain ⟨f128, h129, e130⟩ := ga_41 G0.t
  obtain ⟨z131, e132, r133⟩ := e130 (d : Int).toNat
  refine u_zald B Z (t0 := 3) (ym_41 Y) h129 rfl (by omega) e132 dX12_hops_5 ?_
  refine u_if_eq B (tgt := 43) (by omega) dX12_hops_6 (by decide +kernel) (fun c134 => ?_) (fun c134 => ?_)
  · exact J43 σ0 G0 F0 h13 h6
  · refine v_aload_n B dX12_hops_9 rfl rfl ?_
    refine u_get B Z (C := RX12) (T := TX12) (N := 123) (ci := 12) hi_M_hops_X12 Y.o h6 rfl 29 (by decide +kernel) (List.mem_of_getElem? (i := 13) rfl) rfl dX12_hops_10 ?_
    refine v_iload_n B dX12_hops_13 rfl rfl ?_
    obtain ⟨f135, h136, e137⟩ := ga_29 G0.t
    obtain ⟨z138, e139, r140⟩ := e137 (d : Int).toNat
    refine u_iald B Z (t0 := 0) (ym_29 Y) h136 rfl (by omega) e139 dX12_hops_14 ?_
    refine v_aload_n B dX12_hops_15 rfl rfl ?_
    refine u_get B Z (C := RX12) (T := TX12) (N := 123) (ci := 12) hi_M_hops_X12 Y.o h6 rfl 38 (by decide +kernel) (List.mem_of_getElem? (i := 14) rfl) rfl dX12_hops_16 ?_
    refine v_iload_n B dX12_hops_19 rfl rfl ?_
    obtain ⟨f141, h142, e143⟩ := ga_38 G0.t
    obtain ⟨z144, e145, r146⟩ := e143 (d : Int).toNat
    refine u_iald B Z (t0 := 0) (ym_38 Y) h142 rfl (by omega) e145 dX12_hops_20 ?_
    refine u_icmp_ne B (tgt := 43) (by omega) (by omega) dX12_hops_21 (by decide +kernel) (fun c147 => ?_) (fun c147 => ?_)
    · exact J43 σ0 G0 F0 h13 h6
    · obtain ⟨f148, h149⟩ := ga_16 G0.t
      have ra151 := G0.d _ _ _ _ _ _ h129 h149
      have hb152 : hb (f148 (d : Int).toNat) := ra151 (d : Int).toNat (by omega) z131 e132 (by omega) (by omega)
      refine v_aload_n B dX12_hops_24 rfl rfl ?_
      refine u_get B Z (C := RX12) (T := TX12) (N := 123) (ci := 12) hi_M_hops_X12 Y.o h6 rfl 15 (by decide +kernel) (List.mem_of_getElem? (i := 1) rfl) rfl dX12_hops_25 ?_
      refine v_iload_n B dX12_hops_28 rfl rfl ?_
      refine v_aload_n B dX12_hops_29 rfl rfl ?_
      refine u_get B Z (C := RX12) (T := TX12) (N := 123) (ci := 12) hi_M_hops_X12 Y.o h6 rfl 16 (by decide +kernel) (List.mem_of_getElem? (i := 15) rfl) rfl dX12_hops_30 ?_
      refine v_iload_n B dX12_hops_33 rfl rfl ?_
      obtain ⟨yy153, e154, r155⟩ := lI_any (f148 (d : Int).toNat)
      refine u_lald B Z (t0 := 1) (ym_16 Y) h149 rfl (by omega) e154 dX12_hops_34 ?_
      obtain ⟨f156, h157⟩ := ga_15 G0.t
      have ra159 := G0.c _ _ _ _ _ _ h13 h157
      refine u_last B Z (t0 := 1) (x := lI yy153) (ym_15 Y) h157 rfl (by omega) dX12_hops_35 (fun σ160 h161 n162 => ?_)
      have F163 := F0.put (ym_15 Y) (by simp) n162
      have T164 := gp_15 Y G0.t ⟨_, h161⟩ n162
      have R165 := (G0.a).kept (n162 _ (ne_ty (ym_85 Y) (ym_15 Y) (by decide))) (n162 _ (ne_ty (ym_86 Y) (ym_15 Y) (by decide))) (n162 _ (ne_ty (ym_84 Y) (ym_15 Y) (by decide)))
      have R166 := (G0.b).kept (n162 _ (ne_ty (ym_106 Y) (ym_15 Y) (by decide))) (n162 _ (ne_ty (ym_110 Y) (ym_15 Y) (by decide)))
      have R167 := (G0.d).kept (n162 _ (ne_ty (ym_41 Y) (ym_15 Y) (by decide))) (n162 _ (ne_ty (ym_16 Y) (ym_15 Y) (by decide)))
      have h168 := (n162 (q 7) (ne_ty (ym_7 Y) (ym_15 Y) (by decide))).trans (h13)
      have h169 := (n162 (q 16) (ne_ty (ym_16 Y) (ym_15 Y) (by decide))).trans (h149)
      have R170 : RelC q σ160 := RelC.mk h168 h161 (RC.set ra159 (d : Int).toNat (fun _ _ => rfl) (fun i hi => updL_n hi) (fun x e1 r1 hx => by rw [updL_s, ← e154]; exact hb152))
      have G171 : GM K h q σ160 := ⟨T164, R165, R166, R170, R167⟩
      refine v_aload_n B dX12_hops_36 rfl rfl ?_
      have h172 := (n162 h (ne_ty Y.o (ym_15 Y) (by decide))).trans (h6)
      refine u_get B Z (C := RX12) (T := TX12) (N := 123) (ci := 12) hi_M_hops_X12 Y.o h172 rfl 41 (by decide +kernel) (List.mem_of_getElem? (i := 12) rfl) rfl dX12_hops_37 ?_
      refine v_iload_n B dX12_hops_40 rfl rfl ?_
      refine v_iconst B (v := iI 0) dX12_hops_41 rfl ?_
      have h173 := (n162 (q 41) (ne_ty (ym_41 Y) (ym_15 Y) (by decide))).trans (h129)
      have ra174 := G171.d _ _ _ _ _ _ h173 h169
      refine u_zast B Z (t0 := 3) (x := iI 0) (y := iI 0) (ym_41 Y) h173 rfl (by omega) (narZ (by omega)) dX12_hops_42 (fun σ175 h176 n177 => ?_)
      have e178 := el_upd (z := 0) e130 ⟨by omega, by omega⟩ (d : Int).toNat
      have F179 := F163.put (ym_41 Y) (by simp) n177
      have T180 := gp_41 Y G171.t ⟨_, h176, e178⟩ n177
      have R181 := (G171.a).kept (n177 _ (ne_ty (ym_85 Y) (ym_41 Y) (by decide))) (n177 _ (ne_ty (ym_86 Y) (ym_41 Y) (by decide))) (n177 _ (ne_ty (ym_84 Y) (ym_41 Y) (by decide)))
      have R182 := (G171.b).kept (n177 _ (ne_ty (ym_106 Y) (ym_41 Y) (by decide))) (n177 _ (ne_ty (ym_110 Y) (ym_41 Y) (by decide)))
      have R183 := (G171.c).kept (n177 _ (ne_ty (ym_7 Y) (ym_41 Y) (by decide))) (n177 _ (ne_ty (ym_15 Y) (ym_41 Y) (by decide)))
      have h184 := (n177 (q 16) (ne_ty (ym_16 Y) (ym_41 Y) (by decide))).trans (h169)
      have R185 : RelD q σ175 := RelD.mk h176 h184 (RC.set ra174 (d : Int).toNat (fun i hi => upd_n hi) (fun _ _ => rfl) (fun x e1 r1 hx => by have a1 : 0 = x := (iI_eq (by omega) r1).mp ((upd_s).symm.trans e1); omega))
      have G186 : GM K h q σ175 := ⟨T180, R181, R182, R183, R185⟩
      have h187 := (n177 (q 7) (ne_ty (ym_7 Y) (ym_41 Y) (by decide))).trans (h168)
      have h188 := (n177 h (ne_ty Y.o (ym_41 Y) (by decide))).trans (h172)
      exact J43 σ175 G186 F179 h187 h188
set_option maxRecDepth 100000 in
theorem c_M_hops (l : Launch) (D : va_G) (K : Nat → ClassId) {τ : Nat → Option Ty} {dom : List Nat} (Z : Sk τ dom) (zb zL : Nat) (zx : Nat → Int32) (zs : Nat → Nat) (h : Nat) (q : Nat → Nat) (Y : MS τ h q) (d : Int) (r_d : 0 ≤ d ∧ d ≤ 1) (σ0 : Nat → va_E) (G0 : GM K h q σ0) (hS : At σ0 (q 7) (d : Int).toNat (3) (5)) : MZ l yX12_hops wp_M_hops ({ frames := 1, cells := 0, slots := 0, locals := 21 }) D (tysA K) [.ref h, .int (iI d)] (fd dom σ0) zb zL zx zs (Qv D (fun σ' => GM K h q σ' ∧ Fr τ [(115, 0), (141, 0), (130, 0), (131, 0)] σ0 σ') (fun σ' => fd dom σ')) 0 0 := by
  refine mz_of (cc := cX12_hops) (maxL := 4) (ret := none) (by decide +kernel) rfl (Nat.le_of_ble_eq_true rfl) ?_
  intro p e s m below meth c A B hr hlk _ hz
  exact b_M_hops ⟨Nat.le_refl _, Nat.le_refl _⟩ B Z hz h q Y d r_d σ0 G0 hS (fun σ' lv pc G F hd => v_vret B hr hlk σ' ⟨G, F⟩ rfl (Nat.le_refl _) (Nat.le_refl _) hd)
