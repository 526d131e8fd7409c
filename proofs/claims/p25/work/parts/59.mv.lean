def wp_M_asked : List Cond := .code yX12_asked cX12_asked 7 none :: (([.methodLink RX12 590 yX12_reads, .instanceMethod yX12_reads, .selects RX12 yX12_reads yX12_reads, .initialized RX12, .code yX12_reads cX12_reads 9 none, .methodLink RX12 564 yX12_error, .instanceMethod yX12_error, .selects RX12 yX12_error yX12_error, .code yX12_error cX12_error 5 none, .fieldLink RX12 290 "LowEnergyModel" "said" "[B", .methodLink RX12 432 yX12_number, .static yX12_number, .code yX12_number cX12_number 6 none, .methodLink RX12 527 yX12_says, .instanceMethod yX12_says, .selects RX12 yX12_says yX12_says, .code yX12_says cX12_says 5 none, .fieldLink RX12 275 "LowEnergyModel" "messages" "[I", .fieldLink RX12 266 "LowEnergyModel" "message" "[B", .methodLink RX12 29 yX12_copy, .static yX12_copy, .code yX12_copy cX12_copy 6 none, .fieldLink RX12 272 "LowEnergyModel" "messageMany" "[I", .fieldLink RX12 329 "LowEnergyModel" "length" "[I", .fieldLink RX12 332 "LowEnergyModel" "mtu" "[I", .methodLink RX12 404 Lib.Math.min.name, .static Lib.Math.min.name, .initialized "java/lang/Math", .code Lib.Math.min.name Lib.Math.min.code 2 (some .int), .fieldLink RX12 341 "LowEnergyModel" "values" "[B", .methodLink RX12 570 yX12_lacks, .instanceMethod yX12_lacks, .selects RX12 yX12_lacks yX12_lacks, .code yX12_lacks cX12_lacks 5 (some .int), .fieldLink RX12 326 "LowEnergyModel" "rights" "[I", .methodLink RX12 547 yX12_row, .instanceMethod yX12_row, .selects RX12 yX12_row yX12_row, .code yX12_row cX12_row 3 (some .int), .fieldLink RX12 239 "LowEnergyModel" "isSecure" "[Z", .methodLink RX12 567 yX12_isHandle, .instanceMethod yX12_isHandle, .selects RX12 yX12_isHandle yX12_isHandle, .code yX12_isHandle cX12_isHandle 3 (some .boolean), .fieldLink RX12 320 "LowEnergyModel" "attributes" "[I", .methodLink RX12 593 yX12_writing, .instanceMethod yX12_writing, .selects RX12 yX12_writing yX12_writing, .code yX12_writing cX12_writing 8 none, .fieldLink RX12 338 "LowEnergyModel" "parts" "[I", .fieldLink RX12 350 "LowEnergyModel" "partHandle" "[I", .fieldLink RX12 353 "LowEnergyModel" "partPlace" "[I", .fieldLink RX12 356 "LowEnergyModel" "partMany" "[I", .fieldLink RX12 293 "LowEnergyModel" "asks" "[B", .fieldLink RX12 344 "LowEnergyModel" "partBytes" "[B", .methodLink RX12 574 yX12_writes, .instanceMethod yX12_writes, .selects RX12 yX12_writes yX12_writes, .code yX12_writes cX12_writes 4 none, .methodLink RX12 587 yX12_executes, .instanceMethod yX12_executes, .selects RX12 yX12_executes yX12_executes, .code yX12_executes cX12_executes 9 none, .fieldLink RX12 359 "LowEnergyModel" "trialLength" "[I", .fieldLink RX12 347 "LowEnergyModel" "trial" "[B", .methodLink RX12 596 Lib.Math.max.name, .static Lib.Math.max.name, .code Lib.Math.max.name Lib.Math.max.code 2 (some .int), .methodLink RX12 584 yX12_mtus, .instanceMethod yX12_mtus, .selects RX12 yX12_mtus yX12_mtus, .code yX12_mtus cX12_mtus 3 none, .fieldLink RX12 335 "LowEnergyModel" "ownMtu" "[I", .methodLink RX12 581 yX12_lists, .instanceMethod yX12_lists, .selects RX12 yX12_lists yX12_lists, .code yX12_lists cX12_lists 16 none, .methodLink RX12 603 yX12_endOf, .instanceMethod yX12_endOf, .selects RX12 yX12_endOf yX12_endOf, .code yX12_endOf cX12_endOf 4 (some .int), .fieldLink RX12 323 "LowEnergyModel" "type" "[I", .methodLink RX12 599 yX12_isValue, .instanceMethod yX12_isValue, .selects RX12 yX12_isValue yX12_isValue, .code yX12_isValue cX12_isValue 8 (some .boolean), .methodLink RX12 489 yX12_two, .static yX12_two, .code yX12_two cX12_two 2 (some .int), .methodLink RX12 577 yX12_hasBytes, .instanceMethod yX12_hasBytes, .selects RX12 yX12_hasBytes yX12_hasBytes, .code yX12_hasBytes cX12_hasBytes 4 (some .boolean)] : List Cond) ++ (wsX120 ++ ([])))
theorem hi_M_asked_X12 : ∀ x ∈ u_ws RX12 TX12 123, x ∈ wp_M_asked := fun _ h => List.mem_cons_of_mem _ (List.mem_append_right _ (List.mem_append_left _ h))
set_option maxRecDepth 100000 in
theorem gd_M_asked_M_reads_590 : GoodIn wp_M_asked (wsV RX12 590 RX12 yX12_reads wp_M_reads) := goodIn_app (goodIn_r _ [1, 2, 3, 4] rfl rfl) (goodIn_ca (goodIn_r _ [5, 6, 7, 8, 4, 9, 10, 11, 12, 13, 14, 15, 16, 17, 18, 19, 20, 21, 22, 23, 24, 25, 26, 27, 28, 29, 30, 31, 32, 33, 34, 35, 36, 37, 38, 39, 40] rfl rfl) (goodIn_app (goodIn_cls hi_M_asked_X12 gw_X12) (goodIn_nil)))
set_option maxRecDepth 100000 in
theorem gd_M_asked_M_isHandle_567 : GoodIn wp_M_asked (wsV RX12 567 RX12 yX12_isHandle wp_M_isHandle) := goodIn_app (goodIn_r _ [41, 42, 43, 4] rfl rfl) (goodIn_ca (goodIn_r _ [44, 45] rfl rfl) (goodIn_app (goodIn_cls hi_M_asked_X12 gw_X12) (goodIn_nil)))
set_option maxRecDepth 100000 in
theorem gd_M_asked_M_writing_593 : GoodIn wp_M_asked (wsV RX12 593 RX12 yX12_writing wp_M_writing) := goodIn_app (goodIn_r _ [46, 47, 48, 4] rfl rfl) (goodIn_ca (goodIn_r _ [49, 31, 32, 33, 4, 34, 35, 36, 37, 38, 39, 40, 6, 7, 8, 9, 10, 11, 12, 13, 14, 15, 16, 17, 18, 19, 20, 21, 22, 23, 50, 51, 52, 53, 54, 55, 56, 57, 58, 59, 24, 30] rfl rfl) (goodIn_app (goodIn_cls hi_M_asked_X12 gw_X12) (goodIn_nil)))
set_option maxRecDepth 100000 in
theorem gd_M_asked_M_error_564 : GoodIn wp_M_asked (wsV RX12 564 RX12 yX12_error wp_M_error) := goodIn_app (goodIn_r _ [6, 7, 8, 4] rfl rfl) (goodIn_ca (goodIn_r _ [9, 10, 11, 12, 4, 13, 14, 15, 16, 17, 18, 19, 20, 21, 22, 23] rfl rfl) (goodIn_app (goodIn_cls hi_M_asked_X12 gw_X12) (goodIn_nil)))
set_option maxRecDepth 100000 in
theorem gd_M_asked_M_executes_587 : GoodIn wp_M_asked (wsV RX12 587 RX12 yX12_executes wp_M_executes) := goodIn_app (goodIn_r _ [60, 61, 62, 4] rfl rfl) (goodIn_ca (goodIn_r _ [63, 10, 14, 15, 16, 4, 17, 18, 19, 11, 12, 13, 20, 21, 22, 23, 24, 64, 65, 30, 6, 7, 8, 9, 52, 51, 53, 55, 66, 67, 28, 68, 50] rfl rfl) (goodIn_app (goodIn_cls hi_M_asked_X12 gw_X12) (goodIn_nil)))
set_option maxRecDepth 100000 in
theorem gd_M_asked_M_mtus_584 : GoodIn wp_M_asked (wsV RX12 584 RX12 yX12_mtus wp_M_mtus) := goodIn_app (goodIn_r _ [69, 70, 71, 4] rfl rfl) (goodIn_ca (goodIn_r _ [72, 25, 73, 26, 27, 28, 29, 66, 67, 68, 10, 11, 12, 4, 13, 14, 15, 16, 17, 18, 19, 20, 21, 22, 23] rfl rfl) (goodIn_app (goodIn_cls hi_M_asked_X12 gw_X12) (goodIn_nil)))
set_option maxRecDepth 100000 in
theorem gd_M_asked_M_lists_581 : GoodIn wp_M_asked (wsV RX12 581 RX12 yX12_lists wp_M_lists) := goodIn_app (goodIn_r _ [74, 75, 76, 4] rfl rfl) (goodIn_ca (goodIn_r _ [77, 14, 15, 16, 4, 17, 18, 19, 11, 12, 13, 10, 20, 21, 22, 23, 6, 7, 8, 9, 30, 25, 78, 79, 80, 81, 45, 82, 36, 37, 38, 39, 31, 32, 33, 34, 35, 40, 24, 26, 27, 28, 29, 83, 84, 85, 86, 54, 87, 88, 89] rfl rfl) (goodIn_app (goodIn_cls hi_M_asked_X12 gw_X12) (goodIn_nil)))
set_option maxRecDepth 100000 in
theorem gd_M_asked_M_two_489 : GoodIn wp_M_asked (va_wsS RX12 489 yX12_two wp_M_two) := goodIn_app (goodIn_r _ [87, 88, 4] rfl rfl) (goodIn_ca (goodIn_r _ [89] rfl rfl) (goodIn_nil))
set_option maxRecDepth 100000 in
theorem gd_M_asked_M_hasBytes_577 : GoodIn wp_M_asked (wsV RX12 577 RX12 yX12_hasBytes wp_M_hasBytes) := goodIn_app (goodIn_r _ [90, 91, 92, 4] rfl rfl) (goodIn_ca (goodIn_r _ [93, 25, 54, 87, 88, 4, 89] rfl rfl) (goodIn_app (goodIn_cls hi_M_asked_X12 gw_X12) (goodIn_nil)))
set_option maxHeartbeats 4000000 in
set_option maxRecDepth 100000 in
theorem b_M_asked {p : Program} {l : Launch} {e : Env} {R : Room} {s : State} {m : MethodId} {args : Array Value} {below : List Frame} {meth : Method} {c : Code} {D : va_G} {K : Nat → ClassId} {A : Nat → Prop} {Q : State → Prop} {τ : Nat → Option Ty} {dom : List Nat} {zb zL : Nat} {zx : Nat → Int32} {zs : Nat → Nat} (hR : 4 ≤ R.frames ∧ 108 ≤ R.locals) (B : Bx p s m args c cX12_asked 7 RX12 wp_M_asked D (tysA K) A) (Z : Sk τ dom) (hz : ZL zb zL zx zs A s s.heap) (h : Nat) (q : Nat → Nat) (Y : MS τ h q) (d : Int) (x2 : Int) (x3 : Int) (r_d : 0 ≤ d ∧ d ≤ 1) (r_x2 : 0 ≤ x2 ∧ x2 ≤ 255) (r_x3 : -4 ≤ x3 ∧ x3 ≤ 92) (σ0 : Nat → va_E) (G0 : GM K h q σ0) (hM : At σ0 (q 85) (d : Int).toNat (0) (7)) (ho : x2 = 2 ∨ x2 = 4 ∨ x2 = 6 ∨ x2 = 8 ∨ x2 = 10 ∨ x2 = 12 ∨ x2 = 16 ∨ x2 = 18 ∨ x2 = 22 ∨ x2 = 24) (hend : ∀ (σ' : Nat → va_E) (lv : List (Nat × Value)) (pc : Nat), GM K h q σ' → Fr τ [(190, 0), (182, 0), (184, 0), (185, 0), (206, 0), (210, 0), (211, 0), (212, 0), (208, 0), (203, 0), (207, 0), (209, 0), (213, 0), (204, 0)] σ0 σ' → decode cX12_asked pc = .ok (.return_, 1) → V p l e R s m args below meth c 7 D A Q (0, 0) (fd dom σ') lv pc []) : V p l e R s m args below meth c 7 D A Q (0, 0) (fd dom σ0) [(0, .ref h), (1, .int (iI d)), (2, .int (iI x2)), (3, .int (iI x3))] 0 [] := by
  have F0 : Fr τ [(190, 0), (182, 0), (184, 0), (185, 0), (206, 0), (210, 0), (211, 0), (212, 0), (208, 0), (203, 0), (207, 0), (209, 0), (213, 0), (204, 0)] σ0 σ0 := Fr.rf
  obtain ⟨z1, z2, z3, z4, z5, h6, r7, r8, r9, r10, r11⟩ := G0.t.o
  obtain ⟨f12, h13, e14⟩ := ga_85 G0.t
  obtain ⟨z15, e16, r17⟩ := e14 (d : Int).toNat
  have r18 := hM.use h13 e16 (by omega)
  have J255 : ∀ (σ_255 : Nat → va_E) (z255_4 : Int) (z255_5 : Int), GM K h q σ_255 → Fr τ [(190, 0), (182, 0), (184, 0), (185, 0), (206, 0), (210, 0), (211, 0), (212, 0), (208, 0), (203, 0), (207, 0), (209, 0), (213, 0), (204, 0)] σ0 σ_255 → (σ_255 h = .inr (12, fsM q (iI z1) (iI z2) (iI z3) (iI z4) (iI z5))) → (10 ≤ x2 ∧ x2 ≤ 12) → (-4 ≤ x3 ∧ x3 ≤ 64) → (1 ≤ z255_4 ∧ z255_4 ≤ 20) → (0 ≤ z255_5 ∧ z255_5 ≤ 65535) → (At σ_255 (q 85) (d : Int).toNat (0) (7)) → V p l e R s m args below meth c 7 D A Q (0, 0) (fd dom σ_255) [(0, .ref h), (1, .int (iI d)), (2, .int (iI x2)), (4, .int (iI z255_4)), (5, .int (iI z255_5))] 255 [] := by
    intro σ_255 z255_4 z255_5 G_255 F_255 hc255_h rv255_x2 rv255_x3 r255_4 r255_5 i255
    obtain ⟨f19, h20, e21⟩ := ga_85 G_255.t
    obtain ⟨z22, e23, r24⟩ := e21 (d : Int).toNat
    have r25 := (i255).use h20 e23 (by omega)
    refine v_aload_n B dX12_asked_255 rfl rfl ?_
    refine v_iload_n B dX12_asked_256 rfl rfl ?_
    refine v_iload_n B dX12_asked_257 rfl rfl ?_
    refine v_iload B dX12_asked_258 rfl ?_
    refine v_iload B dX12_asked_260 rfl ?_
    refine u_callVv B Z hz (n := 4) (As := [.int (iI d), .int (iI x2), .int (iI z255_4), .int (iI z255_5)]) (rest := []) (c_M_reads l D K Z _ _ _ _ h q Y d x2 z255_4 z255_5 ⟨by omega, by omega⟩ ⟨by omega, by omega⟩ ⟨by omega, by omega⟩ ⟨by omega, by omega⟩ σ_255 G_255 (At.mk h20 e23 (by omega) ⟨by omega, by omega⟩)) gd_M_asked_M_reads_590 rfl rfl rfl (by decide +kernel) ⟨Nat.le_trans (by decide +kernel) hR.1, Nat.le_trans (by decide +kernel) hR.2⟩ Y.o (clsM G_255.t) rfl rfl rfl rfl (Nat.le_of_ble_eq_true rfl) dX12_asked_262 ⟨Nat.zero_le _, Nat.zero_le _⟩ (fun σ26 p27 => ?_)
    obtain ⟨G29, F30⟩ := p27
    have F31 := F_255.call F30 (by first | rfl | simp)
    refine v_goto B (tgt := 279) dX12_asked_265 (by decide +kernel) ?_
    exact hend σ26 _ _ G29 F31 dX12_asked_279
  have J163 : ∀ (σ_163 : Nat → va_E) (z163_4 : Int) (z163_5 : Int) (z163_6 : Int), GM K h q σ_163 → Fr τ [(190, 0), (182, 0), (184, 0), (185, 0), (206, 0), (210, 0), (211, 0), (212, 0), (208, 0), (203, 0), (207, 0), (209, 0), (213, 0), (204, 0)] σ0 σ_163 → (σ_163 h = .inr (12, fsM q (iI z1) (iI z2) (iI z3) (iI z4) (iI z5))) → (-4 ≤ x3 ∧ x3 ≤ 64) → (0 ≤ z163_4 ∧ z163_4 ≤ 65535) → (0 ≤ z163_5 ∧ z163_5 ≤ 65535) → (0 ≤ z163_6 ∧ z163_6 ≤ 1) → (At σ_163 (q 85) (d : Int).toNat (0) (7) ∧ ((x2 = 18 → 3 ≤ x3) ∧ (x2 = 22 → 5 ≤ x3)) ∧ ((z163_6 = 1 ∧ (x2 = 4 ∨ x2 = 6 ∨ x2 = 8 ∨ x2 = 16)) ∨ (z163_6 = 0 ∧ ¬ x2 = 4 ∧ ¬ x2 = 6 ∧ ¬ x2 = 8 ∧ ¬ x2 = 16)) ∧ (z163_6 = 1 → 1 ≤ z163_4)) → V p l e R s m args below meth c 7 D A Q (0, 0) (fd dom σ_163) [(0, .ref h), (1, .int (iI d)), (2, .int (iI x2)), (3, .int (iI x3)), (4, .int (iI z163_4)), (5, .int (iI z163_5)), (6, .int (iI z163_6))] 163 [] := by
    intro σ_163 z163_4 z163_5 z163_6 G_163 F_163 hc163_h rv163_x3 r163_4 r163_5 r163_6 i163
    obtain ⟨f32, h33, e34⟩ := ga_85 G_163.t
    obtain ⟨z35, e36, r37⟩ := e34 (d : Int).toNat
    have r38 := (i163.1).use h33 e36 (by omega)
    have r39 := i163.2.1
    have r40 := i163.2.2.1
    have r41 := i163.2.2.2
    refine v_iload B dX12_asked_163 rfl ?_
    refine u_if_eq B (tgt := 182) (by omega) dX12_asked_165 (by decide +kernel) (fun c42 => ?_) (fun c42 => ?_)
    · refine v_iload_n B dX12_asked_182 rfl rfl ?_
      refine v_iconst B (v := iI 2) dX12_asked_183 rfl ?_
      refine u_icmp_ne B (tgt := 197) (by omega) (by omega) dX12_asked_184 (by decide +kernel) (fun c43 => ?_) (fun c43 => ?_)
      · refine v_iload_n B dX12_asked_197 rfl rfl ?_
        refine v_bipush B (v := iI 24) dX12_asked_198 (by decide +kernel) ?_
        refine u_icmp_ne B (tgt := 221) (by omega) (by omega) dX12_asked_200 (by decide +kernel) (fun c44 => ?_) (fun c44 => ?_)
        · refine v_aload_n B dX12_asked_221 rfl rfl ?_
          refine v_iload_n B dX12_asked_222 rfl rfl ?_
          refine v_iload B dX12_asked_223 rfl ?_
          refine u_callVi B Z hz (n := 2) (As := [.int (iI d), .int (iI z163_4)]) (rest := []) (c_M_isHandle l D K Z _ _ _ _ h q Y d z163_4 ⟨by omega, by omega⟩ ⟨by omega, by omega⟩ σ_163 (G_163.t)) gd_M_asked_M_isHandle_567 rfl rfl rfl (by decide +kernel) ⟨Nat.le_trans (by decide +kernel) hR.1, Nat.le_trans (by decide +kernel) hR.2⟩ Y.o (clsM G_163.t) rfl rfl rfl rfl (Nat.le_of_ble_eq_true rfl) dX12_asked_225 ⟨Nat.zero_le _, Nat.zero_le _⟩ (fun v47 σ45 p46 => ?_)
          obtain ⟨rfl, z48, e49, r50, po51⟩ := p46
          subst e49
          refine u_if_ne B (tgt := 243) (by omega) dX12_asked_228 (by decide +kernel) (fun c52 => ?_) (fun c52 => ?_)
          · refine v_iload_n B dX12_asked_243 rfl rfl ?_
            refine v_bipush B (v := iI 10) dX12_asked_244 (by decide +kernel) ?_
            refine u_icmp_eq B (tgt := 255) (by omega) (by omega) dX12_asked_246 (by decide +kernel) (fun c53 => ?_) (fun c53 => ?_)
            · refine v_lv [0, 1, 2, 4, 5] rfl ?_
              exact J255 σ_163 z163_4 z163_5 G_163 F_163 hc163_h ⟨by omega, by omega⟩ ⟨by omega, by omega⟩ ⟨by omega, by omega⟩ ⟨by omega, by omega⟩ ((At.mk h33 e36 (by omega) ⟨by omega, by omega⟩))
            · refine v_iload_n B dX12_asked_249 rfl rfl ?_
              refine v_bipush B (v := iI 12) dX12_asked_250 (by decide +kernel) ?_
              refine u_icmp_ne B (tgt := 268) (by omega) (by omega) dX12_asked_252 (by decide +kernel) (fun c54 => ?_) (fun c54 => ?_)
              · refine v_aload_n B dX12_asked_268 rfl rfl ?_
                refine v_iload_n B dX12_asked_269 rfl rfl ?_
                refine v_iload_n B dX12_asked_270 rfl rfl ?_
                refine v_iload B dX12_asked_271 rfl ?_
                refine v_iload B dX12_asked_273 rfl ?_
                refine v_iload_n B dX12_asked_275 rfl rfl ?_
                refine u_callVv B Z hz (n := 5) (As := [.int (iI d), .int (iI x2), .int (iI z163_4), .int (iI z163_5), .int (iI x3)]) (rest := []) (c_M_writing l D K Z _ _ _ _ h q Y d x2 z163_4 z163_5 x3 ⟨by omega, by omega⟩ ⟨by omega, by omega⟩ ⟨by omega, by omega⟩ ⟨by omega, by omega⟩ ⟨by omega, by omega⟩ σ_163 G_163 (At.mk h33 e36 (by omega) ⟨by omega, by omega⟩) (by omega)) gd_M_asked_M_writing_593 rfl rfl rfl (by decide +kernel) ⟨Nat.le_trans (by decide +kernel) hR.1, Nat.le_trans (by decide +kernel) hR.2⟩ Y.o (clsM G_163.t) rfl rfl rfl rfl (Nat.le_of_ble_eq_true rfl) dX12_asked_276 ⟨Nat.zero_le _, Nat.zero_le _⟩ (fun σ55 p56 => ?_)
                obtain ⟨G58, F59⟩ := p56
                have F60 := F_163.call F59 (by first | rfl | simp)
                exact hend σ55 _ _ G58 F60 dX12_asked_279
              · refine v_lv [0, 1, 2, 4, 5] rfl ?_
                exact J255 σ_163 z163_4 z163_5 G_163 F_163 hc163_h ⟨by omega, by omega⟩ ⟨by omega, by omega⟩ ⟨by omega, by omega⟩ ⟨by omega, by omega⟩ ((At.mk h33 e36 (by omega) ⟨by omega, by omega⟩))
          · refine v_aload_n B dX12_asked_231 rfl rfl ?_
            refine v_iload_n B dX12_asked_232 rfl rfl ?_
            refine v_iload_n B dX12_asked_233 rfl rfl ?_
            refine v_iload B dX12_asked_234 rfl ?_
            refine v_iconst B (v := iI 1) dX12_asked_236 rfl ?_
            refine u_callVv B Z hz (n := 4) (As := [.int (iI d), .int (iI x2), .int (iI z163_4), .int (iI 1)]) (rest := []) (c_M_error l D K Z _ _ _ _ h q Y d x2 z163_4 1 ⟨by omega, by omega⟩ ⟨by omega, by omega⟩ ⟨by omega, by omega⟩ ⟨by omega, by omega⟩ σ_163 G_163 (At.mk h33 e36 (by omega) ⟨by omega, by omega⟩)) gd_M_asked_M_error_564 rfl rfl rfl (by decide +kernel) ⟨Nat.le_trans (by decide +kernel) hR.1, Nat.le_trans (by decide +kernel) hR.2⟩ Y.o (clsM G_163.t) rfl rfl rfl rfl (Nat.le_of_ble_eq_true rfl) dX12_asked_237 ⟨Nat.zero_le _, Nat.zero_le _⟩ (fun σ61 p62 => ?_)
            obtain ⟨G64, F65⟩ := p62
            have F66 := F_163.call F65 (by first | rfl | simp)
            refine v_goto B (tgt := 279) dX12_asked_240 (by decide +kernel) ?_
            exact hend σ61 _ _ G64 F66 dX12_asked_279
        · refine v_aload_n B dX12_asked_203 rfl rfl ?_
          refine v_iload_n B dX12_asked_204 rfl rfl ?_
          refine v_aload_n B dX12_asked_205 rfl rfl ?_
          refine u_get B Z (C := RX12) (T := TX12) (N := 123) (ci := 12) hi_M_asked_X12 Y.o hc163_h rfl 91 (by decide +kernel) (List.mem_of_getElem? (i := 54) rfl) rfl dX12_asked_206 ?_
          refine v_iconst B (v := iI 1) dX12_asked_209 rfl ?_
          obtain ⟨f67, h68, e69⟩ := ga_91 G_163.t
          obtain ⟨z70, e71, r72⟩ := e69 (1 : Int).toNat
          refine u_bald B Z (t0 := 2) (ym_91 Y) h68 rfl (by omega) e71 dX12_asked_210 ?_
          refine v_sipush B (v := iI 255) dX12_asked_211 (by decide +kernel) ?_
          obtain ⟨z73, e74, r75⟩ := iI_and z70 (c := 255) (by decide) (by decide)
          refine v_iand B (v := iI z73) dX12_asked_214 e74 ?_
          refine u_callVv B Z hz (n := 2) (As := [.int (iI d), .int (iI z73)]) (rest := []) (c_M_executes l D K Z _ _ _ _ h q Y d z73 ⟨by omega, by omega⟩ ⟨by omega, by omega⟩ σ_163 G_163 (At.mk h33 e36 (by omega) ⟨by omega, by omega⟩)) gd_M_asked_M_executes_587 rfl rfl rfl (by decide +kernel) ⟨Nat.le_trans (by decide +kernel) hR.1, Nat.le_trans (by decide +kernel) hR.2⟩ Y.o (clsM G_163.t) rfl rfl rfl rfl (Nat.le_of_ble_eq_true rfl) dX12_asked_215 ⟨Nat.zero_le _, Nat.zero_le _⟩ (fun σ76 p77 => ?_)
          obtain ⟨G79, F80⟩ := p77
          have F81 := F_163.call F80 (by first | rfl | simp)
          refine v_goto B (tgt := 279) dX12_asked_218 (by decide +kernel) ?_
          exact hend σ76 _ _ G79 F81 dX12_asked_279
      · refine v_aload_n B dX12_asked_187 rfl rfl ?_
        refine v_iload_n B dX12_asked_188 rfl rfl ?_
        refine v_iload B dX12_asked_189 rfl ?_
        refine u_callVv B Z hz (n := 2) (As := [.int (iI d), .int (iI z163_4)]) (rest := []) (c_M_mtus l D K Z _ _ _ _ h q Y d z163_4 ⟨by omega, by omega⟩ ⟨by omega, by omega⟩ σ_163 G_163 (At.mk h33 e36 (by omega) ⟨by omega, by omega⟩)) gd_M_asked_M_mtus_584 rfl rfl rfl (by decide +kernel) ⟨Nat.le_trans (by decide +kernel) hR.1, Nat.le_trans (by decide +kernel) hR.2⟩ Y.o (clsM G_163.t) rfl rfl rfl rfl (Nat.le_of_ble_eq_true rfl) dX12_asked_191 ⟨Nat.zero_le _, Nat.zero_le _⟩ (fun σ82 p83 => ?_)
        obtain ⟨G85, F86⟩ := p83
        have F87 := F_163.call F86 (by first | rfl | simp)
        refine v_goto B (tgt := 279) dX12_asked_194 (by decide +kernel) ?_
        exact hend σ82 _ _ G85 F87 dX12_asked_279
    · refine v_aload_n B dX12_asked_168 rfl rfl ?_
      refine v_iload_n B dX12_asked_169 rfl rfl ?_
      refine v_iload_n B dX12_asked_170 rfl rfl ?_
      refine v_iload B dX12_asked_171 rfl ?_
      refine v_iload B dX12_asked_173 rfl ?_
      refine v_iload_n B dX12_asked_175 rfl rfl ?_
      refine u_callVv B Z hz (n := 5) (As := [.int (iI d), .int (iI x2), .int (iI z163_4), .int (iI z163_5), .int (iI x3)]) (rest := []) (c_M_lists l D K Z _ _ _ _ h q Y d x2 z163_4 z163_5 x3 ⟨by omega, by omega⟩ ⟨by omega, by omega⟩ ⟨by omega, by omega⟩ ⟨by omega, by omega⟩ ⟨by omega, by omega⟩ σ_163 G_163 (At.mk h33 e36 (by omega) ⟨by omega, by omega⟩) (by omega)) gd_M_asked_M_lists_581 rfl rfl rfl (by decide +kernel) ⟨Nat.le_trans (by decide +kernel) hR.1, Nat.le_trans (by decide +kernel) hR.2⟩ Y.o (clsM G_163.t) rfl rfl rfl rfl (Nat.le_of_ble_eq_true rfl) dX12_asked_176 ⟨Nat.zero_le _, Nat.zero_le _⟩ (fun σ88 p89 => ?_)
      obtain ⟨G91, F92⟩ := p89
      have F93 := F_163.call F92 (by first | rfl | simp)
      refine v_goto B (tgt := 279) dX12_asked_179 (by decide +kernel) ?_
      exact hend σ88 _ _ G91 F93 dX12_asked_279
  have J116 : ∀ (σ_116 : Nat → va_E) (z116_4 : Int) (z116_5 : Int) (z116_6 : Int), GM K h q σ_116 → Fr τ [(190, 0), (182, 0), (184, 0), (185, 0), (206, 0), (210, 0), (211, 0), (212, 0), (208, 0), (203, 0), (207, 0), (209, 0), (213, 0), (204, 0)] σ0 σ_116 → (σ_116 h = .inr (12, fsM q (iI z1) (iI z2) (iI z3) (iI z4) (iI z5))) → (-4 ≤ x3 ∧ x3 ≤ 64) → (0 ≤ z116_4 ∧ z116_4 ≤ 65535) → (0 ≤ z116_5 ∧ z116_5 ≤ 65535) → (0 ≤ z116_6 ∧ z116_6 ≤ 1) → (At σ_116 (q 85) (d : Int).toNat (0) (7) ∧ ((x2 = 18 → 3 ≤ x3) ∧ (x2 = 22 → 5 ≤ x3)) ∧ ((z116_6 = 1 ∧ (x2 = 4 ∨ x2 = 6 ∨ x2 = 8 ∨ x2 = 16)) ∨ (z116_6 = 0 ∧ ¬ x2 = 4 ∧ ¬ x2 = 6 ∧ ¬ x2 = 8 ∧ ¬ x2 = 16)) ∧ (z116_6 = 1 → 1 ≤ z116_4)) → V p l e R s m args below meth c 7 D A Q (0, 0) (fd dom σ_116) [(0, .ref h), (1, .int (iI d)), (2, .int (iI x2)), (3, .int (iI x3)), (4, .int (iI z116_4)), (5, .int (iI z116_5)), (6, .int (iI z116_6))] 116 [] := by
    intro σ_116 z116_4 z116_5 z116_6 G_116 F_116 hc116_h rv116_x3 r116_4 r116_5 r116_6 i116
    obtain ⟨f94, h95, e96⟩ := ga_85 G_116.t
    obtain ⟨z97, e98, r99⟩ := e96 (d : Int).toNat
    have r100 := (i116.1).use h95 e98 (by omega)
    have r101 := i116.2.1
    have r102 := i116.2.2.1
    have r103 := i116.2.2.2
    refine v_iload_n B dX12_asked_116 rfl rfl ?_
    refine v_bipush B (v := iI 16) dX12_asked_117 (by decide +kernel) ?_
    refine u_icmp_ne B (tgt := 163) (by omega) (by omega) dX12_asked_119 (by decide +kernel) (fun c104 => ?_) (fun c104 => ?_)
    · exact J163 σ_116 z116_4 z116_5 z116_6 G_116 F_116 hc116_h ⟨by omega, by omega⟩ ⟨by omega, by omega⟩ ⟨by omega, by omega⟩ ⟨by omega, by omega⟩ (⟨(At.mk h95 e98 (by omega) ⟨by omega, by omega⟩), (by omega), (by omega), (by omega)⟩)
    · refine v_aload_n B dX12_asked_122 rfl rfl ?_
      refine u_get B Z (C := RX12) (T := TX12) (N := 123) (ci := 12) hi_M_asked_X12 Y.o hc116_h rfl 91 (by decide +kernel) (List.mem_of_getElem? (i := 54) rfl) rfl dX12_asked_123 ?_
      refine v_iconst B (v := iI 5) dX12_asked_126 rfl ?_
      refine u_callSi B Z hz (n := 2) (As := [.ref (q 91), .int (iI 5)]) (rest := []) (c_M_two l D K Z _ _ _ _ h q Y 91 96 5 rfl ⟨by omega, by omega⟩ σ_116 (G_116.t) (by omega)) gd_M_asked_M_two_489 rfl rfl rfl (by decide +kernel) ⟨Nat.le_trans (by decide +kernel) hR.1, Nat.le_trans (by decide +kernel) hR.2⟩ rfl rfl (Nat.le_of_ble_eq_true rfl) dX12_asked_127 ⟨Nat.zero_le _, Nat.zero_le _⟩ (fun v107 σ105 p106 => ?_)
      obtain ⟨rfl, z108, e109, r110⟩ := p106
      subst e109
      refine v_sipush B (v := iI 10240) dX12_asked_130 (by decide +kernel) ?_
      refine u_icmp_eq B (tgt := 163) (by omega) (by omega) dX12_asked_133 (by decide +kernel) (fun c111 => ?_) (fun c111 => ?_)
      · exact J163 σ_116 z116_4 z116_5 z116_6 G_116 F_116 hc116_h ⟨by omega, by omega⟩ ⟨by omega, by omega⟩ ⟨by omega, by omega⟩ ⟨by omega, by omega⟩ (⟨(At.mk h95 e98 (by omega) ⟨by omega, by omega⟩), (by omega), (by omega), (by omega)⟩)
      · refine v_aload_n B dX12_asked_136 rfl rfl ?_
        refine u_get B Z (C := RX12) (T := TX12) (N := 123) (ci := 12) hi_M_asked_X12 Y.o hc116_h rfl 91 (by decide +kernel) (List.mem_of_getElem? (i := 54) rfl) rfl dX12_asked_137 ?_
        refine v_iconst B (v := iI 5) dX12_asked_140 rfl ?_
        refine u_callSi B Z hz (n := 2) (As := [.ref (q 91), .int (iI 5)]) (rest := []) (c_M_two l D K Z _ _ _ _ h q Y 91 96 5 rfl ⟨by omega, by omega⟩ σ_116 (G_116.t) (by omega)) gd_M_asked_M_two_489 rfl rfl rfl (by decide +kernel) ⟨Nat.le_trans (by decide +kernel) hR.1, Nat.le_trans (by decide +kernel) hR.2⟩ rfl rfl (Nat.le_of_ble_eq_true rfl) dX12_asked_141 ⟨Nat.zero_le _, Nat.zero_le _⟩ (fun v114 σ112 p113 => ?_)
        obtain ⟨rfl, z115, e116, r117⟩ := p113
        subst e116
        refine v_sipush B (v := iI 10241) dX12_asked_144 (by decide +kernel) ?_
        refine u_icmp_eq B (tgt := 163) (by omega) (by omega) dX12_asked_147 (by decide +kernel) (fun c118 => ?_) (fun c118 => ?_)
        · exact J163 σ_116 z116_4 z116_5 z116_6 G_116 F_116 hc116_h ⟨by omega, by omega⟩ ⟨by omega, by omega⟩ ⟨by omega, by omega⟩ ⟨by omega, by omega⟩ (⟨(At.mk h95 e98 (by omega) ⟨by omega, by omega⟩), (by omega), (by omega), (by omega)⟩)
        · refine v_aload_n B dX12_asked_150 rfl rfl ?_
          refine v_iload_n B dX12_asked_151 rfl rfl ?_
          refine v_iload_n B dX12_asked_152 rfl rfl ?_
          refine v_iload B dX12_asked_153 rfl ?_
          refine v_bipush B (v := iI 16) dX12_asked_155 (by decide +kernel) ?_
          refine u_callVv B Z hz (n := 4) (As := [.int (iI d), .int (iI x2), .int (iI z116_4), .int (iI 16)]) (rest := []) (c_M_error l D K Z _ _ _ _ h q Y d x2 z116_4 16 ⟨by omega, by omega⟩ ⟨by omega, by omega⟩ ⟨by omega, by omega⟩ ⟨by omega, by omega⟩ σ_116 G_116 (At.mk h95 e98 (by omega) ⟨by omega, by omega⟩)) gd_M_asked_M_error_564 rfl rfl rfl (by decide +kernel) ⟨Nat.le_trans (by decide +kernel) hR.1, Nat.le_trans (by decide +kernel) hR.2⟩ Y.o (clsM G_116.t) rfl rfl rfl rfl (Nat.le_of_ble_eq_true rfl) dX12_asked_157 ⟨Nat.zero_le _, Nat.zero_le _⟩ (fun σ119 p120 => ?_)
          obtain ⟨G122, F123⟩ := p120
          have F124 := F_116.call F123 (by first | rfl | simp)
          refine v_goto B (tgt := 279) dX12_asked_160 (by decide +kernel) ?_
          exact hend σ119 _ _ G122 F124 dX12_asked_279
  have J104 : ∀ (σ_104 : Nat → va_E) (z104_4 : Int), GM K h q σ_104 → Fr τ [(190, 0), (182, 0), (184, 0), (185, 0), (206, 0), (210, 0), (211, 0), (212, 0), (208, 0), (203, 0), (207, 0), (209, 0), (213, 0), (204, 0)] σ0 σ_104 → (σ_104 h = .inr (12, fsM q (iI z1) (iI z2) (iI z3) (iI z4) (iI z5))) → (4 ≤ x2 ∧ x2 ≤ 16) → (-4 ≤ x3 ∧ x3 ≤ 64) → (0 ≤ z104_4 ∧ z104_4 ≤ 65535) → (At σ_104 (q 85) (d : Int).toNat (0) (7)) → V p l e R s m args below meth c 7 D A Q (0, 0) (fd dom σ_104) [(0, .ref h), (1, .int (iI d)), (2, .int (iI x2)), (4, .int (iI z104_4))] 104 [] := by
    intro σ_104 z104_4 G_104 F_104 hc104_h rv104_x2 rv104_x3 r104_4 i104
    obtain ⟨f125, h126, e127⟩ := ga_85 G_104.t
    obtain ⟨z128, e129, r130⟩ := e127 (d : Int).toNat
    have r131 := (i104).use h126 e129 (by omega)
    refine v_aload_n B dX12_asked_104 rfl rfl ?_
    refine v_iload_n B dX12_asked_105 rfl rfl ?_
    refine v_iload_n B dX12_asked_106 rfl rfl ?_
    refine v_iload B dX12_asked_107 rfl ?_
    refine v_iconst B (v := iI 1) dX12_asked_109 rfl ?_
    refine u_callVv B Z hz (n := 4) (As := [.int (iI d), .int (iI x2), .int (iI z104_4), .int (iI 1)]) (rest := []) (c_M_error l D K Z _ _ _ _ h q Y d x2 z104_4 1 ⟨by omega, by omega⟩ ⟨by omega, by omega⟩ ⟨by omega, by omega⟩ ⟨by omega, by omega⟩ σ_104 G_104 (At.mk h126 e129 (by omega) ⟨by omega, by omega⟩)) gd_M_asked_M_error_564 rfl rfl rfl (by decide +kernel) ⟨Nat.le_trans (by decide +kernel) hR.1, Nat.le_trans (by decide +kernel) hR.2⟩ Y.o (clsM G_104.t) rfl rfl rfl rfl (Nat.le_of_ble_eq_true rfl) dX12_asked_110 ⟨Nat.zero_le _, Nat.zero_le _⟩ (fun σ132 p133 => ?_)
    obtain ⟨G135, F136⟩ := p133
    have F137 := F_104.call F136 (by first | rfl | simp)
    refine v_goto B (tgt := 279) dX12_asked_113 (by decide +kernel) ?_
    exact hend σ132 _ _ G135 F137 dX12_asked_279
  have J55 : ∀ (σ_55 : Nat → va_E) (z55_4 : Int) (z55_s0 : Int), GM K h q σ_55 → Fr τ [(190, 0), (182, 0), (184, 0), (185, 0), (206, 0), (210, 0), (211, 0), (212, 0), (208, 0), (203, 0), (207, 0), (209, 0), (213, 0), (204, 0)] σ0 σ_55 → (σ_55 h = .inr (12, fsM q (iI z1) (iI z2) (iI z3) (iI z4) (iI z5))) → (-4 ≤ x3 ∧ x3 ≤ 64) → (0 ≤ z55_4 ∧ z55_4 ≤ 65535) → (0 ≤ z55_s0 ∧ z55_s0 ≤ 65535) → (At σ_55 (q 85) (d : Int).toNat (0) (7) ∧ ((x2 = 18 → 3 ≤ x3) ∧ (x2 = 22 → 5 ≤ x3))) → V p l e R s m args below meth c 7 D A Q (0, 0) (fd dom σ_55) [(0, .ref h), (1, .int (iI d)), (2, .int (iI x2)), (3, .int (iI x3)), (4, .int (iI z55_4))] 55 [.int (iI z55_s0)] := by
    intro σ_55 z55_4 z55_s0 G_55 F_55 hc55_h rv55_x3 r55_4 r55_s0 i55
    obtain ⟨f138, h139, e140⟩ := ga_85 G_55.t
    obtain ⟨z141, e142, r143⟩ := e140 (d : Int).toNat
    have r144 := (i55.1).use h139 e142 (by omega)
    have r145 := i55.2
    refine v_istore B (lv' := [(5, .int (iI z55_s0)), (0, .ref h), (1, .int (iI d)), (2, .int (iI x2)), (3, .int (iI x3)), (4, .int (iI z55_4))]) dX12_asked_55 (by decide +kernel) rfl ?_
    refine v_iload_n B dX12_asked_57 rfl rfl ?_
    refine v_iconst B (v := iI 4) dX12_asked_58 rfl ?_
    refine u_icmp_eq B (tgt := 80) (by omega) (by omega) dX12_asked_59 (by decide +kernel) (fun c146 => ?_) (fun c146 => ?_)
    · refine v_iconst B (v := iI 1) dX12_asked_80 rfl ?_
      refine v_goto B (tgt := 85) dX12_asked_81 (by decide +kernel) ?_
      refine v_istore B (lv' := [(6, .int (iI 1)), (5, .int (iI z55_s0)), (0, .ref h), (1, .int (iI d)), (2, .int (iI x2)), (3, .int (iI x3)), (4, .int (iI z55_4))]) dX12_asked_85 (by decide +kernel) rfl ?_
      refine v_iload B dX12_asked_87 rfl ?_
      refine u_if_eq B (tgt := 116) (by omega) dX12_asked_89 (by decide +kernel) (fun c147 => by omega) (fun c147 => ?_)
      refine v_iload B dX12_asked_92 rfl ?_
      refine u_if_eq B (tgt := 104) (by omega) dX12_asked_94 (by decide +kernel) (fun c148 => ?_) (fun c148 => ?_)
      · refine v_lv [2, 3, 4, 6] rfl ?_
        exact J104 σ_55 z55_4 G_55 F_55 hc55_h ⟨by omega, by omega⟩ ⟨by omega, by omega⟩ ⟨by omega, by omega⟩ ((At.mk h139 e142 (by omega) ⟨by omega, by omega⟩))
      · refine v_iload B dX12_asked_97 rfl ?_
        refine v_iload B dX12_asked_99 rfl ?_
        refine u_icmp_le B (tgt := 116) (by omega) (by omega) dX12_asked_101 (by decide +kernel) (fun c149 => ?_) (fun c149 => ?_)
        · refine v_lv [2, 3, 4, 5, 6, 1, 0] rfl ?_
          exact J116 σ_55 z55_4 z55_s0 1 G_55 F_55 hc55_h ⟨by omega, by omega⟩ ⟨by omega, by omega⟩ ⟨by omega, by omega⟩ ⟨by omega, by omega⟩ (⟨(At.mk h139 e142 (by omega) ⟨by omega, by omega⟩), (by omega), (by omega), (by omega)⟩)
        · refine v_lv [2, 3, 4, 6] rfl ?_
          exact J104 σ_55 z55_4 G_55 F_55 hc55_h ⟨by omega, by omega⟩ ⟨by omega, by omega⟩ ⟨by omega, by omega⟩ ((At.mk h139 e142 (by omega) ⟨by omega, by omega⟩))
    · refine v_iload_n B dX12_asked_62 rfl rfl ?_
      refine v_bipush B (v := iI 6) dX12_asked_63 (by decide +kernel) ?_
      refine u_icmp_eq B (tgt := 80) (by omega) (by omega) dX12_asked_65 (by decide +kernel) (fun c150 => ?_) (fun c150 => ?_)
      · refine v_iconst B (v := iI 1) dX12_asked_80 rfl ?_
        refine v_goto B (tgt := 85) dX12_asked_81 (by decide +kernel) ?_
        refine v_istore B (lv' := [(6, .int (iI 1)), (5, .int (iI z55_s0)), (0, .ref h), (1, .int (iI d)), (2, .int (iI x2)), (3, .int (iI x3)), (4, .int (iI z55_4))]) dX12_asked_85 (by decide +kernel) rfl ?_
        refine v_iload B dX12_asked_87 rfl ?_
        refine u_if_eq B (tgt := 116) (by omega) dX12_asked_89 (by decide +kernel) (fun c151 => by omega) (fun c151 => ?_)
        refine v_iload B dX12_asked_92 rfl ?_
        refine u_if_eq B (tgt := 104) (by omega) dX12_asked_94 (by decide +kernel) (fun c152 => ?_) (fun c152 => ?_)
        · refine v_lv [2, 3, 4, 6] rfl ?_
          exact J104 σ_55 z55_4 G_55 F_55 hc55_h ⟨by omega, by omega⟩ ⟨by omega, by omega⟩ ⟨by omega, by omega⟩ ((At.mk h139 e142 (by omega) ⟨by omega, by omega⟩))
        · refine v_iload B dX12_asked_97 rfl ?_
          refine v_iload B dX12_asked_99 rfl ?_
          refine u_icmp_le B (tgt := 116) (by omega) (by omega) dX12_asked_101 (by decide +kernel) (fun c153 => ?_) (fun c153 => ?_)
          · refine v_lv [2, 3, 4, 5, 6, 1, 0] rfl ?_
            exact J116 σ_55 z55_4 z55_s0 1 G_55 F_55 hc55_h ⟨by omega, by omega⟩ ⟨by omega, by omega⟩ ⟨by omega, by omega⟩ ⟨by omega, by omega⟩ (⟨(At.mk h139 e142 (by omega) ⟨by omega, by omega⟩), (by omega), (by omega), (by omega)⟩)
          · refine v_lv [2, 3, 4, 6] rfl ?_
            exact J104 σ_55 z55_4 G_55 F_55 hc55_h ⟨by omega, by omega⟩ ⟨by omega, by omega⟩ ⟨by omega, by omega⟩ ((At.mk h139 e142 (by omega) ⟨by omega, by omega⟩))
      · refine v_iload_n B dX12_asked_68 rfl rfl ?_
        refine v_bipush B (v := iI 8) dX12_asked_69 (by decide +kernel) ?_
        refine u_icmp_eq B (tgt := 80) (by omega) (by omega) dX12_asked_71 (by decide +kernel) (fun c154 => ?_) (fun c154 => ?_)
        · refine v_iconst B (v := iI 1) dX12_asked_80 rfl ?_
          refine v_goto B (tgt := 85) dX12_asked_81 (by decide +kernel) ?_
          refine v_istore B (lv' := [(6, .int (iI 1)), (5, .int (iI z55_s0)), (0, .ref h), (1, .int (iI d)), (2, .int (iI x2)), (3, .int (iI x3)), (4, .int (iI z55_4))]) dX12_asked_85 (by decide +kernel) rfl ?_
          refine v_iload B dX12_asked_87 rfl ?_
          refine u_if_eq B (tgt := 116) (by omega) dX12_asked_89 (by decide +kernel) (fun c155 => by omega) (fun c155 => ?_)
          refine v_iload B dX12_asked_92 rfl ?_
          refine u_if_eq B (tgt := 104) (by omega) dX12_asked_94 (by decide +kernel) (fun c156 => ?_) (fun c156 => ?_)
          · refine v_lv [2, 3, 4, 6] rfl ?_
            exact J104 σ_55 z55_4 G_55 F_55 hc55_h ⟨by omega, by omega⟩ ⟨by omega, by omega⟩ ⟨by omega, by omega⟩ ((At.mk h139 e142 (by omega) ⟨by omega, by omega⟩))
          · refine v_iload B dX12_asked_97 rfl ?_
            refine v_iload B dX12_asked_99 rfl ?_
            refine u_icmp_le B (tgt := 116) (by omega) (by omega) dX12_asked_101 (by decide +kernel) (fun c157 => ?_) (fun c157 => ?_)
            · refine v_lv [2, 3, 4, 5, 6, 1, 0] rfl ?_
              exact J116 σ_55 z55_4 z55_s0 1 G_55 F_55 hc55_h ⟨by omega, by omega⟩ ⟨by omega, by omega⟩ ⟨by omega, by omega⟩ ⟨by omega, by omega⟩ (⟨(At.mk h139 e142 (by omega) ⟨by omega, by omega⟩), (by omega), (by omega), (by omega)⟩)
            · refine v_lv [2, 3, 4, 6] rfl ?_
              exact J104 σ_55 z55_4 G_55 F_55 hc55_h ⟨by omega, by omega⟩ ⟨by omega, by omega⟩ ⟨by omega, by omega⟩ ((At.mk h139 e142 (by omega) ⟨by omega, by omega⟩))
        · refine v_iload_n B dX12_asked_74 rfl rfl ?_
          refine v_bipush B (v := iI 16) dX12_asked_75 (by decide +kernel) ?_
          refine u_icmp_ne B (tgt := 84) (by omega) (by omega) dX12_asked_77 (by decide +kernel) (fun c158 => ?_) (fun c158 => ?_)
          · refine v_iconst B (v := iI 0) dX12_asked_84 rfl ?_
            refine v_istore B (lv' := [(6, .int (iI 0)), (5, .int (iI z55_s0)), (0, .ref h), (1, .int (iI d)), (2, .int (iI x2)), (3, .int (iI x3)), (4, .int (iI z55_4))]) dX12_asked_85 (by decide +kernel) rfl ?_
            refine v_iload B dX12_asked_87 rfl ?_
            refine u_if_eq B (tgt := 116) (by omega) dX12_asked_89 (by decide +kernel) (fun c159 => ?_) (fun c159 => by omega)
            refine v_lv [2, 3, 4, 5, 6, 1, 0] rfl ?_
            exact J116 σ_55 z55_4 z55_s0 0 G_55 F_55 hc55_h ⟨by omega, by omega⟩ ⟨by omega, by omega⟩ ⟨by omega, by omega⟩ ⟨by omega, by omega⟩ (⟨(At.mk h139 e142 (by omega) ⟨by omega, by omega⟩), (by omega), (by omega), (by omega)⟩)
          · refine v_iconst B (v := iI 1) dX12_asked_80 rfl ?_
            refine v_goto B (tgt := 85) dX12_asked_81 (by decide +kernel) ?_
            refine v_istore B (lv' := [(6, .int (iI 1)), (5, .int (iI z55_s0)), (0, .ref h), (1, .int (iI d)), (2, .int (iI x2)), (3, .int (iI x3)), (4, .int (iI z55_4))]) dX12_asked_85 (by decide +kernel) rfl ?_
            refine v_iload B dX12_asked_87 rfl ?_
            refine u_if_eq B (tgt := 116) (by omega) dX12_asked_89 (by decide +kernel) (fun c160 => by omega) (fun c160 => ?_)
            refine v_iload B dX12_asked_92 rfl ?_
            refine u_if_eq B (tgt := 104) (by omega) dX12_asked_94 (by decide +kernel) (fun c161 => ?_) (fun c161 => ?_)
            · refine v_lv [2, 3, 4, 6] rfl ?_
              exact J104 σ_55 z55_4 G_55 F_55 hc55_h ⟨by omega, by omega⟩ ⟨by omega, by omega⟩ ⟨by omega, by omega⟩ ((At.mk h139 e142 (by omega) ⟨by omega, by omega⟩))
            · refine v_iload B dX12_asked_97 rfl ?_
              refine v_iload B dX12_asked_99 rfl ?_
              refine u_icmp_le B (tgt := 116) (by omega) (by omega) dX12_asked_101 (by decide +kernel) (fun c162 => ?_) (fun c162 => ?_)
              · refine v_lv [2, 3, 4, 5, 6, 1, 0] rfl ?_
                exact J116 σ_55 z55_4 z55_s0 1 G_55 F_55 hc55_h ⟨by omega, by omega⟩ ⟨by omega, by omega⟩ ⟨by omega, by omega⟩ ⟨by omega, by omega⟩ (⟨(At.mk h139 e142 (by omega) ⟨by omega, by omega⟩), (by omega), (by omega), (by omega)⟩)
              · refine v_lv [2, 3, 4, 6] rfl ?_
                exact J104 σ_55 z55_4 G_55 F_55 hc55_h ⟨by omega, by omega⟩ ⟨by omega, by omega⟩ ⟨by omega, by omega⟩ ((At.mk h139 e142 (by omega) ⟨by omega, by omega⟩))
  have J36 : ∀ (σ_36 : Nat → va_E) (z36_s0 : Int), GM K h q σ_36 → Fr τ [(190, 0), (182, 0), (184, 0), (185, 0), (206, 0), (210, 0), (211, 0), (212, 0), (208, 0), (203, 0), (207, 0), (209, 0), (213, 0), (204, 0)] σ0 σ_36 → (σ_36 h = .inr (12, fsM q (iI z1) (iI z2) (iI z3) (iI z4) (iI z5))) → (-4 ≤ x3 ∧ x3 ≤ 64) → (0 ≤ z36_s0 ∧ z36_s0 ≤ 65535) → (At σ_36 (q 85) (d : Int).toNat (0) (7) ∧ ((x2 = 18 → 3 ≤ x3) ∧ (x2 = 22 → 5 ≤ x3))) → V p l e R s m args below meth c 7 D A Q (0, 0) (fd dom σ_36) [(0, .ref h), (1, .int (iI d)), (2, .int (iI x2)), (3, .int (iI x3))] 36 [.int (iI z36_s0)] := by
    intro σ_36 z36_s0 G_36 F_36 hc36_h rv36_x3 r36_s0 i36
    obtain ⟨f163, h164, e165⟩ := ga_85 G_36.t
    obtain ⟨z166, e167, r168⟩ := e165 (d : Int).toNat
    have r169 := (i36.1).use h164 e167 (by omega)
    have r170 := i36.2
    refine v_istore B (lv' := [(4, .int (iI z36_s0)), (0, .ref h), (1, .int (iI d)), (2, .int (iI x2)), (3, .int (iI x3))]) dX12_asked_36 (by decide +kernel) rfl ?_
    refine v_iload_n B dX12_asked_38 rfl rfl ?_
    refine v_iconst B (v := iI 4) dX12_asked_39 rfl ?_
    refine u_icmp_le B (tgt := 54) (by omega) (by omega) dX12_asked_40 (by decide +kernel) (fun c171 => ?_) (fun c171 => ?_)
    · refine v_iconst B (v := iI 0) dX12_asked_54 rfl ?_
      refine v_lv [1, 2, 3, 4, 0] rfl ?_
      exact J55 σ_36 z36_s0 0 G_36 F_36 hc36_h ⟨by omega, by omega⟩ ⟨by omega, by omega⟩ ⟨by omega, by omega⟩ (⟨(At.mk h164 e167 (by omega) ⟨by omega, by omega⟩), (by omega)⟩)
    · refine v_aload_n B dX12_asked_43 rfl rfl ?_
      refine u_get B Z (C := RX12) (T := TX12) (N := 123) (ci := 12) hi_M_asked_X12 Y.o hc36_h rfl 91 (by decide +kernel) (List.mem_of_getElem? (i := 54) rfl) rfl dX12_asked_44 ?_
      refine v_iconst B (v := iI 3) dX12_asked_47 rfl ?_
      refine u_callSi B Z hz (n := 2) (As := [.ref (q 91), .int (iI 3)]) (rest := []) (c_M_two l D K Z _ _ _ _ h q Y 91 96 3 rfl ⟨by omega, by omega⟩ σ_36 (G_36.t) (by omega)) gd_M_asked_M_two_489 rfl rfl rfl (by decide +kernel) ⟨Nat.le_trans (by decide +kernel) hR.1, Nat.le_trans (by decide +kernel) hR.2⟩ rfl rfl (Nat.le_of_ble_eq_true rfl) dX12_asked_48 ⟨Nat.zero_le _, Nat.zero_le _⟩ (fun v174 σ172 p173 => ?_)
      obtain ⟨rfl, z175, e176, r177⟩ := p173
      subst e176
      refine v_goto B (tgt := 55) dX12_asked_51 (by decide +kernel) ?_
      refine v_lv [1, 2, 3, 4, 0] rfl ?_
      exact J55 σ_36 z36_s0 z175 G_36 F_36 hc36_h ⟨by omega, by omega⟩ ⟨by omega, by omega⟩ ⟨by omega, by omega⟩ (⟨(At.mk h164 e167 (by omega) ⟨by omega, by omega⟩), (by omega)⟩)
  refine v_aload_n B dX12_asked_0 rfl rfl ?_
  refine v_iload_n B dX12_asked_1 rfl rfl ?_
  refine v_iload_n B dX12_asked_2 rfl rfl ?_
  refine v_iload_n B dX12_asked_3 rfl rfl ?_
  refine u_callVi B Z hz (n := 3) (As := [.int (iI d), .int (iI x2), .int (iI x3)]) (rest := []) (c_M_hasBytes l D K Z _ _ _ _ h q Y d x2 x3 ⟨by omega, by omega⟩ ⟨by omega, by omega⟩ ⟨by omega, by omega⟩ σ0 (G0.t)) gd_M_asked_M_hasBytes_577 rfl rfl rfl (by decide +kernel) ⟨Nat.le_trans (by decide +kernel) hR.1, Nat.le_trans (by decide +kernel) hR.2⟩ Y.o (clsM G0.t) rfl rfl rfl rfl (Nat.le_of_ble_eq_true rfl) dX12_asked_4 ⟨Nat.zero_le _, Nat.zero_le _⟩ (fun v180 σ178 p179 => ?_)
  obtain ⟨rfl, z181, e182, r183, po184⟩ := p179
  subst e182
  refine u_if_ne B (tgt := 19) (by omega) dX12_asked_7 (by decide +kernel) (fun c185 => ?_) (fun c185 => ?_)
  · refine v_iload_n B dX12_asked_19 rfl rfl ?_
    refine v_iconst B (v := iI 2) dX12_asked_20 rfl ?_
    refine u_icmp_le B (tgt := 35) (by omega) (by omega) dX12_asked_21 (by decide +kernel) (fun c186 => ?_) (fun c186 => ?_)
    · refine v_iconst B (v := iI 0) dX12_asked_35 rfl ?_
      exact J36 σ0 0 G0 F0 h6 ⟨by omega, by omega⟩ ⟨by omega, by omega⟩ (⟨(At.mk h13 e16 (by omega) ⟨by omega, by omega⟩), (by omega)⟩)
    · refine v_aload_n B dX12_asked_24 rfl rfl ?_
      refine u_get B Z (C := RX12) (T := TX12) (N := 123) (ci := 12) hi_M_asked_X12 Y.o h6 rfl 91 (by decide +kernel) (List.mem_of_getElem? (i := 54) rfl) rfl dX12_asked_25 ?_
      refine v_iconst B (v := iI 1) dX12_asked_28 rfl ?_
      refine u_callSi B Z hz (n := 2) (As := [.ref (q 91), .int (iI 1)]) (rest := []) (c_M_two l D K Z _ _ _ _ h q Y 91 96 1 rfl ⟨by omega, by omega⟩ σ0 (G0.t) (by omega)) gd_M_asked_M_two_489 rfl rfl rfl (by decide +kernel) ⟨Nat.le_trans (by decide +kernel) hR.1, Nat.le_trans (by decide +kernel) hR.2⟩ rfl rfl (Nat.le_of_ble_eq_true rfl) dX12_asked_29 ⟨Nat.zero_le _, Nat.zero_le _⟩ (fun v189 σ187 p188 => ?_)
      obtain ⟨rfl, z190, e191, r192⟩ := p188
      subst e191
      refine v_goto B (tgt := 36) dX12_asked_32 (by decide +kernel) ?_
      exact J36 σ0 z190 G0 F0 h6 ⟨by omega, by omega⟩ ⟨by omega, by omega⟩ (⟨(At.mk h13 e16 (by omega) ⟨by omega, by omega⟩), (by omega)⟩)
  · refine v_aload_n B dX12_asked_10 rfl rfl ?_
    refine v_iload_n B dX12_asked_11 rfl rfl ?_
    refine v_iload_n B dX12_asked_12 rfl rfl ?_
    refine v_iconst B (v := iI 0) dX12_asked_13 rfl ?_
    refine v_iconst B (v := iI 4) dX12_asked_14 rfl ?_
    refine u_callVv B Z hz (n := 4) (As := [.int (iI d), .int (iI x2), .int (iI 0), .int (iI 4)]) (rest := []) (c_M_error l D K Z _ _ _ _ h q Y d x2 0 4 ⟨by omega, by omega⟩ ⟨by omega, by omega⟩ ⟨by omega, by omega⟩ ⟨by omega, by omega⟩ σ0 G0 (At.mk h13 e16 (by omega) ⟨by omega, by omega⟩)) gd_M_asked_M_error_564 rfl rfl rfl (by decide +kernel) ⟨Nat.le_trans (by decide +kernel) hR.1, Nat.le_trans (by decide +kernel) hR.2⟩ Y.o (clsM G0.t) rfl rfl rfl rfl (Nat.le_of_ble_eq_true rfl) dX12_asked_15 ⟨Nat.zero_le _, Nat.zero_le _⟩ (fun σ193 p194 => ?_)
    obtain ⟨G196, F197⟩ := p194
    have F198 := F0.call F197 (by first | rfl | simp)
    exact hend σ193 _ _ G196 F198 dX12_asked_18
set_option maxRecDepth 100000 in
theorem c_M_asked (l : Launch) (D : va_G) (K : Nat → ClassId) {τ : Nat → Option Ty} {dom : List Nat} (Z : Sk τ dom) (zb zL : Nat) (zx : Nat → Int32) (zs : Nat → Nat) (h : Nat) (q : Nat → Nat) (Y : MS τ h q) (d : Int) (x2 : Int) (x3 : Int) (r_d : 0 ≤ d ∧ d ≤ 1) (r_x2 : 0 ≤ x2 ∧ x2 ≤ 255) (r_x3 : -4 ≤ x3 ∧ x3 ≤ 92) (σ0 : Nat → va_E) (G0 : GM K h q σ0) (hM : At σ0 (q 85) (d : Int).toNat (0) (7)) (ho : x2 = 2 ∨ x2 = 4 ∨ x2 = 6 ∨ x2 = 8 ∨ x2 = 10 ∨ x2 = 12 ∨ x2 = 16 ∨ x2 = 18 ∨ x2 = 22 ∨ x2 = 24) : MZ l yX12_asked wp_M_asked ({ frames := 4, cells := 0, slots := 0, locals := 108 }) D (tysA K) [.ref h, .int (iI d), .int (iI x2), .int (iI x3)] (fd dom σ0) zb zL zx zs (Qv D (fun σ' => GM K h q σ' ∧ Fr τ [(190, 0), (182, 0), (184, 0), (185, 0), (206, 0), (210, 0), (211, 0), (212, 0), (208, 0), (203, 0), (207, 0), (209, 0), (213, 0), (204, 0)] σ0 σ') (fun σ' => fd dom σ')) 0 0 := by
  refine mz_of (cc := cX12_asked) (maxL := 7) (ret := none) (by decide +kernel) rfl (Nat.le_of_ble_eq_true rfl) ?_
  intro p e s m below meth c A B hr hlk _ hz
  exact b_M_asked ⟨Nat.le_refl _, Nat.le_refl _⟩ B Z hz h q Y d x2 x3 r_d r_x2 r_x3 σ0 G0 hM ho (fun σ' lv pc G F hd => v_vret B hr hlk σ' ⟨G, F⟩ rfl (Nat.le_refl _) (Nat.le_refl _) hd)
