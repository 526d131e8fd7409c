def wp_M_attributes : List Cond := .code yX12_attributes cX12_attributes 4 none :: (([.methodLink RX12 562 yX12_asked, .instanceMethod yX12_asked, .selects RX12 yX12_asked yX12_asked, .initialized RX12, .code yX12_asked cX12_asked 7 none, .methodLink RX12 590 yX12_reads, .instanceMethod yX12_reads, .selects RX12 yX12_reads yX12_reads, .code yX12_reads cX12_reads 9 none, .methodLink RX12 564 yX12_error, .instanceMethod yX12_error, .selects RX12 yX12_error yX12_error, .code yX12_error cX12_error 5 none, .fieldLink RX12 290 "LowEnergyModel" "said" "[B", .methodLink RX12 432 yX12_number, .static yX12_number, .code yX12_number cX12_number 6 none, .methodLink RX12 527 yX12_says, .instanceMethod yX12_says, .selects RX12 yX12_says yX12_says, .code yX12_says cX12_says 5 none, .fieldLink RX12 275 "LowEnergyModel" "messages" "[I", .fieldLink RX12 266 "LowEnergyModel" "message" "[B", .methodLink RX12 29 yX12_copy, .static yX12_copy, .code yX12_copy cX12_copy 6 none, .fieldLink RX12 272 "LowEnergyModel" "messageMany" "[I", .fieldLink RX12 329 "LowEnergyModel" "length" "[I", .fieldLink RX12 332 "LowEnergyModel" "mtu" "[I", .methodLink RX12 404 Lib.Math.min.name, .static Lib.Math.min.name, .initialized "java/lang/Math", .code Lib.Math.min.name Lib.Math.min.code 2 (some .int), .fieldLink RX12 341 "LowEnergyModel" "values" "[B", .methodLink RX12 570 yX12_lacks, .instanceMethod yX12_lacks, .selects RX12 yX12_lacks yX12_lacks, .code yX12_lacks cX12_lacks 5 (some .int), .fieldLink RX12 326 "LowEnergyModel" "rights" "[I", .methodLink RX12 547 yX12_row, .instanceMethod yX12_row, .selects RX12 yX12_row yX12_row, .code yX12_row cX12_row 3 (some .int), .fieldLink RX12 239 "LowEnergyModel" "isSecure" "[Z", .methodLink RX12 567 yX12_isHandle, .instanceMethod yX12_isHandle, .selects RX12 yX12_isHandle yX12_isHandle, .code yX12_isHandle cX12_isHandle 3 (some .boolean), .fieldLink RX12 320 "LowEnergyModel" "attributes" "[I", .methodLink RX12 593 yX12_writing, .instanceMethod yX12_writing, .selects RX12 yX12_writing yX12_writing, .code yX12_writing cX12_writing 8 none, .fieldLink RX12 338 "LowEnergyModel" "parts" "[I", .fieldLink RX12 350 "LowEnergyModel" "partHandle" "[I", .fieldLink RX12 353 "LowEnergyModel" "partPlace" "[I", .fieldLink RX12 356 "LowEnergyModel" "partMany" "[I", .fieldLink RX12 293 "LowEnergyModel" "asks" "[B", .fieldLink RX12 344 "LowEnergyModel" "partBytes" "[B", .methodLink RX12 574 yX12_writes, .instanceMethod yX12_writes, .selects RX12 yX12_writes yX12_writes, .code yX12_writes cX12_writes 4 none, .methodLink RX12 587 yX12_executes, .instanceMethod yX12_executes, .selects RX12 yX12_executes yX12_executes, .code yX12_executes cX12_executes 9 none, .fieldLink RX12 359 "LowEnergyModel" "trialLength" "[I", .fieldLink RX12 347 "LowEnergyModel" "trial" "[B", .methodLink RX12 596 Lib.Math.max.name, .static Lib.Math.max.name, .code Lib.Math.max.name Lib.Math.max.code 2 (some .int), .methodLink RX12 584 yX12_mtus, .instanceMethod yX12_mtus, .selects RX12 yX12_mtus yX12_mtus, .code yX12_mtus cX12_mtus 3 none, .fieldLink RX12 335 "LowEnergyModel" "ownMtu" "[I", .methodLink RX12 581 yX12_lists, .instanceMethod yX12_lists, .selects RX12 yX12_lists yX12_lists, .code yX12_lists cX12_lists 16 none, .methodLink RX12 603 yX12_endOf, .instanceMethod yX12_endOf, .selects RX12 yX12_endOf yX12_endOf, .code yX12_endOf cX12_endOf 4 (some .int), .fieldLink RX12 323 "LowEnergyModel" "type" "[I", .methodLink RX12 599 yX12_isValue, .instanceMethod yX12_isValue, .selects RX12 yX12_isValue yX12_isValue, .code yX12_isValue cX12_isValue 8 (some .boolean), .methodLink RX12 489 yX12_two, .static yX12_two, .code yX12_two cX12_two 2 (some .int), .methodLink RX12 577 yX12_hasBytes, .instanceMethod yX12_hasBytes, .selects RX12 yX12_hasBytes yX12_hasBytes, .code yX12_hasBytes cX12_hasBytes 4 (some .boolean), .methodLink RX12 556 yX12_toldOf, .instanceMethod yX12_toldOf, .selects RX12 yX12_toldOf yX12_toldOf, .code yX12_toldOf cX12_toldOf 4 none, .methodLink RX12 409 yX12_complete, .instanceMethod yX12_complete, .selects RX12 yX12_complete yX12_complete, .code yX12_complete cX12_complete 11 none, .fieldLink RX12 155 "LowEnergyModel" "kept" "[I", .fieldLink RX12 158 "LowEnergyModel" "keptMany" "[I", .fieldLink RX12 161 "LowEnergyModel" "notKept" "[I", .methodLink RX12 559 yX12_writesAlone, .instanceMethod yX12_writesAlone, .selects RX12 yX12_writesAlone yX12_writesAlone, .code yX12_writesAlone cX12_writesAlone 4 none, .methodLink RX12 553 yX12_confirmed, .instanceMethod yX12_confirmed, .selects RX12 yX12_confirmed yX12_confirmed, .code yX12_confirmed cX12_confirmed 3 none, .fieldLink RX12 362 "LowEnergyModel" "waits30" "[Z", .methodLink RX12 504 yX12_complete_, .instanceMethod yX12_complete_, .selects RX12 yX12_complete_ yX12_complete_, .code yX12_complete_ cX12_complete_ 6 none, .fieldLink RX12 10 "LowEnergyModel" "tape" "[B", .methodLink RX12 550 yX12_answered, .instanceMethod yX12_answered, .selects RX12 yX12_answered yX12_answered, .code yX12_answered cX12_answered 6 none, .fieldLink RX12 377 "LowEnergyModel" "place" "[I", .fieldLink RX12 380 "LowEnergyModel" "jobMany" "[I", .fieldLink RX12 368 "LowEnergyModel" "jobA" "[I", .fieldLink RX12 383 "LowEnergyModel" "jobBytes" "[B", .methodLink RX12 621 yX12_ends, .instanceMethod yX12_ends, .selects RX12 yX12_ends yX12_ends, .code yX12_ends cX12_ends 3 none, .fieldLink RX12 365 "LowEnergyModel" "job" "[I", .methodLink RX12 630 yX12_asksFor, .instanceMethod yX12_asksFor, .selects RX12 yX12_asksFor yX12_asksFor, .code yX12_asksFor cX12_asksFor 3 none, .methodLink RX12 606 yX12_request, .instanceMethod yX12_request, .selects RX12 yX12_request yX12_request, .code yX12_request cX12_request 4 none, .fieldLink RX12 374 "LowEnergyModel" "due" "[I", .constantLong RX12 609 (65535), .constantLong RX12 611 (10240), .fieldLink RX12 371 "LowEnergyModel" "jobB" "[I", .constantLong RX12 613 (10243), .methodLink RX12 615 yX12_asksToWrite, .instanceMethod yX12_asksToWrite, .selects RX12 yX12_asksToWrite yX12_asksToWrite, .code yX12_asksToWrite cX12_asksToWrite 3 none, .methodLink RX12 624 yX12_isAnswer, .instanceMethod yX12_isAnswer, .selects RX12 yX12_isAnswer yX12_isAnswer, .code yX12_isAnswer cX12_isAnswer 3 (some .boolean), .methodLink RX12 618 yX12_areRows, .static yX12_areRows, .code yX12_areRows cX12_areRows 4 (some .boolean), .methodLink RX12 627 yX12_rows, .instanceMethod yX12_rows, .selects RX12 yX12_rows yX12_rows, .code yX12_rows cX12_rows 11 none, .constant RX12 493 (65535)] : List Cond) ++ (wsX120 ++ ([])))
theorem hi_M_attributes_X12 : ∀ x ∈ u_ws RX12 TX12 123, x ∈ wp_M_attributes := fun _ h => List.mem_cons_of_mem _ (List.mem_append_right _ (List.mem_append_left _ h))
set_option maxRecDepth 100000 in
theorem gd_M_attributes_M_asked_562 : GoodIn wp_M_attributes (wsV RX12 562 RX12 yX12_asked wp_M_asked) := goodIn_app (goodIn_r _ [1, 2, 3, 4] rfl rfl) (goodIn_ca (goodIn_r _ [5, 6, 7, 8, 4, 9, 10, 11, 12, 13, 14, 15, 16, 17, 18, 19, 20, 21, 22, 23, 24, 25, 26, 27, 28, 29, 30, 31, 32, 33, 34, 35, 36, 37, 38, 39, 40, 41, 42, 43, 44, 45, 46, 47, 48, 49, 50, 51, 52, 53, 54, 55, 56, 57, 58, 59, 60, 61, 62, 63, 64, 65, 66, 67, 68, 69, 70, 71, 72, 73, 74, 75, 76, 77, 78, 79, 80, 81, 82, 83, 84, 85, 86, 87, 88, 89, 90, 91, 92, 93, 94, 95, 96, 97] rfl rfl) (goodIn_app (goodIn_cls hi_M_attributes_X12 gw_X12) (goodIn_nil)))
set_option maxRecDepth 100000 in
theorem gd_M_attributes_M_toldOf_556 : GoodIn wp_M_attributes (wsV RX12 556 RX12 yX12_toldOf wp_M_toldOf) := goodIn_app (goodIn_r _ [98, 99, 100, 4] rfl rfl) (goodIn_ca (goodIn_r _ [101, 58, 91, 92, 4, 93, 102, 103, 104, 105, 106, 107, 30, 31, 32, 33, 108, 14, 18, 19, 20, 21, 22, 23, 15, 16, 17, 24, 25, 26, 27, 29] rfl rfl) (goodIn_app (goodIn_cls hi_M_attributes_X12 gw_X12) (goodIn_nil)))
set_option maxRecDepth 100000 in
theorem gd_M_attributes_M_error_564 : GoodIn wp_M_attributes (wsV RX12 564 RX12 yX12_error wp_M_error) := goodIn_app (goodIn_r _ [10, 11, 12, 4] rfl rfl) (goodIn_ca (goodIn_r _ [13, 14, 15, 16, 4, 17, 18, 19, 20, 21, 22, 23, 24, 25, 26, 27] rfl rfl) (goodIn_app (goodIn_cls hi_M_attributes_X12 gw_X12) (goodIn_nil)))
set_option maxRecDepth 100000 in
theorem gd_M_attributes_M_writesAlone_559 : GoodIn wp_M_attributes (wsV RX12 559 RX12 yX12_writesAlone wp_M_writesAlone) := goodIn_app (goodIn_r _ [109, 110, 111, 4] rfl rfl) (goodIn_ca (goodIn_r _ [112, 29, 58, 91, 92, 4, 93, 45, 46, 47, 48, 49, 35, 36, 37, 38, 39, 40, 41, 42, 43, 44, 60, 61, 62, 63, 28, 34, 24, 25, 26] rfl rfl) (goodIn_app (goodIn_cls hi_M_attributes_X12 gw_X12) (goodIn_nil)))
set_option maxRecDepth 100000 in
theorem gd_M_attributes_M_confirmed_553 : GoodIn wp_M_attributes (wsV RX12 553 RX12 yX12_confirmed wp_M_confirmed) := goodIn_app (goodIn_r _ [113, 114, 115, 4] rfl rfl) (goodIn_ca (goodIn_r _ [116, 117, 118, 119, 120, 4, 121, 122, 102, 103, 104, 105, 106, 107, 30, 31, 32, 33, 108] rfl rfl) (goodIn_app (goodIn_cls hi_M_attributes_X12 gw_X12) (goodIn_nil)))
set_option maxRecDepth 100000 in
theorem gd_M_attributes_M_answered_550 : GoodIn wp_M_attributes (wsV RX12 550 RX12 yX12_answered wp_M_answered) := goodIn_app (goodIn_r _ [123, 124, 125, 4] rfl rfl) (goodIn_ca (goodIn_r _ [126, 127, 128, 29, 129, 130, 102, 103, 104, 4, 105, 106, 107, 30, 31, 32, 33, 108, 131, 132, 133, 134, 135, 118, 119, 120, 121, 122, 136, 137, 138, 139, 140, 141, 142, 143, 14, 144, 18, 19, 20, 21, 22, 23, 15, 16, 17, 24, 25, 26, 27, 77, 145, 146, 147, 148, 149, 150, 151, 152, 58, 91, 92, 93, 153, 154, 155, 156, 157, 158, 159, 70, 71, 72, 160, 161, 162, 163, 164] rfl rfl) (goodIn_app (goodIn_cls hi_M_attributes_X12 gw_X12) (goodIn_nil)))
set_option maxHeartbeats 4000000 in
set_option maxRecDepth 100000 in
theorem b_M_attributes {p : Program} {l : Launch} {e : Env} {R : Room} {s : State} {m : MethodId} {args : Array Value} {below : List Frame} {meth : Method} {c : Code} {D : va_G} {K : Nat → ClassId} {A : Nat → Prop} {Q : State → Prop} {τ : Nat → Option Ty} {dom : List Nat} {zb zL : Nat} {zx : Nat → Int32} {zs : Nat → Nat} (hR : 7 ≤ R.frames ∧ 171 ≤ R.locals) (B : Bx p s m args c cX12_attributes 4 RX12 wp_M_attributes D (tysA K) A) (Z : Sk τ dom) (hz : ZL zb zL zx zs A s s.heap) (h : Nat) (q : Nat → Nat) (Y : MS τ h q) (d : Int) (x2 : Int) (r_d : 0 ≤ d ∧ d ≤ 1) (r_x2 : -4 ≤ x2 ∧ x2 ≤ 92) (σ0 : Nat → va_E) (G0 : GM K h q σ0) (hM : At σ0 (q 85) (d : Int).toNat (0) (7)) (hend : ∀ (σ' : Nat → va_E) (lv : List (Nat × Value)) (pc : Nat), GM K h q σ' → Fr τ [(204, 0), (216, 0), (145, 0), (144, 0), (146, 0), (190, 0), (219, 0), (182, 0), (184, 0), (185, 0), (220, 0), (222, 0), (221, 0), (203, 0), (207, 0), (214, 0), (206, 0), (210, 0), (211, 0), (212, 0), (208, 0), (209, 0), (213, 0)] σ0 σ' → decode cX12_attributes pc = .ok (.return_, 1) → V p l e R s m args below meth c 4 D A Q (0, 0) (fd dom σ') lv pc []) : V p l e R s m args below meth c 4 D A Q (0, 0) (fd dom σ0) [(0, .ref h), (1, .int (iI d)), (2, .int (iI x2))] 0 [] := by
  have F0 : Fr τ [(204, 0), (216, 0), (145, 0), (144, 0), (146, 0), (190, 0), (219, 0), (182, 0), (184, 0), (185, 0), (220, 0), (222, 0), (221, 0), (203, 0), (207, 0), (214, 0), (206, 0), (210, 0), (211, 0), (212, 0), (208, 0), (209, 0), (213, 0)] σ0 σ0 := Fr.rf
  obtain ⟨z1, z2, z3, z4, z5, h6, r7, r8, r9, r10, r11⟩ := G0.t.o
  obtain ⟨f12, h13, e14⟩ := ga_85 G0.t
  obtain ⟨z15, e16, r17⟩ := e14 (d : Int).toNat
  have r18 := hM.use h13 e16 (by omega)
  have J144 : ∀ (σ_144 : Nat → va_E) (z144_3 : Int), GM K h q σ_144 → Fr τ [(204, 0), (216, 0), (145, 0), (144, 0), (146, 0), (190, 0), (219, 0), (182, 0), (184, 0), (185, 0), (220, 0), (222, 0), (221, 0), (203, 0), (207, 0), (214, 0), (206, 0), (210, 0), (211, 0), (212, 0), (208, 0), (209, 0), (213, 0)] σ0 σ_144 → (σ_144 h = .inr (12, fsM q (iI z1) (iI z2) (iI z3) (iI z4) (iI z5))) → (2 ≤ z144_3 ∧ z144_3 ≤ 24) → (At σ_144 (q 85) (d : Int).toNat (0) (7) ∧ (z144_3 = 2 ∨ z144_3 = 4 ∨ z144_3 = 6 ∨ z144_3 = 8 ∨ z144_3 = 10 ∨ z144_3 = 12 ∨ z144_3 = 16 ∨ z144_3 = 18 ∨ z144_3 = 22 ∨ z144_3 = 24)) → V p l e R s m args below meth c 4 D A Q (0, 0) (fd dom σ_144) [(0, .ref h), (1, .int (iI d)), (2, .int (iI x2)), (3, .int (iI z144_3))] 144 [] := by
    intro σ_144 z144_3 G_144 F_144 hc144_h r144_3 i144
    obtain ⟨f19, h20, e21⟩ := ga_85 G_144.t
    obtain ⟨z22, e23, r24⟩ := e21 (d : Int).toNat
    have r25 := (i144.1).use h20 e23 (by omega)
    have r26 := i144.2
    refine v_aload_n B dX12_attributes_144 rfl rfl ?_
    refine v_iload_n B dX12_attributes_145 rfl rfl ?_
    refine v_iload_n B dX12_attributes_146 rfl rfl ?_
    refine v_iload_n B dX12_attributes_147 rfl rfl ?_
    refine u_callVv B Z hz (n := 3) (As := [.int (iI d), .int (iI z144_3), .int (iI x2)]) (rest := []) (c_M_asked l D K Z _ _ _ _ h q Y d z144_3 x2 ⟨by omega, by omega⟩ ⟨by omega, by omega⟩ ⟨by omega, by omega⟩ σ_144 G_144 (At.mk h20 e23 (by omega) ⟨by omega, by omega⟩) (by omega)) gd_M_attributes_M_asked_562 rfl rfl rfl (by decide +kernel) ⟨Nat.le_trans (by decide +kernel) hR.1, Nat.le_trans (by decide +kernel) hR.2⟩ Y.o (clsM G_144.t) rfl rfl rfl rfl (Nat.le_of_ble_eq_true rfl) dX12_attributes_148 ⟨Nat.zero_le _, Nat.zero_le _⟩ (fun σ27 p28 => ?_)
    obtain ⟨G30, F31⟩ := p28
    have F32 := F_144.call F31 (by first | rfl | simp)
    refine v_goto B (tgt := 170) dX12_attributes_151 (by decide +kernel) ?_
    exact hend σ27 _ _ G30 F32 dX12_attributes_170
  have J61 : ∀ (σ_61 : Nat → va_E) (z61_3 : Int), GM K h q σ_61 → Fr τ [(204, 0), (216, 0), (145, 0), (144, 0), (146, 0), (190, 0), (219, 0), (182, 0), (184, 0), (185, 0), (220, 0), (222, 0), (221, 0), (203, 0), (207, 0), (214, 0), (206, 0), (210, 0), (211, 0), (212, 0), (208, 0), (209, 0), (213, 0)] σ0 σ_61 → (σ_61 h = .inr (12, fsM q (iI z1) (iI z2) (iI z3) (iI z4) (iI z5))) → (27 ≤ z61_3 ∧ z61_3 ≤ 29) → (At σ_61 (q 85) (d : Int).toNat (0) (7)) → V p l e R s m args below meth c 4 D A Q (0, 0) (fd dom σ_61) [(0, .ref h), (1, .int (iI d)), (2, .int (iI x2)), (3, .int (iI z61_3))] 61 [] := by
    intro σ_61 z61_3 G_61 F_61 hc61_h r61_3 i61
    obtain ⟨f33, h34, e35⟩ := ga_85 G_61.t
    obtain ⟨z36, e37, r38⟩ := e35 (d : Int).toNat
    have r39 := (i61).use h34 e37 (by omega)
    refine v_aload_n B dX12_attributes_61 rfl rfl ?_
    refine v_iload_n B dX12_attributes_62 rfl rfl ?_
    refine v_iload_n B dX12_attributes_63 rfl rfl ?_
    refine v_iload_n B dX12_attributes_64 rfl rfl ?_
    refine u_callVv B Z hz (n := 3) (As := [.int (iI d), .int (iI z61_3), .int (iI x2)]) (rest := []) (c_M_toldOf l D K Z _ _ _ _ h q Y d z61_3 x2 ⟨by omega, by omega⟩ ⟨by omega, by omega⟩ ⟨by omega, by omega⟩ σ_61 G_61 (At.mk h34 e37 (by omega) ⟨by omega, by omega⟩)) gd_M_attributes_M_toldOf_556 rfl rfl rfl (by decide +kernel) ⟨Nat.le_trans (by decide +kernel) hR.1, Nat.le_trans (by decide +kernel) hR.2⟩ Y.o (clsM G_61.t) rfl rfl rfl rfl (Nat.le_of_ble_eq_true rfl) dX12_attributes_65 ⟨Nat.zero_le _, Nat.zero_le _⟩ (fun σ40 p41 => ?_)
    obtain ⟨G43, F44⟩ := p41
    have F45 := F_61.call F44 (by first | rfl | simp)
    refine v_goto B (tgt := 170) dX12_attributes_68 (by decide +kernel) ?_
    exact hend σ40 _ _ G43 F45 dX12_attributes_170
  have J34 : ∀ (σ_34 : Nat → va_E) (z34_3 : Int), GM K h q σ_34 → Fr τ [(204, 0), (216, 0), (145, 0), (144, 0), (146, 0), (190, 0), (219, 0), (182, 0), (184, 0), (185, 0), (220, 0), (222, 0), (221, 0), (203, 0), (207, 0), (214, 0), (206, 0), (210, 0), (211, 0), (212, 0), (208, 0), (209, 0), (213, 0)] σ0 σ_34 → (σ_34 h = .inr (12, fsM q (iI z1) (iI z2) (iI z3) (iI z4) (iI z5))) → (0 ≤ z34_3 ∧ z34_3 ≤ 255) → (At σ_34 (q 85) (d : Int).toNat (0) (7)) → V p l e R s m args below meth c 4 D A Q (0, 0) (fd dom σ_34) [(0, .ref h), (1, .int (iI d)), (2, .int (iI x2)), (3, .int (iI z34_3))] 34 [] := by
    intro σ_34 z34_3 G_34 F_34 hc34_h r34_3 i34
    obtain ⟨f46, h47, e48⟩ := ga_85 G_34.t
    obtain ⟨z49, e50, r51⟩ := e48 (d : Int).toNat
    have r52 := (i34).use h47 e50 (by omega)
    refine v_iload_n B dX12_attributes_34 rfl rfl ?_
    refine v_bipush B (v := iI 30) dX12_attributes_35 (by decide +kernel) ?_
    refine u_icmp_ne B (tgt := 49) (by omega) (by omega) dX12_attributes_37 (by decide +kernel) (fun c53 => ?_) (fun c53 => ?_)
    · refine v_iload_n B dX12_attributes_49 rfl rfl ?_
      refine v_bipush B (v := iI 27) dX12_attributes_50 (by decide +kernel) ?_
      refine u_icmp_eq B (tgt := 61) (by omega) (by omega) dX12_attributes_52 (by decide +kernel) (fun c54 => ?_) (fun c54 => ?_)
      · exact J61 σ_34 z34_3 G_34 F_34 hc34_h ⟨by omega, by omega⟩ ((At.mk h47 e50 (by omega) ⟨by omega, by omega⟩))
      · refine v_iload_n B dX12_attributes_55 rfl rfl ?_
        refine v_bipush B (v := iI 29) dX12_attributes_56 (by decide +kernel) ?_
        refine u_icmp_ne B (tgt := 71) (by omega) (by omega) dX12_attributes_58 (by decide +kernel) (fun c55 => ?_) (fun c55 => ?_)
        · refine v_iload_n B dX12_attributes_71 rfl rfl ?_
          refine v_bipush B (v := iI 82) dX12_attributes_72 (by decide +kernel) ?_
          refine u_icmp_ne B (tgt := 86) (by omega) (by omega) dX12_attributes_74 (by decide +kernel) (fun c56 => ?_) (fun c56 => ?_)
          · refine v_iload_n B dX12_attributes_86 rfl rfl ?_
            refine v_iconst B (v := iI 2) dX12_attributes_87 rfl ?_
            refine u_icmp_eq B (tgt := 144) (by omega) (by omega) dX12_attributes_88 (by decide +kernel) (fun c57 => ?_) (fun c57 => ?_)
            · exact J144 σ_34 z34_3 G_34 F_34 hc34_h ⟨by omega, by omega⟩ (⟨(At.mk h47 e50 (by omega) ⟨by omega, by omega⟩), (by omega)⟩)
            · refine v_iload_n B dX12_attributes_91 rfl rfl ?_
              refine v_iconst B (v := iI 4) dX12_attributes_92 rfl ?_
              refine u_icmp_eq B (tgt := 144) (by omega) (by omega) dX12_attributes_93 (by decide +kernel) (fun c58 => ?_) (fun c58 => ?_)
              · exact J144 σ_34 z34_3 G_34 F_34 hc34_h ⟨by omega, by omega⟩ (⟨(At.mk h47 e50 (by omega) ⟨by omega, by omega⟩), (by omega)⟩)
              · refine v_iload_n B dX12_attributes_96 rfl rfl ?_
                refine v_bipush B (v := iI 6) dX12_attributes_97 (by decide +kernel) ?_
                refine u_icmp_eq B (tgt := 144) (by omega) (by omega) dX12_attributes_99 (by decide +kernel) (fun c59 => ?_) (fun c59 => ?_)
                · exact J144 σ_34 z34_3 G_34 F_34 hc34_h ⟨by omega, by omega⟩ (⟨(At.mk h47 e50 (by omega) ⟨by omega, by omega⟩), (by omega)⟩)
                · refine v_iload_n B dX12_attributes_102 rfl rfl ?_
                  refine v_bipush B (v := iI 8) dX12_attributes_103 (by decide +kernel) ?_
                  refine u_icmp_eq B (tgt := 144) (by omega) (by omega) dX12_attributes_105 (by decide +kernel) (fun c60 => ?_) (fun c60 => ?_)
                  · exact J144 σ_34 z34_3 G_34 F_34 hc34_h ⟨by omega, by omega⟩ (⟨(At.mk h47 e50 (by omega) ⟨by omega, by omega⟩), (by omega)⟩)
                  · refine v_iload_n B dX12_attributes_108 rfl rfl ?_
                    refine v_bipush B (v := iI 10) dX12_attributes_109 (by decide +kernel) ?_
                    refine u_icmp_eq B (tgt := 144) (by omega) (by omega) dX12_attributes_111 (by decide +kernel) (fun c61 => ?_) (fun c61 => ?_)
                    · exact J144 σ_34 z34_3 G_34 F_34 hc34_h ⟨by omega, by omega⟩ (⟨(At.mk h47 e50 (by omega) ⟨by omega, by omega⟩), (by omega)⟩)
                    · refine v_iload_n B dX12_attributes_114 rfl rfl ?_
                      refine v_bipush B (v := iI 12) dX12_attributes_115 (by decide +kernel) ?_
                      refine u_icmp_eq B (tgt := 144) (by omega) (by omega) dX12_attributes_117 (by decide +kernel) (fun c62 => ?_) (fun c62 => ?_)
                      · exact J144 σ_34 z34_3 G_34 F_34 hc34_h ⟨by omega, by omega⟩ (⟨(At.mk h47 e50 (by omega) ⟨by omega, by omega⟩), (by omega)⟩)
                      · refine v_iload_n B dX12_attributes_120 rfl rfl ?_
                        refine v_bipush B (v := iI 16) dX12_attributes_121 (by decide +kernel) ?_
                        refine u_icmp_eq B (tgt := 144) (by omega) (by omega) dX12_attributes_123 (by decide +kernel) (fun c63 => ?_) (fun c63 => ?_)
                        · exact J144 σ_34 z34_3 G_34 F_34 hc34_h ⟨by omega, by omega⟩ (⟨(At.mk h47 e50 (by omega) ⟨by omega, by omega⟩), (by omega)⟩)
                        · refine v_iload_n B dX12_attributes_126 rfl rfl ?_
                          refine v_bipush B (v := iI 18) dX12_attributes_127 (by decide +kernel) ?_
                          refine u_icmp_eq B (tgt := 144) (by omega) (by omega) dX12_attributes_129 (by decide +kernel) (fun c64 => ?_) (fun c64 => ?_)
                          · exact J144 σ_34 z34_3 G_34 F_34 hc34_h ⟨by omega, by omega⟩ (⟨(At.mk h47 e50 (by omega) ⟨by omega, by omega⟩), (by omega)⟩)
                          · refine v_iload_n B dX12_attributes_132 rfl rfl ?_
                            refine v_bipush B (v := iI 22) dX12_attributes_133 (by decide +kernel) ?_
                            refine u_icmp_eq B (tgt := 144) (by omega) (by omega) dX12_attributes_135 (by decide +kernel) (fun c65 => ?_) (fun c65 => ?_)
                            · exact J144 σ_34 z34_3 G_34 F_34 hc34_h ⟨by omega, by omega⟩ (⟨(At.mk h47 e50 (by omega) ⟨by omega, by omega⟩), (by omega)⟩)
                            · refine v_iload_n B dX12_attributes_138 rfl rfl ?_
                              refine v_bipush B (v := iI 24) dX12_attributes_139 (by decide +kernel) ?_
                              refine u_icmp_ne B (tgt := 154) (by omega) (by omega) dX12_attributes_141 (by decide +kernel) (fun c66 => ?_) (fun c66 => ?_)
                              · refine v_iload_n B dX12_attributes_154 rfl rfl ?_
                                refine v_bipush B (v := iI 64) dX12_attributes_155 (by decide +kernel) ?_
                                obtain ⟨z67, e68, r69⟩ := iI_and z34_3 (c := 64) (by decide) (by decide)
                                refine v_iand B (v := iI z67) dX12_attributes_157 e68 ?_
                                refine u_if_ne B (tgt := 170) (by omega) dX12_attributes_158 (by decide +kernel) (fun c70 => ?_) (fun c70 => ?_)
                                · exact hend σ_34 _ _ G_34 F_34 dX12_attributes_170
                                · refine v_aload_n B dX12_attributes_161 rfl rfl ?_
                                  refine v_iload_n B dX12_attributes_162 rfl rfl ?_
                                  refine v_iload_n B dX12_attributes_163 rfl rfl ?_
                                  refine v_iconst B (v := iI 0) dX12_attributes_164 rfl ?_
                                  refine v_bipush B (v := iI 6) dX12_attributes_165 (by decide +kernel) ?_
                                  refine u_callVv B Z hz (n := 4) (As := [.int (iI d), .int (iI z34_3), .int (iI 0), .int (iI 6)]) (rest := []) (c_M_error l D K Z _ _ _ _ h q Y d z34_3 0 6 ⟨by omega, by omega⟩ ⟨by omega, by omega⟩ ⟨by omega, by omega⟩ ⟨by omega, by omega⟩ σ_34 G_34 (At.mk h47 e50 (by omega) ⟨by omega, by omega⟩)) gd_M_attributes_M_error_564 rfl rfl rfl (by decide +kernel) ⟨Nat.le_trans (by decide +kernel) hR.1, Nat.le_trans (by decide +kernel) hR.2⟩ Y.o (clsM G_34.t) rfl rfl rfl rfl (Nat.le_of_ble_eq_true rfl) dX12_attributes_167 ⟨Nat.zero_le _, Nat.zero_le _⟩ (fun σ71 p72 => ?_)
                                  obtain ⟨G74, F75⟩ := p72
                                  have F76 := F_34.call F75 (by first | rfl | simp)
                                  exact hend σ71 _ _ G74 F76 dX12_attributes_170
                              · exact J144 σ_34 z34_3 G_34 F_34 hc34_h ⟨by omega, by omega⟩ (⟨(At.mk h47 e50 (by omega) ⟨by omega, by omega⟩), (by omega)⟩)
          · refine v_aload_n B dX12_attributes_77 rfl rfl ?_
            refine v_iload_n B dX12_attributes_78 rfl rfl ?_
            refine v_iload_n B dX12_attributes_79 rfl rfl ?_
            refine u_callVv B Z hz (n := 2) (As := [.int (iI d), .int (iI x2)]) (rest := []) (c_M_writesAlone l D K Z _ _ _ _ h q Y d x2 ⟨by omega, by omega⟩ ⟨by omega, by omega⟩ σ_34 G_34) gd_M_attributes_M_writesAlone_559 rfl rfl rfl (by decide +kernel) ⟨Nat.le_trans (by decide +kernel) hR.1, Nat.le_trans (by decide +kernel) hR.2⟩ Y.o (clsM G_34.t) rfl rfl rfl rfl (Nat.le_of_ble_eq_true rfl) dX12_attributes_80 ⟨Nat.zero_le _, Nat.zero_le _⟩ (fun σ77 p78 => ?_)
            obtain ⟨G80, F81⟩ := p78
            have F82 := F_34.call F81 (by first | rfl | simp)
            refine v_goto B (tgt := 170) dX12_attributes_83 (by decide +kernel) ?_
            exact hend σ77 _ _ G80 F82 dX12_attributes_170
        · exact J61 σ_34 z34_3 G_34 F_34 hc34_h ⟨by omega, by omega⟩ ((At.mk h47 e50 (by omega) ⟨by omega, by omega⟩))
    · refine v_aload_n B dX12_attributes_40 rfl rfl ?_
      refine v_iload_n B dX12_attributes_41 rfl rfl ?_
      refine v_iload_n B dX12_attributes_42 rfl rfl ?_
      refine u_callVv B Z hz (n := 2) (As := [.int (iI d), .int (iI x2)]) (rest := []) (c_M_confirmed l D K Z _ _ _ _ h q Y d x2 ⟨by omega, by omega⟩ ⟨by omega, by omega⟩ σ_34 G_34) gd_M_attributes_M_confirmed_553 rfl rfl rfl (by decide +kernel) ⟨Nat.le_trans (by decide +kernel) hR.1, Nat.le_trans (by decide +kernel) hR.2⟩ Y.o (clsM G_34.t) rfl rfl rfl rfl (Nat.le_of_ble_eq_true rfl) dX12_attributes_43 ⟨Nat.zero_le _, Nat.zero_le _⟩ (fun σ83 p84 => ?_)
      obtain ⟨G86, F87⟩ := p84
      have F88 := F_34.call F87 (by first | rfl | simp)
      refine v_goto B (tgt := 170) dX12_attributes_46 (by decide +kernel) ?_
      exact hend σ83 _ _ G86 F88 dX12_attributes_170
  refine v_aload_n B dX12_attributes_0 rfl rfl ?_
  refine u_get B Z (C := RX12) (T := TX12) (N := 123) (ci := 12) hi_M_attributes_X12 Y.o h6 rfl 91 (by decide +kernel) (List.mem_of_getElem? (i := 58) rfl) rfl dX12_attributes_1 ?_
  refine v_iconst B (v := iI 0) dX12_attributes_4 rfl ?_
  obtain ⟨f89, h90, e91⟩ := ga_91 G0.t
  obtain ⟨z92, e93, r94⟩ := e91 (0 : Int).toNat
  refine u_bald B Z (t0 := 2) (ym_91 Y) h90 rfl (by omega) e93 dX12_attributes_5 ?_
  refine v_sipush B (v := iI 255) dX12_attributes_6 (by decide +kernel) ?_
  obtain ⟨z95, e96, r97⟩ := iI_and z92 (c := 255) (by decide) (by decide)
  refine v_iand B (v := iI z95) dX12_attributes_9 e96 ?_
  refine v_istore_n B (lv' := [(3, .int (iI z95)), (0, .ref h), (1, .int (iI d)), (2, .int (iI x2))]) dX12_attributes_10 rfl (by decide +kernel) rfl ?_
  refine v_iload_n B dX12_attributes_11 rfl rfl ?_
  refine v_iconst B (v := iI 1) dX12_attributes_12 rfl ?_
  obtain ⟨z98, e99, r100⟩ := iI_and z95 (c := 1) (by decide) (by decide)
  refine v_iand B (v := iI z98) dX12_attributes_13 e99 ?_
  refine v_iconst B (v := iI 1) dX12_attributes_14 rfl ?_
  refine u_icmp_ne B (tgt := 34) (by omega) (by omega) dX12_attributes_15 (by decide +kernel) (fun c101 => ?_) (fun c101 => ?_)
  · refine v_lv [1, 2, 3, 0] rfl ?_
    exact J34 σ0 z95 G0 F0 h6 ⟨by omega, by omega⟩ ((At.mk h13 e16 (by omega) ⟨by omega, by omega⟩))
  · refine v_iload_n B dX12_attributes_18 rfl rfl ?_
    refine v_bipush B (v := iI 26) dX12_attributes_19 (by decide +kernel) ?_
    refine u_icmp_ge B (tgt := 34) (by omega) (by omega) dX12_attributes_21 (by decide +kernel) (fun c102 => ?_) (fun c102 => ?_)
    · refine v_lv [1, 2, 3, 0] rfl ?_
      exact J34 σ0 z95 G0 F0 h6 ⟨by omega, by omega⟩ ((At.mk h13 e16 (by omega) ⟨by omega, by omega⟩))
    · refine v_aload_n B dX12_attributes_24 rfl rfl ?_
      refine v_iload_n B dX12_attributes_25 rfl rfl ?_
      refine v_iload_n B dX12_attributes_26 rfl rfl ?_
      refine v_iload_n B dX12_attributes_27 rfl rfl ?_
      refine u_callVv B Z hz (n := 3) (As := [.int (iI d), .int (iI z95), .int (iI x2)]) (rest := []) (c_M_answered l D K Z _ _ _ _ h q Y d z95 x2 ⟨by omega, by omega⟩ ⟨by omega, by omega⟩ ⟨by omega, by omega⟩ σ0 G0 (At.mk h13 e16 (by omega) ⟨by omega, by omega⟩)) gd_M_attributes_M_answered_550 rfl rfl rfl (by decide +kernel) ⟨Nat.le_trans (by decide +kernel) hR.1, Nat.le_trans (by decide +kernel) hR.2⟩ Y.o (clsM G0.t) rfl rfl rfl rfl (Nat.le_of_ble_eq_true rfl) dX12_attributes_28 ⟨Nat.zero_le _, Nat.zero_le _⟩ (fun σ103 p104 => ?_)
      obtain ⟨G106, F107⟩ := p104
      have F108 := F0.call F107 (by first | rfl | simp)
      refine v_goto B (tgt := 170) dX12_attributes_31 (by decide +kernel) ?_
      exact hend σ103 _ _ G106 F108 dX12_attributes_170
set_option maxRecDepth 100000 in
theorem c_M_attributes (l : Launch) (D : va_G) (K : Nat → ClassId) {τ : Nat → Option Ty} {dom : List Nat} (Z : Sk τ dom) (zb zL : Nat) (zx : Nat → Int32) (zs : Nat → Nat) (h : Nat) (q : Nat → Nat) (Y : MS τ h q) (d : Int) (x2 : Int) (r_d : 0 ≤ d ∧ d ≤ 1) (r_x2 : -4 ≤ x2 ∧ x2 ≤ 92) (σ0 : Nat → va_E) (G0 : GM K h q σ0) (hM : At σ0 (q 85) (d : Int).toNat (0) (7)) : MZ l yX12_attributes wp_M_attributes ({ frames := 7, cells := 0, slots := 0, locals := 171 }) D (tysA K) [.ref h, .int (iI d), .int (iI x2)] (fd dom σ0) zb zL zx zs (Qv D (fun σ' => GM K h q σ' ∧ Fr τ [(204, 0), (216, 0), (145, 0), (144, 0), (146, 0), (190, 0), (219, 0), (182, 0), (184, 0), (185, 0), (220, 0), (222, 0), (221, 0), (203, 0), (207, 0), (214, 0), (206, 0), (210, 0), (211, 0), (212, 0), (208, 0), (209, 0), (213, 0)] σ0 σ') (fun σ' => fd dom σ')) 0 0 := by
  refine mz_of (cc := cX12_attributes) (maxL := 4) (ret := none) (by decide +kernel) rfl (Nat.le_of_ble_eq_true rfl) ?_
  intro p e s m below meth c A B hr hlk _ hz
  exact b_M_attributes ⟨Nat.le_refl _, Nat.le_refl _⟩ B Z hz h q Y d x2 r_d r_x2 σ0 G0 hM (fun σ' lv pc G F hd => v_vret B hr hlk σ' ⟨G, F⟩ rfl (Nat.le_refl _) (Nat.le_refl _) hd)

def wp_M_pieces : List Cond := .code yX12_pieces cX12_pieces 7 none :: (([.fieldLink RX12 269 "LowEnergyModel" "whole" "[B", .fieldLink RX12 293 "LowEnergyModel" "asks" "[B", .methodLink RX12 29 yX12_copy, .static yX12_copy, .initialized RX12, .code yX12_copy cX12_copy 6 none, .methodLink RX12 525 yX12_attributes, .instanceMethod yX12_attributes, .selects RX12 yX12_attributes yX12_attributes, .code yX12_attributes cX12_attributes 4 none, .methodLink RX12 562 yX12_asked, .instanceMethod yX12_asked, .selects RX12 yX12_asked yX12_asked, .code yX12_asked cX12_asked 7 none, .methodLink RX12 590 yX12_reads, .instanceMethod yX12_reads, .selects RX12 yX12_reads yX12_reads, .code yX12_reads cX12_reads 9 none, .methodLink RX12 564 yX12_error, .instanceMethod yX12_error, .selects RX12 yX12_error yX12_error, .code yX12_error cX12_error 5 none, .fieldLink RX12 290 "LowEnergyModel" "said" "[B", .methodLink RX12 432 yX12_number, .static yX12_number, .code yX12_number cX12_number 6 none, .methodLink RX12 527 yX12_says, .instanceMethod yX12_says, .selects RX12 yX12_says yX12_says, .code yX12_says cX12_says 5 none, .fieldLink RX12 275 "LowEnergyModel" "messages" "[I", .fieldLink RX12 266 "LowEnergyModel" "message" "[B", .fieldLink RX12 272 "LowEnergyModel" "messageMany" "[I", .fieldLink RX12 329 "LowEnergyModel" "length" "[I", .fieldLink RX12 332 "LowEnergyModel" "mtu" "[I", .methodLink RX12 404 Lib.Math.min.name, .static Lib.Math.min.name, .initialized "java/lang/Math", .code Lib.Math.min.name Lib.Math.min.code 2 (some .int), .fieldLink RX12 341 "LowEnergyModel" "values" "[B", .methodLink RX12 570 yX12_lacks, .instanceMethod yX12_lacks, .selects RX12 yX12_lacks yX12_lacks, .code yX12_lacks cX12_lacks 5 (some .int), .fieldLink RX12 326 "LowEnergyModel" "rights" "[I", .methodLink RX12 547 yX12_row, .instanceMethod yX12_row, .selects RX12 yX12_row yX12_row, .code yX12_row cX12_row 3 (some .int), .fieldLink RX12 239 "LowEnergyModel" "isSecure" "[Z", .methodLink RX12 567 yX12_isHandle, .instanceMethod yX12_isHandle, .selects RX12 yX12_isHandle yX12_isHandle, .code yX12_isHandle cX12_isHandle 3 (some .boolean), .fieldLink RX12 320 "LowEnergyModel" "attributes" "[I", .methodLink RX12 593 yX12_writing, .instanceMethod yX12_writing, .selects RX12 yX12_writing yX12_writing, .code yX12_writing cX12_writing 8 none, .fieldLink RX12 338 "LowEnergyModel" "parts" "[I", .fieldLink RX12 350 "LowEnergyModel" "partHandle" "[I", .fieldLink RX12 353 "LowEnergyModel" "partPlace" "[I", .fieldLink RX12 356 "LowEnergyModel" "partMany" "[I", .fieldLink RX12 344 "LowEnergyModel" "partBytes" "[B", .methodLink RX12 574 yX12_writes, .instanceMethod yX12_writes, .selects RX12 yX12_writes yX12_writes, .code yX12_writes cX12_writes 4 none, .methodLink RX12 587 yX12_executes, .instanceMethod yX12_executes, .selects RX12 yX12_executes yX12_executes, .code yX12_executes cX12_executes 9 none, .fieldLink RX12 359 "LowEnergyModel" "trialLength" "[I", .fieldLink RX12 347 "LowEnergyModel" "trial" "[B", .methodLink RX12 596 Lib.Math.max.name, .static Lib.Math.max.name, .code Lib.Math.max.name Lib.Math.max.code 2 (some .int), .methodLink RX12 584 yX12_mtus, .instanceMethod yX12_mtus, .selects RX12 yX12_mtus yX12_mtus, .code yX12_mtus cX12_mtus 3 none, .fieldLink RX12 335 "LowEnergyModel" "ownMtu" "[I", .methodLink RX12 581 yX12_lists, .instanceMethod yX12_lists, .selects RX12 yX12_lists yX12_lists, .code yX12_lists cX12_lists 16 none, .methodLink RX12 603 yX12_endOf, .instanceMethod yX12_endOf, .selects RX12 yX12_endOf yX12_endOf, .code yX12_endOf cX12_endOf 4 (some .int), .fieldLink RX12 323 "LowEnergyModel" "type" "[I", .methodLink RX12 599 yX12_isValue, .instanceMethod yX12_isValue, .selects RX12 yX12_isValue yX12_isValue, .code yX12_isValue cX12_isValue 8 (some .boolean), .methodLink RX12 489 yX12_two, .static yX12_two, .code yX12_two cX12_two 2 (some .int), .methodLink RX12 577 yX12_hasBytes, .instanceMethod yX12_hasBytes, .selects RX12 yX12_hasBytes yX12_hasBytes, .code yX12_hasBytes cX12_hasBytes 4 (some .boolean), .methodLink RX12 556 yX12_toldOf, .instanceMethod yX12_toldOf, .selects RX12 yX12_toldOf yX12_toldOf, .code yX12_toldOf cX12_toldOf 4 none, .methodLink RX12 409 yX12_complete, .instanceMethod yX12_complete, .selects RX12 yX12_complete yX12_complete, .code yX12_complete cX12_complete 11 none, .fieldLink RX12 155 "LowEnergyModel" "kept" "[I", .fieldLink RX12 158 "LowEnergyModel" "keptMany" "[I", .fieldLink RX12 161 "LowEnergyModel" "notKept" "[I", .methodLink RX12 559 yX12_writesAlone, .instanceMethod yX12_writesAlone, .selects RX12 yX12_writesAlone yX12_writesAlone, .code yX12_writesAlone cX12_writesAlone 4 none, .methodLink RX12 553 yX12_confirmed, .instanceMethod yX12_confirmed, .selects RX12 yX12_confirmed yX12_confirmed, .code yX12_confirmed cX12_confirmed 3 none, .fieldLink RX12 362 "LowEnergyModel" "waits30" "[Z", .methodLink RX12 504 yX12_complete_, .instanceMethod yX12_complete_, .selects RX12 yX12_complete_ yX12_complete_, .code yX12_complete_ cX12_complete_ 6 none, .fieldLink RX12 10 "LowEnergyModel" "tape" "[B", .methodLink RX12 550 yX12_answered, .instanceMethod yX12_answered, .selects RX12 yX12_answered yX12_answered, .code yX12_answered cX12_answered 6 none, .fieldLink RX12 377 "LowEnergyModel" "place" "[I", .fieldLink RX12 380 "LowEnergyModel" "jobMany" "[I", .fieldLink RX12 368 "LowEnergyModel" "jobA" "[I", .fieldLink RX12 383 "LowEnergyModel" "jobBytes" "[B", .methodLink RX12 621 yX12_ends, .instanceMethod yX12_ends, .selects RX12 yX12_ends yX12_ends, .code yX12_ends cX12_ends 3 none, .fieldLink RX12 365 "LowEnergyModel" "job" "[I", .methodLink RX12 630 yX12_asksFor, .instanceMethod yX12_asksFor, .selects RX12 yX12_asksFor yX12_asksFor, .code yX12_asksFor cX12_asksFor 3 none, .methodLink RX12 606 yX12_request, .instanceMethod yX12_request, .selects RX12 yX12_request yX12_request, .code yX12_request cX12_request 4 none, .fieldLink RX12 374 "LowEnergyModel" "due" "[I", .constantLong RX12 609 (65535), .constantLong RX12 611 (10240), .fieldLink RX12 371 "LowEnergyModel" "jobB" "[I", .constantLong RX12 613 (10243), .methodLink RX12 615 yX12_asksToWrite, .instanceMethod yX12_asksToWrite, .selects RX12 yX12_asksToWrite yX12_asksToWrite, .code yX12_asksToWrite cX12_asksToWrite 3 none, .methodLink RX12 624 yX12_isAnswer, .instanceMethod yX12_isAnswer, .selects RX12 yX12_isAnswer yX12_isAnswer, .code yX12_isAnswer cX12_isAnswer 3 (some .boolean), .methodLink RX12 618 yX12_areRows, .static yX12_areRows, .code yX12_areRows cX12_areRows 4 (some .boolean), .methodLink RX12 627 yX12_rows, .instanceMethod yX12_rows, .selects RX12 yX12_rows yX12_rows, .code yX12_rows cX12_rows 11 none, .constant RX12 493 (65535), .methodLink RX12 522 yX12_pairs, .instanceMethod yX12_pairs, .selects RX12 yX12_pairs yX12_pairs, .code yX12_pairs cX12_pairs 8 none, .fieldLink RX12 296 "LowEnergyModel" "step" "[I", .methodLink RX12 531 yX12_fails, .instanceMethod yX12_fails, .selects RX12 yX12_fails yX12_fails, .code yX12_fails cX12_fails 4 none, .fieldLink RX12 317 "LowEnergyModel" "pair" "[B", .fieldLink RX12 311 "LowEnergyModel" "ownRandom" "[B", .fieldLink RX12 314 "LowEnergyModel" "tkRow" "[B", .fieldLink RX12 206 "LowEnergyModel" "key" "[B", .methodLink RX12 444 yX12_e, .instanceMethod yX12_e, .selects RX12 yX12_e yX12_e, .code yX12_e cX12_e 13 none, .fieldLink RX12 33 "LowEnergyModel" "cells" "[B", .fieldLink RX12 26 "LowEnergyModel" "round" "[B", .fieldLink RX12 36 "LowEnergyModel" "moved" "[B", .methodLink RX12 14 yX12_twice, .static yX12_twice, .code yX12_twice cX12_twice 1 (some .int), .fieldLink RX12 22 "LowEnergyModel" "box" "[I", .fieldLink RX12 245 "LowEnergyModel" "hasKey" "[Z", .methodLink RX12 540 yX12_saysRow, .instanceMethod yX12_saysRow, .selects RX12 yX12_saysRow yX12_saysRow, .code yX12_saysRow cX12_saysRow 5 none, .fieldLink RX12 308 "LowEnergyModel" "confirm" "[B", .methodLink RX12 544 yX12_c, .instanceMethod yX12_c, .selects RX12 yX12_c yX12_c, .code yX12_c cX12_c 9 none, .fieldLink RX12 45 "LowEnergyModel" "state" "[I", .fieldLink RX12 60 "LowEnergyModel" "address" "[J", .fieldLink RX12 64 "LowEnergyModel" "peer" "[J", .fieldLink RX12 305 "LowEnergyModel" "firstTwo" "[B", .fieldLink RX12 302 "LowEnergyModel" "tk" "[I", .methodLink RX12 537 yX12_tells, .instanceMethod yX12_tells, .selects RX12 yX12_tells yX12_tells, .code yX12_tells cX12_tells 3 none, .methodLink RX12 480 yX12_draw, .instanceMethod yX12_draw, .selects RX12 yX12_draw yX12_draw, .code yX12_draw cX12_draw 2 (some .int), .fieldLink RX12 48 "LowEnergyModel" "x" "[I", .constant RX12 395 (1103515245), .fieldLink RX12 299 "LowEnergyModel" "passkey" "[I", .methodLink RX12 534 yX12_saysFirst, .instanceMethod yX12_saysFirst, .selects RX12 yX12_saysFirst yX12_saysFirst, .code yX12_saysFirst cX12_saysFirst 3 none, .fieldLink RX12 287 "LowEnergyModel" "begun" "[Z", .fieldLink RX12 281 "LowEnergyModel" "wholeMany" "[I", .fieldLink RX12 284 "LowEnergyModel" "wholeAll" "[I", .fieldLink RX12 263 "LowEnergyModel" "came" "[B"] : List Cond) ++ (wsX120 ++ ([])))
theorem hi_M_pieces_X12 : ∀ x ∈ u_ws RX12 TX12 123, x ∈ wp_M_pieces := fun _ h => List.mem_cons_of_mem _ (List.mem_append_right _ (List.mem_append_left _ h))
set_option maxRecDepth 100000 in
theorem gd_M_pieces_M_copy_29 : GoodIn wp_M_pieces (va_wsS RX12 29 yX12_copy wp_M_copy) := goodIn_app (goodIn_r _ [3, 4, 5] rfl rfl) (goodIn_ca (goodIn_r _ [6] rfl rfl) (goodIn_nil))
set_option maxRecDepth 100000 in
theorem gd_M_pieces_M_attributes_525 : GoodIn wp_M_pieces (wsV RX12 525 RX12 yX12_attributes wp_M_attributes) := goodIn_app (goodIn_r _ [7, 8, 9, 5] rfl rfl) (goodIn_ca (goodIn_r _ [10, 11, 12, 13, 5, 14, 15, 16, 17, 18, 19, 20, 21, 22, 23, 24, 25, 26, 27, 28, 29, 30, 31, 32, 3, 4, 6, 33, 34, 35, 36, 37, 38, 39, 40, 41, 42, 43, 44, 45, 46, 47, 48, 49, 50, 51, 52, 53, 54, 55, 56, 57, 58, 59, 60, 61, 62, 63, 2, 64, 65, 66, 67, 68, 69, 70, 71, 72, 73, 74, 75, 76, 77, 78, 79, 80, 81, 82, 83, 84, 85, 86, 87, 88, 89, 90, 91, 92, 93, 94, 95, 96, 97, 98, 99, 100, 101, 102, 103, 104, 105, 106, 107, 108, 109, 110, 111, 112, 113, 114, 115, 116, 117, 118, 119, 120, 121, 122, 123, 124, 125, 126, 127, 128, 129, 130, 131, 132, 133, 134, 135, 136, 137, 138, 139, 140, 141, 142, 143, 144, 145, 146, 147, 148, 149, 150, 151, 152, 153, 154, 155, 156, 157, 158, 159, 160, 161, 162, 163, 164, 165, 166, 167, 168, 169] rfl rfl) (goodIn_app (goodIn_cls hi_M_pieces_X12 gw_X12) (goodIn_nil)))
set_option maxRecDepth 100000 in
theorem gd_M_pieces_M_pairs_522 : GoodIn wp_M_pieces (wsV RX12 522 RX12 yX12_pairs wp_M_pairs) := goodIn_app (goodIn_r _ [170, 171, 172, 5] rfl rfl) (goodIn_ca (goodIn_r _ [173, 174, 2, 175, 176, 177, 5, 178, 123, 124, 125, 126, 127, 107, 108, 109, 110, 111, 112, 36, 37, 38, 39, 113, 23, 27, 28, 29, 30, 31, 32, 24, 25, 26, 3, 4, 6, 33, 179, 180, 181, 182, 183, 184, 185, 186, 187, 188, 189, 190, 191, 192, 193, 194, 195, 196, 197, 198, 199, 200, 201, 202, 203, 204, 205, 206, 207, 208, 209, 210, 211, 212, 213, 214, 215, 216, 217, 218, 219, 220, 221, 222, 223] rfl rfl) (goodIn_app (goodIn_cls hi_M_pieces_X12 gw_X12) (goodIn_nil)))
set_option maxRecDepth 100000 in
theorem gd_M_pieces_M_twoX_489 : GoodIn wp_M_pieces (va_wsS RX12 489 yX12_two wp_M_twoX) := goodIn_app (goodIn_r _ [96, 97, 5] rfl rfl) (goodIn_ca (goodIn_r _ [98] rfl rfl) (goodIn_nil))
set_option maxHeartbeats 4000000 in
set_option maxRecDepth 100000 in
theorem b_M_pieces {p : Program} {l : Launch} {e : Env} {R : Room} {s : State} {m : MethodId} {args : Array Value} {below : List Frame} {meth : Method} {c : Code} {D : va_G} {K : Nat → ClassId} {A : Nat → Prop} {Q : State → Prop} {τ : Nat → Option Ty} {dom : List Nat} {zb zL : Nat} {zx : Nat → Int32} {zs : Nat → Nat} (hR : 8 ≤ R.frames ∧ 194 ≤ R.locals) (B : Bx p s m args c cX12_pieces 7 RX12 wp_M_pieces D (tysA K) A) (Z : Sk τ dom) (hz : ZL zb zL zx zs A s s.heap) (h : Nat) (q : Nat → Nat) (Y : MS τ h q) (d : Int) (x2 : Int) (x3 : Int) (r_d : 0 ≤ d ∧ d ≤ 1) (r_x2 : 1 ≤ x2 ∧ x2 ≤ 31) (r_x3 : 0 ≤ x3 ∧ x3 ≤ 1) (σ0 : Nat → va_E) (G0 : GM K h q σ0) (hend : ∀ (σ' : Nat → va_E) (lv : List (Nat × Value)) (pc : Nat), GM K h q σ' → Fr τ [(189, 0), (187, 0), (188, 0), (183, 0), (191, 0), (204, 0), (216, 0), (145, 0), (144, 0), (146, 0), (190, 0), (219, 0), (182, 0), (184, 0), (185, 0), (220, 0), (222, 0), (221, 0), (203, 0), (207, 0), (214, 0), (206, 0), (210, 0), (211, 0), (212, 0), (208, 0), (209, 0), (213, 0), (194, 0), (195, 0), (192, 0), (108, 0), (197, 0), (198, 0), (199, 0), (104, 0), (105, 0), (106, 0), (196, 0), (162, 0), (175, 0)] σ0 σ' → decode cX12_pieces pc = .ok (.return_, 1) → V p l e R s m args below meth c 7 D A Q (0, 0) (fd dom σ') lv pc []) : V p l e R s m args below meth c 7 D A Q (0, 0) (fd dom σ0) [(0, .ref h), (1, .int (iI d)), (2, .int (iI x2)), (3, .int (iI x3))] 0 [] := by
  have F0 : Fr τ [(189, 0), (187, 0), (188, 0), (183, 0), (191, 0), (204, 0), (216, 0), (145, 0), (144, 0), (146, 0), (190, 0), (219, 0), (182, 0), (184, 0), (185, 0), (220, 0), (222, 0), (221, 0), (203, 0), (207, 0), (214, 0), (206, 0), (210, 0), (211, 0), (212, 0), (208, 0), (209, 0), (213, 0), (194, 0), (195, 0), (192, 0), (108, 0), (197, 0), (198, 0), (199, 0), (104, 0), (105, 0), (106, 0), (196, 0), (162, 0), (175, 0)] σ0 σ0 := Fr.rf
  obtain ⟨z1, z2, z3, z4, z5, h6, r7, r8, r9, r10, r11⟩ := G0.t.o
  obtain ⟨f12, h13, e14⟩ := ga_85 G0.t
  obtain ⟨z15, e16, r17⟩ := e14 (d : Int).toNat
  have J218 : ∀ (σ_218 : Nat → va_E) (z218_4 : Int) (z218_5 : Int) (z218_6 : Int), GM K h q σ_218 → Fr τ [(189, 0), (187, 0), (188, 0), (183, 0), (191, 0), (204, 0), (216, 0), (145, 0), (144, 0), (146, 0), (190, 0), (219, 0), (182, 0), (184, 0), (185, 0), (220, 0), (222, 0), (221, 0), (203, 0), (207, 0), (214, 0), (206, 0), (210, 0), (211, 0), (212, 0), (208, 0), (209, 0), (213, 0), (194, 0), (195, 0), (192, 0), (108, 0), (197, 0), (198, 0), (199, 0), (104, 0), (105, 0), (106, 0), (196, 0), (162, 0), (175, 0)] σ0 σ_218 → (σ_218 (q 85) = .inl (K 0, 2, .inl f12)) → (σ_218 h = .inr (12, fsM q (iI z1) (iI z2) (iI z3) (iI z4) (iI z5))) → (0 ≤ z15 ∧ z15 ≤ 7) → (0 ≤ z218_4 ∧ z218_4 ≤ 96) → (4 ≤ z218_5 ∧ z218_5 ≤ 6) → (-3 ≤ z218_6 ∧ z218_6 ≤ 92) → V p l e R s m args below meth c 7 D A Q (0, 0) (fd dom σ_218) [(0, .ref h), (1, .int (iI d)), (4, .int (iI z218_4)), (5, .int (iI z218_5)), (6, .int (iI z218_6))] 218 [] := by
    intro σ_218 z218_4 z218_5 z218_6 G_218 F_218 hc218_q85 hc218_h rv218_z15 r218_4 r218_5 r218_6
    refine v_aload_n B dX12_pieces_218 rfl rfl ?_
    refine u_get B Z (C := RX12) (T := TX12) (N := 123) (ci := 12) hi_M_pieces_X12 Y.o hc218_h rfl 83 (by decide +kernel) (List.mem_of_getElem? (i := 1) rfl) rfl dX12_pieces_219 ?_
    refine v_iload B dX12_pieces_222 rfl ?_
    refine v_iconst B (v := iI 4) dX12_pieces_224 rfl ?_
    refine v_iadd B (v := iI (z218_4 + 4)) dX12_pieces_225 ((iI_add _ _).trans (congrArg iI (by omega))) ?_
    refine v_aload_n B dX12_pieces_226 rfl rfl ?_
    refine u_get B Z (C := RX12) (T := TX12) (N := 123) (ci := 12) hi_M_pieces_X12 Y.o hc218_h rfl 91 (by decide +kernel) (List.mem_of_getElem? (i := 2) rfl) rfl dX12_pieces_227 ?_
    refine v_iconst B (v := iI 0) dX12_pieces_230 rfl ?_
    refine v_iload B dX12_pieces_231 rfl ?_
    refine u_callSv B Z hz (n := 5) (As := [.ref (q 83), .int (iI (z218_4 + 4)), .ref (q 91), .int (iI 0), .int (iI z218_6)]) (rest := []) (c_M_copy l D K Z _ _ _ _ h q Y 83 192 (z218_4 + 4) 91 96 0 z218_6 rfl ⟨by omega, by omega⟩ rfl ⟨by omega, by omega⟩ ⟨by omega, by omega⟩ σ_218 G_218 (by omega)) gd_M_pieces_M_copy_29 rfl rfl rfl (by decide +kernel) ⟨Nat.le_trans (by decide +kernel) hR.1, Nat.le_trans (by decide +kernel) hR.2⟩ rfl rfl (Nat.le_of_ble_eq_true rfl) dX12_pieces_233 ⟨Nat.zero_le _, Nat.zero_le _⟩ (fun σ18 p19 => ?_)
    obtain ⟨G21, F22⟩ := p19
    have F23 := F_218.call F22 (by first | rfl | simp)
    refine v_iload B dX12_pieces_236 rfl ?_
    refine v_bipush B (v := iI 6) dX12_pieces_238 (by decide +kernel) ?_
    refine u_icmp_ne B (tgt := 253) (by omega) (by omega) dX12_pieces_240 (by decide +kernel) (fun c24 => ?_) (fun c24 => ?_)
    · refine v_aload_n B dX12_pieces_253 rfl rfl ?_
      refine v_iload_n B dX12_pieces_254 rfl rfl ?_
      refine v_iload B dX12_pieces_255 rfl ?_
      have h25 := (F22 (q 85) _ (ym_85 Y) (by first | rfl | simp)).trans (hc218_q85)
      refine u_callVv B Z hz (n := 2) (As := [.int (iI d), .int (iI z218_6)]) (rest := []) (c_M_attributes l D K Z _ _ _ _ h q Y d z218_6 ⟨by omega, by omega⟩ ⟨by omega, by omega⟩ σ18 G21 (At.mk h25 e16 (by omega) ⟨by omega, by omega⟩)) gd_M_pieces_M_attributes_525 rfl rfl rfl (by decide +kernel) ⟨Nat.le_trans (by decide +kernel) hR.1, Nat.le_trans (by decide +kernel) hR.2⟩ Y.o (clsM G21.t) rfl rfl rfl rfl (Nat.le_of_ble_eq_true rfl) dX12_pieces_257 ⟨Nat.zero_le _, Nat.zero_le _⟩ (fun σ26 p27 => ?_)
      obtain ⟨G29, F30⟩ := p27
      have F31 := F23.call F30 (by first | rfl | simp)
      exact hend σ26 _ _ G29 F31 dX12_pieces_260
    · refine v_aload_n B dX12_pieces_243 rfl rfl ?_
      refine v_iload_n B dX12_pieces_244 rfl rfl ?_
      refine v_iload B dX12_pieces_245 rfl ?_
      have h32 := (F22 (q 85) _ (ym_85 Y) (by first | rfl | simp)).trans (hc218_q85)
      refine u_callVv B Z hz (n := 2) (As := [.int (iI d), .int (iI z218_6)]) (rest := []) (c_M_pairs l D K Z _ _ _ _ h q Y d z218_6 ⟨by omega, by omega⟩ ⟨by omega, by omega⟩ σ18 G21 (At.mk h32 e16 (by omega) ⟨by omega, by omega⟩)) gd_M_pieces_M_pairs_522 rfl rfl rfl (by decide +kernel) ⟨Nat.le_trans (by decide +kernel) hR.1, Nat.le_trans (by decide +kernel) hR.2⟩ Y.o (clsM G21.t) rfl rfl rfl rfl (Nat.le_of_ble_eq_true rfl) dX12_pieces_247 ⟨Nat.zero_le _, Nat.zero_le _⟩ (fun σ33 p34 => ?_)
      obtain ⟨G36, F37⟩ := p34
      have F38 := F23.call F37 (by first | rfl | simp)
      refine v_goto B (tgt := 260) dX12_pieces_250 (by decide +kernel) ?_
      exact hend σ33 _ _ G36 F38 dX12_pieces_260
  have J75 : ∀ (σ_75 : Nat → va_E) (z75_4 : Int), GM K h q σ_75 → Fr τ [(189, 0), (187, 0), (188, 0), (183, 0), (191, 0), (204, 0), (216, 0), (145, 0), (144, 0), (146, 0), (190, 0), (219, 0), (182, 0), (184, 0), (185, 0), (220, 0), (222, 0), (221, 0), (203, 0), (207, 0), (214, 0), (206, 0), (210, 0), (211, 0), (212, 0), (208, 0), (209, 0), (213, 0), (194, 0), (195, 0), (192, 0), (108, 0), (197, 0), (198, 0), (199, 0), (104, 0), (105, 0), (106, 0), (196, 0), (162, 0), (175, 0)] σ0 σ_75 → (σ_75 (q 85) = .inl (K 0, 2, .inl f12)) → (σ_75 h = .inr (12, fsM q (iI z1) (iI z2) (iI z3) (iI z4) (iI z5))) → (0 ≤ z75_4 ∧ z75_4 ≤ 96) → V p l e R s m args below meth c 7 D A Q (0, 0) (fd dom σ_75) [(0, .ref h), (1, .int (iI d)), (2, .int (iI x2)), (4, .int (iI z75_4))] 75 [] := by
    intro σ_75 z75_4 G_75 F_75 hc75_q85 hc75_h r75_4
    refine v_aload_n B dX12_pieces_75 rfl rfl ?_
    refine u_get B Z (C := RX12) (T := TX12) (N := 123) (ci := 12) hi_M_pieces_X12 Y.o hc75_h rfl 89 (by decide +kernel) (List.mem_of_getElem? (i := 224) rfl) rfl dX12_pieces_76 ?_
    refine v_iload_n B dX12_pieces_79 rfl rfl ?_
    obtain ⟨f39, h40, e41⟩ := ga_89 G_75.t
    obtain ⟨z42, e43, r44⟩ := e41 (d : Int).toNat
    refine u_zald B Z (t0 := 3) (ym_89 Y) h40 rfl (by omega) e43 dX12_pieces_80 ?_
    refine u_if_ne B (tgt := 85) (by omega) dX12_pieces_81 (by decide +kernel) (fun c45 => ?_) (fun c45 => ?_)
    · refine v_aload_n B dX12_pieces_85 rfl rfl ?_
      refine u_get B Z (C := RX12) (T := TX12) (N := 123) (ci := 12) hi_M_pieces_X12 Y.o hc75_h rfl 87 (by decide +kernel) (List.mem_of_getElem? (i := 225) rfl) rfl dX12_pieces_86 ?_
      refine v_iload_n B dX12_pieces_89 rfl rfl ?_
      obtain ⟨f46, h47, e48⟩ := ga_87 G_75.t
      obtain ⟨z49, e50, r51⟩ := e48 (d : Int).toNat
      refine u_iald B Z (t0 := 0) (ym_87 Y) h47 rfl (by omega) e50 dX12_pieces_90 ?_
      refine v_iload_n B dX12_pieces_91 rfl rfl ?_
      refine v_iadd B (v := iI (z49 + x2)) dX12_pieces_92 ((iI_add _ _).trans (congrArg iI (by omega))) ?_
      refine v_aload_n B dX12_pieces_93 rfl rfl ?_
      refine u_get B Z (C := RX12) (T := TX12) (N := 123) (ci := 12) hi_M_pieces_X12 Y.o hc75_h rfl 88 (by decide +kernel) (List.mem_of_getElem? (i := 226) rfl) rfl dX12_pieces_94 ?_
      refine v_iload_n B dX12_pieces_97 rfl rfl ?_
      obtain ⟨f52, h53, e54⟩ := ga_88 G_75.t
      obtain ⟨z55, e56, r57⟩ := e54 (d : Int).toNat
      refine u_iald B Z (t0 := 0) (ym_88 Y) h53 rfl (by omega) e56 dX12_pieces_98 ?_
      refine u_icmp_le B (tgt := 110) (by omega) (by omega) dX12_pieces_99 (by decide +kernel) (fun c58 => ?_) (fun c58 => ?_)
      · refine v_aload_n B dX12_pieces_110 rfl rfl ?_
        refine u_get B Z (C := RX12) (T := TX12) (N := 123) (ci := 12) hi_M_pieces_X12 Y.o hc75_h rfl 81 (by decide +kernel) (List.mem_of_getElem? (i := 227) rfl) rfl dX12_pieces_111 ?_
        refine v_iconst B (v := iI 0) dX12_pieces_114 rfl ?_
        refine v_aload_n B dX12_pieces_115 rfl rfl ?_
        refine u_get B Z (C := RX12) (T := TX12) (N := 123) (ci := 12) hi_M_pieces_X12 Y.o hc75_h rfl 83 (by decide +kernel) (List.mem_of_getElem? (i := 1) rfl) rfl dX12_pieces_116 ?_
        refine v_iload B dX12_pieces_119 rfl ?_
        refine v_aload_n B dX12_pieces_121 rfl rfl ?_
        refine u_get B Z (C := RX12) (T := TX12) (N := 123) (ci := 12) hi_M_pieces_X12 Y.o hc75_h rfl 87 (by decide +kernel) (List.mem_of_getElem? (i := 225) rfl) rfl dX12_pieces_122 ?_
        refine v_iload_n B dX12_pieces_125 rfl rfl ?_
        refine u_iald B Z (t0 := 0) (ym_87 Y) h47 rfl (by omega) e50 dX12_pieces_126 ?_
        refine v_iadd B (v := iI (z75_4 + z49)) dX12_pieces_127 ((iI_add _ _).trans (congrArg iI (by omega))) ?_
        refine v_iload_n B dX12_pieces_128 rfl rfl ?_
        refine u_callSv B Z hz (n := 5) (As := [.ref (q 81), .int (iI 0), .ref (q 83), .int (iI (z75_4 + z49)), .int (iI x2)]) (rest := []) (c_M_copy l D K Z _ _ _ _ h q Y 81 40 0 83 192 (z75_4 + z49) x2 rfl ⟨by omega, by omega⟩ rfl ⟨by omega, by omega⟩ ⟨by omega, by omega⟩ σ_75 G_75 (by omega)) gd_M_pieces_M_copy_29 rfl rfl rfl (by decide +kernel) ⟨Nat.le_trans (by decide +kernel) hR.1, Nat.le_trans (by decide +kernel) hR.2⟩ rfl rfl (Nat.le_of_ble_eq_true rfl) dX12_pieces_129 ⟨Nat.zero_le _, Nat.zero_le _⟩ (fun σ59 p60 => ?_)
        obtain ⟨G62, F63⟩ := p60
        have F64 := F_75.call F63 (by first | rfl | simp)
        refine v_aload_n B dX12_pieces_132 rfl rfl ?_
        have h65 := (F63 h _ Y.o (by first | rfl | simp)).trans (hc75_h)
        refine u_get B Z (C := RX12) (T := TX12) (N := 123) (ci := 12) hi_M_pieces_X12 Y.o h65 rfl 87 (by decide +kernel) (List.mem_of_getElem? (i := 225) rfl) rfl dX12_pieces_133 ?_
        refine v_iload_n B dX12_pieces_136 rfl rfl ?_
        refine v_dup2 B dX12_pieces_137 rfl rfl ?_
        have h66 := (F63 (q 87) _ (ym_87 Y) (by first | rfl | simp)).trans (h47)
        refine u_iald B Z (t0 := 0) (ym_87 Y) h66 rfl (by omega) e50 dX12_pieces_138 ?_
        refine v_iload_n B dX12_pieces_139 rfl rfl ?_
        refine v_iadd B (v := iI (z49 + x2)) dX12_pieces_140 ((iI_add _ _).trans (congrArg iI (by omega))) ?_
        refine u_iast B Z (t0 := 0) (x := iI (z49 + x2)) (ym_87 Y) h66 rfl (by omega) dX12_pieces_141 (fun σ67 h68 n69 => ?_)
        have e70 := el_upd (z := (z49 + x2)) e48 ⟨by omega, by omega⟩ (d : Int).toNat
        have F71 := F64.put (ym_87 Y) (by simp) n69
        have G72 := gp_87 Y G62 ⟨_, h68, e70⟩ n69
        refine v_aload_n B dX12_pieces_142 rfl rfl ?_
        have h73 := (n69 h (ne_ty Y.o (ym_87 Y) (by decide))).trans (h65)
        refine u_get B Z (C := RX12) (T := TX12) (N := 123) (ci := 12) hi_M_pieces_X12 Y.o h73 rfl 87 (by decide +kernel) (List.mem_of_getElem? (i := 225) rfl) rfl dX12_pieces_143 ?_
        refine v_iload_n B dX12_pieces_146 rfl rfl ?_
        refine u_iald B Z (t0 := 0) (ym_87 Y) h68 rfl (by omega) upd_s dX12_pieces_147 ?_
        refine v_aload_n B dX12_pieces_148 rfl rfl ?_
        refine u_get B Z (C := RX12) (T := TX12) (N := 123) (ci := 12) hi_M_pieces_X12 Y.o h73 rfl 88 (by decide +kernel) (List.mem_of_getElem? (i := 226) rfl) rfl dX12_pieces_149 ?_
        refine v_iload_n B dX12_pieces_152 rfl rfl ?_
        have h74 := (n69 (q 88) (ne_ty (ym_88 Y) (ym_87 Y) (by decide))).trans ((F63 (q 88) _ (ym_88 Y) (by first | rfl | simp)).trans (h53))
        refine u_iald B Z (t0 := 0) (ym_88 Y) h74 rfl (by omega) e56 dX12_pieces_153 ?_
        refine u_icmp_ge B (tgt := 158) (by omega) (by omega) dX12_pieces_154 (by decide +kernel) (fun c75 => ?_) (fun c75 => ?_)
        · refine v_aload_n B dX12_pieces_158 rfl rfl ?_
          refine u_get B Z (C := RX12) (T := TX12) (N := 123) (ci := 12) hi_M_pieces_X12 Y.o h73 rfl 89 (by decide +kernel) (List.mem_of_getElem? (i := 224) rfl) rfl dX12_pieces_159 ?_
          refine v_iload_n B dX12_pieces_162 rfl rfl ?_
          refine v_iconst B (v := iI 0) dX12_pieces_163 rfl ?_
          have h76 := (n69 (q 89) (ne_ty (ym_89 Y) (ym_87 Y) (by decide))).trans ((F63 (q 89) _ (ym_89 Y) (by first | rfl | simp)).trans (h40))
          refine u_zast B Z (t0 := 3) (x := iI 0) (y := iI 0) (ym_89 Y) h76 rfl (by omega) (narZ (by omega)) dX12_pieces_164 (fun σ77 h78 n79 => ?_)
          have e80 := el_upd (z := 0) e41 ⟨by omega, by omega⟩ (d : Int).toNat
          have F81 := F71.put (ym_89 Y) (by simp) n79
          have G82 := gp_89 Y G72 ⟨_, h78, e80⟩ n79
          refine v_aload_n B dX12_pieces_165 rfl rfl ?_
          have h83 := (n79 h (ne_ty Y.o (ym_89 Y) (by decide))).trans (h73)
          refine u_get B Z (C := RX12) (T := TX12) (N := 123) (ci := 12) hi_M_pieces_X12 Y.o h83 rfl 83 (by decide +kernel) (List.mem_of_getElem? (i := 1) rfl) rfl dX12_pieces_166 ?_
          refine v_iload B dX12_pieces_169 rfl ?_
          refine v_iconst B (v := iI 2) dX12_pieces_171 rfl ?_
          refine v_iadd B (v := iI (z75_4 + 2)) dX12_pieces_172 ((iI_add _ _).trans (congrArg iI (by omega))) ?_
          refine u_callSi B Z hz (n := 2) (As := [.ref (q 83), .int (iI (z75_4 + 2))]) (rest := []) (c_M_twoX l D K Z _ _ _ _ h q Y 83 192 (z75_4 + 2) rfl ⟨by omega, by omega⟩ σ77 (G82.t) (by omega)) gd_M_pieces_M_twoX_489 rfl rfl rfl (by decide +kernel) ⟨Nat.le_trans (by decide +kernel) hR.1, Nat.le_trans (by decide +kernel) hR.2⟩ rfl rfl (Nat.le_of_ble_eq_true rfl) dX12_pieces_173 ⟨Nat.zero_le _, Nat.zero_le _⟩ (fun v86 σ84 p85 => ?_)
          obtain ⟨rfl, z87, e88, r89, po90⟩ := p85
          subst e88
          obtain ⟨f91, h92, e93⟩ := ga_83 G82.t
          have tw94 := po90 _ _ _ h92
          refine v_istore B (lv' := [(5, .int (iI z87)), (0, .ref h), (1, .int (iI d)), (2, .int (iI x2)), (4, .int (iI z75_4))]) dX12_pieces_176 (by decide +kernel) rfl ?_
          refine v_aload_n B dX12_pieces_178 rfl rfl ?_
          refine u_get B Z (C := RX12) (T := TX12) (N := 123) (ci := 12) hi_M_pieces_X12 Y.o h83 rfl 88 (by decide +kernel) (List.mem_of_getElem? (i := 226) rfl) rfl dX12_pieces_179 ?_
          refine v_iload_n B dX12_pieces_182 rfl rfl ?_
          have h95 := (n79 (q 88) (ne_ty (ym_88 Y) (ym_89 Y) (by decide))).trans (h74)
          refine u_iald B Z (t0 := 0) (ym_88 Y) h95 rfl (by omega) e56 dX12_pieces_183 ?_
          refine v_iconst B (v := iI 4) dX12_pieces_184 rfl ?_
          refine v_isub B (v := iI (z55 + (-4))) dX12_pieces_185 ((iI_sub _ _).trans (congrArg iI (by omega))) ?_
          refine v_istore B (lv' := [(6, .int (iI (z55 + (-4)))), (5, .int (iI z87)), (0, .ref h), (1, .int (iI d)), (2, .int (iI x2)), (4, .int (iI z75_4))]) dX12_pieces_186 (by decide +kernel) rfl ?_
          refine v_aload_n B dX12_pieces_188 rfl rfl ?_
          refine u_get B Z (C := RX12) (T := TX12) (N := 123) (ci := 12) hi_M_pieces_X12 Y.o h83 rfl 85 (by decide +kernel) (List.mem_of_getElem? (i := 31) rfl) rfl dX12_pieces_189 ?_
          refine v_iload_n B dX12_pieces_192 rfl rfl ?_
          have h96 := (n79 (q 85) (ne_ty (ym_85 Y) (ym_89 Y) (by decide))).trans ((n69 (q 85) (ne_ty (ym_85 Y) (ym_87 Y) (by decide))).trans ((F63 (q 85) _ (ym_85 Y) (by first | rfl | simp)).trans (hc75_q85)))
          refine u_iald B Z (t0 := 0) (ym_85 Y) h96 rfl (by omega) e16 dX12_pieces_193 ?_
          refine v_bipush B (v := iI 8) dX12_pieces_194 (by decide +kernel) ?_
          refine u_icmp_eq B (tgt := 217) (by omega) (by omega) dX12_pieces_196 (by decide +kernel) (fun c97 => ?_) (fun c97 => ?_)
          · exact hend σ77 _ _ G82 F81 dX12_pieces_217
          · refine v_iload B dX12_pieces_199 rfl ?_
            refine u_if_eq B (tgt := 217) (by omega) dX12_pieces_201 (by decide +kernel) (fun c98 => ?_) (fun c98 => ?_)
            · exact hend σ77 _ _ G82 F81 dX12_pieces_217
            · refine v_iload B dX12_pieces_204 rfl ?_
              refine v_iconst B (v := iI 4) dX12_pieces_206 rfl ?_
              refine u_icmp_eq B (tgt := 218) (by omega) (by omega) dX12_pieces_207 (by decide +kernel) (fun c99 => ?_) (fun c99 => ?_)
              · refine v_lv [2, 3, 5, 1, 0] rfl ?_
                exact J218 σ77 z75_4 z87 (z55 + (-4)) G82 F81 h96 h83 ⟨by omega, by omega⟩ ⟨by omega, by omega⟩ ⟨by omega, by omega⟩ ⟨by omega, by omega⟩
              · refine v_iload B dX12_pieces_210 rfl ?_
                refine v_bipush B (v := iI 6) dX12_pieces_212 (by decide +kernel) ?_
                refine u_icmp_eq B (tgt := 218) (by omega) (by omega) dX12_pieces_214 (by decide +kernel) (fun c100 => ?_) (fun c100 => ?_)
                · refine v_lv [2, 3, 5, 1, 0] rfl ?_
                  exact J218 σ77 z75_4 z87 (z55 + (-4)) G82 F81 h96 h83 ⟨by omega, by omega⟩ ⟨by omega, by omega⟩ ⟨by omega, by omega⟩ ⟨by omega, by omega⟩
                · exact hend σ77 _ _ G82 F81 dX12_pieces_217
        · exact hend σ67 _ _ G72 F71 dX12_pieces_157
      · refine v_aload_n B dX12_pieces_102 rfl rfl ?_
        refine u_get B Z (C := RX12) (T := TX12) (N := 123) (ci := 12) hi_M_pieces_X12 Y.o hc75_h rfl 89 (by decide +kernel) (List.mem_of_getElem? (i := 224) rfl) rfl dX12_pieces_103 ?_
        refine v_iload_n B dX12_pieces_106 rfl rfl ?_
        refine v_iconst B (v := iI 0) dX12_pieces_107 rfl ?_
        refine u_zast B Z (t0 := 3) (x := iI 0) (y := iI 0) (ym_89 Y) h40 rfl (by omega) (narZ (by omega)) dX12_pieces_108 (fun σ101 h102 n103 => ?_)
        have e104 := el_upd (z := 0) e41 ⟨by omega, by omega⟩ (d : Int).toNat
        have F105 := F_75.put (ym_89 Y) (by simp) n103
        have G106 := gp_89 Y G_75 ⟨_, h102, e104⟩ n103
        exact hend σ101 _ _ G106 F105 dX12_pieces_109
    · exact hend σ_75 _ _ G_75 F_75 dX12_pieces_84
  refine v_bipush B (v := iI 96) dX12_pieces_0 (by decide +kernel) ?_
  refine v_iload_n B dX12_pieces_2 rfl rfl ?_
  refine v_imul B (v := iI (96 * d)) dX12_pieces_3 ((iI_mul _ _).trans (congrArg iI (by omega))) ?_
  refine v_istore B (lv' := [(4, .int (iI (96 * d))), (0, .ref h), (1, .int (iI d)), (2, .int (iI x2)), (3, .int (iI x3))]) dX12_pieces_4 (by decide +kernel) rfl ?_
  refine v_iload_n B dX12_pieces_6 rfl rfl ?_
  refine u_if_eq B (tgt := 75) (by omega) dX12_pieces_7 (by decide +kernel) (fun c107 => ?_) (fun c107 => ?_)
  · refine v_lv [1, 2, 3, 0] rfl ?_
    exact J75 σ0 (96 * d) G0 F0 h13 h6 ⟨by omega, by omega⟩
  · refine v_aload_n B dX12_pieces_10 rfl rfl ?_
    refine u_get B Z (C := RX12) (T := TX12) (N := 123) (ci := 12) hi_M_pieces_X12 Y.o h6 rfl 89 (by decide +kernel) (List.mem_of_getElem? (i := 224) rfl) rfl dX12_pieces_11 ?_
    refine v_iload_n B dX12_pieces_14 rfl rfl ?_
    refine v_iload_n B dX12_pieces_15 rfl rfl ?_
    refine v_iconst B (v := iI 4) dX12_pieces_16 rfl ?_
    refine u_icmp_lt B (tgt := 37) (by omega) (by omega) dX12_pieces_17 (by decide +kernel) (fun c108 => ?_) (fun c108 => ?_)
    · refine v_iconst B (v := iI 0) dX12_pieces_37 rfl ?_
      obtain ⟨f109, h110, e111⟩ := ga_89 G0.t
      refine u_zast B Z (t0 := 3) (x := iI 0) (y := iI 0) (ym_89 Y) h110 rfl (by omega) (narZ (by omega)) dX12_pieces_38 (fun σ112 h113 n114 => ?_)
      have e115 := el_upd (z := 0) e111 ⟨by omega, by omega⟩ (d : Int).toNat
      have F116 := F0.put (ym_89 Y) (by simp) n114
      have G117 := gp_89 Y G0 ⟨_, h113, e115⟩ n114
      refine v_aload_n B dX12_pieces_39 rfl rfl ?_
      have h118 := (n114 h (ne_ty Y.o (ym_89 Y) (by decide))).trans (h6)
      refine u_get B Z (C := RX12) (T := TX12) (N := 123) (ci := 12) hi_M_pieces_X12 Y.o h118 rfl 87 (by decide +kernel) (List.mem_of_getElem? (i := 225) rfl) rfl dX12_pieces_40 ?_
      refine v_iload_n B dX12_pieces_43 rfl rfl ?_
      refine v_iconst B (v := iI 0) dX12_pieces_44 rfl ?_
      obtain ⟨f119, h120, e121⟩ := ga_87 G117.t
      refine u_iast B Z (t0 := 0) (x := iI 0) (ym_87 Y) h120 rfl (by omega) dX12_pieces_45 (fun σ122 h123 n124 => ?_)
      have e125 := el_upd (z := 0) e121 ⟨by omega, by omega⟩ (d : Int).toNat
      have F126 := F116.put (ym_87 Y) (by simp) n124
      have G127 := gp_87 Y G117 ⟨_, h123, e125⟩ n124
      refine v_aload_n B dX12_pieces_46 rfl rfl ?_
      have h128 := (n124 h (ne_ty Y.o (ym_87 Y) (by decide))).trans (h118)
      refine u_get B Z (C := RX12) (T := TX12) (N := 123) (ci := 12) hi_M_pieces_X12 Y.o h128 rfl 88 (by decide +kernel) (List.mem_of_getElem? (i := 226) rfl) rfl dX12_pieces_47 ?_
      refine v_iload_n B dX12_pieces_50 rfl rfl ?_
      refine v_aload_n B dX12_pieces_51 rfl rfl ?_
      refine u_get B Z (C := RX12) (T := TX12) (N := 123) (ci := 12) hi_M_pieces_X12 Y.o h128 rfl 89 (by decide +kernel) (List.mem_of_getElem? (i := 224) rfl) rfl dX12_pieces_52 ?_
      refine v_iload_n B dX12_pieces_55 rfl rfl ?_
      have h129 := (n124 (q 89) (ne_ty (ym_89 Y) (ym_87 Y) (by decide))).trans (h113)
      refine u_zald B Z (t0 := 3) (ym_89 Y) h129 rfl (by omega) upd_s dX12_pieces_56 ?_
      refine u_if_eq B (tgt := 73) (by omega) dX12_pieces_57 (by decide +kernel) (fun c130 => ?_) (fun c130 => by omega)
      refine v_iconst B (v := iI 0) dX12_pieces_73 rfl ?_
      obtain ⟨f131, h132, e133⟩ := ga_88 G127.t
      refine u_iast B Z (t0 := 0) (x := iI 0) (ym_88 Y) h132 rfl (by omega) dX12_pieces_74 (fun σ134 h135 n136 => ?_)
      have e137 := el_upd (z := 0) e133 ⟨by omega, by omega⟩ (d : Int).toNat
      have F138 := F126.put (ym_88 Y) (by simp) n136
      have G139 := gp_88 Y G127 ⟨_, h135, e137⟩ n136
      refine v_lv [1, 2, 3, 0] rfl ?_
      have h140 := (n136 (q 85) (ne_ty (ym_85 Y) (ym_88 Y) (by decide))).trans ((n124 (q 85) (ne_ty (ym_85 Y) (ym_87 Y) (by decide))).trans ((n114 (q 85) (ne_ty (ym_85 Y) (ym_89 Y) (by decide))).trans (h13)))
      have h141 := (n136 h (ne_ty Y.o (ym_88 Y) (by decide))).trans (h128)
      exact J75 σ134 (96 * d) G139 F138 h140 h141 ⟨by omega, by omega⟩
    · refine v_aload_n B dX12_pieces_20 rfl rfl ?_
      refine u_get B Z (C := RX12) (T := TX12) (N := 123) (ci := 12) hi_M_pieces_X12 Y.o h6 rfl 81 (by decide +kernel) (List.mem_of_getElem? (i := 227) rfl) rfl dX12_pieces_21 ?_
      refine v_iconst B (v := iI 0) dX12_pieces_24 rfl ?_
      refine u_callSi B Z hz (n := 2) (As := [.ref (q 81), .int (iI 0)]) (rest := [.int (iI d), .ref (q 89)]) (c_M_twoX l D K Z _ _ _ _ h q Y 81 40 0 rfl ⟨by omega, by omega⟩ σ0 (G0.t) (by omega)) gd_M_pieces_M_twoX_489 rfl rfl rfl (by decide +kernel) ⟨Nat.le_trans (by decide +kernel) hR.1, Nat.le_trans (by decide +kernel) hR.2⟩ rfl rfl (Nat.le_of_ble_eq_true rfl) dX12_pieces_25 ⟨Nat.zero_le _, Nat.zero_le _⟩ (fun v144 σ142 p143 => ?_)
      obtain ⟨rfl, z145, e146, r147, po148⟩ := p143
      subst e146
      obtain ⟨f149, h150, e151⟩ := ga_81 G0.t
      have tw152 := po148 _ _ _ h150
      refine v_bipush B (v := iI 92) dX12_pieces_28 (by decide +kernel) ?_
      refine u_icmp_gt B (tgt := 37) (by omega) (by omega) dX12_pieces_30 (by decide +kernel) (fun c153 => ?_) (fun c153 => ?_)
      · refine v_iconst B (v := iI 0) dX12_pieces_37 rfl ?_
        obtain ⟨f154, h155, e156⟩ := ga_89 G0.t
        refine u_zast B Z (t0 := 3) (x := iI 0) (y := iI 0) (ym_89 Y) h155 rfl (by omega) (narZ (by omega)) dX12_pieces_38 (fun σ157 h158 n159 => ?_)
        have e160 := el_upd (z := 0) e156 ⟨by omega, by omega⟩ (d : Int).toNat
        have F161 := F0.put (ym_89 Y) (by simp) n159
        have G162 := gp_89 Y G0 ⟨_, h158, e160⟩ n159
        refine v_aload_n B dX12_pieces_39 rfl rfl ?_
        have h163 := (n159 h (ne_ty Y.o (ym_89 Y) (by decide))).trans (h6)
        refine u_get B Z (C := RX12) (T := TX12) (N := 123) (ci := 12) hi_M_pieces_X12 Y.o h163 rfl 87 (by decide +kernel) (List.mem_of_getElem? (i := 225) rfl) rfl dX12_pieces_40 ?_
        refine v_iload_n B dX12_pieces_43 rfl rfl ?_
        refine v_iconst B (v := iI 0) dX12_pieces_44 rfl ?_
        obtain ⟨f164, h165, e166⟩ := ga_87 G162.t
        refine u_iast B Z (t0 := 0) (x := iI 0) (ym_87 Y) h165 rfl (by omega) dX12_pieces_45 (fun σ167 h168 n169 => ?_)
        have e170 := el_upd (z := 0) e166 ⟨by omega, by omega⟩ (d : Int).toNat
        have F171 := F161.put (ym_87 Y) (by simp) n169
        have G172 := gp_87 Y G162 ⟨_, h168, e170⟩ n169
        refine v_aload_n B dX12_pieces_46 rfl rfl ?_
        have h173 := (n169 h (ne_ty Y.o (ym_87 Y) (by decide))).trans (h163)
        refine u_get B Z (C := RX12) (T := TX12) (N := 123) (ci := 12) hi_M_pieces_X12 Y.o h173 rfl 88 (by decide +kernel) (List.mem_of_getElem? (i := 226) rfl) rfl dX12_pieces_47 ?_
        refine v_iload_n B dX12_pieces_50 rfl rfl ?_
        refine v_aload_n B dX12_pieces_51 rfl rfl ?_
        refine u_get B Z (C := RX12) (T := TX12) (N := 123) (ci := 12) hi_M_pieces_X12 Y.o h173 rfl 89 (by decide +kernel) (List.mem_of_getElem? (i := 224) rfl) rfl dX12_pieces_52 ?_
        refine v_iload_n B dX12_pieces_55 rfl rfl ?_
        have h174 := (n169 (q 89) (ne_ty (ym_89 Y) (ym_87 Y) (by decide))).trans (h158)
        refine u_zald B Z (t0 := 3) (ym_89 Y) h174 rfl (by omega) upd_s dX12_pieces_56 ?_
        refine u_if_eq B (tgt := 73) (by omega) dX12_pieces_57 (by decide +kernel) (fun c175 => ?_) (fun c175 => by omega)
        refine v_iconst B (v := iI 0) dX12_pieces_73 rfl ?_
        obtain ⟨f176, h177, e178⟩ := ga_88 G172.t
        refine u_iast B Z (t0 := 0) (x := iI 0) (ym_88 Y) h177 rfl (by omega) dX12_pieces_74 (fun σ179 h180 n181 => ?_)
        have e182 := el_upd (z := 0) e178 ⟨by omega, by omega⟩ (d : Int).toNat
        have F183 := F171.put (ym_88 Y) (by simp) n181
        have G184 := gp_88 Y G172 ⟨_, h180, e182⟩ n181
        refine v_lv [1, 2, 3, 0] rfl ?_
        have h185 := (n181 (q 85) (ne_ty (ym_85 Y) (ym_88 Y) (by decide))).trans ((n169 (q 85) (ne_ty (ym_85 Y) (ym_87 Y) (by decide))).trans ((n159 (q 85) (ne_ty (ym_85 Y) (ym_89 Y) (by decide))).trans (h13)))
        have h186 := (n181 h (ne_ty Y.o (ym_88 Y) (by decide))).trans (h173)
        exact J75 σ179 (96 * d) G184 F183 h185 h186 ⟨by omega, by omega⟩
      · refine v_iconst B (v := iI 1) dX12_pieces_33 rfl ?_
        refine v_goto B (tgt := 38) dX12_pieces_34 (by decide +kernel) ?_
        obtain ⟨f187, h188, e189⟩ := ga_89 G0.t
        refine u_zast B Z (t0 := 3) (x := iI 1) (y := iI 1) (ym_89 Y) h188 rfl (by omega) (narZ (by omega)) dX12_pieces_38 (fun σ190 h191 n192 => ?_)
        have e193 := el_upd (z := 1) e189 ⟨by omega, by omega⟩ (d : Int).toNat
        have F194 := F0.put (ym_89 Y) (by simp) n192
        have G195 := gp_89 Y G0 ⟨_, h191, e193⟩ n192
        refine v_aload_n B dX12_pieces_39 rfl rfl ?_
        have h196 := (n192 h (ne_ty Y.o (ym_89 Y) (by decide))).trans (h6)
        refine u_get B Z (C := RX12) (T := TX12) (N := 123) (ci := 12) hi_M_pieces_X12 Y.o h196 rfl 87 (by decide +kernel) (List.mem_of_getElem? (i := 225) rfl) rfl dX12_pieces_40 ?_
        refine v_iload_n B dX12_pieces_43 rfl rfl ?_
        refine v_iconst B (v := iI 0) dX12_pieces_44 rfl ?_
        obtain ⟨f197, h198, e199⟩ := ga_87 G195.t
        refine u_iast B Z (t0 := 0) (x := iI 0) (ym_87 Y) h198 rfl (by omega) dX12_pieces_45 (fun σ200 h201 n202 => ?_)
        have e203 := el_upd (z := 0) e199 ⟨by omega, by omega⟩ (d : Int).toNat
        have F204 := F194.put (ym_87 Y) (by simp) n202
        have G205 := gp_87 Y G195 ⟨_, h201, e203⟩ n202
        refine v_aload_n B dX12_pieces_46 rfl rfl ?_
        have h206 := (n202 h (ne_ty Y.o (ym_87 Y) (by decide))).trans (h196)
        refine u_get B Z (C := RX12) (T := TX12) (N := 123) (ci := 12) hi_M_pieces_X12 Y.o h206 rfl 88 (by decide +kernel) (List.mem_of_getElem? (i := 226) rfl) rfl dX12_pieces_47 ?_
        refine v_iload_n B dX12_pieces_50 rfl rfl ?_
        refine v_aload_n B dX12_pieces_51 rfl rfl ?_
        refine u_get B Z (C := RX12) (T := TX12) (N := 123) (ci := 12) hi_M_pieces_X12 Y.o h206 rfl 89 (by decide +kernel) (List.mem_of_getElem? (i := 224) rfl) rfl dX12_pieces_52 ?_
        refine v_iload_n B dX12_pieces_55 rfl rfl ?_
        have h207 := (n202 (q 89) (ne_ty (ym_89 Y) (ym_87 Y) (by decide))).trans (h191)
        refine u_zald B Z (t0 := 3) (ym_89 Y) h207 rfl (by omega) upd_s dX12_pieces_56 ?_
        refine u_if_eq B (tgt := 73) (by omega) dX12_pieces_57 (by decide +kernel) (fun c208 => by omega) (fun c208 => ?_)
        refine v_aload_n B dX12_pieces_60 rfl rfl ?_
        refine u_get B Z (C := RX12) (T := TX12) (N := 123) (ci := 12) hi_M_pieces_X12 Y.o h206 rfl 81 (by decide +kernel) (List.mem_of_getElem? (i := 227) rfl) rfl dX12_pieces_61 ?_
        refine v_iconst B (v := iI 0) dX12_pieces_64 rfl ?_
        refine u_callSi B Z hz (n := 2) (As := [.ref (q 81), .int (iI 0)]) (rest := [.int (iI d), .ref (q 88)]) (c_M_twoX l D K Z _ _ _ _ h q Y 81 40 0 rfl ⟨by omega, by omega⟩ σ200 (G205.t) (by omega)) gd_M_pieces_M_twoX_489 rfl rfl rfl (by decide +kernel) ⟨Nat.le_trans (by decide +kernel) hR.1, Nat.le_trans (by decide +kernel) hR.2⟩ rfl rfl (Nat.le_of_ble_eq_true rfl) dX12_pieces_65 ⟨Nat.zero_le _, Nat.zero_le _⟩ (fun v211 σ209 p210 => ?_)
        obtain ⟨rfl, z212, e213, r214, po215⟩ := p210
        subst e213
        have h216 := (n202 (q 81) (ne_ty (ym_81 Y) (ym_87 Y) (by decide))).trans ((n192 (q 81) (ne_ty (ym_81 Y) (ym_89 Y) (by decide))).trans (h150))
        have tw217 := po215 _ _ _ h216
        have r218 : z145 = z212 := (iI_eq (by omega) (by omega)).mp (tw152.symm.trans tw217)
        refine v_iconst B (v := iI 4) dX12_pieces_68 rfl ?_
        refine v_iadd B (v := iI (z212 + 4)) dX12_pieces_69 ((iI_add _ _).trans (congrArg iI (by omega))) ?_
        refine v_goto B (tgt := 74) dX12_pieces_70 (by decide +kernel) ?_
        obtain ⟨f219, h220, e221⟩ := ga_88 G205.t
        refine u_iast B Z (t0 := 0) (x := iI (z212 + 4)) (ym_88 Y) h220 rfl (by omega) dX12_pieces_74 (fun σ222 h223 n224 => ?_)
        have e225 := el_upd (z := (z212 + 4)) e221 ⟨by omega, by omega⟩ (d : Int).toNat
        have F226 := F204.put (ym_88 Y) (by simp) n224
        have G227 := gp_88 Y G205 ⟨_, h223, e225⟩ n224
        refine v_lv [1, 2, 3, 0] rfl ?_
        have h228 := (n224 (q 85) (ne_ty (ym_85 Y) (ym_88 Y) (by decide))).trans ((n202 (q 85) (ne_ty (ym_85 Y) (ym_87 Y) (by decide))).trans ((n192 (q 85) (ne_ty (ym_85 Y) (ym_89 Y) (by decide))).trans (h13)))
        have h229 := (n224 h (ne_ty Y.o (ym_88 Y) (by decide))).trans (h206)
        exact J75 σ222 (96 * d) G227 F226 h228 h229 ⟨by omega, by omega⟩
set_option maxRecDepth 100000 in
theorem c_M_pieces (l : Launch) (D : va_G) (K : Nat → ClassId) {τ : Nat → Option Ty} {dom : List Nat} (Z : Sk τ dom) (zb zL : Nat) (zx : Nat → Int32) (zs : Nat → Nat) (h : Nat) (q : Nat → Nat) (Y : MS τ h q) (d : Int) (x2 : Int) (x3 : Int) (r_d : 0 ≤ d ∧ d ≤ 1) (r_x2 : 1 ≤ x2 ∧ x2 ≤ 31) (r_x3 : 0 ≤ x3 ∧ x3 ≤ 1) (σ0 : Nat → va_E) (G0 : GM K h q σ0) : MZ l yX12_pieces wp_M_pieces ({ frames := 8, cells := 0, slots := 0, locals := 194 }) D (tysA K) [.ref h, .int (iI d), .int (iI x2), .int (iI x3)] (fd dom σ0) zb zL zx zs (Qv D (fun σ' => GM K h q σ' ∧ Fr τ [(189, 0), (187, 0), (188, 0), (183, 0), (191, 0), (204, 0), (216, 0), (145, 0), (144, 0), (146, 0), (190, 0), (219, 0), (182, 0), (184, 0), (185, 0), (220, 0), (222, 0), (221, 0), (203, 0), (207, 0), (214, 0), (206, 0), (210, 0), (211, 0), (212, 0), (208, 0), (209, 0), (213, 0), (194, 0), (195, 0), (192, 0), (108, 0), (197, 0), (198, 0), (199, 0), (104, 0), (105, 0), (106, 0), (196, 0), (162, 0), (175, 0)] σ0 σ') (fun σ' => fd dom σ')) 0 0 := by
  refine mz_of (cc := cX12_pieces) (maxL := 7) (ret := none) (by decide +kernel) rfl (Nat.le_of_ble_eq_true rfl) ?_
  intro p e s m below meth c A B hr hlk _ hz
  exact b_M_pieces ⟨Nat.le_refl _, Nat.le_refl _⟩ B Z hz h q Y d x2 x3 r_d r_x2 r_x3 σ0 G0 (fun σ' lv pc G F hd => v_vret B hr hlk σ' ⟨G, F⟩ rfl (Nat.le_refl _) (Nat.le_refl _) hd)

def wp_M_takesGood : List Cond := .code yX12_takesGood cX12_takesGood 8 none :: (([.methodLink RX12 476 yX12_pieces, .instanceMethod yX12_pieces, .selects RX12 yX12_pieces yX12_pieces, .initialized RX12, .code yX12_pieces cX12_pieces 7 none, .fieldLink RX12 269 "LowEnergyModel" "whole" "[B", .fieldLink RX12 293 "LowEnergyModel" "asks" "[B", .methodLink RX12 29 yX12_copy, .static yX12_copy, .code yX12_copy cX12_copy 6 none, .methodLink RX12 525 yX12_attributes, .instanceMethod yX12_attributes, .selects RX12 yX12_attributes yX12_attributes, .code yX12_attributes cX12_attributes 4 none, .methodLink RX12 562 yX12_asked, .instanceMethod yX12_asked, .selects RX12 yX12_asked yX12_asked, .code yX12_asked cX12_asked 7 none, .methodLink RX12 590 yX12_reads, .instanceMethod yX12_reads, .selects RX12 yX12_reads yX12_reads, .code yX12_reads cX12_reads 9 none, .methodLink RX12 564 yX12_error, .instanceMethod yX12_error, .selects RX12 yX12_error yX12_error, .code yX12_error cX12_error 5 none, .fieldLink RX12 290 "LowEnergyModel" "said" "[B", .methodLink RX12 432 yX12_number, .static yX12_number, .code yX12_number cX12_number 6 none, .methodLink RX12 527 yX12_says, .instanceMethod yX12_says, .selects RX12 yX12_says yX12_says, .code yX12_says cX12_says 5 none, .fieldLink RX12 275 "LowEnergyModel" "messages" "[I", .fieldLink RX12 266 "LowEnergyModel" "message" "[B", .fieldLink RX12 272 "LowEnergyModel" "messageMany" "[I", .fieldLink RX12 329 "LowEnergyModel" "length" "[I", .fieldLink RX12 332 "LowEnergyModel" "mtu" "[I", .methodLink RX12 404 Lib.Math.min.name, .static Lib.Math.min.name, .initialized "java/lang/Math", .code Lib.Math.min.name Lib.Math.min.code 2 (some .int), .fieldLink RX12 341 "LowEnergyModel" "values" "[B", .methodLink RX12 570 yX12_lacks, .instanceMethod yX12_lacks, .selects RX12 yX12_lacks yX12_lacks, .code yX12_lacks cX12_lacks 5 (some .int), .fieldLink RX12 326 "LowEnergyModel" "rights" "[I", .methodLink RX12 547 yX12_row, .instanceMethod yX12_row, .selects RX12 yX12_row yX12_row, .code yX12_row cX12_row 3 (some .int), .fieldLink RX12 239 "LowEnergyModel" "isSecure" "[Z", .methodLink RX12 567 yX12_isHandle, .instanceMethod yX12_isHandle, .selects RX12 yX12_isHandle yX12_isHandle, .code yX12_isHandle cX12_isHandle 3 (some .boolean), .fieldLink RX12 320 "LowEnergyModel" "attributes" "[I", .methodLink RX12 593 yX12_writing, .instanceMethod yX12_writing, .selects RX12 yX12_writing yX12_writing, .code yX12_writing cX12_writing 8 none, .fieldLink RX12 338 "LowEnergyModel" "parts" "[I", .fieldLink RX12 350 "LowEnergyModel" "partHandle" "[I", .fieldLink RX12 353 "LowEnergyModel" "partPlace" "[I", .fieldLink RX12 356 "LowEnergyModel" "partMany" "[I", .fieldLink RX12 344 "LowEnergyModel" "partBytes" "[B", .methodLink RX12 574 yX12_writes, .instanceMethod yX12_writes, .selects RX12 yX12_writes yX12_writes, .code yX12_writes cX12_writes 4 none, .methodLink RX12 587 yX12_executes, .instanceMethod yX12_executes, .selects RX12 yX12_executes yX12_executes, .code yX12_executes cX12_executes 9 none, .fieldLink RX12 359 "LowEnergyModel" "trialLength" "[I", .fieldLink RX12 347 "LowEnergyModel" "trial" "[B", .methodLink RX12 596 Lib.Math.max.name, .static Lib.Math.max.name, .code Lib.Math.max.name Lib.Math.max.code 2 (some .int), .methodLink RX12 584 yX12_mtus, .instanceMethod yX12_mtus, .selects RX12 yX12_mtus yX12_mtus, .code yX12_mtus cX12_mtus 3 none, .fieldLink RX12 335 "LowEnergyModel" "ownMtu" "[I", .methodLink RX12 581 yX12_lists, .instanceMethod yX12_lists, .selects RX12 yX12_lists yX12_lists, .code yX12_lists cX12_lists 16 none, .methodLink RX12 603 yX12_endOf, .instanceMethod yX12_endOf, .selects RX12 yX12_endOf yX12_endOf, .code yX12_endOf cX12_endOf 4 (some .int), .fieldLink RX12 323 "LowEnergyModel" "type" "[I", .methodLink RX12 599 yX12_isValue, .instanceMethod yX12_isValue, .selects RX12 yX12_isValue yX12_isValue, .code yX12_isValue cX12_isValue 8 (some .boolean), .methodLink RX12 489 yX12_two, .static yX12_two, .code yX12_two cX12_two 2 (some .int), .methodLink RX12 577 yX12_hasBytes, .instanceMethod yX12_hasBytes, .selects RX12 yX12_hasBytes yX12_hasBytes, .code yX12_hasBytes cX12_hasBytes 4 (some .boolean), .methodLink RX12 556 yX12_toldOf, .instanceMethod yX12_toldOf, .selects RX12 yX12_toldOf yX12_toldOf, .code yX12_toldOf cX12_toldOf 4 none, .methodLink RX12 409 yX12_complete, .instanceMethod yX12_complete, .selects RX12 yX12_complete yX12_complete, .code yX12_complete cX12_complete 11 none, .fieldLink RX12 155 "LowEnergyModel" "kept" "[I", .fieldLink RX12 158 "LowEnergyModel" "keptMany" "[I", .fieldLink RX12 161 "LowEnergyModel" "notKept" "[I", .methodLink RX12 559 yX12_writesAlone, .instanceMethod yX12_writesAlone, .selects RX12 yX12_writesAlone yX12_writesAlone, .code yX12_writesAlone cX12_writesAlone 4 none, .methodLink RX12 553 yX12_confirmed, .instanceMethod yX12_confirmed, .selects RX12 yX12_confirmed yX12_confirmed, .code yX12_confirmed cX12_confirmed 3 none, .fieldLink RX12 362 "LowEnergyModel" "waits30" "[Z", .methodLink RX12 504 yX12_complete_, .instanceMethod yX12_complete_, .selects RX12 yX12_complete_ yX12_complete_, .code yX12_complete_ cX12_complete_ 6 none, .fieldLink RX12 10 "LowEnergyModel" "tape" "[B", .methodLink RX12 550 yX12_answered, .instanceMethod yX12_answered, .selects RX12 yX12_answered yX12_answered, .code yX12_answered cX12_answered 6 none, .fieldLink RX12 377 "LowEnergyModel" "place" "[I", .fieldLink RX12 380 "LowEnergyModel" "jobMany" "[I", .fieldLink RX12 368 "LowEnergyModel" "jobA" "[I", .fieldLink RX12 383 "LowEnergyModel" "jobBytes" "[B", .methodLink RX12 621 yX12_ends, .instanceMethod yX12_ends, .selects RX12 yX12_ends yX12_ends, .code yX12_ends cX12_ends 3 none, .fieldLink RX12 365 "LowEnergyModel" "job" "[I", .methodLink RX12 630 yX12_asksFor, .instanceMethod yX12_asksFor, .selects RX12 yX12_asksFor yX12_asksFor, .code yX12_asksFor cX12_asksFor 3 none, .methodLink RX12 606 yX12_request, .instanceMethod yX12_request, .selects RX12 yX12_request yX12_request, .code yX12_request cX12_request 4 none, .fieldLink RX12 374 "LowEnergyModel" "due" "[I", .constantLong RX12 609 (65535), .constantLong RX12 611 (10240), .fieldLink RX12 371 "LowEnergyModel" "jobB" "[I", .constantLong RX12 613 (10243), .methodLink RX12 615 yX12_asksToWrite, .instanceMethod yX12_asksToWrite, .selects RX12 yX12_asksToWrite yX12_asksToWrite, .code yX12_asksToWrite cX12_asksToWrite 3 none, .methodLink RX12 624 yX12_isAnswer, .instanceMethod yX12_isAnswer, .selects RX12 yX12_isAnswer yX12_isAnswer, .code yX12_isAnswer cX12_isAnswer 3 (some .boolean), .methodLink RX12 618 yX12_areRows, .static yX12_areRows, .code yX12_areRows cX12_areRows 4 (some .boolean), .methodLink RX12 627 yX12_rows, .instanceMethod yX12_rows, .selects RX12 yX12_rows yX12_rows, .code yX12_rows cX12_rows 11 none, .constant RX12 493 (65535), .methodLink RX12 522 yX12_pairs, .instanceMethod yX12_pairs, .selects RX12 yX12_pairs yX12_pairs, .code yX12_pairs cX12_pairs 8 none, .fieldLink RX12 296 "LowEnergyModel" "step" "[I", .methodLink RX12 531 yX12_fails, .instanceMethod yX12_fails, .selects RX12 yX12_fails yX12_fails, .code yX12_fails cX12_fails 4 none, .fieldLink RX12 317 "LowEnergyModel" "pair" "[B", .fieldLink RX12 311 "LowEnergyModel" "ownRandom" "[B", .fieldLink RX12 314 "LowEnergyModel" "tkRow" "[B", .fieldLink RX12 206 "LowEnergyModel" "key" "[B", .methodLink RX12 444 yX12_e, .instanceMethod yX12_e, .selects RX12 yX12_e yX12_e, .code yX12_e cX12_e 13 none, .fieldLink RX12 33 "LowEnergyModel" "cells" "[B", .fieldLink RX12 26 "LowEnergyModel" "round" "[B", .fieldLink RX12 36 "LowEnergyModel" "moved" "[B", .methodLink RX12 14 yX12_twice, .static yX12_twice, .code yX12_twice cX12_twice 1 (some .int), .fieldLink RX12 22 "LowEnergyModel" "box" "[I", .fieldLink RX12 245 "LowEnergyModel" "hasKey" "[Z", .methodLink RX12 540 yX12_saysRow, .instanceMethod yX12_saysRow, .selects RX12 yX12_saysRow yX12_saysRow, .code yX12_saysRow cX12_saysRow 5 none, .fieldLink RX12 308 "LowEnergyModel" "confirm" "[B", .methodLink RX12 544 yX12_c, .instanceMethod yX12_c, .selects RX12 yX12_c yX12_c, .code yX12_c cX12_c 9 none, .fieldLink RX12 45 "LowEnergyModel" "state" "[I", .fieldLink RX12 60 "LowEnergyModel" "address" "[J", .fieldLink RX12 64 "LowEnergyModel" "peer" "[J", .fieldLink RX12 305 "LowEnergyModel" "firstTwo" "[B", .fieldLink RX12 302 "LowEnergyModel" "tk" "[I", .methodLink RX12 537 yX12_tells, .instanceMethod yX12_tells, .selects RX12 yX12_tells yX12_tells, .code yX12_tells cX12_tells 3 none, .methodLink RX12 480 yX12_draw, .instanceMethod yX12_draw, .selects RX12 yX12_draw yX12_draw, .code yX12_draw cX12_draw 2 (some .int), .fieldLink RX12 48 "LowEnergyModel" "x" "[I", .constant RX12 395 (1103515245), .fieldLink RX12 299 "LowEnergyModel" "passkey" "[I", .methodLink RX12 534 yX12_saysFirst, .instanceMethod yX12_saysFirst, .selects RX12 yX12_saysFirst yX12_saysFirst, .code yX12_saysFirst cX12_saysFirst 3 none, .fieldLink RX12 287 "LowEnergyModel" "begun" "[Z", .fieldLink RX12 281 "LowEnergyModel" "wholeMany" "[I", .fieldLink RX12 284 "LowEnergyModel" "wholeAll" "[I", .fieldLink RX12 263 "LowEnergyModel" "came" "[B", .fieldLink RX12 179 "LowEnergyModel" "got" "[B", .methodLink RX12 473 yX12_controlled, .instanceMethod yX12_controlled, .selects RX12 yX12_controlled yX12_controlled, .code yX12_controlled cX12_controlled 8 none, .methodLink RX12 459 yX12_reasons, .instanceMethod yX12_reasons, .selects RX12 yX12_reasons yX12_reasons, .code yX12_reasons cX12_reasons 3 none, .fieldLink RX12 133 "LowEnergyModel" "reason" "[I", .fieldLink RX12 112 "LowEnergyModel" "event" "[I", .fieldLink RX12 73 "LowEnergyModel" "newMap" "[J", .methodLink RX12 494 yX12_number_, .static yX12_number_, .code yX12_number_ cX12_number_ 6 (some .long), .fieldLink RX12 139 "LowEnergyModel" "instant" "[I", .fieldLink RX12 149 "LowEnergyModel" "mapWaits" "[Z", .methodLink RX12 497 yX12_isMap, .static yX12_isMap, .code yX12_isMap cX12_isMap 2 (some .boolean), .constantLong RX12 396 (137438953472), .methodLink RX12 398 yJ13_bitCount_95d88, .static yJ13_bitCount_95d88, .initialized RJ13, .code yJ13_bitCount_95d88 cJ13_bitCount_95d88 2 (some .int), .constantLong RJ13 314 (6148914691236517205), .constantLong RJ13 316 (3689348814741910323), .constantLong RJ13 318 (1085102592571150095), .fieldLink RX12 136 "LowEnergyModel" "ending" "[I", .methodLink RX12 501 yX12_ciphers, .instanceMethod yX12_ciphers, .selects RX12 yX12_ciphers yX12_ciphers, .code yX12_ciphers cX12_ciphers 3 none, .fieldLink RX12 224 "LowEnergyModel" "held" "[Z", .fieldLink RX12 236 "LowEnergyModel" "sealsIn" "[Z", .fieldLink RX12 233 "LowEnergyModel" "sealsOut" "[Z", .fieldLink RX12 194 "LowEnergyModel" "out" "[I", .methodLink RX12 486 yX12_adds_, .instanceMethod yX12_adds_, .selects RX12 yX12_adds_ yX12_adds_, .code yX12_adds_ cX12_adds_ 5 none, .fieldLink RX12 260 "LowEnergyModel" "pdu" "[B", .methodLink RX12 436 yX12_adds, .instanceMethod yX12_adds, .selects RX12 yX12_adds yX12_adds, .code yX12_adds cX12_adds 5 none, .fieldLink RX12 191 "LowEnergyModel" "controls" "[I", .fieldLink RX12 203 "LowEnergyModel" "control" "[B", .fieldLink RX12 221 "LowEnergyModel" "controlMany" "[I", .fieldLink RX12 230 "LowEnergyModel" "hasFour" "[Z", .fieldLink RX12 197 "LowEnergyModel" "opened" "[I", .fieldLink RX12 227 "LowEnergyModel" "asked" "[Z", .methodLink RX12 515 yX12_makesSession, .instanceMethod yX12_makesSession, .selects RX12 yX12_makesSession yX12_makesSession, .code yX12_makesSession cX12_makesSession 3 none, .fieldLink RX12 251 "LowEnergyModel" "block" "[B", .fieldLink RX12 209 "LowEnergyModel" "session" "[B", .fieldLink RX12 242 "LowEnergyModel" "hasSession" "[Z", .fieldLink RX12 212 "LowEnergyModel" "iv" "[B", .fieldLink RX12 218 "LowEnergyModel" "ownIv" "[B", .fieldLink RX12 215 "LowEnergyModel" "ownSkd" "[B", .methodLink RX12 512 yX12_draws, .instanceMethod yX12_draws, .selects RX12 yX12_draws yX12_draws, .code yX12_draws cX12_draws 3 none, .methodLink RX12 519 yX12_addsDraws, .instanceMethod yX12_addsDraws, .selects RX12 yX12_addsDraws yX12_addsDraws, .code yX12_addsDraws cX12_addsDraws 3 none, .fieldLink RX12 76 "LowEnergyModel" "features" "[J", .methodLink RX12 507 yX12_version, .instanceMethod yX12_version, .selects RX12 yX12_version yX12_version, .code yX12_version cX12_version 2 none, .fieldLink RX12 248 "LowEnergyModel" "toldVersion" "[Z", .constantLong RX12 510 (258), .methodLink RX12 483 yX12_bytesOf, .static yX12_bytesOf, .code yX12_bytesOf cX12_bytesOf 1 (some .int), .fieldLink RX12 254 "LowEnergyModel" "mac" "[B", .methodLink RX12 455 yX12_turns, .instanceMethod yX12_turns, .selects RX12 yX12_turns yX12_turns, .code yX12_turns cX12_turns 9 none, .fieldLink RX12 257 "LowEnergyModel" "stream" "[B", .methodLink RX12 440 yX12_nonce, .instanceMethod yX12_nonce, .selects RX12 yX12_nonce yX12_nonce, .code yX12_nonce cX12_nonce 7 none, .methodLink RX12 451 yX12_macs, .instanceMethod yX12_macs, .selects RX12 yX12_macs yX12_macs, .code yX12_macs cX12_macs 10 none, .fieldLink RX12 127 "LowEnergyModel" "nesn" "[I", .fieldLink RX12 182 "LowEnergyModel" "currentSort" "[I", .fieldLink RX12 185 "LowEnergyModel" "currentMany" "[I", .fieldLink RX12 130 "LowEnergyModel" "heardAt" "[I", .fieldLink RX12 470 "LowEnergyModel" "t" "I", .fieldLink RX12 145 "LowEnergyModel" "hasGood" "[Z", .fieldLink RX12 124 "LowEnergyModel" "sn" "[I", .fieldLink RX12 188 "LowEnergyModel" "currentOp" "[I"] : List Cond) ++ (wsX120 ++ ([])))
theorem hi_M_takesGood_X12 : ∀ x ∈ u_ws RX12 TX12 123, x ∈ wp_M_takesGood := fun _ h => List.mem_cons_of_mem _ (List.mem_append_right _ (List.mem_append_left _ h))
set_option maxRecDepth 100000 in
theorem gd_M_takesGood_M_pieces_476 : GoodIn wp_M_takesGood (wsV RX12 476 RX12 yX12_pieces wp_M_pieces) := goodIn_app (goodIn_r _ [1, 2, 3, 4] rfl rfl) (goodIn_ca (goodIn_r _ [5, 6, 7, 8, 9, 4, 10, 11, 12, 13, 14, 15, 16, 17, 18, 19, 20, 21, 22, 23, 24, 25, 26, 27, 28, 29, 30, 31, 32, 33, 34, 35, 36, 37, 38, 39, 40, 41, 42, 43, 44, 45, 46, 47, 48, 49, 50, 51, 52, 53, 54, 55, 56, 57, 58, 59, 60, 61, 62, 63, 64, 65, 66, 67, 68, 69, 70, 71, 72, 73, 74, 75, 76, 77, 78, 79, 80, 81, 82, 83, 84, 85, 86, 87, 88, 89, 90, 91, 92, 93, 94, 95, 96, 97, 98, 99, 100, 101, 102, 103, 104, 105, 106, 107, 108, 109, 110, 111, 112, 113, 114, 115, 116, 117, 118, 119, 120, 121, 122, 123, 124, 125, 126, 127, 128, 129, 130, 131, 132, 133, 134, 135, 136, 137, 138, 139, 140, 141, 142, 143, 144, 145, 146, 147, 148, 149, 150, 151, 152, 153, 154, 155, 156, 157, 158, 159, 160, 161, 162, 163, 164, 165, 166, 167, 168, 169, 170, 171, 172, 173, 174, 175, 176, 177, 178, 179, 180, 181, 182, 183, 184, 185, 186, 187, 188, 189, 190, 191, 192, 193, 194, 195, 196, 197, 198, 199, 200, 201, 202, 203, 204, 205, 206, 207, 208, 209, 210, 211, 212, 213, 214, 215, 216, 217, 218, 219, 220, 221, 222, 223, 224, 225, 226, 227, 228, 229, 230, 231] rfl rfl) (goodIn_app (goodIn_cls hi_M_takesGood_X12 gw_X12) (goodIn_nil)))
set_option maxRecDepth 100000 in
theorem gd_M_takesGood_M_copy_29 : GoodIn wp_M_takesGood (va_wsS RX12 29 yX12_copy wp_M_copy) := goodIn_app (goodIn_r _ [8, 9, 4] rfl rfl) (goodIn_ca (goodIn_r _ [10] rfl rfl) (goodIn_nil))
set_option maxRecDepth 100000 in
theorem gd_M_takesGood_M_controlled_473 : GoodIn wp_M_takesGood (wsV RX12 473 RX12 yX12_controlled wp_M_controlled) := goodIn_app (goodIn_r _ [233, 234, 235, 4] rfl rfl) (goodIn_ca (goodIn_r _ [236, 237, 238, 239, 4, 240, 241, 231, 100, 101, 102, 242, 173, 243, 244, 245, 246, 247, 248, 249, 250, 251, 252, 253, 254, 255, 256, 257, 258, 259, 260, 54, 261, 262, 263, 264, 265, 127, 128, 129, 130, 131, 111, 112, 113, 114, 115, 116, 40, 41, 42, 43, 117, 266, 208, 267, 268, 269, 270, 271, 272, 273, 28, 29, 30, 274, 275, 276, 277, 278, 279, 8, 9, 10, 280, 281, 282, 283, 284, 285, 286, 287, 186, 288, 289, 187, 188, 189, 190, 191, 192, 193, 194, 195, 196, 197, 290, 291, 292, 293, 198, 294, 295, 296, 297, 217, 218, 219, 220, 221, 222, 298, 299, 300, 301, 302, 303, 304, 305, 306, 307, 308, 309, 310, 311] rfl rfl) (goodIn_app (goodIn_cls hi_M_takesGood_X12 gw_X12) (goodIn_nil)))
set_option maxRecDepth 100000 in
theorem gd_M_takesGood_M_reasons_459 : GoodIn wp_M_takesGood (wsV RX12 459 RX12 yX12_reasons wp_M_reasons) := goodIn_app (goodIn_r _ [237, 238, 239, 4] rfl rfl) (goodIn_ca (goodIn_r _ [240, 241] rfl rfl) (goodIn_app (goodIn_cls hi_M_takesGood_X12 gw_X12) (goodIn_nil)))
set_option maxRecDepth 100000 in
theorem gd_M_takesGood_M_turnsG_455 : GoodIn wp_M_takesGood (wsV RX12 455 RX12 yX12_turns wp_M_turnsG) := goodIn_app (goodIn_r _ [313, 314, 315, 4] rfl rfl) (goodIn_ca (goodIn_r _ [316, 317, 318, 319, 320, 4, 321, 288, 28, 29, 30, 291, 8, 9, 10, 289, 187, 188, 189, 190, 191, 192, 193, 194, 195, 196, 197] rfl rfl) (goodIn_app (goodIn_cls hi_M_takesGood_X12 gw_X12) (goodIn_nil)))
set_option maxRecDepth 100000 in
theorem gd_M_takesGood_M_macs_451 : GoodIn wp_M_takesGood (wsV RX12 451 RX12 yX12_macs wp_M_macs) := goodIn_app (goodIn_r _ [322, 323, 324, 4] rfl rfl) (goodIn_ca (goodIn_r _ [325, 312, 317, 289, 187, 188, 189, 4, 190, 191, 192, 193, 194, 195, 196, 197, 8, 9, 10, 318, 319, 320, 321, 288, 28, 29, 30, 291] rfl rfl) (goodIn_app (goodIn_cls hi_M_takesGood_X12 gw_X12) (goodIn_nil)))
set_option maxHeartbeats 4000000 in
set_option maxRecDepth 100000 in
theorem b_M_takesGood {p : Program} {l : Launch} {e : Env} {R : Room} {s : State} {m : MethodId} {args : Array Value} {below : List Frame} {meth : Method} {c : Code} {D : va_G} {K : Nat → ClassId} {A : Nat → Prop} {Q : State → Prop} {τ : Nat → Option Ty} {dom : List Nat} {zb zL : Nat} {zx : Nat → Int32} {zs : Nat → Nat} (hR : 9 ≤ R.frames ∧ 220 ≤ R.locals) (B : Bx p s m args c cX12_takesGood 8 RX12 wp_M_takesGood D (tysA K) A) (Z : Sk τ dom) (hz : ZL zb zL zx zs A s s.heap) (h : Nat) (q : Nat → Nat) (Y : MS τ h q) (d : Int) (x2 : Int) (r_d : 0 ≤ d ∧ d ≤ 1) (r_x2 : 0 ≤ x2 ∧ x2 ≤ 31) (σ0 : Nat → va_E) (G0 : GM K h q σ0) (hend : ∀ (σ' : Nat → va_E) (lv : List (Nat × Value)) (pc : Nat), GM K h q σ' → Fr τ [(135, 0), (140, 0), (133, 0), (154, 0), (155, 0), (172, 0), (159, 0), (136, 0), (134, 0), (177, 0), (104, 0), (105, 0), (106, 0), (179, 0), (153, 0), (178, 0), (181, 0), (116, 0), (138, 0), (141, 0), (171, 0), (158, 0), (180, 0), (161, 0), (167, 0), (157, 0), (164, 0), (163, 0), (174, 0), (170, 0), (168, 0), (108, 0), (165, 0), (166, 0), (173, 0), (145, 0), (144, 0), (146, 0), (169, 0), (176, 0), (137, 0), (189, 0), (187, 0), (188, 0), (183, 0), (191, 0), (204, 0), (216, 0), (190, 0), (219, 0), (182, 0), (184, 0), (185, 0), (220, 0), (222, 0), (221, 0), (203, 0), (207, 0), (214, 0), (206, 0), (210, 0), (211, 0), (212, 0), (208, 0), (209, 0), (213, 0), (194, 0), (195, 0), (192, 0), (197, 0), (198, 0), (199, 0), (196, 0), (162, 0), (175, 0)] σ0 σ' → decode cX12_takesGood pc = .ok (.return_, 1) → V p l e R s m args below meth c 8 D A Q (0, 0) (fd dom σ') lv pc []) : V p l e R s m args below meth c 8 D A Q (0, 0) (fd dom σ0) [(0, .ref h), (1, .int (iI d)), (2, .int (iI x2))] 0 [] := by
  have F0 : Fr τ [(135, 0), (140, 0), (133, 0), (154, 0), (155, 0), (172, 0), (159, 0), (136, 0), (134, 0), (177, 0), (104, 0), (105, 0), (106, 0), (179, 0), (153, 0), (178, 0), (181, 0), (116, 0), (138, 0), (141, 0), (171, 0), (158, 0), (180, 0), (161, 0), (167, 0), (157, 0), (164, 0), (163, 0), (174, 0), (170, 0), (168, 0), (108, 0), (165, 0), (166, 0), (173, 0), (145, 0), (144, 0), (146, 0), (169, 0), (176, 0), (137, 0), (189, 0), (187, 0), (188, 0), (183, 0), (191, 0), (204, 0), (216, 0), (190, 0), (219, 0), (182, 0), (184, 0), (185, 0), (220, 0), (222, 0), (221, 0), (203, 0), (207, 0), (214, 0), (206, 0), (210, 0), (211, 0), (212, 0), (208, 0), (209, 0), (213, 0), (194, 0), (195, 0), (192, 0), (197, 0), (198, 0), (199, 0), (196, 0), (162, 0), (175, 0)] σ0 σ0 := Fr.rf
  obtain ⟨z1, z2, z3, z4, z5, h6, r7, r8, r9, r10, r11⟩ := G0.t.o
  have J387 : ∀ (σ_387 : Nat → va_E) (z387_s0 : Int) (z387_s1 : Int) (z387_s2 : Int), GM K h q σ_387 → Fr τ [(135, 0), (140, 0), (133, 0), (154, 0), (155, 0), (172, 0), (159, 0), (136, 0), (134, 0), (177, 0), (104, 0), (105, 0), (106, 0), (179, 0), (153, 0), (178, 0), (181, 0), (116, 0), (138, 0), (141, 0), (171, 0), (158, 0), (180, 0), (161, 0), (167, 0), (157, 0), (164, 0), (163, 0), (174, 0), (170, 0), (168, 0), (108, 0), (165, 0), (166, 0), (173, 0), (145, 0), (144, 0), (146, 0), (169, 0), (176, 0), (137, 0), (189, 0), (187, 0), (188, 0), (183, 0), (191, 0), (204, 0), (216, 0), (190, 0), (219, 0), (182, 0), (184, 0), (185, 0), (220, 0), (222, 0), (221, 0), (203, 0), (207, 0), (214, 0), (206, 0), (210, 0), (211, 0), (212, 0), (208, 0), (209, 0), (213, 0), (194, 0), (195, 0), (192, 0), (197, 0), (198, 0), (199, 0), (196, 0), (162, 0), (175, 0)] σ0 σ_387 → (σ_387 h = .inr (12, fsM q (iI z1) (iI z2) (iI z3) (iI z4) (iI z5))) → (0 ≤ z387_s0 ∧ z387_s0 ≤ 1) → (1 ≤ z387_s1 ∧ z387_s1 ≤ 31) → (0 ≤ z387_s2 ∧ z387_s2 ≤ 1) → V p l e R s m args below meth c 8 D A Q (0, 0) (fd dom σ_387) [] 387 [.int (iI z387_s0), .int (iI z387_s1), .int (iI z387_s2), .ref h] := by
    intro σ_387 z387_s0 z387_s1 z387_s2 G_387 F_387 hc387_h r387_s0 r387_s1 r387_s2
    refine u_callVv B Z hz (n := 3) (As := [.int (iI z387_s2), .int (iI z387_s1), .int (iI z387_s0)]) (rest := []) (c_M_pieces l D K Z _ _ _ _ h q Y z387_s2 z387_s1 z387_s0 ⟨by omega, by omega⟩ ⟨by omega, by omega⟩ ⟨by omega, by omega⟩ σ_387 G_387) gd_M_takesGood_M_pieces_476 rfl rfl rfl (by decide +kernel) ⟨Nat.le_trans (by decide +kernel) hR.1, Nat.le_trans (by decide +kernel) hR.2⟩ Y.o (clsM G_387.t) rfl rfl rfl rfl (Nat.le_of_ble_eq_true rfl) dX12_takesGood_387 ⟨Nat.zero_le _, Nat.zero_le _⟩ (fun σ12 p13 => ?_)
    obtain ⟨G15, F16⟩ := p13
    have F17 := F_387.call F16 (by first | rfl | simp)
    exact hend σ12 _ _ G15 F17 dX12_takesGood_390
  have J332 : ∀ (σ_332 : Nat → va_E) (z332_3 : Int) (z332_4 : Int), GM K h q σ_332 → Fr τ [(135, 0), (140, 0), (133, 0), (154, 0), (155, 0), (172, 0), (159, 0), (136, 0), (134, 0), (177, 0), (104, 0), (105, 0), (106, 0), (179, 0), (153, 0), (178, 0), (181, 0), (116, 0), (138, 0), (141, 0), (171, 0), (158, 0), (180, 0), (161, 0), (167, 0), (157, 0), (164, 0), (163, 0), (174, 0), (170, 0), (168, 0), (108, 0), (165, 0), (166, 0), (173, 0), (145, 0), (144, 0), (146, 0), (169, 0), (176, 0), (137, 0), (189, 0), (187, 0), (188, 0), (183, 0), (191, 0), (204, 0), (216, 0), (190, 0), (219, 0), (182, 0), (184, 0), (185, 0), (220, 0), (222, 0), (221, 0), (203, 0), (207, 0), (214, 0), (206, 0), (210, 0), (211, 0), (212, 0), (208, 0), (209, 0), (213, 0), (194, 0), (195, 0), (192, 0), (197, 0), (198, 0), (199, 0), (196, 0), (162, 0), (175, 0)] σ0 σ_332 → (σ_332 h = .inr (12, fsM q (iI z1) (iI z2) (iI z3) (iI z4) (iI z5))) → (0 ≤ z332_3 ∧ z332_3 ≤ 255) → (1 ≤ z332_4 ∧ z332_4 ≤ 31) → V p l e R s m args below meth c 8 D A Q (0, 0) (fd dom σ_332) [(0, .ref h), (1, .int (iI d)), (3, .int (iI z332_3)), (4, .int (iI z332_4))] 332 [] := by
    intro σ_332 z332_3 z332_4 G_332 F_332 hc332_h r332_3 r332_4
    refine v_aload_n B dX12_takesGood_332 rfl rfl ?_
    refine u_get B Z (C := RX12) (T := TX12) (N := 123) (ci := 12) hi_M_takesGood_X12 Y.o hc332_h rfl 53 (by decide +kernel) (List.mem_of_getElem? (i := 232) rfl) rfl dX12_takesGood_333 ?_
    refine v_bipush B (v := iI 6) dX12_takesGood_336 (by decide +kernel) ?_
    refine v_aload_n B dX12_takesGood_338 rfl rfl ?_
    refine u_get B Z (C := RX12) (T := TX12) (N := 123) (ci := 12) hi_M_takesGood_X12 Y.o hc332_h rfl 81 (by decide +kernel) (List.mem_of_getElem? (i := 231) rfl) rfl dX12_takesGood_339 ?_
    refine v_iconst B (v := iI 0) dX12_takesGood_342 rfl ?_
    refine v_iload B dX12_takesGood_343 rfl ?_
    refine u_callSv B Z hz (n := 5) (As := [.ref (q 53), .int (iI 6), .ref (q 81), .int (iI 0), .int (iI z332_4)]) (rest := []) (c_M_copy l D K Z _ _ _ _ h q Y 53 40 6 81 40 0 z332_4 rfl ⟨by omega, by omega⟩ rfl ⟨by omega, by omega⟩ ⟨by omega, by omega⟩ σ_332 G_332 (by omega)) gd_M_takesGood_M_copy_29 rfl rfl rfl (by decide +kernel) ⟨Nat.le_trans (by decide +kernel) hR.1, Nat.le_trans (by decide +kernel) hR.2⟩ rfl rfl (Nat.le_of_ble_eq_true rfl) dX12_takesGood_345 ⟨Nat.zero_le _, Nat.zero_le _⟩ (fun σ18 p19 => ?_)
    obtain ⟨G21, F22⟩ := p19
    have F23 := F_332.call F22 (by first | rfl | simp)
    refine v_iload_n B dX12_takesGood_348 rfl rfl ?_
    refine v_iconst B (v := iI 3) dX12_takesGood_349 rfl ?_
    obtain ⟨z24, e25, r26⟩ := iI_and z332_3 (c := 3) (by decide) (by decide)
    refine v_iand B (v := iI z24) dX12_takesGood_350 e25 ?_
    refine v_iconst B (v := iI 3) dX12_takesGood_351 rfl ?_
    refine u_icmp_ne B (tgt := 365) (by omega) (by omega) dX12_takesGood_352 (by decide +kernel) (fun c27 => ?_) (fun c27 => ?_)
    · refine v_iload_n B dX12_takesGood_365 rfl rfl ?_
      refine v_iconst B (v := iI 3) dX12_takesGood_366 rfl ?_
      obtain ⟨z28, e29, r30⟩ := iI_and z332_3 (c := 3) (by decide) (by decide)
      refine v_iand B (v := iI z28) dX12_takesGood_367 e29 ?_
      refine u_if_le B (tgt := 390) (by omega) dX12_takesGood_368 (by decide +kernel) (fun c31 => ?_) (fun c31 => ?_)
      · exact hend σ18 _ _ G21 F23 dX12_takesGood_390
      · refine v_aload_n B dX12_takesGood_371 rfl rfl ?_
        refine v_iload_n B dX12_takesGood_372 rfl rfl ?_
        refine v_iload B dX12_takesGood_373 rfl ?_
        refine v_iload_n B dX12_takesGood_375 rfl rfl ?_
        refine v_iconst B (v := iI 3) dX12_takesGood_376 rfl ?_
        obtain ⟨z32, e33, r34⟩ := iI_and z332_3 (c := 3) (by decide) (by decide)
        refine v_iand B (v := iI z32) dX12_takesGood_377 e33 ?_
        refine v_iconst B (v := iI 2) dX12_takesGood_378 rfl ?_
        refine u_icmp_ne B (tgt := 386) (by omega) (by omega) dX12_takesGood_379 (by decide +kernel) (fun c35 => ?_) (fun c35 => ?_)
        · refine v_iconst B (v := iI 0) dX12_takesGood_386 rfl ?_
          refine v_lv [] rfl ?_
          have h36 := (F22 h _ Y.o (by first | rfl | simp)).trans (hc332_h)
          exact J387 σ18 0 z332_4 d G21 F23 h36 ⟨by omega, by omega⟩ ⟨by omega, by omega⟩ ⟨by omega, by omega⟩
        · refine v_iconst B (v := iI 1) dX12_takesGood_382 rfl ?_
          refine v_goto B (tgt := 387) dX12_takesGood_383 (by decide +kernel) ?_
          refine v_lv [] rfl ?_
          have h37 := (F22 h _ Y.o (by first | rfl | simp)).trans (hc332_h)
          exact J387 σ18 1 z332_4 d G21 F23 h37 ⟨by omega, by omega⟩ ⟨by omega, by omega⟩ ⟨by omega, by omega⟩
    · refine v_aload_n B dX12_takesGood_355 rfl rfl ?_
      refine v_iload_n B dX12_takesGood_356 rfl rfl ?_
      refine v_iload B dX12_takesGood_357 rfl ?_
      refine u_callVv B Z hz (n := 2) (As := [.int (iI d), .int (iI z332_4)]) (rest := []) (c_M_controlled l D K Z _ _ _ _ h q Y d z332_4 ⟨by omega, by omega⟩ ⟨by omega, by omega⟩ σ18 G21) gd_M_takesGood_M_controlled_473 rfl rfl rfl (by decide +kernel) ⟨Nat.le_trans (by decide +kernel) hR.1, Nat.le_trans (by decide +kernel) hR.2⟩ Y.o (clsM G21.t) rfl rfl rfl rfl (Nat.le_of_ble_eq_true rfl) dX12_takesGood_359 ⟨Nat.zero_le _, Nat.zero_le _⟩ (fun σ38 p39 => ?_)
      obtain ⟨G41, F42⟩ := p39
      have F43 := F23.call F42 (by first | rfl | simp)
      refine v_goto B (tgt := 390) dX12_takesGood_362 (by decide +kernel) ?_
      exact hend σ38 _ _ G41 F43 dX12_takesGood_390
  have J262 : ∀ (k262 : Nat) (σ_262 : Nat → va_E) (z262_3 : Int) (z262_4 : Int) (z262_6 : Int) (z262_7 : Int), (2147483648 - z262_7).toNat ≤ k262 → GM K h q σ_262 → Fr τ [(135, 0), (140, 0), (133, 0), (154, 0), (155, 0), (172, 0), (159, 0), (136, 0), (134, 0), (177, 0), (104, 0), (105, 0), (106, 0), (179, 0), (153, 0), (178, 0), (181, 0), (116, 0), (138, 0), (141, 0), (171, 0), (158, 0), (180, 0), (161, 0), (167, 0), (157, 0), (164, 0), (163, 0), (174, 0), (170, 0), (168, 0), (108, 0), (165, 0), (166, 0), (173, 0), (145, 0), (144, 0), (146, 0), (169, 0), (176, 0), (137, 0), (189, 0), (187, 0), (188, 0), (183, 0), (191, 0), (204, 0), (216, 0), (190, 0), (219, 0), (182, 0), (184, 0), (185, 0), (220, 0), (222, 0), (221, 0), (203, 0), (207, 0), (214, 0), (206, 0), (210, 0), (211, 0), (212, 0), (208, 0), (209, 0), (213, 0), (194, 0), (195, 0), (192, 0), (197, 0), (198, 0), (199, 0), (196, 0), (162, 0), (175, 0)] σ0 σ_262 → (σ_262 h = .inr (12, fsM q (iI z1) (iI z2) (iI z3) (iI z4) (iI z5))) → (0 ≤ z262_3 ∧ z262_3 ≤ 255) → (1 ≤ z262_4 ∧ z262_4 ≤ 27) → (0 ≤ z262_6 ∧ z262_6 ≤ 1) → (0 ≤ z262_7 ∧ z262_7 ≤ 4) → V p l e R s m args below meth c 8 D A Q (0, 0) (fd dom σ_262) [(0, .ref h), (1, .int (iI d)), (3, .int (iI z262_3)), (4, .int (iI z262_4)), (6, .int (iI z262_6)), (7, .int (iI z262_7))] 262 [] := by
    intro k262
    induction k262 with
    | zero => intro σ_262 z262_3 z262_4 z262_6 z262_7 m262 G_262 F_262 hc262_h r262_3 r262_4 r262_6 r262_7; omega
    | succ k262 IH262 =>
      intro σ_262 z262_3 z262_4 z262_6 z262_7 m262 G_262 F_262 hc262_h r262_3 r262_4 r262_6 r262_7
      have J301 : ∀ (z301_s0 : Int), (0 ≤ z262_7 ∧ z262_7 ≤ 3) → (0 ≤ z301_s0 ∧ z301_s0 ≤ 1) → V p l e R s m args below meth c 8 D A Q (0, 0) (fd dom σ_262) [(0, .ref h), (1, .int (iI d)), (3, .int (iI z262_3)), (4, .int (iI z262_4)), (7, .int (iI z262_7))] 301 [.int (iI z301_s0)] := by
        intro z301_s0 rv301_z262_7 r301_s0
        refine v_istore B (lv' := [(6, .int (iI z301_s0)), (0, .ref h), (1, .int (iI d)), (3, .int (iI z262_3)), (4, .int (iI z262_4)), (7, .int (iI z262_7))]) dX12_takesGood_301 (by decide +kernel) rfl ?_
        refine v_iinc B (k := 5) (v := iI (z262_7 + 1)) (lv' := [(7, .int (iI (z262_7 + 1))), (6, .int (iI z301_s0)), (0, .ref h), (1, .int (iI d)), (3, .int (iI z262_3)), (4, .int (iI z262_4))]) dX12_takesGood_303 rfl ((iI_add _ _).trans (congrArg iI (by omega))) (by decide +kernel) rfl ?_
        refine v_goto B (tgt := 262) dX12_takesGood_306 (by decide +kernel) ?_
        refine v_lv [2, 3, 4, 5, 1, 0] rfl ?_
        exact IH262 σ_262 z262_3 z262_4 z301_s0 (z262_7 + 1) (by omega) G_262 F_262 hc262_h ⟨by omega, by omega⟩ ⟨by omega, by omega⟩ ⟨by omega, by omega⟩ ⟨by omega, by omega⟩
      have J300 : (0 ≤ z262_7 ∧ z262_7 ≤ 3) → V p l e R s m args below meth c 8 D A Q (0, 0) (fd dom σ_262) [(0, .ref h), (1, .int (iI d)), (3, .int (iI z262_3)), (4, .int (iI z262_4)), (7, .int (iI z262_7))] 300 [] := by
        intro rv300_z262_7
        refine v_iconst B (v := iI 0) dX12_takesGood_300 rfl ?_
        exact J301 0 ⟨by omega, by omega⟩ ⟨by omega, by omega⟩
      refine v_iload B dX12_takesGood_262 rfl ?_
      refine v_iconst B (v := iI 4) dX12_takesGood_264 rfl ?_
      refine u_icmp_ge B (tgt := 309) (by omega) (by omega) dX12_takesGood_265 (by decide +kernel) (fun c44 => ?_) (fun c44 => ?_)
      · refine v_iload B dX12_takesGood_309 rfl ?_
        refine u_if_ne B (tgt := 322) (by omega) dX12_takesGood_311 (by decide +kernel) (fun c45 => ?_) (fun c45 => ?_)
        · refine v_aload_n B dX12_takesGood_322 rfl rfl ?_
          refine u_get B Z (C := RX12) (T := TX12) (N := 123) (ci := 12) hi_M_takesGood_X12 Y.o hc262_h rfl 59 (by decide +kernel) (List.mem_of_getElem? (i := 282) rfl) rfl dX12_takesGood_323 ?_
          refine v_iload_n B dX12_takesGood_326 rfl rfl ?_
          refine v_dup2 B dX12_takesGood_327 rfl rfl ?_
          obtain ⟨f46, h47, e48⟩ := ga_59 G_262.t
          obtain ⟨z49, e50, r51⟩ := e48 (d : Int).toNat
          refine u_iald B Z (t0 := 0) (ym_59 Y) h47 rfl (by omega) e50 dX12_takesGood_328 ?_
          refine v_iconst B (v := iI 1) dX12_takesGood_329 rfl ?_
          obtain ⟨z52, e53, r54⟩ := iI_any (iI z49 + iI 1)
          refine v_iadd B (v := iI z52) dX12_takesGood_330 e53 ?_
          refine u_iast B Z (t0 := 0) (x := iI z52) (ym_59 Y) h47 rfl (by omega) dX12_takesGood_331 (fun σ55 h56 n57 => ?_)
          have e58 := el_upd (z := z52) e48 ⟨by omega, by omega⟩ (d : Int).toNat
          have F59 := F_262.put (ym_59 Y) (by simp) n57
          have G60 := gp_59 Y G_262 ⟨_, h56, e58⟩ n57
          refine v_lv [0, 1, 2, 3] rfl ?_
          have h61 := (n57 h (ne_ty Y.o (ym_59 Y) (by decide))).trans (hc262_h)
          exact J332 σ55 z262_3 z262_4 G60 F59 h61 ⟨by omega, by omega⟩ ⟨by omega, by omega⟩
        · refine v_aload_n B dX12_takesGood_314 rfl rfl ?_
          refine v_iload_n B dX12_takesGood_315 rfl rfl ?_
          refine v_bipush B (v := iI 61) dX12_takesGood_316 (by decide +kernel) ?_
          refine u_callVv B Z hz (n := 2) (As := [.int (iI d), .int (iI 61)]) (rest := []) (c_M_reasons l D K Z _ _ _ _ h q Y d 61 ⟨by omega, by omega⟩ ⟨by omega, by omega⟩ σ_262 G_262) gd_M_takesGood_M_reasons_459 rfl rfl rfl (by decide +kernel) ⟨Nat.le_trans (by decide +kernel) hR.1, Nat.le_trans (by decide +kernel) hR.2⟩ Y.o (clsM G_262.t) rfl rfl rfl rfl (Nat.le_of_ble_eq_true rfl) dX12_takesGood_318 ⟨Nat.zero_le _, Nat.zero_le _⟩ (fun σ62 p63 => ?_)
          obtain ⟨G65, F66⟩ := p63
          have F67 := F_262.call F66 (by first | rfl | simp)
          exact hend σ62 _ _ G65 F67 dX12_takesGood_321
      · refine v_iload B dX12_takesGood_268 rfl ?_
        refine u_if_eq B (tgt := 300) (by omega) dX12_takesGood_270 (by decide +kernel) (fun c68 => ?_) (fun c68 => ?_)
        · refine v_lv [0, 1, 2, 3, 5] rfl ?_
          exact J300 ⟨by omega, by omega⟩
        · refine v_aload_n B dX12_takesGood_273 rfl rfl ?_
          refine u_get B Z (C := RX12) (T := TX12) (N := 123) (ci := 12) hi_M_takesGood_X12 Y.o hc262_h rfl 78 (by decide +kernel) (List.mem_of_getElem? (i := 312) rfl) rfl dX12_takesGood_274 ?_
          refine v_iload B dX12_takesGood_277 rfl ?_
          obtain ⟨f69, h70, e71⟩ := ga_78 G_262.t
          obtain ⟨z72, e73, r74⟩ := e71 (z262_7 : Int).toNat
          refine u_bald B Z (t0 := 2) (ym_78 Y) h70 rfl (by omega) e73 dX12_takesGood_279 ?_
          refine v_aload_n B dX12_takesGood_280 rfl rfl ?_
          refine u_get B Z (C := RX12) (T := TX12) (N := 123) (ci := 12) hi_M_takesGood_X12 Y.o hc262_h rfl 53 (by decide +kernel) (List.mem_of_getElem? (i := 232) rfl) rfl dX12_takesGood_281 ?_
          refine v_bipush B (v := iI 6) dX12_takesGood_284 (by decide +kernel) ?_
          refine v_iload B dX12_takesGood_286 rfl ?_
          refine v_iadd B (v := iI (z262_4 + 6)) dX12_takesGood_288 ((iI_add _ _).trans (congrArg iI (by omega))) ?_
          refine v_iload B dX12_takesGood_289 rfl ?_
          refine v_iadd B (v := iI (z262_4 + z262_7 + 6)) dX12_takesGood_291 ((iI_add _ _).trans (congrArg iI (by omega))) ?_
          obtain ⟨f75, h76, e77⟩ := ga_53 G_262.t
          obtain ⟨z78, e79, r80⟩ := e77 ((z262_4 + z262_7 + 6) : Int).toNat
          refine u_bald B Z (t0 := 2) (ym_53 Y) h76 rfl (by omega) e79 dX12_takesGood_292 ?_
          refine u_icmp_ne B (tgt := 300) (by omega) (by omega) dX12_takesGood_293 (by decide +kernel) (fun c81 => ?_) (fun c81 => ?_)
          · refine v_lv [0, 1, 2, 3, 5] rfl ?_
            exact J300 ⟨by omega, by omega⟩
          · refine v_iconst B (v := iI 1) dX12_takesGood_296 rfl ?_
            refine v_goto B (tgt := 301) dX12_takesGood_297 (by decide +kernel) ?_
            refine v_lv [0, 1, 2, 3, 5] rfl ?_
            exact J301 1 ⟨by omega, by omega⟩ ⟨by omega, by omega⟩
  have J188 : ∀ (σ_188 : Nat → va_E) (z188_3 : Int) (z188_4 : Int) (z188_s0 : Int), GM K h q σ_188 → Fr τ [(135, 0), (140, 0), (133, 0), (154, 0), (155, 0), (172, 0), (159, 0), (136, 0), (134, 0), (177, 0), (104, 0), (105, 0), (106, 0), (179, 0), (153, 0), (178, 0), (181, 0), (116, 0), (138, 0), (141, 0), (171, 0), (158, 0), (180, 0), (161, 0), (167, 0), (157, 0), (164, 0), (163, 0), (174, 0), (170, 0), (168, 0), (108, 0), (165, 0), (166, 0), (173, 0), (145, 0), (144, 0), (146, 0), (169, 0), (176, 0), (137, 0), (189, 0), (187, 0), (188, 0), (183, 0), (191, 0), (204, 0), (216, 0), (190, 0), (219, 0), (182, 0), (184, 0), (185, 0), (220, 0), (222, 0), (221, 0), (203, 0), (207, 0), (214, 0), (206, 0), (210, 0), (211, 0), (212, 0), (208, 0), (209, 0), (213, 0), (194, 0), (195, 0), (192, 0), (197, 0), (198, 0), (199, 0), (196, 0), (162, 0), (175, 0)] σ0 σ_188 → (σ_188 h = .inr (12, fsM q (iI z1) (iI z2) (iI z3) (iI z4) (iI z5))) → (0 ≤ z188_3 ∧ z188_3 ≤ 255) → (1 ≤ z188_4 ∧ z188_4 ≤ 31) → (0 ≤ z188_s0 ∧ z188_s0 ≤ 1) → V p l e R s m args below meth c 8 D A Q (0, 0) (fd dom σ_188) [(0, .ref h), (1, .int (iI d)), (3, .int (iI z188_3)), (4, .int (iI z188_4))] 188 [.int (iI z188_s0)] := by
    intro σ_188 z188_3 z188_4 z188_s0 G_188 F_188 hc188_h r188_3 r188_4 r188_s0
    refine v_istore B (lv' := [(5, .int (iI z188_s0)), (0, .ref h), (1, .int (iI d)), (3, .int (iI z188_3)), (4, .int (iI z188_4))]) dX12_takesGood_188 (by decide +kernel) rfl ?_
    refine v_iload B dX12_takesGood_190 rfl ?_
    refine v_iconst B (v := iI 5) dX12_takesGood_192 rfl ?_
    refine u_icmp_ge B (tgt := 204) (by omega) (by omega) dX12_takesGood_193 (by decide +kernel) (fun c82 => ?_) (fun c82 => ?_)
    · refine v_iinc B (k := 4) (v := iI (z188_4 + (-4))) (lv' := [(4, .int (iI (z188_4 + (-4)))), (5, .int (iI z188_s0)), (0, .ref h), (1, .int (iI d)), (3, .int (iI z188_3))]) dX12_takesGood_204 rfl ((iI_add _ _).trans (congrArg iI (by omega))) (by decide +kernel) rfl ?_
      refine v_aload_n B dX12_takesGood_207 rfl rfl ?_
      refine v_iload_n B dX12_takesGood_208 rfl rfl ?_
      refine v_aload_n B dX12_takesGood_209 rfl rfl ?_
      refine u_get B Z (C := RX12) (T := TX12) (N := 123) (ci := 12) hi_M_takesGood_X12 Y.o hc188_h rfl 53 (by decide +kernel) (List.mem_of_getElem? (i := 232) rfl) rfl dX12_takesGood_210 ?_
      refine v_bipush B (v := iI 6) dX12_takesGood_213 (by decide +kernel) ?_
      refine v_iload B dX12_takesGood_215 rfl ?_
      refine v_aload_n B dX12_takesGood_217 rfl rfl ?_
      refine u_get B Z (C := RX12) (T := TX12) (N := 123) (ci := 12) hi_M_takesGood_X12 Y.o hc188_h rfl 59 (by decide +kernel) (List.mem_of_getElem? (i := 282) rfl) rfl dX12_takesGood_218 ?_
      refine v_iload_n B dX12_takesGood_221 rfl rfl ?_
      obtain ⟨f83, h84, e85⟩ := ga_59 G_188.t
      obtain ⟨z86, e87, r88⟩ := e85 (d : Int).toNat
      refine u_iald B Z (t0 := 0) (ym_59 Y) h84 rfl (by omega) e87 dX12_takesGood_222 ?_
      refine v_i2l B (v := lI z86) dX12_takesGood_223 (lI_i (by omega)) ?_
      refine v_iload B dX12_takesGood_224 rfl ?_
      refine u_callVv B Z hz (n := 6) (As := [.int (iI d), .ref (q 53), .int (iI 6), .int (iI (z188_4 + (-4))), .long (lI z86), .int (iI z188_s0)]) (rest := []) (c_M_turnsG l D K Z _ _ _ _ h q Y d 6 (z188_4 + (-4)) z86 z188_s0 ⟨by omega, by omega⟩ ⟨by omega, by omega⟩ ⟨by omega, by omega⟩ ⟨by omega, by omega⟩ ⟨by omega, by omega⟩ σ_188 G_188 (by omega)) gd_M_takesGood_M_turnsG_455 rfl rfl rfl (by decide +kernel) ⟨Nat.le_trans (by decide +kernel) hR.1, Nat.le_trans (by decide +kernel) hR.2⟩ Y.o (clsM G_188.t) rfl rfl rfl rfl (Nat.le_of_ble_eq_true rfl) dX12_takesGood_226 ⟨Nat.zero_le _, Nat.zero_le _⟩ (fun σ89 p90 => ?_)
      obtain ⟨G92, F93⟩ := p90
      have F94 := F_188.call F93 (by first | rfl | simp)
      refine v_aload_n B dX12_takesGood_229 rfl rfl ?_
      refine v_iload_n B dX12_takesGood_230 rfl rfl ?_
      refine v_aload_n B dX12_takesGood_231 rfl rfl ?_
      have h95 := (F93 h _ Y.o (by first | rfl | simp)).trans (hc188_h)
      refine u_get B Z (C := RX12) (T := TX12) (N := 123) (ci := 12) hi_M_takesGood_X12 Y.o h95 rfl 53 (by decide +kernel) (List.mem_of_getElem? (i := 232) rfl) rfl dX12_takesGood_232 ?_
      refine v_bipush B (v := iI 6) dX12_takesGood_235 (by decide +kernel) ?_
      refine v_iload B dX12_takesGood_237 rfl ?_
      refine v_aload_n B dX12_takesGood_239 rfl rfl ?_
      refine u_get B Z (C := RX12) (T := TX12) (N := 123) (ci := 12) hi_M_takesGood_X12 Y.o h95 rfl 59 (by decide +kernel) (List.mem_of_getElem? (i := 282) rfl) rfl dX12_takesGood_240 ?_
      refine v_iload_n B dX12_takesGood_243 rfl rfl ?_
      have h96 := (F93 (q 59) _ (ym_59 Y) (by first | rfl | simp)).trans (h84)
      refine u_iald B Z (t0 := 0) (ym_59 Y) h96 rfl (by omega) e87 dX12_takesGood_244 ?_
      refine v_i2l B (v := lI z86) dX12_takesGood_245 (lI_i (by omega)) ?_
      refine v_iload B dX12_takesGood_246 rfl ?_
      refine v_iload_n B dX12_takesGood_248 rfl rfl ?_
      refine v_sipush B (v := iI 227) dX12_takesGood_249 (by decide +kernel) ?_
      obtain ⟨z97, e98, r99⟩ := iI_and z188_3 (c := 227) (by decide) (by decide)
      refine v_iand B (v := iI z97) dX12_takesGood_252 e98 ?_
      refine u_callVv B Z hz (n := 7) (As := [.int (iI d), .ref (q 53), .int (iI 6), .int (iI (z188_4 + (-4))), .long (lI z86), .int (iI z188_s0), .int (iI z97)]) (rest := []) (c_M_macs l D K Z _ _ _ _ h q Y d 53 40 6 (z188_4 + (-4)) z86 z188_s0 z97 ⟨by omega, by omega⟩ rfl ⟨by omega, by omega⟩ ⟨by omega, by omega⟩ ⟨by omega, by omega⟩ ⟨by omega, by omega⟩ ⟨by omega, by omega⟩ σ89 G92 (by omega)) gd_M_takesGood_M_macs_451 rfl rfl rfl (by decide +kernel) ⟨Nat.le_trans (by decide +kernel) hR.1, Nat.le_trans (by decide +kernel) hR.2⟩ Y.o (clsM G92.t) rfl rfl rfl rfl (Nat.le_of_ble_eq_true rfl) dX12_takesGood_253 ⟨Nat.zero_le _, Nat.zero_le _⟩ (fun σ100 p101 => ?_)
      obtain ⟨G103, F104⟩ := p101
      have F105 := F94.call F104 (by first | rfl | simp)
      refine v_iconst B (v := iI 1) dX12_takesGood_256 rfl ?_
      refine v_istore B (lv' := [(6, .int (iI 1)), (4, .int (iI (z188_4 + (-4)))), (5, .int (iI z188_s0)), (0, .ref h), (1, .int (iI d)), (3, .int (iI z188_3))]) dX12_takesGood_257 (by decide +kernel) rfl ?_
      refine v_iconst B (v := iI 0) dX12_takesGood_259 rfl ?_
      refine v_istore B (lv' := [(7, .int (iI 0)), (6, .int (iI 1)), (4, .int (iI (z188_4 + (-4)))), (5, .int (iI z188_s0)), (0, .ref h), (1, .int (iI d)), (3, .int (iI z188_3))]) dX12_takesGood_260 (by decide +kernel) rfl ?_
      refine v_lv [4, 5, 6, 2, 1, 0] rfl ?_
      have h106 := (F104 h _ Y.o (by first | rfl | simp)).trans (h95)
      exact J262 _ σ100 z188_3 (z188_4 + (-4)) 1 0 (Nat.le_refl _) G103 F105 h106 ⟨by omega, by omega⟩ ⟨by omega, by omega⟩ ⟨by omega, by omega⟩ ⟨by omega, by omega⟩
    · refine v_aload_n B dX12_takesGood_196 rfl rfl ?_
      refine v_iload_n B dX12_takesGood_197 rfl rfl ?_
      refine v_bipush B (v := iI 61) dX12_takesGood_198 (by decide +kernel) ?_
      refine u_callVv B Z hz (n := 2) (As := [.int (iI d), .int (iI 61)]) (rest := []) (c_M_reasons l D K Z _ _ _ _ h q Y d 61 ⟨by omega, by omega⟩ ⟨by omega, by omega⟩ σ_188 G_188) gd_M_takesGood_M_reasons_459 rfl rfl rfl (by decide +kernel) ⟨Nat.le_trans (by decide +kernel) hR.1, Nat.le_trans (by decide +kernel) hR.2⟩ Y.o (clsM G_188.t) rfl rfl rfl rfl (Nat.le_of_ble_eq_true rfl) dX12_takesGood_200 ⟨Nat.zero_le _, Nat.zero_le _⟩ (fun σ107 p108 => ?_)
      obtain ⟨G110, F111⟩ := p108
      have F112 := F_188.call F111 (by first | rfl | simp)
      exact hend σ107 _ _ G110 F112 dX12_takesGood_203
  have J133 : ∀ (σ_133 : Nat → va_E) (z133_3 : Int) (z133_4 : Int), GM K h q σ_133 → Fr τ [(135, 0), (140, 0), (133, 0), (154, 0), (155, 0), (172, 0), (159, 0), (136, 0), (134, 0), (177, 0), (104, 0), (105, 0), (106, 0), (179, 0), (153, 0), (178, 0), (181, 0), (116, 0), (138, 0), (141, 0), (171, 0), (158, 0), (180, 0), (161, 0), (167, 0), (157, 0), (164, 0), (163, 0), (174, 0), (170, 0), (168, 0), (108, 0), (165, 0), (166, 0), (173, 0), (145, 0), (144, 0), (146, 0), (169, 0), (176, 0), (137, 0), (189, 0), (187, 0), (188, 0), (183, 0), (191, 0), (204, 0), (216, 0), (190, 0), (219, 0), (182, 0), (184, 0), (185, 0), (220, 0), (222, 0), (221, 0), (203, 0), (207, 0), (214, 0), (206, 0), (210, 0), (211, 0), (212, 0), (208, 0), (209, 0), (213, 0), (194, 0), (195, 0), (192, 0), (197, 0), (198, 0), (199, 0), (196, 0), (162, 0), (175, 0)] σ0 σ_133 → (σ_133 h = .inr (12, fsM q (iI z1) (iI z2) (iI z3) (iI z4) (iI z5))) → (0 ≤ z133_3 ∧ z133_3 ≤ 255) → (0 ≤ z133_4 ∧ z133_4 ≤ 31) → V p l e R s m args below meth c 8 D A Q (0, 0) (fd dom σ_133) [(0, .ref h), (1, .int (iI d)), (3, .int (iI z133_3)), (4, .int (iI z133_4))] 133 [] := by
    intro σ_133 z133_3 z133_4 G_133 F_133 hc133_h r133_3 r133_4
    refine v_iload_n B dX12_takesGood_133 rfl rfl ?_
    refine v_iconst B (v := iI 3) dX12_takesGood_134 rfl ?_
    obtain ⟨z113, e114⟩ : ∃ z : Int, z = z133_3 / 8 := ⟨_, rfl⟩
    refine v_ishr B (v := iI z113) dX12_takesGood_135 ((iI_shr (a := z133_3) (by omega) 3 (by decide)).trans (congrArg iI (by omega))) ?_
    refine v_iconst B (v := iI 1) dX12_takesGood_136 rfl ?_
    obtain ⟨z115, e116, r117⟩ := iI_and z113 (c := 1) (by decide) (by decide)
    refine v_iand B (v := iI z115) dX12_takesGood_137 e116 ?_
    refine v_aload_n B dX12_takesGood_138 rfl rfl ?_
    refine u_get B Z (C := RX12) (T := TX12) (N := 123) (ci := 12) hi_M_takesGood_X12 Y.o hc133_h rfl 34 (by decide +kernel) (List.mem_of_getElem? (i := 326) rfl) rfl dX12_takesGood_139 ?_
    refine v_iload_n B dX12_takesGood_142 rfl rfl ?_
    obtain ⟨f118, h119, e120⟩ := ga_34 G_133.t
    obtain ⟨z121, e122, r123⟩ := e120 (d : Int).toNat
    refine u_iald B Z (t0 := 0) (ym_34 Y) h119 rfl (by omega) e122 dX12_takesGood_143 ?_
    refine u_icmp_eq B (tgt := 148) (by omega) (by omega) dX12_takesGood_144 (by decide +kernel) (fun c124 => ?_) (fun c124 => ?_)
    · refine v_aload_n B dX12_takesGood_148 rfl rfl ?_
      refine u_get B Z (C := RX12) (T := TX12) (N := 123) (ci := 12) hi_M_takesGood_X12 Y.o hc133_h rfl 34 (by decide +kernel) (List.mem_of_getElem? (i := 326) rfl) rfl dX12_takesGood_149 ?_
      refine v_iload_n B dX12_takesGood_152 rfl rfl ?_
      refine v_dup2 B dX12_takesGood_153 rfl rfl ?_
      refine u_iald B Z (t0 := 0) (ym_34 Y) h119 rfl (by omega) e122 dX12_takesGood_154 ?_
      refine v_iconst B (v := iI 1) dX12_takesGood_155 rfl ?_
      obtain ⟨z125, e126, r127⟩ := iI_xor (a := z121) (b := 1) 1 (by decide) (by omega) (by omega)
      refine v_ixor B (v := iI z125) dX12_takesGood_156 e126 ?_
      refine u_iast B Z (t0 := 0) (x := iI z125) (ym_34 Y) h119 rfl (by omega) dX12_takesGood_157 (fun σ128 h129 n130 => ?_)
      have e131 := el_upd (z := z125) e120 ⟨by omega, by omega⟩ (d : Int).toNat
      have F132 := F_133.put (ym_34 Y) (by simp) n130
      have G133 := gp_34 Y G_133 ⟨_, h129, e131⟩ n130
      refine v_iload B dX12_takesGood_158 rfl ?_
      refine u_if_ne B (tgt := 164) (by omega) dX12_takesGood_160 (by decide +kernel) (fun c134 => ?_) (fun c134 => ?_)
      · refine v_aload_n B dX12_takesGood_164 rfl rfl ?_
        have h135 := (n130 h (ne_ty Y.o (ym_34 Y) (by decide))).trans (hc133_h)
        refine u_get B Z (C := RX12) (T := TX12) (N := 123) (ci := 12) hi_M_takesGood_X12 Y.o h135 rfl 72 (by decide +kernel) (List.mem_of_getElem? (i := 266) rfl) rfl dX12_takesGood_165 ?_
        refine v_iload_n B dX12_takesGood_168 rfl rfl ?_
        obtain ⟨f136, h137, e138⟩ := ga_72 G133.t
        obtain ⟨z139, e140, r141⟩ := e138 (d : Int).toNat
        refine u_zald B Z (t0 := 3) (ym_72 Y) h137 rfl (by omega) e140 dX12_takesGood_169 ?_
        refine u_if_eq B (tgt := 332) (by omega) dX12_takesGood_170 (by decide +kernel) (fun c142 => ?_) (fun c142 => ?_)
        · exact J332 σ128 z133_3 z133_4 G133 F132 h135 ⟨by omega, by omega⟩ ⟨by omega, by omega⟩
        · refine v_aload_n B dX12_takesGood_173 rfl rfl ?_
          refine u_get B Z (C := RX12) (T := TX12) (N := 123) (ci := 12) hi_M_takesGood_X12 Y.o h135 rfl 7 (by decide +kernel) (List.mem_of_getElem? (i := 208) rfl) rfl dX12_takesGood_174 ?_
          refine v_iload_n B dX12_takesGood_177 rfl rfl ?_
          obtain ⟨f143, h144, e145⟩ := ga_7 G133.t
          obtain ⟨z146, e147, r148⟩ := e145 (d : Int).toNat
          refine u_iald B Z (t0 := 0) (ym_7 Y) h144 rfl (by omega) e147 dX12_takesGood_178 ?_
          refine v_iconst B (v := iI 4) dX12_takesGood_179 rfl ?_
          refine u_icmp_ne B (tgt := 187) (by omega) (by omega) dX12_takesGood_180 (by decide +kernel) (fun c149 => ?_) (fun c149 => ?_)
          · refine v_iconst B (v := iI 1) dX12_takesGood_187 rfl ?_
            exact J188 σ128 z133_3 z133_4 1 G133 F132 h135 ⟨by omega, by omega⟩ ⟨by omega, by omega⟩ ⟨by omega, by omega⟩
          · refine v_iconst B (v := iI 0) dX12_takesGood_183 rfl ?_
            refine v_goto B (tgt := 188) dX12_takesGood_184 (by decide +kernel) ?_
            exact J188 σ128 z133_3 z133_4 0 G133 F132 h135 ⟨by omega, by omega⟩ ⟨by omega, by omega⟩ ⟨by omega, by omega⟩
      · exact hend σ128 _ _ G133 F132 dX12_takesGood_163
    · exact hend σ_133 _ _ G_133 F_133 dX12_takesGood_147
  have J120 : ∀ (σ_120 : Nat → va_E) (z120_3 : Int) (z120_4 : Int) (z120_5 : Int), GM K h q σ_120 → Fr τ [(135, 0), (140, 0), (133, 0), (154, 0), (155, 0), (172, 0), (159, 0), (136, 0), (134, 0), (177, 0), (104, 0), (105, 0), (106, 0), (179, 0), (153, 0), (178, 0), (181, 0), (116, 0), (138, 0), (141, 0), (171, 0), (158, 0), (180, 0), (161, 0), (167, 0), (157, 0), (164, 0), (163, 0), (174, 0), (170, 0), (168, 0), (108, 0), (165, 0), (166, 0), (173, 0), (145, 0), (144, 0), (146, 0), (169, 0), (176, 0), (137, 0), (189, 0), (187, 0), (188, 0), (183, 0), (191, 0), (204, 0), (216, 0), (190, 0), (219, 0), (182, 0), (184, 0), (185, 0), (220, 0), (222, 0), (221, 0), (203, 0), (207, 0), (214, 0), (206, 0), (210, 0), (211, 0), (212, 0), (208, 0), (209, 0), (213, 0), (194, 0), (195, 0), (192, 0), (197, 0), (198, 0), (199, 0), (196, 0), (162, 0), (175, 0)] σ0 σ_120 → (σ_120 h = .inr (12, fsM q (iI z1) (iI z2) (iI z3) (iI z4) (iI z5))) → (0 ≤ z120_3 ∧ z120_3 ≤ 255) → (0 ≤ z120_4 ∧ z120_4 ≤ 31) → (-2147483648 ≤ z120_5 ∧ z120_5 ≤ 2147483647) → V p l e R s m args below meth c 8 D A Q (0, 0) (fd dom σ_120) [(0, .ref h), (1, .int (iI d)), (3, .int (iI z120_3)), (4, .int (iI z120_4)), (5, .int (iI z120_5))] 120 [] := by
    intro σ_120 z120_3 z120_4 z120_5 G_120 F_120 hc120_h r120_3 r120_4 r120_5
    refine v_iload B dX12_takesGood_120 rfl ?_
    refine v_iconst B (v := iI 2) dX12_takesGood_122 rfl ?_
    refine u_icmp_ne B (tgt := 133) (by omega) (by omega) dX12_takesGood_123 (by decide +kernel) (fun c150 => ?_) (fun c150 => ?_)
    · refine v_lv [0, 1, 2, 3] rfl ?_
      exact J133 σ_120 z120_3 z120_4 G_120 F_120 hc120_h ⟨by omega, by omega⟩ ⟨by omega, by omega⟩
    · refine v_aload_n B dX12_takesGood_126 rfl rfl ?_
      refine v_iload_n B dX12_takesGood_127 rfl rfl ?_
      refine v_bipush B (v := iI 22) dX12_takesGood_128 (by decide +kernel) ?_
      refine u_callVv B Z hz (n := 2) (As := [.int (iI d), .int (iI 22)]) (rest := []) (c_M_reasons l D K Z _ _ _ _ h q Y d 22 ⟨by omega, by omega⟩ ⟨by omega, by omega⟩ σ_120 G_120) gd_M_takesGood_M_reasons_459 rfl rfl rfl (by decide +kernel) ⟨Nat.le_trans (by decide +kernel) hR.1, Nat.le_trans (by decide +kernel) hR.2⟩ Y.o (clsM G_120.t) rfl rfl rfl rfl (Nat.le_of_ble_eq_true rfl) dX12_takesGood_130 ⟨Nat.zero_le _, Nat.zero_le _⟩ (fun σ151 p152 => ?_)
      obtain ⟨G154, F155⟩ := p152
      have F156 := F_120.call F155 (by first | rfl | simp)
      refine v_lv [0, 1, 2, 3] rfl ?_
      have h157 := (F155 h _ Y.o (by first | rfl | simp)).trans (hc120_h)
      exact J133 σ151 z120_3 z120_4 G154 F156 h157 ⟨by omega, by omega⟩ ⟨by omega, by omega⟩
  have J84 : ∀ (σ_84 : Nat → va_E) (z84_3 : Int) (z84_4 : Int) (z84_s0 : Int), GM K h q σ_84 → Fr τ [(135, 0), (140, 0), (133, 0), (154, 0), (155, 0), (172, 0), (159, 0), (136, 0), (134, 0), (177, 0), (104, 0), (105, 0), (106, 0), (179, 0), (153, 0), (178, 0), (181, 0), (116, 0), (138, 0), (141, 0), (171, 0), (158, 0), (180, 0), (161, 0), (167, 0), (157, 0), (164, 0), (163, 0), (174, 0), (170, 0), (168, 0), (108, 0), (165, 0), (166, 0), (173, 0), (145, 0), (144, 0), (146, 0), (169, 0), (176, 0), (137, 0), (189, 0), (187, 0), (188, 0), (183, 0), (191, 0), (204, 0), (216, 0), (190, 0), (219, 0), (182, 0), (184, 0), (185, 0), (220, 0), (222, 0), (221, 0), (203, 0), (207, 0), (214, 0), (206, 0), (210, 0), (211, 0), (212, 0), (208, 0), (209, 0), (213, 0), (194, 0), (195, 0), (192, 0), (197, 0), (198, 0), (199, 0), (196, 0), (162, 0), (175, 0)] σ0 σ_84 → (σ_84 h = .inr (12, fsM q (iI z1) (iI z2) (iI z3) (iI z4) (iI z5))) → (0 ≤ z84_3 ∧ z84_3 ≤ 255) → (0 ≤ z84_4 ∧ z84_4 ≤ 31) → (-2147483648 ≤ z84_s0 ∧ z84_s0 ≤ 2147483647) → V p l e R s m args below meth c 8 D A Q (0, 0) (fd dom σ_84) [(0, .ref h), (1, .int (iI d)), (3, .int (iI z84_3)), (4, .int (iI z84_4))] 84 [.int (iI z84_s0)] := by
    intro σ_84 z84_3 z84_4 z84_s0 G_84 F_84 hc84_h r84_3 r84_4 r84_s0
    refine v_istore B (lv' := [(5, .int (iI z84_s0)), (0, .ref h), (1, .int (iI d)), (3, .int (iI z84_3)), (4, .int (iI z84_4))]) dX12_takesGood_84 (by decide +kernel) rfl ?_
    refine v_aload_n B dX12_takesGood_86 rfl rfl ?_
    refine u_get B Z (C := RX12) (T := TX12) (N := 123) (ci := 12) hi_M_takesGood_X12 Y.o hc84_h rfl 54 (by decide +kernel) (List.mem_of_getElem? (i := 327) rfl) rfl dX12_takesGood_87 ?_
    refine v_iload_n B dX12_takesGood_90 rfl rfl ?_
    refine v_iconst B (v := iI 0) dX12_takesGood_91 rfl ?_
    obtain ⟨f158, h159, e160⟩ := ga_54 G_84.t
    refine u_iast B Z (t0 := 0) (x := iI 0) (ym_54 Y) h159 rfl (by omega) dX12_takesGood_92 (fun σ161 h162 n163 => ?_)
    have e164 := el_upd (z := 0) e160 ⟨by omega, by omega⟩ (d : Int).toNat
    have F165 := F_84.put (ym_54 Y) (by simp) n163
    have G166 := gp_54 Y G_84 ⟨_, h162, e164⟩ n163
    refine v_aload_n B dX12_takesGood_93 rfl rfl ?_
    have h167 := (n163 h (ne_ty Y.o (ym_54 Y) (by decide))).trans (hc84_h)
    refine u_get B Z (C := RX12) (T := TX12) (N := 123) (ci := 12) hi_M_takesGood_X12 Y.o h167 rfl 55 (by decide +kernel) (List.mem_of_getElem? (i := 328) rfl) rfl dX12_takesGood_94 ?_
    refine v_iload_n B dX12_takesGood_97 rfl rfl ?_
    refine v_iconst B (v := iI 0) dX12_takesGood_98 rfl ?_
    obtain ⟨f168, h169, e170⟩ := ga_55 G166.t
    refine u_iast B Z (t0 := 0) (x := iI 0) (ym_55 Y) h169 rfl (by omega) dX12_takesGood_99 (fun σ171 h172 n173 => ?_)
    have e174 := el_upd (z := 0) e170 ⟨by omega, by omega⟩ (d : Int).toNat
    have F175 := F165.put (ym_55 Y) (by simp) n173
    have G176 := gp_55 Y G166 ⟨_, h172, e174⟩ n173
    refine v_iload B dX12_takesGood_100 rfl ?_
    refine v_iconst B (v := iI 5) dX12_takesGood_102 rfl ?_
    refine u_icmp_ne B (tgt := 120) (by omega) (by omega) dX12_takesGood_103 (by decide +kernel) (fun c177 => ?_) (fun c177 => ?_)
    · refine v_lv [1, 2, 3, 4, 0] rfl ?_
      have h178 := (n173 h (ne_ty Y.o (ym_55 Y) (by decide))).trans (h167)
      exact J120 σ171 z84_3 z84_4 z84_s0 G176 F175 h178 ⟨by omega, by omega⟩ ⟨by omega, by omega⟩ ⟨by omega, by omega⟩
    · refine v_aload_n B dX12_takesGood_106 rfl rfl ?_
      have h179 := (n173 h (ne_ty Y.o (ym_55 Y) (by decide))).trans (h167)
      refine u_get B Z (C := RX12) (T := TX12) (N := 123) (ci := 12) hi_M_takesGood_X12 Y.o h179 rfl 72 (by decide +kernel) (List.mem_of_getElem? (i := 266) rfl) rfl dX12_takesGood_107 ?_
      refine v_iload_n B dX12_takesGood_110 rfl rfl ?_
      refine v_iconst B (v := iI 1) dX12_takesGood_111 rfl ?_
      obtain ⟨f180, h181, e182⟩ := ga_72 G176.t
      refine u_zast B Z (t0 := 3) (x := iI 1) (y := iI 1) (ym_72 Y) h181 rfl (by omega) (narZ (by omega)) dX12_takesGood_112 (fun σ183 h184 n185 => ?_)
      have e186 := el_upd (z := 1) e182 ⟨by omega, by omega⟩ (d : Int).toNat
      have F187 := F175.put (ym_72 Y) (by simp) n185
      have G188 := gp_72 Y G176 ⟨_, h184, e186⟩ n185
      refine v_aload_n B dX12_takesGood_113 rfl rfl ?_
      have h189 := (n185 h (ne_ty Y.o (ym_72 Y) (by decide))).trans (h179)
      refine u_get B Z (C := RX12) (T := TX12) (N := 123) (ci := 12) hi_M_takesGood_X12 Y.o h189 rfl 59 (by decide +kernel) (List.mem_of_getElem? (i := 282) rfl) rfl dX12_takesGood_114 ?_
      refine v_iload_n B dX12_takesGood_117 rfl rfl ?_
      refine v_iconst B (v := iI 0) dX12_takesGood_118 rfl ?_
      obtain ⟨f190, h191, e192⟩ := ga_59 G188.t
      refine u_iast B Z (t0 := 0) (x := iI 0) (ym_59 Y) h191 rfl (by omega) dX12_takesGood_119 (fun σ193 h194 n195 => ?_)
      have e196 := el_upd (z := 0) e192 ⟨by omega, by omega⟩ (d : Int).toNat
      have F197 := F187.put (ym_59 Y) (by simp) n195
      have G198 := gp_59 Y G188 ⟨_, h194, e196⟩ n195
      refine v_lv [1, 2, 3, 4, 0] rfl ?_
      have h199 := (n195 h (ne_ty Y.o (ym_59 Y) (by decide))).trans (h189)
      exact J120 σ193 z84_3 z84_4 z84_s0 G198 F197 h199 ⟨by omega, by omega⟩ ⟨by omega, by omega⟩ ⟨by omega, by omega⟩
  refine v_aload_n B dX12_takesGood_0 rfl rfl ?_
  refine u_get B Z (C := RX12) (T := TX12) (N := 123) (ci := 12) hi_M_takesGood_X12 Y.o h6 rfl 53 (by decide +kernel) (List.mem_of_getElem? (i := 232) rfl) rfl dX12_takesGood_1 ?_
  refine v_iconst B (v := iI 4) dX12_takesGood_4 rfl ?_
  obtain ⟨f200, h201, e202⟩ := ga_53 G0.t
  obtain ⟨z203, e204, r205⟩ := e202 (4 : Int).toNat
  refine u_bald B Z (t0 := 2) (ym_53 Y) h201 rfl (by omega) e204 dX12_takesGood_5 ?_
  refine v_sipush B (v := iI 255) dX12_takesGood_6 (by decide +kernel) ?_
  obtain ⟨z206, e207, r208⟩ := iI_and z203 (c := 255) (by decide) (by decide)
  refine v_iand B (v := iI z206) dX12_takesGood_9 e207 ?_
  refine v_istore_n B (lv' := [(3, .int (iI z206)), (0, .ref h), (1, .int (iI d)), (2, .int (iI x2))]) dX12_takesGood_10 rfl (by decide +kernel) rfl ?_
  refine v_iload_n B dX12_takesGood_11 rfl rfl ?_
  refine v_istore B (lv' := [(4, .int (iI x2)), (3, .int (iI z206)), (0, .ref h), (1, .int (iI d)), (2, .int (iI x2))]) dX12_takesGood_12 (by decide +kernel) rfl ?_
  refine v_aload_n B dX12_takesGood_14 rfl rfl ?_
  refine u_get B Z (C := RX12) (T := TX12) (N := 123) (ci := 12) hi_M_takesGood_X12 Y.o h6 rfl 35 (by decide +kernel) (List.mem_of_getElem? (i := 329) rfl) rfl dX12_takesGood_15 ?_
  refine v_iload_n B dX12_takesGood_18 rfl rfl ?_
  refine v_aload_n B dX12_takesGood_19 rfl rfl ?_
  refine u_get B Z (C := RX12) (T := TX12) (N := 123) (ci := 12) hi_M_takesGood_X12 Y.o h6 rfl 43 (by decide +kernel) (List.mem_of_getElem? (i := 330) rfl) rfl dX12_takesGood_20 ?_
  obtain ⟨f209, h210, e211⟩ := ga_35 G0.t
  refine u_iast B Z (t0 := 0) (x := iI z3) (ym_35 Y) h210 rfl (by omega) dX12_takesGood_23 (fun σ212 h213 n214 => ?_)
  have e215 := el_upd (z := z3) e211 ⟨by omega, by omega⟩ (d : Int).toNat
  have F216 := F0.put (ym_35 Y) (by simp) n214
  have G217 := gp_35 Y G0 ⟨_, h213, e215⟩ n214
  refine v_aload_n B dX12_takesGood_24 rfl rfl ?_
  have h218 := (n214 h (ne_ty Y.o (ym_35 Y) (by decide))).trans (h6)
  refine u_get B Z (C := RX12) (T := TX12) (N := 123) (ci := 12) hi_M_takesGood_X12 Y.o h218 rfl 40 (by decide +kernel) (List.mem_of_getElem? (i := 331) rfl) rfl dX12_takesGood_25 ?_
  refine v_iload_n B dX12_takesGood_28 rfl rfl ?_
  refine v_iconst B (v := iI 1) dX12_takesGood_29 rfl ?_
  obtain ⟨f219, h220, e221⟩ := ga_40 G217.t
  refine u_zast B Z (t0 := 3) (x := iI 1) (y := iI 1) (ym_40 Y) h220 rfl (by omega) (narZ (by omega)) dX12_takesGood_30 (fun σ222 h223 n224 => ?_)
  have e225 := el_upd (z := 1) e221 ⟨by omega, by omega⟩ (d : Int).toNat
  have F226 := F216.put (ym_40 Y) (by simp) n224
  have G227 := gp_40 Y G217 ⟨_, h223, e225⟩ n224
  refine v_aload_n B dX12_takesGood_31 rfl rfl ?_
  have h228 := (n224 h (ne_ty Y.o (ym_40 Y) (by decide))).trans (h218)
  refine u_get B Z (C := RX12) (T := TX12) (N := 123) (ci := 12) hi_M_takesGood_X12 Y.o h228 rfl 54 (by decide +kernel) (List.mem_of_getElem? (i := 327) rfl) rfl dX12_takesGood_32 ?_
  refine v_iload_n B dX12_takesGood_35 rfl rfl ?_
  obtain ⟨f229, h230, e231⟩ := ga_54 G227.t
  obtain ⟨z232, e233, r234⟩ := e231 (d : Int).toNat
  refine u_iald B Z (t0 := 0) (ym_54 Y) h230 rfl (by omega) e233 dX12_takesGood_36 ?_
  refine u_if_le B (tgt := 133) (by omega) dX12_takesGood_37 (by decide +kernel) (fun c235 => ?_) (fun c235 => ?_)
  · refine v_lv [2, 3, 1, 0] rfl ?_
    exact J133 σ222 z206 x2 G227 F226 h228 ⟨by omega, by omega⟩ ⟨by omega, by omega⟩
  · refine v_iload_n B dX12_takesGood_40 rfl rfl ?_
    refine v_iconst B (v := iI 2) dX12_takesGood_41 rfl ?_
    obtain ⟨z236, e237⟩ : ∃ z : Int, z = z206 / 4 := ⟨_, rfl⟩
    refine v_ishr B (v := iI z236) dX12_takesGood_42 ((iI_shr (a := z206) (by omega) 2 (by decide)).trans (congrArg iI (by omega))) ?_
    refine v_iconst B (v := iI 1) dX12_takesGood_43 rfl ?_
    obtain ⟨z238, e239, r240⟩ := iI_and z236 (c := 1) (by decide) (by decide)
    refine v_iand B (v := iI z238) dX12_takesGood_44 e239 ?_
    refine v_aload_n B dX12_takesGood_45 rfl rfl ?_
    refine u_get B Z (C := RX12) (T := TX12) (N := 123) (ci := 12) hi_M_takesGood_X12 Y.o h228 rfl 33 (by decide +kernel) (List.mem_of_getElem? (i := 332) rfl) rfl dX12_takesGood_46 ?_
    refine v_iload_n B dX12_takesGood_49 rfl rfl ?_
    obtain ⟨f241, h242, e243⟩ := ga_33 G227.t
    obtain ⟨z244, e245, r246⟩ := e243 (d : Int).toNat
    refine u_iald B Z (t0 := 0) (ym_33 Y) h242 rfl (by omega) e245 dX12_takesGood_50 ?_
    refine u_icmp_eq B (tgt := 133) (by omega) (by omega) dX12_takesGood_51 (by decide +kernel) (fun c247 => ?_) (fun c247 => ?_)
    · refine v_lv [2, 3, 1, 0] rfl ?_
      exact J133 σ222 z206 x2 G227 F226 h228 ⟨by omega, by omega⟩ ⟨by omega, by omega⟩
    · refine v_aload_n B dX12_takesGood_54 rfl rfl ?_
      refine u_get B Z (C := RX12) (T := TX12) (N := 123) (ci := 12) hi_M_takesGood_X12 Y.o h228 rfl 33 (by decide +kernel) (List.mem_of_getElem? (i := 332) rfl) rfl dX12_takesGood_55 ?_
      refine v_iload_n B dX12_takesGood_58 rfl rfl ?_
      refine v_dup2 B dX12_takesGood_59 rfl rfl ?_
      refine u_iald B Z (t0 := 0) (ym_33 Y) h242 rfl (by omega) e245 dX12_takesGood_60 ?_
      refine v_iconst B (v := iI 1) dX12_takesGood_61 rfl ?_
      obtain ⟨z248, e249, r250⟩ := iI_any (iI z244 ^^^ iI 1)
      refine v_ixor B (v := iI z248) dX12_takesGood_62 e249 ?_
      refine u_iast B Z (t0 := 0) (x := iI z248) (ym_33 Y) h242 rfl (by omega) dX12_takesGood_63 (fun σ251 h252 n253 => ?_)
      have e254 := el_upd (z := z248) e243 ⟨by omega, by omega⟩ (d : Int).toNat
      have F255 := F226.put (ym_33 Y) (by simp) n253
      have G256 := gp_33 Y G227 ⟨_, h252, e254⟩ n253
      refine v_aload_n B dX12_takesGood_64 rfl rfl ?_
      have h257 := (n253 h (ne_ty Y.o (ym_33 Y) (by decide))).trans (h228)
      refine u_get B Z (C := RX12) (T := TX12) (N := 123) (ci := 12) hi_M_takesGood_X12 Y.o h257 rfl 54 (by decide +kernel) (List.mem_of_getElem? (i := 327) rfl) rfl dX12_takesGood_65 ?_
      refine v_iload_n B dX12_takesGood_68 rfl rfl ?_
      have h258 := (n253 (q 54) (ne_ty (ym_54 Y) (ym_33 Y) (by decide))).trans (h230)
      refine u_iald B Z (t0 := 0) (ym_54 Y) h258 rfl (by omega) e233 dX12_takesGood_69 ?_
      refine v_iconst B (v := iI 3) dX12_takesGood_70 rfl ?_
      refine u_icmp_ne B (tgt := 83) (by omega) (by omega) dX12_takesGood_71 (by decide +kernel) (fun c259 => ?_) (fun c259 => ?_)
      · refine v_iconst B (v := iI 0) dX12_takesGood_83 rfl ?_
        refine v_lv [2, 3, 1, 0] rfl ?_
        exact J84 σ251 z206 x2 0 G256 F255 h257 ⟨by omega, by omega⟩ ⟨by omega, by omega⟩ ⟨by omega, by omega⟩
      · refine v_aload_n B dX12_takesGood_74 rfl rfl ?_
        refine u_get B Z (C := RX12) (T := TX12) (N := 123) (ci := 12) hi_M_takesGood_X12 Y.o h257 rfl 56 (by decide +kernel) (List.mem_of_getElem? (i := 333) rfl) rfl dX12_takesGood_75 ?_
        refine v_iload_n B dX12_takesGood_78 rfl rfl ?_
        obtain ⟨f260, h261, e262⟩ := ga_56 G256.t
        obtain ⟨z263, e264, r265⟩ := e262 (d : Int).toNat
        refine u_iald B Z (t0 := 0) (ym_56 Y) h261 rfl (by omega) e264 dX12_takesGood_79 ?_
        refine v_goto B (tgt := 84) dX12_takesGood_80 (by decide +kernel) ?_
        refine v_lv [2, 3, 1, 0] rfl ?_
        exact J84 σ251 z206 x2 z263 G256 F255 h257 ⟨by omega, by omega⟩ ⟨by omega, by omega⟩ ⟨by omega, by omega⟩
set_option maxRecDepth 100000 in
theorem c_M_takesGood (l : Launch) (D : va_G) (K : Nat → ClassId) {τ : Nat → Option Ty} {dom : List Nat} (Z : Sk τ dom) (zb zL : Nat) (zx : Nat → Int32) (zs : Nat → Nat) (h : Nat) (q : Nat → Nat) (Y : MS τ h q) (d : Int) (x2 : Int) (r_d : 0 ≤ d ∧ d ≤ 1) (r_x2 : 0 ≤ x2 ∧ x2 ≤ 31) (σ0 : Nat → va_E) (G0 : GM K h q σ0) : MZ l yX12_takesGood wp_M_takesGood ({ frames := 9, cells := 0, slots := 0, locals := 220 }) D (tysA K) [.ref h, .int (iI d), .int (iI x2)] (fd dom σ0) zb zL zx zs (Qv D (fun σ' => GM K h q σ' ∧ Fr τ [(135, 0), (140, 0), (133, 0), (154, 0), (155, 0), (172, 0), (159, 0), (136, 0), (134, 0), (177, 0), (104, 0), (105, 0), (106, 0), (179, 0), (153, 0), (178, 0), (181, 0), (116, 0), (138, 0), (141, 0), (171, 0), (158, 0), (180, 0), (161, 0), (167, 0), (157, 0), (164, 0), (163, 0), (174, 0), (170, 0), (168, 0), (108, 0), (165, 0), (166, 0), (173, 0), (145, 0), (144, 0), (146, 0), (169, 0), (176, 0), (137, 0), (189, 0), (187, 0), (188, 0), (183, 0), (191, 0), (204, 0), (216, 0), (190, 0), (219, 0), (182, 0), (184, 0), (185, 0), (220, 0), (222, 0), (221, 0), (203, 0), (207, 0), (214, 0), (206, 0), (210, 0), (211, 0), (212, 0), (208, 0), (209, 0), (213, 0), (194, 0), (195, 0), (192, 0), (197, 0), (198, 0), (199, 0), (196, 0), (162, 0), (175, 0)] σ0 σ') (fun σ' => fd dom σ')) 0 0 := by
  refine mz_of (cc := cX12_takesGood) (maxL := 8) (ret := none) (by decide +kernel) rfl (Nat.le_of_ble_eq_true rfl) ?_
  intro p e s m below meth c A B hr hlk _ hz
  exact b_M_takesGood ⟨Nat.le_refl _, Nat.le_refl _⟩ B Z hz h q Y d x2 r_d r_x2 σ0 G0 (fun σ' lv pc G F hd => v_vret B hr hlk σ' ⟨G, F⟩ rfl (Nat.le_refl _) (Nat.le_refl _) hd)
