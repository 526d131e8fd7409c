def wp_Low_isNew : List Cond := .code yX11_isNew cX11_isNew 3 (some .boolean) :: (([.fieldLink RX11 18 "LowEnergy" "sky" "LLowEnergy$Air;", .methodLink RX11 537 yX3_currentIsAcknowledged, .instanceMethod yX3_currentIsAcknowledged, .selects RX3 yX3_currentIsAcknowledged yX3_currentIsAcknowledged, .initialized RX3, .code yX3_currentIsAcknowledged cX3_currentIsAcknowledged 2 none, .fieldLink RX3 33 "LowEnergy$Device" "mail" "LLowEnergy$Mail;", .methodLink RX3 164 yX7_dropCurrent, .instanceMethod yX7_dropCurrent, .selects RX7 yX7_dropCurrent yX7_dropCurrent, .initialized RX7, .code yX7_dropCurrent cX7_dropCurrent 1 none, .fieldLink RX7 14 "LowEnergy$Mail" "current" "LLowEnergy$Row;", .methodLink RX7 62 yX9_clear, .instanceMethod yX9_clear, .selects RX9 yX9_clear yX9_clear, .initialized RX9, .code yX9_clear cX9_clear 1 none, .fieldLink RX9 21 "LowEnergy$Row" "size" "I", .fieldLink RX7 65 "LowEnergy$Mail" "sort" "I", .fieldLink RX7 68 "LowEnergy$Mail" "currentOp" "I", .fieldLink RX3 77 "LowEnergy$Device" "guard" "LLowEnergy$Guard;", .methodLink RX3 170 yX5_beginComing, .instanceMethod yX5_beginComing, .selects RX5 yX5_beginComing yX5_beginComing, .initialized RX5, .code yX5_beginComing cX5_beginComing 1 none, .fieldLink RX5 48 "LowEnergy$Guard" "comes" "Z", .fieldLink RX5 55 "LowEnergy$Guard" "opened" "I", .fieldLink RX3 26 "LowEnergy$Device" "link" "LLowEnergy$Link;", .methodLink RX3 167 yX6_giveReason, .instanceMethod yX6_giveReason, .selects RX6 yX6_giveReason yX6_giveReason, .initialized RX6, .code yX6_giveReason cX6_giveReason 2 none, .fieldLink RX6 15 "LowEnergy$Link" "reason" "I"] : List Cond) ++ (wsX110 ++ (wsX00 ++ (wsX60 ++ (wsX90 ++ (wsX30 ++ (wsX70 ++ (wsX50 ++ ([])))))))))
theorem hi_Low_isNew_X11 : ∀ x ∈ u_ws RX11 TX11 5, x ∈ wp_Low_isNew := fun _ h => List.mem_cons_of_mem _ (List.mem_append_right _ (List.mem_append_left _ h))
theorem hi_Low_isNew_X0 : ∀ x ∈ u_ws RX0 TX0 10, x ∈ wp_Low_isNew := fun _ h => List.mem_cons_of_mem _ (List.mem_append_right _ (List.mem_append_right _ (List.mem_append_left _ h)))
theorem hi_Low_isNew_X6 : ∀ x ∈ u_ws RX6 TX6 20, x ∈ wp_Low_isNew := fun _ h => List.mem_cons_of_mem _ (List.mem_append_right _ (List.mem_append_right _ (List.mem_append_right _ (List.mem_append_left _ h))))
theorem hi_Low_isNew_X9 : ∀ x ∈ u_ws RX9 TX9 2, x ∈ wp_Low_isNew := fun _ h => List.mem_cons_of_mem _ (List.mem_append_right _ (List.mem_append_right _ (List.mem_append_right _ (List.mem_append_right _ (List.mem_append_left _ h)))))
theorem hi_Low_isNew_X3 : ∀ x ∈ u_ws RX3 TX3 19, x ∈ wp_Low_isNew := fun _ h => List.mem_cons_of_mem _ (List.mem_append_right _ (List.mem_append_right _ (List.mem_append_right _ (List.mem_append_right _ (List.mem_append_right _ (List.mem_append_left _ h))))))
theorem hi_Low_isNew_X7 : ∀ x ∈ u_ws RX7 TX7 16, x ∈ wp_Low_isNew := fun _ h => List.mem_cons_of_mem _ (List.mem_append_right _ (List.mem_append_right _ (List.mem_append_right _ (List.mem_append_right _ (List.mem_append_right _ (List.mem_append_right _ (List.mem_append_left _ h)))))))
theorem hi_Low_isNew_X5 : ∀ x ∈ u_ws RX5 TX5 16, x ∈ wp_Low_isNew := fun _ h => List.mem_cons_of_mem _ (List.mem_append_right _ (List.mem_append_right _ (List.mem_append_right _ (List.mem_append_right _ (List.mem_append_right _ (List.mem_append_right _ (List.mem_append_right _ (List.mem_append_left _ h))))))))
set_option maxRecDepth 100000 in
theorem gd_Low_isNew_Device_currentIsAcknowledged_537 : GoodIn wp_Low_isNew (wsV RX11 537 RX3 yX3_currentIsAcknowledged wp_Device_currentIsAcknowledged) := goodIn_app (goodIn_r _ [2, 3, 4, 5] rfl rfl) (goodIn_ca (goodIn_r _ [6, 7, 8, 9, 10, 11, 12, 13, 14, 15, 16, 17, 18, 19, 20, 21, 22, 23, 24, 25, 26, 27, 28, 29, 30, 31, 32, 33, 34, 35, 36] rfl rfl) (goodIn_app (goodIn_cls hi_Low_isNew_X3 gw_X3) (goodIn_app (goodIn_cls hi_Low_isNew_X7 gw_X7) (goodIn_app (goodIn_cls hi_Low_isNew_X9 gw_X9) (goodIn_app (goodIn_cls hi_Low_isNew_X5 gw_X5) (goodIn_app (goodIn_cls hi_Low_isNew_X6 gw_X6) (goodIn_nil)))))))
set_option maxHeartbeats 4000000 in
set_option maxRecDepth 100000 in
theorem b_Low_isNew {p : Program} {l : Launch} {e : Env} {R : Room} {s : State} {m : MethodId} {args : Array Value} {below : List Frame} {meth : Method} {c : Code} {D : va_G} {K : Nat → ClassId} {A : Nat → Prop} {Q : State → Prop} {τ : Nat → Option Ty} {dom : List Nat} {zb zL : Nat} {zx : Nat → Int32} {zs : Nat → Nat} (hR : 3 ≤ R.frames ∧ 61 ≤ R.locals) (B : Bx p s m args c cX11_isNew 3 RX11 wp_Low_isNew D (tysA K) A) (Z : Sk τ dom) (hz : ZL zb zL zx zs A s s.heap) (h : Nat) (d : Nat) (t_h : τ h = some (41, 0, 0)) (t_d : τ d = some (33, 0, 0)) (σ0 : Nat → va_E) (G0 : Good K τ σ0) (hend : ∀ (σ' : Nat → va_E) (z : Int) (lv : List (Nat × Value)) (pc : Nat), Good K τ σ' → Fr τ [(36, 0), (1, 2), (37, 0), (35, 0)] σ0 σ' → (0 ≤ z ∧ z ≤ 1) → decode cX11_isNew pc = .ok (.ireturn, 1) → V p l e R s m args below meth c 3 D A Q (0, 0) (fd dom σ') lv pc [.int (iI z)]) : V p l e R s m args below meth c 3 D A Q (0, 0) (fd dom σ0) [(0, .ref h), (1, .ref d)] 0 [] := by
  have F0 : Fr τ [(36, 0), (1, 2), (37, 0), (35, 0)] σ0 σ0 := Fr.rf
  have J47 : ∀ (σ_47 : Nat → va_E) (a47_2 : Nat), Good K τ σ_47 → Fr τ [(36, 0), (1, 2), (37, 0), (35, 0)] σ0 σ_47 → (τ a47_2 = some (36, 0, 0)) → V p l e R s m args below meth c 3 D A Q (0, 0) (fd dom σ_47) [(0, .ref h), (2, .ref a47_2)] 47 [] := by
    intro σ_47 a47_2 G_47 F_47 t47_2
    refine v_aload_n B dX11_isNew_47 rfl rfl ?_
    obtain ⟨a1, a2, a3, a4, z5, h6, t7, t8, t9, t10, r11⟩ : okLow τ (σ_47 h) := G_47 h _ t_h
    refine u_get B Z (C := RX11) (T := TX11) (N := 5) (ci := 11) hi_Low_isNew_X11 t_h h6 rfl 1 (by decide +kernel) (List.mem_of_getElem? (i := 1) rfl) rfl dX11_isNew_48 ?_
    obtain ⟨a12, a13, a14, a15, a16, a17, a18, z19, z20, z21, h22, t23, t24, t25, t26, t27, t28, t29, r30, r31, r32⟩ : okAir τ (σ_47 a2) := G_47 a2 _ t8
    refine u_getN B Z (C := RX0) (T := TX0) (N := 10) (ci := 0) hi_Low_isNew_X0 t8 h22 rfl 7 (by decide +kernel) (List.mem_of_getElem? (i := 55) rfl) rfl dX11_isNew_51 ?_
    refine v_iconst B (v := iI 3) dX11_isNew_54 rfl ?_
    obtain ⟨z33, e34⟩ : ∃ z : Int, z = z19 / 8 := ⟨_, rfl⟩
    refine v_ishr B (v := iI z33) dX11_isNew_55 ((iI_shr (a := z19) (by omega) 3 (by decide)).trans (congrArg iI (by omega))) ?_
    refine v_iconst B (v := iI 1) dX11_isNew_56 rfl ?_
    obtain ⟨z35, e36, r37⟩ := iI_and z33 (c := 1) (by decide) (by decide)
    refine v_iand B (v := iI z35) dX11_isNew_57 e36 ?_
    refine v_aload_n B dX11_isNew_58 rfl rfl ?_
    obtain ⟨z38, z39, z40, z41, z42, yy43, yy44, z45, z46, z47, z48, z49, z50, z51, z52, z53, z54, z55, z56, yy57, h58, r59, r60, r61, r62, r63, r64, r65, r66, r67, r68, r69, r70, r71, r72, r73, r74, r75, r76, r77, r78⟩ : okLink τ (σ_47 a47_2) := G_47 a47_2 _ t47_2
    refine u_getN B Z (C := RX6) (T := TX6) (N := 20) (ci := 6) hi_Low_isNew_X6 t47_2 h58 rfl 16 (by decide +kernel) (List.mem_of_getElem? (i := 38) rfl) rfl dX11_isNew_59 ?_
    refine u_icmp_eq B (tgt := 67) (by omega) (by omega) dX11_isNew_62 (by decide +kernel) (fun c79 => ?_) (fun c79 => ?_)
    · refine v_aload_n B dX11_isNew_67 rfl rfl ?_
      refine v_dup B dX11_isNew_68 rfl ?_
      refine u_getN B Z (C := RX6) (T := TX6) (N := 20) (ci := 6) hi_Low_isNew_X6 t47_2 h58 rfl 16 (by decide +kernel) (List.mem_of_getElem? (i := 38) rfl) rfl dX11_isNew_69 ?_
      refine v_iconst B (v := iI 1) dX11_isNew_72 rfl ?_
      obtain ⟨z80, e81, r82⟩ := iI_xor (a := z54) (b := 1) 1 (by decide) (by omega) (by omega)
      refine v_ixor B (v := iI z80) dX11_isNew_73 e81 ?_
      refine u_putN B Z (C := RX6) (T := TX6) (N := 20) (ci := 6) hi_Low_isNew_X6 t47_2 h58 rfl 16 (by decide +kernel) tyX6 tyX6_ok nmX6 (List.mem_of_getElem? (i := 38) rfl) rfl (ty := .int) (tyX6_ok 16 (by decide +kernel)) rfl rfl (Nat.le_of_ble_eq_true rfl) (fs' := [.int (iI z38), .int (iI z39), .int (iI z40), .int (iI z41), .int (iI z42), .long (lI yy43), .long (lI yy44), .int (iI z45), .int (iI z46), .int (iI z47), .int (iI z48), .int (iI z49), .int (iI z50), .int (iI z51), .int (iI z52), .int (iI z53), .int (iI z80), .int (iI z55), .int (iI z56), .long (lI yy57)]) rfl dX11_isNew_74 (fun σ83 h84 n85 => ?_)
      have G86 := G_47.put t47_2 (⟨z38, z39, z40, z41, z42, yy43, yy44, z45, z46, z47, z48, z49, z50, z51, z52, z53, z80, z55, z56, yy57, h84, ⟨by omega, by omega⟩, ⟨by omega, by omega⟩, ⟨by omega, by omega⟩, ⟨by omega, by omega⟩, ⟨by omega, by omega⟩, ⟨by omega, by omega⟩, ⟨by omega, by omega⟩, ⟨by omega, by omega⟩, ⟨by omega, by omega⟩, ⟨by omega, by omega⟩, ⟨by omega, by omega⟩, ⟨by omega, by omega⟩, ⟨by omega, by omega⟩, ⟨by omega, by omega⟩, ⟨by omega, by omega⟩, ⟨by omega, by omega⟩, ⟨by omega, by omega⟩, ⟨by omega, by omega⟩, ⟨by omega, by omega⟩, ⟨by omega, by omega⟩⟩ : Ok K τ (36, 0, 0) (σ83 a47_2)) n85
      have F87 := F_47.put t47_2 (by simp) n85
      have h88 := (n85 h (ne_ty t_h t47_2 (by simp))).trans h6
      have h89 := (n85 a2 (ne_ty t8 t47_2 (by simp))).trans h22
      refine v_aload_n B dX11_isNew_77 rfl rfl ?_
      refine u_get B Z (C := RX11) (T := TX11) (N := 5) (ci := 11) hi_Low_isNew_X11 t_h h88 rfl 1 (by decide +kernel) (List.mem_of_getElem? (i := 1) rfl) rfl dX11_isNew_78 ?_
      refine u_getN B Z (C := RX0) (T := TX0) (N := 10) (ci := 0) hi_Low_isNew_X0 t8 h89 rfl 6 (by decide +kernel) (List.mem_of_getElem? (i := 54) rfl) rfl dX11_isNew_81 ?_
      obtain ⟨b90, N91, n92, h93, t94, r95⟩ : okRow τ 5 (σ83 a18) := G86 a18 _ t29
      refine u_getN B Z (C := RX9) (T := TX9) (N := 2) (ci := 9) hi_Low_isNew_X9 t29 h93 rfl 1 (by decide +kernel) (List.mem_of_getElem? (i := 51) rfl) rfl dX11_isNew_84 ?_
      refine u_if_le B (tgt := 94) (by omega) dX11_isNew_87 (by decide +kernel) (fun c96 => ?_) (fun c96 => ?_)
      · refine v_iconst B (v := iI 0) dX11_isNew_94 rfl ?_
        exact hend σ83 0 _ _ G86 F87 ⟨by omega, by omega⟩ dX11_isNew_95
      · refine v_iconst B (v := iI 1) dX11_isNew_90 rfl ?_
        refine v_goto B (tgt := 95) dX11_isNew_91 (by decide +kernel) ?_
        exact hend σ83 1 _ _ G86 F87 ⟨by omega, by omega⟩ dX11_isNew_95
    · refine v_iconst B (v := iI 0) dX11_isNew_65 rfl ?_
      exact hend σ_47 0 _ _ G_47 F_47 ⟨by omega, by omega⟩ dX11_isNew_66
  refine v_aload_n B dX11_isNew_0 rfl rfl ?_
  obtain ⟨z97, yy98, z99, z100, z101, z102, a103, z104, yy105, a106, yy107, a108, a109, a110, a111, a112, a113, a114, a115, h116, r117, r118, r119, r120, r121, r122, t123, r124, r125, t126, r127, t128, t129, t130, t131, t132, t133, t134, t135⟩ : okDevice τ (σ0 d) := G0 d _ t_d
  refine u_getN B Z (C := RX3) (T := TX3) (N := 19) (ci := 3) hi_Low_isNew_X3 t_d h116 rfl 11 (by decide +kernel) (List.mem_of_getElem? (i := 69) rfl) rfl dX11_isNew_1 ?_
  refine v_astore_n B (lv' := [(2, .ref a108), (0, .ref h), (1, .ref d)]) dX11_isNew_4 rfl (by decide +kernel) rfl ?_
  refine v_aload_n B dX11_isNew_5 rfl rfl ?_
  refine u_getN B Z (C := RX3) (T := TX3) (N := 19) (ci := 3) hi_Low_isNew_X3 t_d h116 rfl 12 (by decide +kernel) (List.mem_of_getElem? (i := 5) rfl) rfl dX11_isNew_6 ?_
  obtain ⟨a136, z137, z138, a139, z140, z141, z142, a143, z144, z145, z146, a147, z148, a149, z150, a151, h152, t153, r154, r155, t156, r157, r158, r159, t160, r161, r162, r163, t164, r165, t166, r167, t168⟩ : okMail τ (σ0 a109) := G0 a109 _ t129
  refine u_getN B Z (C := RX7) (T := TX7) (N := 16) (ci := 7) hi_Low_isNew_X7 t129 h152 rfl 1 (by decide +kernel) (List.mem_of_getElem? (i := 46) rfl) rfl dX11_isNew_9 ?_
  refine u_if_eq B (tgt := 47) (by omega) dX11_isNew_12 (by decide +kernel) (fun c169 => ?_) (fun c169 => ?_)
  · refine v_lv [1, 0] rfl ?_
    exact J47 σ0 a108 G0 F0 t128
  · refine v_aload_n B dX11_isNew_15 rfl rfl ?_
    obtain ⟨a170, a171, a172, a173, z174, h175, t176, t177, t178, t179, r180⟩ : okLow τ (σ0 h) := G0 h _ t_h
    refine u_get B Z (C := RX11) (T := TX11) (N := 5) (ci := 11) hi_Low_isNew_X11 t_h h175 rfl 1 (by decide +kernel) (List.mem_of_getElem? (i := 1) rfl) rfl dX11_isNew_16 ?_
    obtain ⟨a181, a182, a183, a184, a185, a186, a187, z188, z189, z190, h191, t192, t193, t194, t195, t196, t197, t198, r199, r200, r201⟩ : okAir τ (σ0 a171) := G0 a171 _ t177
    refine u_getN B Z (C := RX0) (T := TX0) (N := 10) (ci := 0) hi_Low_isNew_X0 t177 h191 rfl 7 (by decide +kernel) (List.mem_of_getElem? (i := 55) rfl) rfl dX11_isNew_19 ?_
    refine v_iconst B (v := iI 2) dX11_isNew_22 rfl ?_
    obtain ⟨z202, e203⟩ : ∃ z : Int, z = z188 / 4 := ⟨_, rfl⟩
    refine v_ishr B (v := iI z202) dX11_isNew_23 ((iI_shr (a := z188) (by omega) 2 (by decide)).trans (congrArg iI (by omega))) ?_
    refine v_iconst B (v := iI 1) dX11_isNew_24 rfl ?_
    obtain ⟨z204, e205, r206⟩ := iI_and z202 (c := 1) (by decide) (by decide)
    refine v_iand B (v := iI z204) dX11_isNew_25 e205 ?_
    refine v_aload_n B dX11_isNew_26 rfl rfl ?_
    obtain ⟨z207, z208, z209, z210, z211, yy212, yy213, z214, z215, z216, z217, z218, z219, z220, z221, z222, z223, z224, z225, yy226, h227, r228, r229, r230, r231, r232, r233, r234, r235, r236, r237, r238, r239, r240, r241, r242, r243, r244, r245, r246, r247⟩ : okLink τ (σ0 a108) := G0 a108 _ t128
    refine u_getN B Z (C := RX6) (T := TX6) (N := 20) (ci := 6) hi_Low_isNew_X6 t128 h227 rfl 15 (by decide +kernel) (List.mem_of_getElem? (i := 37) rfl) rfl dX11_isNew_27 ?_
    refine u_icmp_eq B (tgt := 47) (by omega) (by omega) dX11_isNew_30 (by decide +kernel) (fun c248 => ?_) (fun c248 => ?_)
    · refine v_lv [1, 0] rfl ?_
      exact J47 σ0 a108 G0 F0 t128
    · refine v_aload_n B dX11_isNew_33 rfl rfl ?_
      refine v_dup B dX11_isNew_34 rfl ?_
      refine u_getN B Z (C := RX6) (T := TX6) (N := 20) (ci := 6) hi_Low_isNew_X6 t128 h227 rfl 15 (by decide +kernel) (List.mem_of_getElem? (i := 37) rfl) rfl dX11_isNew_35 ?_
      refine v_iconst B (v := iI 1) dX11_isNew_38 rfl ?_
      obtain ⟨z249, e250, r251⟩ := iI_any (iI z222 ^^^ iI 1)
      refine v_ixor B (v := iI z249) dX11_isNew_39 e250 ?_
      refine u_putN B Z (C := RX6) (T := TX6) (N := 20) (ci := 6) hi_Low_isNew_X6 t128 h227 rfl 15 (by decide +kernel) tyX6 tyX6_ok nmX6 (List.mem_of_getElem? (i := 37) rfl) rfl (ty := .int) (tyX6_ok 15 (by decide +kernel)) rfl rfl (Nat.le_of_ble_eq_true rfl) (fs' := [.int (iI z207), .int (iI z208), .int (iI z209), .int (iI z210), .int (iI z211), .long (lI yy212), .long (lI yy213), .int (iI z214), .int (iI z215), .int (iI z216), .int (iI z217), .int (iI z218), .int (iI z219), .int (iI z220), .int (iI z221), .int (iI z249), .int (iI z223), .int (iI z224), .int (iI z225), .long (lI yy226)]) rfl dX11_isNew_40 (fun σ252 h253 n254 => ?_)
      have G255 := G0.put t128 (⟨z207, z208, z209, z210, z211, yy212, yy213, z214, z215, z216, z217, z218, z219, z220, z221, z249, z223, z224, z225, yy226, h253, ⟨by omega, by omega⟩, ⟨by omega, by omega⟩, ⟨by omega, by omega⟩, ⟨by omega, by omega⟩, ⟨by omega, by omega⟩, ⟨by omega, by omega⟩, ⟨by omega, by omega⟩, ⟨by omega, by omega⟩, ⟨by omega, by omega⟩, ⟨by omega, by omega⟩, ⟨by omega, by omega⟩, ⟨by omega, by omega⟩, ⟨by omega, by omega⟩, ⟨by omega, by omega⟩, ⟨by omega, by omega⟩, ⟨by omega, by omega⟩, ⟨by omega, by omega⟩, ⟨by omega, by omega⟩, ⟨by omega, by omega⟩, ⟨by omega, by omega⟩⟩ : Ok K τ (36, 0, 0) (σ252 a108)) n254
      have F256 := F0.put t128 (by simp) n254
      have h257 := (n254 d (ne_ty t_d t128 (by simp))).trans h116
      have h258 := (n254 a109 (ne_ty t129 t128 (by simp))).trans h152
      have h259 := (n254 h (ne_ty t_h t128 (by simp))).trans h175
      have h260 := (n254 a171 (ne_ty t177 t128 (by simp))).trans h191
      refine v_aload_n B dX11_isNew_43 rfl rfl ?_
      refine u_callVv B Z hz (n := 0) (As := []) (rest := []) (c_Device_currentIsAcknowledged l D K Z _ _ _ _ d t_d σ252 G255) gd_Low_isNew_Device_currentIsAcknowledged_537 rfl rfl rfl (by decide +kernel) ⟨Nat.le_trans (by decide +kernel) hR.1, Nat.le_trans (by decide +kernel) hR.2⟩ t_d (cls_Device G255 t_d) rfl rfl rfl rfl (Nat.le_of_ble_eq_true rfl) dX11_isNew_44 ⟨Nat.zero_le _, Nat.zero_le _⟩ (fun σ261 p262 => ?_)
      obtain ⟨G264, F265⟩ := p262
      have F266 := F256.call F265 (by first | rfl | simp)
      have h267 := (F265 d _ t_d (by first | rfl | simp)).trans h257
      have h268 := (F265 h _ t_h (by first | rfl | simp)).trans h259
      have h269 := (F265 a171 _ t177 (by first | rfl | simp)).trans h260
      refine v_lv [1, 0] rfl ?_
      exact J47 σ261 a108 G264 F266 t128
set_option maxRecDepth 100000 in
theorem c_Low_isNew (l : Launch) (D : va_G) (K : Nat → ClassId) {τ : Nat → Option Ty} {dom : List Nat} (Z : Sk τ dom) (zb zL : Nat) (zx : Nat → Int32) (zs : Nat → Nat) (h : Nat) (d : Nat) (t_h : τ h = some (41, 0, 0)) (t_d : τ d = some (33, 0, 0)) (σ0 : Nat → va_E) (G0 : Good K τ σ0) : MZ l yX11_isNew wp_Low_isNew ({ frames := 3, cells := 0, slots := 0, locals := 61 }) D (tysA K) [.ref h, .ref d] (fd dom σ0) zb zL zx zs (Qi D (fun r σ' => Good K τ σ' ∧ Fr τ [(36, 0), (1, 2), (37, 0), (35, 0)] σ0 σ' ∧ ∃ z : Int, r = iI z ∧ (0 ≤ z ∧ z ≤ 1)) (fun σ' => fd dom σ')) 0 0 := by
  refine mz_of (cc := cX11_isNew) (maxL := 3) (ret := (some .boolean)) (by decide +kernel) rfl (Nat.le_of_ble_eq_true rfl) ?_
  intro p e s m below meth c A B hr hlk _ hz
  exact b_Low_isNew ⟨Nat.le_refl _, Nat.le_refl _⟩ B Z hz h d t_h t_d σ0 G0 (fun σ' z lv pc G F hZ hd => v_zret B hr hlk (nar01 (by omega)) σ' ⟨G, F, z, rfl, hZ⟩ rfl (Nat.le_refl _) (Nat.le_refl _) hd)

def wp_Low_bringsLetter : List Cond := .code yX11_bringsLetter cX11_bringsLetter 4 (some .boolean) :: (([.fieldLink RX11 18 "LowEnergy" "sky" "LLowEnergy$Air;", .methodLink RX11 533 yX7_gather, .instanceMethod yX7_gather, .selects RX7 yX7_gather yX7_gather, .initialized RX7, .code yX7_gather cX7_gather 4 (some .boolean), .fieldLink RX7 59 "LowEnergy$Mail" "begun" "Z", .fieldLink RX7 27 "LowEnergy$Mail" "gathered" "LLowEnergy$Row;", .methodLink RX7 106 yX9_two, .instanceMethod yX9_two, .selects RX9 yX9_two yX9_two, .initialized RX9, .code yX9_two cX9_two 2 (some .int), .fieldLink RX9 21 "LowEnergy$Row" "size" "I", .fieldLink RX9 15 "LowEnergy$Row" "bytes" "[I", .methodLink RX7 91 yX9_putPart, .instanceMethod yX9_putPart, .selects RX9 yX9_putPart yX9_putPart, .code yX9_putPart cX9_putPart 6 none, .methodLink RX9 9 Lib.Math.max.name, .static Lib.Math.max.name, .initialized "java/lang/Math", .code Lib.Math.max.name Lib.Math.max.code 2 (some .int), .fieldLink RX7 109 "LowEnergy$Mail" "letterChannel" "I", .fieldLink RX7 30 "LowEnergy$Mail" "letter" "LLowEnergy$Row;", .methodLink RX7 62 yX9_clear, .instanceMethod yX9_clear, .selects RX9 yX9_clear yX9_clear, .code yX9_clear cX9_clear 1 none, .methodLink RX7 84 yX7_isFull, .instanceMethod yX7_isFull, .selects RX7 yX7_isFull yX7_isFull, .code yX7_isFull cX7_isFull 1 (some .boolean), .fieldLink RX7 53 "LowEnergy$Mail" "messageCount" "I", .methodLink RX11 529 yX11_obey, .static yX11_obey, .initialized RX11, .code yX11_obey cX11_obey 4 none, .methodLink RX11 157 yX7_newControl, .instanceMethod yX7_newControl, .selects RX7 yX7_newControl yX7_newControl, .code yX7_newControl cX7_newControl 3 (some (.object "LowEnergy$Row")), .methodLink RX7 71 yX9_put, .instanceMethod yX9_put, .selects RX9 yX9_put yX9_put, .code yX9_put cX9_put 2 none, .fieldLink RX7 33 "LowEnergy$Mail" "spare" "LLowEnergy$Row;", .fieldLink RX7 43 "LowEnergy$Mail" "controlCount" "I", .fieldLink RX7 20 "LowEnergy$Mail" "controls" "[LLowEnergy$Row;", .fieldLink RX7 39 "LowEnergy$Mail" "controlHead" "I", .methodLink RX11 164 yX9_put, .methodLink RX11 565 yX11_isForRole, .static yX11_isForRole, .code yX11_isForRole cX11_isForRole 2 (some .boolean), .methodLink RX11 573 yX11_obeyCipherControl, .static yX11_obeyCipherControl, .code yX11_obeyCipherControl cX11_obeyCipherControl 4 none, .methodLink RX11 582 yX4_note, .instanceMethod yX4_note, .selects RX4 yX4_note yX4_note, .initialized RX4, .code yX4_note cX4_note 6 none, .fieldLink RX4 29 "LowEnergy$Diary" "count" "I", .fieldLink RX4 36 "LowEnergy$Diary" "head" "I", .fieldLink RX4 11 "LowEnergy$Diary" "kinds" "[I", .fieldLink RX4 17 "LowEnergy$Diary" "numbers" "[[I", .fieldLink RX4 22 "LowEnergy$Diary" "rows" "[LLowEnergy$Row;", .methodLink RX4 39 yX9_clear, .fieldLink RX4 33 "LowEnergy$Diary" "lost" "I", .methodLink RX11 590 yX11_answerSessionRequest, .static yX11_answerSessionRequest, .code yX11_answerSessionRequest cX11_answerSessionRequest 2 none, .methodLink RX11 593 yX5_takeSessionParts, .instanceMethod yX5_takeSessionParts, .selects RX5 yX5_takeSessionParts yX5_takeSessionParts, .initialized RX5, .code yX5_takeSessionParts cX5_takeSessionParts 4 none, .methodLink RX5 67 yX9_at, .instanceMethod yX9_at, .selects RX9 yX9_at yX9_at, .code yX9_at cX9_at 2 (some .int), .fieldLink RX5 19 "LowEnergy$Guard" "iv" "[I", .fieldLink RX5 13 "LowEnergy$Guard" "diversifier" "[I", .methodLink RX11 208 yX3_drawInto, .instanceMethod yX3_drawInto, .selects RX3 yX3_drawInto yX3_drawInto, .initialized RX3, .code yX3_drawInto cX3_drawInto 5 none, .methodLink RX3 89 yX3_draw, .instanceMethod yX3_draw, .selects RX3 yX3_draw yX3_draw, .code yX3_draw cX3_draw 1 (some .int), .fieldLink RX3 69 "LowEnergy$Device" "x" "I", .constant RX3 88 (1103515245), .methodLink RX11 215 yX5_putSessionParts, .instanceMethod yX5_putSessionParts, .selects RX5 yX5_putSessionParts yX5_putSessionParts, .code yX5_putSessionParts cX5_putSessionParts 4 none, .methodLink RX5 61 yX9_put, .methodLink RX11 596 yX5_makeSession, .instanceMethod yX5_makeSession, .selects RX5 yX5_makeSession yX5_makeSession, .code yX5_makeSession cX5_makeSession 2 none, .fieldLink RX5 28 "LowEnergy$Guard" "cipher" "LLowEnergy$Cipher;", .fieldLink RX5 7 "LowEnergy$Guard" "key" "[I", .methodLink RX5 71 yX1_loadKey, .instanceMethod yX1_loadKey, .selects RX1 yX1_loadKey yX1_loadKey, .initialized RX1, .code yX1_loadKey cX1_loadKey 6 none, .fieldLink RX1 9 "LowEnergy$Cipher" "roundKeys" "[I", .fieldLink RX1 16 "LowEnergy$Cipher" "SBOX" "[I", .fieldLink RX5 16 "LowEnergy$Guard" "session" "[I", .methodLink RX5 77 yX1_encipher, .instanceMethod yX1_encipher, .selects RX1 yX1_encipher yX1_encipher, .code yX1_encipher cX1_encipher 7 none, .fieldLink RX1 13 "LowEnergy$Cipher" "moved" "[I", .fieldLink RX5 32 "LowEnergy$Guard" "hasSession" "Z", .methodLink RX11 599 yX5_beginSending, .instanceMethod yX5_beginSending, .selects RX5 yX5_beginSending yX5_beginSending, .code yX5_beginSending cX5_beginSending 1 none, .fieldLink RX5 45 "LowEnergy$Guard" "sends" "Z", .fieldLink RX5 51 "LowEnergy$Guard" "sent" "I", .methodLink RX11 602 yX5_beginComing, .instanceMethod yX5_beginComing, .selects RX5 yX5_beginComing yX5_beginComing, .code yX5_beginComing cX5_beginComing 1 none, .fieldLink RX5 48 "LowEnergy$Guard" "comes" "Z", .fieldLink RX5 55 "LowEnergy$Guard" "opened" "I", .methodLink RX11 291 yX9_at, .methodLink RX11 569 yX11_obeyLinkControl, .static yX11_obeyLinkControl, .code yX11_obeyLinkControl cX11_obeyLinkControl 3 none, .methodLink RX11 449 yX9_numberAt, .instanceMethod yX9_numberAt, .selects RX9 yX9_numberAt yX9_numberAt, .code yX9_numberAt cX9_numberAt 7 (some .long), .methodLink RX11 576 yX9_two, .methodLink RX11 579 yX6_hearMap, .instanceMethod yX6_hearMap, .selects RX6 yX6_hearMap yX6_hearMap, .initialized RX6, .code yX6_hearMap cX6_hearMap 5 none, .methodLink RX6 76 yX6_giveReason, .instanceMethod yX6_giveReason, .selects RX6 yX6_giveReason yX6_giveReason, .code yX6_giveReason cX6_giveReason 2 none, .fieldLink RX6 15 "LowEnergy$Link" "reason" "I", .fieldLink RX6 54 "LowEnergy$Link" "event" "I", .constant RX6 75 (65535), .methodLink RX6 21 yX6_isProperMap, .static yX6_isProperMap, .code yX6_isProperMap cX6_isProperMap 2 (some .boolean), .methodLink RX6 25 yJ13_bitCount_95d88, .static yJ13_bitCount_95d88, .initialized RJ13, .code yJ13_bitCount_95d88 cJ13_bitCount_95d88 2 (some .int), .constantLong RJ13 314 (6148914691236517205), .constantLong RJ13 316 (3689348814741910323), .constantLong RJ13 318 (1085102592571150095), .fieldLink RX6 50 "LowEnergy$Link" "mapWaits" "Z", .methodLink RX6 80 yX6_awaitMap, .instanceMethod yX6_awaitMap, .selects RX6 yX6_awaitMap yX6_awaitMap, .code yX6_awaitMap cX6_awaitMap 4 none, .fieldLink RX6 69 "LowEnergy$Link" "nextMap" "J", .fieldLink RX6 72 "LowEnergy$Link" "instant" "I", .methodLink RX11 160 yX9_putNumber, .instanceMethod yX9_putNumber, .selects RX9 yX9_putNumber yX9_putNumber, .code yX9_putNumber cX9_putNumber 5 none, .constantLong RX9 25 (255), .methodLink RX11 586 yX4_noteBytes, .instanceMethod yX4_noteBytes, .selects RX4 yX4_noteBytes yX4_noteBytes, .code yX4_noteBytes cX4_noteBytes 8 none, .methodLink RX4 42 yX4_note, .methodLink RX4 46 yX9_putPart, .methodLink RX11 154 yX7_addVersion, .instanceMethod yX7_addVersion, .selects RX7 yX7_addVersion yX7_addVersion, .code yX7_addVersion cX7_addVersion 2 none, .methodLink RX7 74 yX7_newControl, .methodLink RX7 78 yX9_putNumber, .constantLong RX7 82 (258), .fieldLink RX7 46 "LowEnergy$Mail" "versionSent" "Z", .methodLink RX11 562 yX11_controlSize, .static yX11_controlSize, .code yX11_controlSize cX11_controlSize 1 (some .int), .methodLink RX11 525 yX5_open, .instanceMethod yX5_open, .selects RX5 yX5_open yX5_open, .code yX5_open cX5_open 6 (some .boolean), .methodLink RX5 91 yX9_cut, .instanceMethod yX9_cut, .selects RX9 yX9_cut yX9_cut, .code yX9_cut cX9_cut 2 none, .fieldLink RX5 22 "LowEnergy$Guard" "mac" "[I", .fieldLink RX5 25 "LowEnergy$Guard" "pad" "[I", .methodLink RX5 87 yX5_whitenBySession, .instanceMethod yX5_whitenBySession, .selects RX5 yX5_whitenBySession yX5_whitenBySession, .code yX5_whitenBySession cX5_whitenBySession 7 none, .methodLink RX5 98 yX9_turn, .instanceMethod yX9_turn, .selects RX9 yX9_turn yX9_turn, .code yX9_turn cX9_turn 3 none, .methodLink RX5 94 yX5_fillNonce, .instanceMethod yX5_fillNonce, .selects RX5 yX5_fillNonce yX5_fillNonce, .code yX5_fillNonce cX5_fillNonce 8 none, .constantLong RX5 102 (255), .methodLink RX5 83 yX5_findMac, .instanceMethod yX5_findMac, .selects RX5 yX5_findMac yX5_findMac, .code yX5_findMac cX5_findMac 8 none, .methodLink RX11 502 yX6_giveReason, .methodLink RX11 457 yX0_isHeard, .instanceMethod yX0_isHeard, .selects RX0 yX0_isHeard yX0_isHeard, .initialized RX0, .code yX0_isHeard cX0_isHeard 4 (some .boolean), .fieldLink RX0 42 "LowEnergy$Air" "count" "I", .fieldLink RX0 13 "LowEnergy$Air" "packets" "[LLowEnergy$Row;", .fieldLink RX0 78 "LowEnergy$Air" "latestIsLost" "Z", .fieldLink RX0 17 "LowEnergy$Air" "channels" "[I", .methodLink RX0 86 yX9_numberAt, .methodLink RX11 460 yX0_isGood, .instanceMethod yX0_isGood, .selects RX0 yX0_isGood yX0_isGood, .code yX0_isGood cX0_isGood 5 (some .boolean), .fieldLink RX0 35 "LowEnergy$Air" "plain" "LLowEnergy$Row;", .methodLink RX0 90 yX9_become, .instanceMethod yX9_become, .selects RX9 yX9_become yX9_become, .code yX9_become cX9_become 2 none, .methodLink RX9 27 yX9_putPart, .methodLink RX0 71 yX0_whiten, .static yX0_whiten, .code yX0_whiten cX0_whiten 7 none, .methodLink RX0 49 yX9_at, .fieldLink RX0 94 "LowEnergy$Air" "first" "I", .fieldLink RX0 39 "LowEnergy$Air" "payload" "LLowEnergy$Row;", .methodLink RX0 53 yX9_clear, .methodLink RX0 63 yX9_putPart, .methodLink RX0 67 yX0_crcInOrder, .static yX0_crcInOrder, .code yX0_crcInOrder cX0_crcInOrder 7 (some .int), .constant RX0 100 (16777215), .fieldLink RX11 65 "LowEnergy" "now" "I", .methodLink RX11 519 yX11_isNew, .instanceMethod yX11_isNew, .selects RX11 yX11_isNew yX11_isNew, .code yX11_isNew cX11_isNew 3 (some .boolean), .methodLink RX11 537 yX3_currentIsAcknowledged, .instanceMethod yX3_currentIsAcknowledged, .selects RX3 yX3_currentIsAcknowledged yX3_currentIsAcknowledged, .code yX3_currentIsAcknowledged cX3_currentIsAcknowledged 2 none, .fieldLink RX3 33 "LowEnergy$Device" "mail" "LLowEnergy$Mail;", .methodLink RX3 164 yX7_dropCurrent, .instanceMethod yX7_dropCurrent, .selects RX7 yX7_dropCurrent yX7_dropCurrent, .code yX7_dropCurrent cX7_dropCurrent 1 none, .fieldLink RX7 14 "LowEnergy$Mail" "current" "LLowEnergy$Row;", .fieldLink RX7 65 "LowEnergy$Mail" "sort" "I", .fieldLink RX7 68 "LowEnergy$Mail" "currentOp" "I", .fieldLink RX3 77 "LowEnergy$Device" "guard" "LLowEnergy$Guard;", .methodLink RX3 170 yX5_beginComing, .fieldLink RX3 26 "LowEnergy$Device" "link" "LLowEnergy$Link;", .methodLink RX3 167 yX6_giveReason] : List Cond) ++ (wsX110 ++ (wsX00 ++ (wsX30 ++ (wsX70 ++ (wsX90 ++ (wsX50 ++ (wsX40 ++ (wsX10 ++ (wsX60 ++ ([])))))))))))
theorem hi_Low_bringsLetter_X11 : ∀ x ∈ u_ws RX11 TX11 5, x ∈ wp_Low_bringsLetter := fun _ h => List.mem_cons_of_mem _ (List.mem_append_right _ (List.mem_append_left _ h))
theorem hi_Low_bringsLetter_X0 : ∀ x ∈ u_ws RX0 TX0 10, x ∈ wp_Low_bringsLetter := fun _ h => List.mem_cons_of_mem _ (List.mem_append_right _ (List.mem_append_right _ (List.mem_append_left _ h)))
theorem hi_Low_bringsLetter_X3 : ∀ x ∈ u_ws RX3 TX3 19, x ∈ wp_Low_bringsLetter := fun _ h => List.mem_cons_of_mem _ (List.mem_append_right _ (List.mem_append_right _ (List.mem_append_right _ (List.mem_append_left _ h))))
theorem hi_Low_bringsLetter_X7 : ∀ x ∈ u_ws RX7 TX7 16, x ∈ wp_Low_bringsLetter := fun _ h => List.mem_cons_of_mem _ (List.mem_append_right _ (List.mem_append_right _ (List.mem_append_right _ (List.mem_append_right _ (List.mem_append_left _ h)))))
theorem hi_Low_bringsLetter_X9 : ∀ x ∈ u_ws RX9 TX9 2, x ∈ wp_Low_bringsLetter := fun _ h => List.mem_cons_of_mem _ (List.mem_append_right _ (List.mem_append_right _ (List.mem_append_right _ (List.mem_append_right _ (List.mem_append_right _ (List.mem_append_left _ h))))))
theorem hi_Low_bringsLetter_X5 : ∀ x ∈ u_ws RX5 TX5 16, x ∈ wp_Low_bringsLetter := fun _ h => List.mem_cons_of_mem _ (List.mem_append_right _ (List.mem_append_right _ (List.mem_append_right _ (List.mem_append_right _ (List.mem_append_right _ (List.mem_append_right _ (List.mem_append_left _ h)))))))
theorem hi_Low_bringsLetter_X4 : ∀ x ∈ u_ws RX4 TX4 6, x ∈ wp_Low_bringsLetter := fun _ h => List.mem_cons_of_mem _ (List.mem_append_right _ (List.mem_append_right _ (List.mem_append_right _ (List.mem_append_right _ (List.mem_append_right _ (List.mem_append_right _ (List.mem_append_right _ (List.mem_append_left _ h))))))))
theorem hi_Low_bringsLetter_X1 : ∀ x ∈ u_ws RX1 TX1 2, x ∈ wp_Low_bringsLetter := fun _ h => List.mem_cons_of_mem _ (List.mem_append_right _ (List.mem_append_right _ (List.mem_append_right _ (List.mem_append_right _ (List.mem_append_right _ (List.mem_append_right _ (List.mem_append_right _ (List.mem_append_right _ (List.mem_append_left _ h)))))))))
theorem hi_Low_bringsLetter_X6 : ∀ x ∈ u_ws RX6 TX6 20, x ∈ wp_Low_bringsLetter := fun _ h => List.mem_cons_of_mem _ (List.mem_append_right _ (List.mem_append_right _ (List.mem_append_right _ (List.mem_append_right _ (List.mem_append_right _ (List.mem_append_right _ (List.mem_append_right _ (List.mem_append_right _ (List.mem_append_right _ (List.mem_append_left _ h))))))))))
set_option maxRecDepth 100000 in
theorem gd_Low_bringsLetter_Mail_gather_533 : GoodIn wp_Low_bringsLetter (wsV RX11 533 RX7 yX7_gather wp_Mail_gather) := goodIn_app (goodIn_r _ [2, 3, 4, 5] rfl rfl) (goodIn_ca (goodIn_r _ [6, 7, 8, 9, 10, 11, 12, 13, 14, 15, 16, 17, 18, 19, 20, 21, 22, 23, 24, 25, 26, 27, 28, 29, 30, 31, 32, 5, 33, 34] rfl rfl) (goodIn_app (goodIn_cls hi_Low_bringsLetter_X7 gw_X7) (goodIn_app (goodIn_cls hi_Low_bringsLetter_X9 gw_X9) (goodIn_nil))))
set_option maxRecDepth 100000 in
theorem gd_Low_bringsLetter_Low_obey_529 : GoodIn wp_Low_bringsLetter (va_wsS RX11 529 yX11_obey wp_Low_obey) := goodIn_app (goodIn_r _ [35, 36, 37] rfl rfl) (goodIn_ca (goodIn_r _ [38, 39, 40, 41, 5, 42, 26, 27, 28, 12, 29, 14, 43, 44, 45, 46, 15, 47, 48, 49, 50, 51, 52, 53, 37, 54, 55, 56, 57, 58, 59, 60, 61, 62, 63, 64, 65, 66, 67, 68, 69, 70, 71, 72, 73, 74, 75, 76, 77, 78, 79, 80, 81, 82, 83, 84, 85, 86, 87, 88, 89, 90, 91, 92, 93, 94, 95, 96, 97, 98, 99, 100, 101, 102, 103, 104, 105, 106, 107, 108, 109, 110, 111, 112, 113, 114, 115, 116, 117, 118, 119, 120, 121, 122, 123, 124, 125, 126, 127, 128, 129, 130, 131, 132, 133, 134, 135, 136, 137, 138, 139, 140, 10, 11, 13, 141, 142, 143, 144, 145, 146, 147, 148, 149, 150, 151, 152, 153, 154, 155, 156, 157, 158, 159, 160, 161, 162, 163, 164, 165, 166, 167, 168, 169, 170, 171, 172, 173, 174, 175, 176, 177, 178, 179, 180, 17, 18, 19, 20, 21, 22, 23, 181, 182, 183, 184, 185, 186, 187, 188, 189, 190, 191] rfl rfl) (goodIn_app (goodIn_cls hi_Low_bringsLetter_X3 gw_X3) (goodIn_app (goodIn_cls hi_Low_bringsLetter_X9 gw_X9) (goodIn_app (goodIn_cls hi_Low_bringsLetter_X7 gw_X7) (goodIn_app (goodIn_cls hi_Low_bringsLetter_X5 gw_X5) (goodIn_app (goodIn_cls hi_Low_bringsLetter_X4 gw_X4) (goodIn_app (goodIn_cls hi_Low_bringsLetter_X1 gw_X1) (goodIn_app (goodIn_cls hi_Low_bringsLetter_X6 gw_X6) (goodIn_nil)))))))))
set_option maxRecDepth 100000 in
theorem gd_Low_bringsLetter_Guard_open_525 : GoodIn wp_Low_bringsLetter (wsV RX11 525 RX5 yX5_open wp_Guard_open) := goodIn_app (goodIn_r _ [192, 193, 194, 76] rfl rfl) (goodIn_ca (goodIn_r _ [195, 196, 197, 198, 12, 199, 14, 131, 78, 79, 80, 81, 15, 200, 201, 104, 113, 106, 107, 108, 109, 110, 111, 112, 202, 203, 204, 76, 205, 206, 207, 208, 209, 210, 211, 212, 213, 82, 214, 114, 115, 116, 117, 118, 215, 216, 217, 218] rfl rfl) (goodIn_app (goodIn_cls hi_Low_bringsLetter_X9 gw_X9) (goodIn_app (goodIn_cls hi_Low_bringsLetter_X5 gw_X5) (goodIn_app (goodIn_cls hi_Low_bringsLetter_X1 gw_X1) (goodIn_nil)))))
set_option maxRecDepth 100000 in
theorem gd_Low_bringsLetter_Link_giveReason_502 : GoodIn wp_Low_bringsLetter (wsV RX11 502 RX6 yX6_giveReason wp_Link_giveReason) := goodIn_app (goodIn_r _ [219, 147, 148, 144] rfl rfl) (goodIn_ca (goodIn_r _ [149, 150] rfl rfl) (goodIn_app (goodIn_cls hi_Low_bringsLetter_X6 gw_X6) (goodIn_nil)))
set_option maxRecDepth 100000 in
theorem gd_Low_bringsLetter_Air_isHeard_457 : GoodIn wp_Low_bringsLetter (wsV RX11 457 RX0 yX0_isHeard wp_Air_isHeard) := goodIn_app (goodIn_r _ [220, 221, 222, 223] rfl rfl) (goodIn_ca (goodIn_r _ [224, 225, 226, 227, 228, 229, 137, 138, 12, 139, 14, 15] rfl rfl) (goodIn_app (goodIn_cls hi_Low_bringsLetter_X0 gw_X0) (goodIn_app (goodIn_cls hi_Low_bringsLetter_X9 gw_X9) (goodIn_nil))))
set_option maxRecDepth 100000 in
theorem gd_Low_bringsLetter_Air_isGood_460 : GoodIn wp_Low_bringsLetter (wsV RX11 460 RX0 yX0_isGood wp_Air_isGood) := goodIn_app (goodIn_r _ [230, 231, 232, 223] rfl rfl) (goodIn_ca (goodIn_r _ [233, 225, 226, 234, 235, 236, 237, 12, 238, 14, 239, 17, 18, 19, 15, 20, 21, 22, 23, 240, 241, 223, 242, 243, 79, 80, 81, 244, 245, 246, 27, 28, 29, 247, 229, 137, 138, 139, 248, 249, 250, 251] rfl rfl) (goodIn_app (goodIn_cls hi_Low_bringsLetter_X0 gw_X0) (goodIn_app (goodIn_cls hi_Low_bringsLetter_X9 gw_X9) (goodIn_nil))))
set_option maxRecDepth 100000 in
theorem gd_Low_bringsLetter_Low_isNew_519 : GoodIn wp_Low_bringsLetter (wsV RX11 519 RX11 yX11_isNew wp_Low_isNew) := goodIn_app (goodIn_r _ [253, 254, 255, 37] rfl rfl) (goodIn_ca (goodIn_r _ [256, 1, 257, 258, 259, 87, 260, 261, 262, 263, 264, 5, 265, 266, 26, 27, 28, 12, 29, 14, 267, 268, 269, 270, 127, 128, 76, 129, 130, 131, 271, 272, 147, 148, 144, 149, 150] rfl rfl) (goodIn_app (goodIn_cls hi_Low_bringsLetter_X11 gw_X11) (goodIn_app (goodIn_cls hi_Low_bringsLetter_X0 gw_X0) (goodIn_app (goodIn_cls hi_Low_bringsLetter_X6 gw_X6) (goodIn_app (goodIn_cls hi_Low_bringsLetter_X9 gw_X9) (goodIn_app (goodIn_cls hi_Low_bringsLetter_X3 gw_X3) (goodIn_app (goodIn_cls hi_Low_bringsLetter_X7 gw_X7) (goodIn_app (goodIn_cls hi_Low_bringsLetter_X5 gw_X5) (goodIn_nil)))))))))
set_option maxHeartbeats 4000000 in
set_option maxRecDepth 100000 in
theorem b_Low_bringsLetter {p : Program} {l : Launch} {e : Env} {R : Room} {s : State} {m : MethodId} {args : Array Value} {below : List Frame} {meth : Method} {c : Code} {D : va_G} {K : Nat → ClassId} {A : Nat → Prop} {Q : State → Prop} {τ : Nat → Option Ty} {dom : List Nat} {zb zL : Nat} {zx : Nat → Int32} {zs : Nat → Nat} (hR : 5 ≤ R.frames ∧ 117 ≤ R.locals) (B : Bx p s m args c cX11_bringsLetter 4 RX11 wp_Low_bringsLetter D (tysA K) A) (Z : Sk τ dom) (hz : ZL zb zL zx zs A s s.heap) (h : Nat) (d : Nat) (t_h : τ h = some (41, 0, 0)) (t_d : τ d = some (33, 0, 0)) (σ0 : Nat → va_E) (G0 : Good K τ σ0) (hend : ∀ (σ' : Nat → va_E) (z : Int) (lv : List (Nat × Value)) (pc : Nat), Good K τ σ' → Fr τ [(1, 4), (2, 4), (30, 0), (1, 5), (2, 5), (36, 0), (1, 2), (37, 0), (35, 0), (2, 31), (3, 45), (2, 32), (3, 44), (1, 11), (2, 11), (1, 12), (2, 12), (3, 41), (3, 43), (33, 0), (1, 9), (2, 9), (3, 42), (3, 23), (3, 22), (1, 16), (34, 0), (2, 16)] σ0 σ' → (0 ≤ z ∧ z ≤ 1) → decode cX11_bringsLetter pc = .ok (.ireturn, 1) → V p l e R s m args below meth c 4 D A Q (0, 0) (fd dom σ') lv pc [.int (iI z)]) : V p l e R s m args below meth c 4 D A Q (0, 0) (fd dom σ0) [(0, .ref h), (1, .ref d)] 0 [] := by
  have F0 : Fr τ [(1, 4), (2, 4), (30, 0), (1, 5), (2, 5), (36, 0), (1, 2), (37, 0), (35, 0), (2, 31), (3, 45), (2, 32), (3, 44), (1, 11), (2, 11), (1, 12), (2, 12), (3, 41), (3, 43), (33, 0), (1, 9), (2, 9), (3, 42), (3, 23), (3, 22), (1, 16), (34, 0), (2, 16)] σ0 σ0 := Fr.rf
  have J121 : ∀ (σ_121 : Nat → va_E), Good K τ σ_121 → Fr τ [(1, 4), (2, 4), (30, 0), (1, 5), (2, 5), (36, 0), (1, 2), (37, 0), (35, 0), (2, 31), (3, 45), (2, 32), (3, 44), (1, 11), (2, 11), (1, 12), (2, 12), (3, 41), (3, 43), (33, 0), (1, 9), (2, 9), (3, 42), (3, 23), (3, 22), (1, 16), (34, 0), (2, 16)] σ0 σ_121 → V p l e R s m args below meth c 4 D A Q (0, 0) (fd dom σ_121) [(0, .ref h), (1, .ref d)] 121 [] := by
    intro σ_121 G_121 F_121
    refine v_aload_n B dX11_bringsLetter_121 rfl rfl ?_
    obtain ⟨a1, a2, a3, a4, z5, h6, t7, t8, t9, t10, r11⟩ : okLow τ (σ_121 h) := G_121 h _ t_h
    refine u_get B Z (C := RX11) (T := TX11) (N := 5) (ci := 11) hi_Low_bringsLetter_X11 t_h h6 rfl 1 (by decide +kernel) (List.mem_of_getElem? (i := 1) rfl) rfl dX11_bringsLetter_122 ?_
    obtain ⟨a12, a13, a14, a15, a16, a17, a18, z19, z20, z21, h22, t23, t24, t25, t26, t27, t28, t29, r30, r31, r32⟩ : okAir τ (σ_121 a2) := G_121 a2 _ t8
    refine u_getN B Z (C := RX0) (T := TX0) (N := 10) (ci := 0) hi_Low_bringsLetter_X0 t8 h22 rfl 7 (by decide +kernel) (List.mem_of_getElem? (i := 55) rfl) rfl dX11_bringsLetter_125 ?_
    refine v_iconst B (v := iI 3) dX11_bringsLetter_128 rfl ?_
    obtain ⟨z33, e34, r35⟩ := iI_and z19 (c := 3) (by decide) (by decide)
    refine v_iand B (v := iI z33) dX11_bringsLetter_129 e34 ?_
    refine v_istore_n B (lv' := [(3, .int (iI z33)), (0, .ref h), (1, .ref d)]) dX11_bringsLetter_130 rfl (by decide +kernel) rfl ?_
    refine v_iload_n B dX11_bringsLetter_131 rfl rfl ?_
    refine v_iconst B (v := iI 3) dX11_bringsLetter_132 rfl ?_
    refine u_icmp_ne B (tgt := 149) (by omega) (by omega) dX11_bringsLetter_133 (by decide +kernel) (fun c36 => ?_) (fun c36 => ?_)
    · refine v_iload_n B dX11_bringsLetter_149 rfl rfl ?_
      refine u_if_eq B (tgt := 175) (by omega) dX11_bringsLetter_150 (by decide +kernel) (fun c37 => ?_) (fun c37 => ?_)
      · refine v_iconst B (v := iI 0) dX11_bringsLetter_175 rfl ?_
        exact hend σ_121 0 _ _ G_121 F_121 ⟨by omega, by omega⟩ dX11_bringsLetter_176
      · refine v_aload_n B dX11_bringsLetter_153 rfl rfl ?_
        obtain ⟨z38, yy39, z40, z41, z42, z43, a44, z45, yy46, a47, yy48, a49, a50, a51, a52, a53, a54, a55, a56, h57, r58, r59, r60, r61, r62, r63, t64, r65, r66, t67, r68, t69, t70, t71, t72, t73, t74, t75, t76⟩ : okDevice τ (σ_121 d) := G_121 d _ t_d
        refine u_getN B Z (C := RX3) (T := TX3) (N := 19) (ci := 3) hi_Low_bringsLetter_X3 t_d h57 rfl 12 (by decide +kernel) (List.mem_of_getElem? (i := 5) rfl) rfl dX11_bringsLetter_154 ?_
        refine v_iload_n B dX11_bringsLetter_157 rfl rfl ?_
        refine v_aload_n B dX11_bringsLetter_158 rfl rfl ?_
        refine u_get B Z (C := RX11) (T := TX11) (N := 5) (ci := 11) hi_Low_bringsLetter_X11 t_h h6 rfl 1 (by decide +kernel) (List.mem_of_getElem? (i := 1) rfl) rfl dX11_bringsLetter_159 ?_
        refine u_getN B Z (C := RX0) (T := TX0) (N := 10) (ci := 0) hi_Low_bringsLetter_X0 t8 h22 rfl 6 (by decide +kernel) (List.mem_of_getElem? (i := 54) rfl) rfl dX11_bringsLetter_162 ?_
        refine u_callVi B Z hz (n := 2) (As := [.int (iI z33), .ref a18]) (rest := []) (c_Mail_gather l D K Z _ _ _ _ a50 z33 a18 t70 ⟨by omega, by omega⟩ t29 σ_121 G_121) gd_Low_bringsLetter_Mail_gather_533 rfl rfl rfl (by decide +kernel) ⟨Nat.le_trans (by decide +kernel) hR.1, Nat.le_trans (by decide +kernel) hR.2⟩ t70 (cls_Mail G_121 t70) rfl rfl rfl rfl (Nat.le_of_ble_eq_true rfl) dX11_bringsLetter_165 ⟨Nat.zero_le _, Nat.zero_le _⟩ (fun v79 σ77 p78 => ?_)
        obtain ⟨G80, F81, z83, e84, r85⟩ := p78
        subst e84
        have F82 := F_121.call F81 (by first | rfl | simp)
        have h86 := (F81 h _ t_h (by first | rfl | simp)).trans h6
        have h87 := (F81 a2 _ t8 (by first | rfl | simp)).trans h22
        have h88 := (F81 d _ t_d (by first | rfl | simp)).trans h57
        refine u_if_eq B (tgt := 175) (by omega) dX11_bringsLetter_168 (by decide +kernel) (fun c89 => ?_) (fun c89 => ?_)
        · refine v_iconst B (v := iI 0) dX11_bringsLetter_175 rfl ?_
          exact hend σ77 0 _ _ G80 F82 ⟨by omega, by omega⟩ dX11_bringsLetter_176
        · refine v_iconst B (v := iI 1) dX11_bringsLetter_171 rfl ?_
          refine v_goto B (tgt := 176) dX11_bringsLetter_172 (by decide +kernel) ?_
          exact hend σ77 1 _ _ G80 F82 ⟨by omega, by omega⟩ dX11_bringsLetter_176
    · refine v_aload_n B dX11_bringsLetter_136 rfl rfl ?_
      refine v_aload_n B dX11_bringsLetter_137 rfl rfl ?_
      refine u_get B Z (C := RX11) (T := TX11) (N := 5) (ci := 11) hi_Low_bringsLetter_X11 t_h h6 rfl 1 (by decide +kernel) (List.mem_of_getElem? (i := 1) rfl) rfl dX11_bringsLetter_138 ?_
      refine u_getN B Z (C := RX0) (T := TX0) (N := 10) (ci := 0) hi_Low_bringsLetter_X0 t8 h22 rfl 6 (by decide +kernel) (List.mem_of_getElem? (i := 54) rfl) rfl dX11_bringsLetter_141 ?_
      refine u_callSv B Z hz (n := 2) (As := [.ref d, .ref a18]) (rest := []) (c_Low_obey l D K Z _ _ _ _ d a18 t_d t29 σ_121 G_121) gd_Low_bringsLetter_Low_obey_529 rfl rfl rfl (by decide +kernel) ⟨Nat.le_trans (by decide +kernel) hR.1, Nat.le_trans (by decide +kernel) hR.2⟩ rfl rfl (Nat.le_of_ble_eq_true rfl) dX11_bringsLetter_144 ⟨Nat.zero_le _, Nat.zero_le _⟩ (fun σ90 p91 => ?_)
      obtain ⟨G93, F94⟩ := p91
      have F95 := F_121.call F94 (by first | rfl | simp)
      have h96 := (F94 h _ t_h (by first | rfl | simp)).trans h6
      have h97 := (F94 a2 _ t8 (by first | rfl | simp)).trans h22
      refine v_iconst B (v := iI 0) dX11_bringsLetter_147 rfl ?_
      exact hend σ90 0 _ _ G93 F95 ⟨by omega, by omega⟩ dX11_bringsLetter_148
  have J107 : ∀ (σ_107 : Nat → va_E) (a107_2 : Nat) (z107_s0 : Int) (a107_s1 : Nat) (z107_s2 : Int) (a107_s3 : Nat), Good K τ σ_107 → Fr τ [(1, 4), (2, 4), (30, 0), (1, 5), (2, 5), (36, 0), (1, 2), (37, 0), (35, 0), (2, 31), (3, 45), (2, 32), (3, 44), (1, 11), (2, 11), (1, 12), (2, 12), (3, 41), (3, 43), (33, 0), (1, 9), (2, 9), (3, 42), (3, 23), (3, 22), (1, 16), (34, 0), (2, 16)] σ0 σ_107 → (τ a107_2 = some (36, 0, 0)) → (0 ≤ z107_s0 ∧ z107_s0 ≤ 1) → (τ a107_s1 = some (1, 5, 0)) → (-2147483648 ≤ z107_s2 ∧ z107_s2 ≤ 2147483647) → (τ a107_s3 = some (35, 0, 0)) → V p l e R s m args below meth c 4 D A Q (0, 0) (fd dom σ_107) [(0, .ref h), (1, .ref d), (2, .ref a107_2)] 107 [.int (iI z107_s0), .ref a107_s1, .int (iI z107_s2), .ref a107_s3] := by
    intro σ_107 a107_2 z107_s0 a107_s1 z107_s2 a107_s3 G_107 F_107 t107_2 r107_s0 t107_s1 r107_s2 t107_s3
    refine u_callVi B Z hz (n := 3) (As := [.int (iI z107_s2), .ref a107_s1, .int (iI z107_s0)]) (rest := []) (c_Guard_open l D K Z _ _ _ _ a107_s3 z107_s2 a107_s1 z107_s0 t107_s3 ⟨by omega, by omega⟩ t107_s1 ⟨by omega, by omega⟩ σ_107 G_107) gd_Low_bringsLetter_Guard_open_525 rfl rfl rfl (by decide +kernel) ⟨Nat.le_trans (by decide +kernel) hR.1, Nat.le_trans (by decide +kernel) hR.2⟩ t107_s3 (cls_Guard G_107 t107_s3) rfl rfl rfl rfl (Nat.le_of_ble_eq_true rfl) dX11_bringsLetter_107 ⟨Nat.zero_le _, Nat.zero_le _⟩ (fun v100 σ98 p99 => ?_)
    obtain ⟨G101, F102, z104, e105, r106⟩ := p99
    subst e105
    have F103 := F_107.call F102 (by first | rfl | simp)
    refine u_if_ne B (tgt := 121) (by omega) dX11_bringsLetter_110 (by decide +kernel) (fun c107 => ?_) (fun c107 => ?_)
    · refine v_lv [0, 1] rfl ?_
      exact J121 σ98 G101 F103
    · refine v_aload_n B dX11_bringsLetter_113 rfl rfl ?_
      refine v_bipush B (v := iI 61) dX11_bringsLetter_114 (by decide +kernel) ?_
      refine u_callVv B Z hz (n := 1) (As := [.int (iI 61)]) (rest := []) (c_Link_giveReason l D K Z _ _ _ _ a107_2 61 t107_2 ⟨by omega, by omega⟩ σ98 G101) gd_Low_bringsLetter_Link_giveReason_502 rfl rfl rfl (by decide +kernel) ⟨Nat.le_trans (by decide +kernel) hR.1, Nat.le_trans (by decide +kernel) hR.2⟩ t107_2 (cls_Link G101 t107_2) rfl rfl rfl rfl (Nat.le_of_ble_eq_true rfl) dX11_bringsLetter_116 ⟨Nat.zero_le _, Nat.zero_le _⟩ (fun σ108 p109 => ?_)
      obtain ⟨G111, F112⟩ := p109
      have F113 := F103.call F112 (by first | rfl | simp)
      refine v_iconst B (v := iI 0) dX11_bringsLetter_119 rfl ?_
      exact hend σ108 0 _ _ G111 F113 ⟨by omega, by omega⟩ dX11_bringsLetter_120
  refine v_aload_n B dX11_bringsLetter_0 rfl rfl ?_
  obtain ⟨z114, yy115, z116, z117, z118, z119, a120, z121, yy122, a123, yy124, a125, a126, a127, a128, a129, a130, a131, a132, h133, r134, r135, r136, r137, r138, r139, t140, r141, r142, t143, r144, t145, t146, t147, t148, t149, t150, t151, t152⟩ : okDevice τ (σ0 d) := G0 d _ t_d
  refine u_getN B Z (C := RX3) (T := TX3) (N := 19) (ci := 3) hi_Low_bringsLetter_X3 t_d h133 rfl 11 (by decide +kernel) (List.mem_of_getElem? (i := 69) rfl) rfl dX11_bringsLetter_1 ?_
  refine v_astore_n B (lv' := [(2, .ref a125), (0, .ref h), (1, .ref d)]) dX11_bringsLetter_4 rfl (by decide +kernel) rfl ?_
  refine v_aload_n B dX11_bringsLetter_5 rfl rfl ?_
  obtain ⟨a153, a154, a155, a156, z157, h158, t159, t160, t161, t162, r163⟩ : okLow τ (σ0 h) := G0 h _ t_h
  refine u_get B Z (C := RX11) (T := TX11) (N := 5) (ci := 11) hi_Low_bringsLetter_X11 t_h h158 rfl 1 (by decide +kernel) (List.mem_of_getElem? (i := 1) rfl) rfl dX11_bringsLetter_6 ?_
  refine v_aload_n B dX11_bringsLetter_9 rfl rfl ?_
  obtain ⟨z164, z165, z166, z167, z168, yy169, yy170, z171, z172, z173, z174, z175, z176, z177, z178, z179, z180, z181, z182, yy183, h184, r185, r186, r187, r188, r189, r190, r191, r192, r193, r194, r195, r196, r197, r198, r199, r200, r201, r202, r203, r204⟩ : okLink τ (σ0 a125) := G0 a125 _ t145
  refine u_getN B Z (C := RX6) (T := TX6) (N := 20) (ci := 6) hi_Low_bringsLetter_X6 t145 h184 rfl 12 (by decide +kernel) (List.mem_of_getElem? (i := 36) rfl) rfl dX11_bringsLetter_10 ?_
  refine v_aload_n B dX11_bringsLetter_13 rfl rfl ?_
  refine u_getN B Z (C := RX6) (T := TX6) (N := 20) (ci := 6) hi_Low_bringsLetter_X6 t145 h184 rfl 0 (by decide +kernel) (List.mem_of_getElem? (i := 56) rfl) rfl dX11_bringsLetter_14 ?_
  refine u_callVi B Z hz (n := 2) (As := [.int (iI z176), .int (iI z164)]) (rest := []) (c_Air_isHeard l D K Z _ _ _ _ a154 z176 z164 t160 ⟨by omega, by omega⟩ ⟨by omega, by omega⟩ σ0 G0) gd_Low_bringsLetter_Air_isHeard_457 rfl rfl rfl (by decide +kernel) ⟨Nat.le_trans (by decide +kernel) hR.1, Nat.le_trans (by decide +kernel) hR.2⟩ t160 (cls_Air G0 t160) rfl rfl rfl rfl (Nat.le_of_ble_eq_true rfl) dX11_bringsLetter_17 ⟨Nat.zero_le _, Nat.zero_le _⟩ (fun v207 σ205 p206 => ?_)
  obtain ⟨rfl, z211, e212, r213⟩ := p206
  subst e212
  refine u_if_eq B (tgt := 41) (by omega) dX11_bringsLetter_20 (by decide +kernel) (fun c214 => ?_) (fun c214 => ?_)
  · refine v_iconst B (v := iI 0) dX11_bringsLetter_41 rfl ?_
    exact hend σ0 0 _ _ G0 F0 ⟨by omega, by omega⟩ dX11_bringsLetter_42
  · refine v_aload_n B dX11_bringsLetter_23 rfl rfl ?_
    refine u_get B Z (C := RX11) (T := TX11) (N := 5) (ci := 11) hi_Low_bringsLetter_X11 t_h h158 rfl 1 (by decide +kernel) (List.mem_of_getElem? (i := 1) rfl) rfl dX11_bringsLetter_24 ?_
    refine v_aload_n B dX11_bringsLetter_27 rfl rfl ?_
    refine u_getN B Z (C := RX6) (T := TX6) (N := 20) (ci := 6) hi_Low_bringsLetter_X6 t145 h184 rfl 12 (by decide +kernel) (List.mem_of_getElem? (i := 36) rfl) rfl dX11_bringsLetter_28 ?_
    refine v_aload_n B dX11_bringsLetter_31 rfl rfl ?_
    refine u_getN B Z (C := RX6) (T := TX6) (N := 20) (ci := 6) hi_Low_bringsLetter_X6 t145 h184 rfl 1 (by decide +kernel) (List.mem_of_getElem? (i := 57) rfl) rfl dX11_bringsLetter_32 ?_
    refine u_callVi B Z hz (n := 2) (As := [.int (iI z176), .int (iI z165)]) (rest := []) (c_Air_isGood l D K Z _ _ _ _ a154 z176 z165 t160 ⟨by omega, by omega⟩ ⟨by omega, by omega⟩ σ0 G0) gd_Low_bringsLetter_Air_isGood_460 rfl rfl rfl (by decide +kernel) ⟨Nat.le_trans (by decide +kernel) hR.1, Nat.le_trans (by decide +kernel) hR.2⟩ t160 (cls_Air G0 t160) rfl rfl rfl rfl (Nat.le_of_ble_eq_true rfl) dX11_bringsLetter_35 ⟨Nat.zero_le _, Nat.zero_le _⟩ (fun v217 σ215 p216 => ?_)
    obtain ⟨G218, F219, z221, e222, r223⟩ := p216
    subst e222
    have F220 := F0.call F219 (by first | rfl | simp)
    have h224 := (F219 d _ t_d (by first | rfl | simp)).trans h133
    have h225 := (F219 h _ t_h (by first | rfl | simp)).trans h158
    have h226 := (F219 a125 _ t145 (by first | rfl | simp)).trans h184
    refine u_if_ne B (tgt := 43) (by omega) dX11_bringsLetter_38 (by decide +kernel) (fun c227 => ?_) (fun c227 => ?_)
    · refine v_aload_n B dX11_bringsLetter_43 rfl rfl ?_
      refine v_aload_n B dX11_bringsLetter_44 rfl rfl ?_
      refine u_get B Z (C := RX11) (T := TX11) (N := 5) (ci := 11) hi_Low_bringsLetter_X11 t_h h225 rfl 4 (by decide +kernel) (List.mem_of_getElem? (i := 252) rfl) rfl dX11_bringsLetter_45 ?_
      refine u_putN B Z (C := RX6) (T := TX6) (N := 20) (ci := 6) hi_Low_bringsLetter_X6 t145 h226 rfl 13 (by decide +kernel) tyX6 tyX6_ok nmX6 (List.mem_of_getElem? (i := 43) rfl) rfl (ty := .int) (tyX6_ok 13 (by decide +kernel)) rfl rfl (Nat.le_of_ble_eq_true rfl) (fs' := [.int (iI z164), .int (iI z165), .int (iI z166), .int (iI z167), .int (iI z168), .long (lI yy169), .long (lI yy170), .int (iI z171), .int (iI z172), .int (iI z173), .int (iI z174), .int (iI z175), .int (iI z176), .int (iI z157), .int (iI z178), .int (iI z179), .int (iI z180), .int (iI z181), .int (iI z182), .long (lI yy183)]) rfl dX11_bringsLetter_48 (fun σ228 h229 n230 => ?_)
      have G231 := G218.put t145 (⟨z164, z165, z166, z167, z168, yy169, yy170, z171, z172, z173, z174, z175, z176, z157, z178, z179, z180, z181, z182, yy183, h229, ⟨by omega, by omega⟩, ⟨by omega, by omega⟩, ⟨by omega, by omega⟩, ⟨by omega, by omega⟩, ⟨by omega, by omega⟩, ⟨by omega, by omega⟩, ⟨by omega, by omega⟩, ⟨by omega, by omega⟩, ⟨by omega, by omega⟩, ⟨by omega, by omega⟩, ⟨by omega, by omega⟩, ⟨by omega, by omega⟩, ⟨by omega, by omega⟩, ⟨by omega, by omega⟩, ⟨by omega, by omega⟩, ⟨by omega, by omega⟩, ⟨by omega, by omega⟩, ⟨by omega, by omega⟩, ⟨by omega, by omega⟩, ⟨by omega, by omega⟩⟩ : Ok K τ (36, 0, 0) (σ228 a125)) n230
      have F232 := F220.put t145 (by simp) n230
      have h233 := (n230 d (ne_ty t_d t145 (by simp))).trans h224
      have h234 := (n230 h (ne_ty t_h t145 (by simp))).trans h225
      refine v_aload_n B dX11_bringsLetter_51 rfl rfl ?_
      refine v_iconst B (v := iI 1) dX11_bringsLetter_52 rfl ?_
      refine u_putN B Z (C := RX6) (T := TX6) (N := 20) (ci := 6) hi_Low_bringsLetter_X6 t145 h229 rfl 14 (by decide +kernel) tyX6 tyX6_ok nmX6 (List.mem_of_getElem? (i := 60) rfl) rfl (ty := .boolean) (tyX6_ok 14 (by decide +kernel)) (nar01 (by omega)) (fit01 (by omega)) (Nat.le_of_ble_eq_true rfl) (fs' := [.int (iI z164), .int (iI z165), .int (iI z166), .int (iI z167), .int (iI z168), .long (lI yy169), .long (lI yy170), .int (iI z171), .int (iI z172), .int (iI z173), .int (iI z174), .int (iI z175), .int (iI z176), .int (iI z157), .int (iI 1), .int (iI z179), .int (iI z180), .int (iI z181), .int (iI z182), .long (lI yy183)]) rfl dX11_bringsLetter_53 (fun σ235 h236 n237 => ?_)
      have G238 := G231.put t145 (⟨z164, z165, z166, z167, z168, yy169, yy170, z171, z172, z173, z174, z175, z176, z157, 1, z179, z180, z181, z182, yy183, h236, ⟨by omega, by omega⟩, ⟨by omega, by omega⟩, ⟨by omega, by omega⟩, ⟨by omega, by omega⟩, ⟨by omega, by omega⟩, ⟨by omega, by omega⟩, ⟨by omega, by omega⟩, ⟨by omega, by omega⟩, ⟨by omega, by omega⟩, ⟨by omega, by omega⟩, ⟨by omega, by omega⟩, ⟨by omega, by omega⟩, ⟨by omega, by omega⟩, ⟨by omega, by omega⟩, ⟨by omega, by omega⟩, ⟨by omega, by omega⟩, ⟨by omega, by omega⟩, ⟨by omega, by omega⟩, ⟨by omega, by omega⟩, ⟨by omega, by omega⟩⟩ : Ok K τ (36, 0, 0) (σ235 a125)) n237
      have F239 := F232.put t145 (by simp) n237
      have h240 := (n237 d (ne_ty t_d t145 (by simp))).trans h233
      have h241 := (n237 h (ne_ty t_h t145 (by simp))).trans h234
      refine v_aload_n B dX11_bringsLetter_56 rfl rfl ?_
      refine v_aload_n B dX11_bringsLetter_57 rfl rfl ?_
      refine u_callVi B Z hz (n := 1) (As := [.ref d]) (rest := []) (c_Low_isNew l D K Z _ _ _ _ h d t_h t_d σ235 G238) gd_Low_bringsLetter_Low_isNew_519 rfl rfl rfl (by decide +kernel) ⟨Nat.le_trans (by decide +kernel) hR.1, Nat.le_trans (by decide +kernel) hR.2⟩ t_h (cls_Low G238 t_h) rfl rfl rfl rfl (Nat.le_of_ble_eq_true rfl) dX11_bringsLetter_58 ⟨Nat.zero_le _, Nat.zero_le _⟩ (fun v244 σ242 p243 => ?_)
      obtain ⟨G245, F246, z248, e249, r250⟩ := p243
      subst e249
      have F247 := F239.call F246 (by first | rfl | simp)
      have h251 := (F246 d _ t_d (by first | rfl | simp)).trans h240
      have h252 := (F246 h _ t_h (by first | rfl | simp)).trans h241
      refine u_if_ne B (tgt := 66) (by omega) dX11_bringsLetter_61 (by decide +kernel) (fun c253 => ?_) (fun c253 => ?_)
      · refine v_aload_n B dX11_bringsLetter_66 rfl rfl ?_
        refine u_getN B Z (C := RX3) (T := TX3) (N := 19) (ci := 3) hi_Low_bringsLetter_X3 t_d h251 rfl 13 (by decide +kernel) (List.mem_of_getElem? (i := 10) rfl) rfl dX11_bringsLetter_67 ?_
        obtain ⟨a254, a255, z256, a257, a258, a259, z260, z261, z262, z263, z264, z265, z266, z267, a268, a269, h270, t271, t272, r273, t274, t275, t276, r277, r278, r279, r280, r281, r282, r283, r284, t285, t286⟩ : okGuard τ (σ242 a127) := G245 a127 _ t147
        refine u_getN B Z (C := RX5) (T := TX5) (N := 16) (ci := 5) hi_Low_bringsLetter_X5 t147 h270 rfl 11 (by decide +kernel) (List.mem_of_getElem? (i := 61) rfl) rfl dX11_bringsLetter_70 ?_
        refine u_if_eq B (tgt := 121) (by omega) dX11_bringsLetter_73 (by decide +kernel) (fun c287 => ?_) (fun c287 => ?_)
        · refine v_lv [1, 2] rfl ?_
          exact J121 σ242 G245 F247
        · refine v_aload_n B dX11_bringsLetter_76 rfl rfl ?_
          refine u_getN B Z (C := RX3) (T := TX3) (N := 19) (ci := 3) hi_Low_bringsLetter_X3 t_d h251 rfl 13 (by decide +kernel) (List.mem_of_getElem? (i := 10) rfl) rfl dX11_bringsLetter_77 ?_
          refine v_aload_n B dX11_bringsLetter_80 rfl rfl ?_
          refine u_get B Z (C := RX11) (T := TX11) (N := 5) (ci := 11) hi_Low_bringsLetter_X11 t_h h252 rfl 1 (by decide +kernel) (List.mem_of_getElem? (i := 1) rfl) rfl dX11_bringsLetter_81 ?_
          obtain ⟨a288, a289, a290, a291, a292, a293, a294, z295, z296, z297, h298, t299, t300, t301, t302, t303, t304, t305, r306, r307, r308⟩ : okAir τ (σ242 a154) := G245 a154 _ t160
          refine u_getN B Z (C := RX0) (T := TX0) (N := 10) (ci := 0) hi_Low_bringsLetter_X0 t160 h298 rfl 7 (by decide +kernel) (List.mem_of_getElem? (i := 55) rfl) rfl dX11_bringsLetter_84 ?_
          refine v_aload_n B dX11_bringsLetter_87 rfl rfl ?_
          refine u_get B Z (C := RX11) (T := TX11) (N := 5) (ci := 11) hi_Low_bringsLetter_X11 t_h h252 rfl 1 (by decide +kernel) (List.mem_of_getElem? (i := 1) rfl) rfl dX11_bringsLetter_88 ?_
          refine u_getN B Z (C := RX0) (T := TX0) (N := 10) (ci := 0) hi_Low_bringsLetter_X0 t160 h298 rfl 6 (by decide +kernel) (List.mem_of_getElem? (i := 54) rfl) rfl dX11_bringsLetter_91 ?_
          refine v_aload_n B dX11_bringsLetter_94 rfl rfl ?_
          refine u_getN B Z (C := RX3) (T := TX3) (N := 19) (ci := 3) hi_Low_bringsLetter_X3 t_d h251 rfl 2 (by decide +kernel) (List.mem_of_getElem? (i := 65) rfl) rfl dX11_bringsLetter_95 ?_
          refine v_iconst B (v := iI 4) dX11_bringsLetter_98 rfl ?_
          refine u_icmp_ne B (tgt := 106) (by omega) (by omega) dX11_bringsLetter_99 (by decide +kernel) (fun c309 => ?_) (fun c309 => ?_)
          · refine v_iconst B (v := iI 1) dX11_bringsLetter_106 rfl ?_
            refine v_lv [1, 2, 0] rfl ?_
            exact J107 σ242 a125 1 a294 z295 a127 G245 F247 t145 ⟨by omega, by omega⟩ t305 ⟨by omega, by omega⟩ t147
          · refine v_iconst B (v := iI 0) dX11_bringsLetter_102 rfl ?_
            refine v_goto B (tgt := 107) dX11_bringsLetter_103 (by decide +kernel) ?_
            refine v_lv [1, 2, 0] rfl ?_
            exact J107 σ242 a125 0 a294 z295 a127 G245 F247 t145 ⟨by omega, by omega⟩ t305 ⟨by omega, by omega⟩ t147
      · refine v_iconst B (v := iI 0) dX11_bringsLetter_64 rfl ?_
        exact hend σ242 0 _ _ G245 F247 ⟨by omega, by omega⟩ dX11_bringsLetter_65
    · refine v_iconst B (v := iI 0) dX11_bringsLetter_41 rfl ?_
      exact hend σ215 0 _ _ G218 F220 ⟨by omega, by omega⟩ dX11_bringsLetter_42
set_option maxRecDepth 100000 in
theorem c_Low_bringsLetter (l : Launch) (D : va_G) (K : Nat → ClassId) {τ : Nat → Option Ty} {dom : List Nat} (Z : Sk τ dom) (zb zL : Nat) (zx : Nat → Int32) (zs : Nat → Nat) (h : Nat) (d : Nat) (t_h : τ h = some (41, 0, 0)) (t_d : τ d = some (33, 0, 0)) (σ0 : Nat → va_E) (G0 : Good K τ σ0) : MZ l yX11_bringsLetter wp_Low_bringsLetter ({ frames := 5, cells := 0, slots := 0, locals := 117 }) D (tysA K) [.ref h, .ref d] (fd dom σ0) zb zL zx zs (Qi D (fun r σ' => Good K τ σ' ∧ Fr τ [(1, 4), (2, 4), (30, 0), (1, 5), (2, 5), (36, 0), (1, 2), (37, 0), (35, 0), (2, 31), (3, 45), (2, 32), (3, 44), (1, 11), (2, 11), (1, 12), (2, 12), (3, 41), (3, 43), (33, 0), (1, 9), (2, 9), (3, 42), (3, 23), (3, 22), (1, 16), (34, 0), (2, 16)] σ0 σ' ∧ ∃ z : Int, r = iI z ∧ (0 ≤ z ∧ z ≤ 1)) (fun σ' => fd dom σ')) 0 0 := by
  refine mz_of (cc := cX11_bringsLetter) (maxL := 4) (ret := (some .boolean)) (by decide +kernel) rfl (Nat.le_of_ble_eq_true rfl) ?_
  intro p e s m below meth c A B hr hlk _ hz
  exact b_Low_bringsLetter ⟨Nat.le_refl _, Nat.le_refl _⟩ B Z hz h d t_h t_d σ0 G0 (fun σ' z lv pc G F hZ hd => v_zret B hr hlk (nar01 (by omega)) σ' ⟨G, F, z, rfl, hZ⟩ rfl (Nat.le_refl _) (Nat.le_refl _) hd)

def wp_Low_sendPacket : List Cond := .code yX11_sendPacket cX11_sendPacket 5 none :: (([.fieldLink RX11 18 "LowEnergy" "sky" "LLowEnergy$Air;", .methodLink RX11 435 yX0_transmit, .instanceMethod yX0_transmit, .selects RX0 yX0_transmit yX0_transmit, .initialized RX0, .code yX0_transmit cX0_transmit 8 none, .fieldLink RX0 78 "LowEnergy$Air" "latestIsLost" "Z", .fieldLink RX0 29 "LowEnergy$Air" "losses" "[I", .fieldLink RX0 42 "LowEnergy$Air" "count" "I", .fieldLink RX0 13 "LowEnergy$Air" "packets" "[LLowEnergy$Row;", .methodLink RX0 53 yX9_clear, .instanceMethod yX9_clear, .selects RX9 yX9_clear yX9_clear, .initialized RX9, .code yX9_clear cX9_clear 1 none, .fieldLink RX9 21 "LowEnergy$Row" "size" "I", .methodLink RX0 56 yX9_putNumber, .instanceMethod yX9_putNumber, .selects RX9 yX9_putNumber yX9_putNumber, .code yX9_putNumber cX9_putNumber 5 none, .fieldLink RX9 15 "LowEnergy$Row" "bytes" "[I", .constantLong RX9 25 (255), .methodLink RX0 60 yX9_put, .instanceMethod yX9_put, .selects RX9 yX9_put yX9_put, .code yX9_put cX9_put 2 none, .methodLink RX0 63 yX9_putPart, .instanceMethod yX9_putPart, .selects RX9 yX9_putPart yX9_putPart, .code yX9_putPart cX9_putPart 6 none, .methodLink RX9 9 Lib.Math.max.name, .static Lib.Math.max.name, .initialized "java/lang/Math", .code Lib.Math.max.name Lib.Math.max.code 2 (some .int), .methodLink RX0 67 yX0_crcInOrder, .static yX0_crcInOrder, .code yX0_crcInOrder cX0_crcInOrder 7 (some .int), .constant RX0 100 (16777215), .methodLink RX0 71 yX0_whiten, .static yX0_whiten, .code yX0_whiten cX0_whiten 7 none, .methodLink RX0 75 yX0_disturb, .instanceMethod yX0_disturb, .selects RX0 yX0_disturb yX0_disturb, .code yX0_disturb cX0_disturb 5 none, .fieldLink RX0 26 "LowEnergy$Air" "noiseCounts" "[I", .fieldLink RX0 23 "LowEnergy$Air" "noises" "[[I", .methodLink RX0 82 yX9_turn, .instanceMethod yX9_turn, .selects RX9 yX9_turn yX9_turn, .code yX9_turn cX9_turn 3 none, .fieldLink RX0 17 "LowEnergy$Air" "channels" "[I", .methodLink RX11 512 yX5_seal, .instanceMethod yX5_seal, .selects RX5 yX5_seal yX5_seal, .initialized RX5, .code yX5_seal cX5_seal 6 none, .fieldLink RX5 51 "LowEnergy$Guard" "sent" "I", .fieldLink RX5 22 "LowEnergy$Guard" "mac" "[I", .fieldLink RX5 25 "LowEnergy$Guard" "pad" "[I", .methodLink RX5 61 yX9_put, .fieldLink RX5 28 "LowEnergy$Guard" "cipher" "LLowEnergy$Cipher;", .fieldLink RX5 16 "LowEnergy$Guard" "session" "[I", .methodLink RX5 71 yX1_loadKey, .instanceMethod yX1_loadKey, .selects RX1 yX1_loadKey yX1_loadKey, .initialized RX1, .code yX1_loadKey cX1_loadKey 6 none, .fieldLink RX1 9 "LowEnergy$Cipher" "roundKeys" "[I", .fieldLink RX1 16 "LowEnergy$Cipher" "SBOX" "[I", .methodLink RX5 83 yX5_findMac, .instanceMethod yX5_findMac, .selects RX5 yX5_findMac yX5_findMac, .code yX5_findMac cX5_findMac 8 none, .methodLink RX5 77 yX1_encipher, .instanceMethod yX1_encipher, .selects RX1 yX1_encipher yX1_encipher, .code yX1_encipher cX1_encipher 7 none, .fieldLink RX1 13 "LowEnergy$Cipher" "moved" "[I", .methodLink RX5 67 yX9_at, .instanceMethod yX9_at, .selects RX9 yX9_at yX9_at, .code yX9_at cX9_at 2 (some .int), .methodLink RX5 94 yX5_fillNonce, .instanceMethod yX5_fillNonce, .selects RX5 yX5_fillNonce yX5_fillNonce, .code yX5_fillNonce cX5_fillNonce 8 none, .fieldLink RX5 19 "LowEnergy$Guard" "iv" "[I", .constantLong RX5 102 (255), .methodLink RX5 87 yX5_whitenBySession, .instanceMethod yX5_whitenBySession, .selects RX5 yX5_whitenBySession yX5_whitenBySession, .code yX5_whitenBySession cX5_whitenBySession 7 none, .methodLink RX5 98 yX9_turn, .methodLink RX11 502 yX6_giveReason, .instanceMethod yX6_giveReason, .selects RX6 yX6_giveReason yX6_giveReason, .initialized RX6, .code yX6_giveReason cX6_giveReason 2 none, .fieldLink RX6 15 "LowEnergy$Link" "reason" "I", .methodLink RX11 505 yX7_pickNext, .instanceMethod yX7_pickNext, .selects RX7 yX7_pickNext yX7_pickNext, .initialized RX7, .code yX7_pickNext cX7_pickNext 2 none, .fieldLink RX7 65 "LowEnergy$Mail" "sort" "I", .methodLink RX7 36 yX7_dropCurrent, .instanceMethod yX7_dropCurrent, .selects RX7 yX7_dropCurrent yX7_dropCurrent, .code yX7_dropCurrent cX7_dropCurrent 1 none, .fieldLink RX7 14 "LowEnergy$Mail" "current" "LLowEnergy$Row;", .methodLink RX7 62 yX9_clear, .fieldLink RX7 68 "LowEnergy$Mail" "currentOp" "I", .fieldLink RX7 43 "LowEnergy$Mail" "controlCount" "I", .fieldLink RX7 53 "LowEnergy$Mail" "messageCount" "I", .fieldLink RX7 24 "LowEnergy$Mail" "messages" "[LLowEnergy$Row;", .fieldLink RX7 50 "LowEnergy$Mail" "messageHead" "I", .methodLink RX7 103 yX7_pickPiece, .instanceMethod yX7_pickPiece, .selects RX7 yX7_pickPiece yX7_pickPiece, .code yX7_pickPiece cX7_pickPiece 2 none, .fieldLink RX7 56 "LowEnergy$Mail" "placed" "I", .methodLink RX7 91 yX9_putPart, .fieldLink RX7 20 "LowEnergy$Mail" "controls" "[LLowEnergy$Row;", .fieldLink RX7 39 "LowEnergy$Mail" "controlHead" "I", .methodLink RX7 95 yX9_become, .instanceMethod yX9_become, .selects RX9 yX9_become yX9_become, .code yX9_become cX9_become 2 none, .methodLink RX9 27 yX9_putPart, .methodLink RX7 99 yX9_at] : List Cond) ++ (wsX70 ++ (wsX60 ++ (wsX110 ++ (wsX30 ++ (wsX00 ++ (wsX90 ++ (wsX50 ++ (wsX10 ++ ([]))))))))))
theorem hi_Low_sendPacket_X7 : ∀ x ∈ u_ws RX7 TX7 16, x ∈ wp_Low_sendPacket := fun _ h => List.mem_cons_of_mem _ (List.mem_append_right _ (List.mem_append_left _ h))
theorem hi_Low_sendPacket_X6 : ∀ x ∈ u_ws RX6 TX6 20, x ∈ wp_Low_sendPacket := fun _ h => List.mem_cons_of_mem _ (List.mem_append_right _ (List.mem_append_right _ (List.mem_append_left _ h)))
theorem hi_Low_sendPacket_X11 : ∀ x ∈ u_ws RX11 TX11 5, x ∈ wp_Low_sendPacket := fun _ h => List.mem_cons_of_mem _ (List.mem_append_right _ (List.mem_append_right _ (List.mem_append_right _ (List.mem_append_left _ h))))
theorem hi_Low_sendPacket_X3 : ∀ x ∈ u_ws RX3 TX3 19, x ∈ wp_Low_sendPacket := fun _ h => List.mem_cons_of_mem _ (List.mem_append_right _ (List.mem_append_right _ (List.mem_append_right _ (List.mem_append_right _ (List.mem_append_left _ h)))))
theorem hi_Low_sendPacket_X0 : ∀ x ∈ u_ws RX0 TX0 10, x ∈ wp_Low_sendPacket := fun _ h => List.mem_cons_of_mem _ (List.mem_append_right _ (List.mem_append_right _ (List.mem_append_right _ (List.mem_append_right _ (List.mem_append_right _ (List.mem_append_left _ h))))))
theorem hi_Low_sendPacket_X9 : ∀ x ∈ u_ws RX9 TX9 2, x ∈ wp_Low_sendPacket := fun _ h => List.mem_cons_of_mem _ (List.mem_append_right _ (List.mem_append_right _ (List.mem_append_right _ (List.mem_append_right _ (List.mem_append_right _ (List.mem_append_right _ (List.mem_append_left _ h)))))))
theorem hi_Low_sendPacket_X5 : ∀ x ∈ u_ws RX5 TX5 16, x ∈ wp_Low_sendPacket := fun _ h => List.mem_cons_of_mem _ (List.mem_append_right _ (List.mem_append_right _ (List.mem_append_right _ (List.mem_append_right _ (List.mem_append_right _ (List.mem_append_right _ (List.mem_append_right _ (List.mem_append_left _ h))))))))
theorem hi_Low_sendPacket_X1 : ∀ x ∈ u_ws RX1 TX1 2, x ∈ wp_Low_sendPacket := fun _ h => List.mem_cons_of_mem _ (List.mem_append_right _ (List.mem_append_right _ (List.mem_append_right _ (List.mem_append_right _ (List.mem_append_right _ (List.mem_append_right _ (List.mem_append_right _ (List.mem_append_right _ (List.mem_append_left _ h)))))))))
set_option maxRecDepth 100000 in
theorem gd_Low_sendPacket_Air_transmit_435 : GoodIn wp_Low_sendPacket (wsV RX11 435 RX0 yX0_transmit wp_Air_transmit) := goodIn_app (goodIn_r _ [2, 3, 4, 5] rfl rfl) (goodIn_ca (goodIn_r _ [6, 7, 8, 9, 10, 11, 12, 13, 14, 15, 16, 17, 18, 19, 20, 21, 22, 23, 24, 25, 26, 27, 28, 29, 30, 31, 32, 33, 34, 35, 36, 5, 37, 38, 39, 40, 41, 42, 43, 44, 45, 46, 47, 48, 49, 50, 51, 52] rfl rfl) (goodIn_app (goodIn_cls hi_Low_sendPacket_X0 gw_X0) (goodIn_app (goodIn_cls hi_Low_sendPacket_X9 gw_X9) (goodIn_nil))))
set_option maxRecDepth 100000 in
theorem gd_Low_sendPacket_Guard_seal_512 : GoodIn wp_Low_sendPacket (wsV RX11 512 RX5 yX5_seal wp_Guard_seal) := goodIn_app (goodIn_r _ [53, 54, 55, 56] rfl rfl) (goodIn_ca (goodIn_r _ [57, 58, 59, 60, 61, 24, 25, 14, 26, 16, 21, 62, 63, 64, 65, 66, 67, 68, 69, 70, 71, 72, 73, 56, 74, 75, 76, 77, 78, 79, 80, 81, 82, 83, 84, 85, 86, 87, 88, 89, 90, 91, 92, 93, 94, 49, 50, 51] rfl rfl) (goodIn_app (goodIn_cls hi_Low_sendPacket_X5 gw_X5) (goodIn_app (goodIn_cls hi_Low_sendPacket_X9 gw_X9) (goodIn_app (goodIn_cls hi_Low_sendPacket_X1 gw_X1) (goodIn_nil)))))
set_option maxRecDepth 100000 in
theorem gd_Low_sendPacket_Link_giveReason_502 : GoodIn wp_Low_sendPacket (wsV RX11 502 RX6 yX6_giveReason wp_Link_giveReason) := goodIn_app (goodIn_r _ [95, 96, 97, 98] rfl rfl) (goodIn_ca (goodIn_r _ [99, 100] rfl rfl) (goodIn_app (goodIn_cls hi_Low_sendPacket_X6 gw_X6) (goodIn_nil)))
set_option maxRecDepth 100000 in
theorem gd_Low_sendPacket_Mail_pickNext_505 : GoodIn wp_Low_sendPacket (wsV RX11 505 RX7 yX7_pickNext wp_Mail_pickNext) := goodIn_app (goodIn_r _ [101, 102, 103, 104] rfl rfl) (goodIn_ca (goodIn_r _ [105, 106, 107, 108, 109, 104, 110, 111, 112, 12, 13, 14, 15, 16, 113, 114, 115, 116, 117, 118, 119, 120, 121, 122, 123, 28, 29, 30, 21, 31, 32, 33, 34, 124, 125, 126, 127, 128, 129, 130, 131, 81, 82, 83] rfl rfl) (goodIn_app (goodIn_cls hi_Low_sendPacket_X7 gw_X7) (goodIn_app (goodIn_cls hi_Low_sendPacket_X9 gw_X9) (goodIn_nil))))
set_option maxHeartbeats 4000000 in
set_option maxRecDepth 100000 in
theorem b_Low_sendPacket {p : Program} {l : Launch} {e : Env} {R : Room} {s : State} {m : MethodId} {args : Array Value} {below : List Frame} {meth : Method} {c : Code} {D : va_G} {K : Nat → ClassId} {A : Nat → Prop} {Q : State → Prop} {τ : Nat → Option Ty} {dom : List Nat} {zb zL : Nat} {zx : Nat → Int32} {zs : Nat → Nat} (hR : 4 ≤ R.frames ∧ 80 ≤ R.locals) (B : Bx p s m args c cX11_sendPacket 5 RX11 wp_Low_sendPacket D (tysA K) A) (Z : Sk τ dom) (hz : ZL zb zL zx zs A s s.heap) (h : Nat) (d : Nat) (t_h : τ h = some (41, 0, 0)) (t_d : τ d = some (33, 0, 0)) (σ0 : Nat → va_E) (G0 : Good K τ σ0) (hend : ∀ (σ' : Nat → va_E) (lv : List (Nat × Value)) (pc : Nat), Good K τ σ' → Fr τ [(36, 0), (1, 2), (37, 0), (2, 2), (2, 31), (3, 44), (2, 32), (3, 45), (35, 0), (1, 3), (2, 3), (4, 24), (3, 20), (30, 0), (3, 25)] σ0 σ' → decode cX11_sendPacket pc = .ok (.return_, 1) → V p l e R s m args below meth c 5 D A Q (0, 0) (fd dom σ') lv pc []) : V p l e R s m args below meth c 5 D A Q (0, 0) (fd dom σ0) [(0, .ref h), (1, .ref d)] 0 [] := by
  have F0 : Fr τ [(36, 0), (1, 2), (37, 0), (2, 2), (2, 31), (3, 44), (2, 32), (3, 45), (35, 0), (1, 3), (2, 3), (4, 24), (3, 20), (30, 0), (3, 25)] σ0 σ0 := Fr.rf
  have J84 : ∀ (σ_84 : Nat → va_E) (a84_2 : Nat) (a84_3 : Nat), Good K τ σ_84 → Fr τ [(36, 0), (1, 2), (37, 0), (2, 2), (2, 31), (3, 44), (2, 32), (3, 45), (35, 0), (1, 3), (2, 3), (4, 24), (3, 20), (30, 0), (3, 25)] σ0 σ_84 → (τ a84_2 = some (36, 0, 0)) → (τ a84_3 = some (37, 0, 0)) → V p l e R s m args below meth c 5 D A Q (0, 0) (fd dom σ_84) [(0, .ref h), (1, .ref d), (2, .ref a84_2), (3, .ref a84_3)] 84 [] := by
    intro σ_84 a84_2 a84_3 G_84 F_84 t84_2 t84_3
    refine v_aload_n B dX11_sendPacket_84 rfl rfl ?_
    obtain ⟨a1, z2, z3, a4, z5, z6, z7, a8, z9, z10, z11, a12, z13, a14, z15, a16, h17, t18, r19, r20, t21, r22, r23, r24, t25, r26, r27, r28, t29, r30, t31, r32, t33⟩ : okMail τ (σ_84 a84_3) := G_84 a84_3 _ t84_3
    refine u_getN B Z (C := RX7) (T := TX7) (N := 16) (ci := 7) hi_Low_sendPacket_X7 t84_3 h17 rfl 1 (by decide +kernel) (List.mem_of_getElem? (i := 46) rfl) rfl dX11_sendPacket_85 ?_
    refine v_iconst B (v := iI 4) dX11_sendPacket_88 rfl ?_
    refine v_aload_n B dX11_sendPacket_89 rfl rfl ?_
    obtain ⟨z34, z35, z36, z37, z38, yy39, yy40, z41, z42, z43, z44, z45, z46, z47, z48, z49, z50, z51, z52, yy53, h54, r55, r56, r57, r58, r59, r60, r61, r62, r63, r64, r65, r66, r67, r68, r69, r70, r71, r72, r73, r74⟩ : okLink τ (σ_84 a84_2) := G_84 a84_2 _ t84_2
    refine u_getN B Z (C := RX6) (T := TX6) (N := 20) (ci := 6) hi_Low_sendPacket_X6 t84_2 h54 rfl 16 (by decide +kernel) (List.mem_of_getElem? (i := 38) rfl) rfl dX11_sendPacket_90 ?_
    obtain ⟨z75, e76, r77⟩ := iI_any (iI 4 * iI z50)
    refine v_imul B (v := iI z75) dX11_sendPacket_93 e76 ?_
    obtain ⟨z78, e79, r80⟩ := iI_any (iI z2 + iI z75)
    refine v_iadd B (v := iI z78) dX11_sendPacket_94 e79 ?_
    refine v_bipush B (v := iI 8) dX11_sendPacket_95 (by decide +kernel) ?_
    refine v_aload_n B dX11_sendPacket_97 rfl rfl ?_
    refine u_getN B Z (C := RX6) (T := TX6) (N := 20) (ci := 6) hi_Low_sendPacket_X6 t84_2 h54 rfl 15 (by decide +kernel) (List.mem_of_getElem? (i := 37) rfl) rfl dX11_sendPacket_98 ?_
    obtain ⟨z81, e82, r83⟩ := iI_any (iI 8 * iI z49)
    refine v_imul B (v := iI z81) dX11_sendPacket_101 e82 ?_
    obtain ⟨z84, e85, r86⟩ := iI_any (iI z78 + iI z81)
    refine v_iadd B (v := iI z84) dX11_sendPacket_102 e85 ?_
    refine v_istore B (lv' := [(4, .int (iI z84)), (0, .ref h), (1, .ref d), (2, .ref a84_2), (3, .ref a84_3)]) dX11_sendPacket_103 (by decide +kernel) rfl ?_
    refine v_aload_n B dX11_sendPacket_105 rfl rfl ?_
    obtain ⟨a87, a88, a89, a90, z91, h92, t93, t94, t95, t96, r97⟩ : okLow τ (σ_84 h) := G_84 h _ t_h
    refine u_get B Z (C := RX11) (T := TX11) (N := 5) (ci := 11) hi_Low_sendPacket_X11 t_h h92 rfl 1 (by decide +kernel) (List.mem_of_getElem? (i := 1) rfl) rfl dX11_sendPacket_106 ?_
    refine v_aload_n B dX11_sendPacket_109 rfl rfl ?_
    obtain ⟨z98, yy99, z100, z101, z102, z103, a104, z105, yy106, a107, yy108, a109, a110, a111, a112, a113, a114, a115, a116, h117, r118, r119, r120, r121, r122, r123, t124, r125, r126, t127, r128, t129, t130, t131, t132, t133, t134, t135, t136⟩ : okDevice τ (σ_84 d) := G_84 d _ t_d
    refine u_getN B Z (C := RX3) (T := TX3) (N := 19) (ci := 3) hi_Low_sendPacket_X3 t_d h117 rfl 0 (by decide +kernel) (List.mem_of_getElem? (i := 53) rfl) rfl dX11_sendPacket_110 ?_
    refine v_aload_n B dX11_sendPacket_113 rfl rfl ?_
    refine u_getN B Z (C := RX6) (T := TX6) (N := 20) (ci := 6) hi_Low_sendPacket_X6 t84_2 h54 rfl 12 (by decide +kernel) (List.mem_of_getElem? (i := 36) rfl) rfl dX11_sendPacket_114 ?_
    refine v_aload_n B dX11_sendPacket_117 rfl rfl ?_
    refine u_getN B Z (C := RX6) (T := TX6) (N := 20) (ci := 6) hi_Low_sendPacket_X6 t84_2 h54 rfl 0 (by decide +kernel) (List.mem_of_getElem? (i := 56) rfl) rfl dX11_sendPacket_118 ?_
    refine v_aload_n B dX11_sendPacket_121 rfl rfl ?_
    refine u_getN B Z (C := RX6) (T := TX6) (N := 20) (ci := 6) hi_Low_sendPacket_X6 t84_2 h54 rfl 1 (by decide +kernel) (List.mem_of_getElem? (i := 57) rfl) rfl dX11_sendPacket_122 ?_
    refine v_iload B dX11_sendPacket_125 rfl ?_
    refine v_aload_n B dX11_sendPacket_127 rfl rfl ?_
    refine u_getN B Z (C := RX7) (T := TX7) (N := 16) (ci := 7) hi_Low_sendPacket_X7 t84_3 h17 rfl 0 (by decide +kernel) (List.mem_of_getElem? (i := 47) rfl) rfl dX11_sendPacket_128 ?_
    refine u_callVv B Z hz (n := 6) (As := [.int (iI z98), .int (iI z46), .int (iI z34), .int (iI z35), .int (iI z84), .ref a1]) (rest := []) (c_Air_transmit l D K Z _ _ _ _ a88 z98 z46 z34 z35 z84 a1 t94 ⟨by omega, by omega⟩ ⟨by omega, by omega⟩ ⟨by omega, by omega⟩ ⟨by omega, by omega⟩ ⟨by omega, by omega⟩ t18 σ_84 G_84) gd_Low_sendPacket_Air_transmit_435 rfl rfl rfl (by decide +kernel) ⟨Nat.le_trans (by decide +kernel) hR.1, Nat.le_trans (by decide +kernel) hR.2⟩ t94 (cls_Air G_84 t94) rfl rfl rfl rfl (Nat.le_of_ble_eq_true rfl) dX11_sendPacket_131 ⟨Nat.zero_le _, Nat.zero_le _⟩ (fun σ137 p138 => ?_)
    obtain ⟨G140, F141⟩ := p138
    have F142 := F_84.call F141 (by first | rfl | simp)
    have h143 := (F141 a84_3 _ t84_3 (by first | rfl | simp)).trans h17
    have h144 := (F141 a84_2 _ t84_2 (by first | rfl | simp)).trans h54
    have h145 := (F141 h _ t_h (by first | rfl | simp)).trans h92
    have h146 := (F141 d _ t_d (by first | rfl | simp)).trans h117
    exact hend σ137 _ _ G140 F142 dX11_sendPacket_134
  have J81 : ∀ (σ_81 : Nat → va_E) (a81_2 : Nat) (a81_3 : Nat) (z81_s0 : Int) (a81_s1 : Nat) (z81_s2 : Int) (a81_s3 : Nat), Good K τ σ_81 → Fr τ [(36, 0), (1, 2), (37, 0), (2, 2), (2, 31), (3, 44), (2, 32), (3, 45), (35, 0), (1, 3), (2, 3), (4, 24), (3, 20), (30, 0), (3, 25)] σ0 σ_81 → (τ a81_2 = some (36, 0, 0)) → (τ a81_3 = some (37, 0, 0)) → (0 ≤ z81_s0 ∧ z81_s0 ≤ 1) → (τ a81_s1 = some (1, 2, 0)) → (-2147483648 ≤ z81_s2 ∧ z81_s2 ≤ 2147483647) → (τ a81_s3 = some (35, 0, 0)) → V p l e R s m args below meth c 5 D A Q (0, 0) (fd dom σ_81) [(0, .ref h), (1, .ref d), (2, .ref a81_2), (3, .ref a81_3)] 81 [.int (iI z81_s0), .ref a81_s1, .int (iI z81_s2), .ref a81_s3] := by
    intro σ_81 a81_2 a81_3 z81_s0 a81_s1 z81_s2 a81_s3 G_81 F_81 t81_2 t81_3 r81_s0 t81_s1 r81_s2 t81_s3
    refine u_callVv B Z hz (n := 3) (As := [.int (iI z81_s2), .ref a81_s1, .int (iI z81_s0)]) (rest := []) (c_Guard_seal l D K Z _ _ _ _ a81_s3 z81_s2 a81_s1 z81_s0 t81_s3 ⟨by omega, by omega⟩ t81_s1 ⟨by omega, by omega⟩ σ_81 G_81) gd_Low_sendPacket_Guard_seal_512 rfl rfl rfl (by decide +kernel) ⟨Nat.le_trans (by decide +kernel) hR.1, Nat.le_trans (by decide +kernel) hR.2⟩ t81_s3 (cls_Guard G_81 t81_s3) rfl rfl rfl rfl (Nat.le_of_ble_eq_true rfl) dX11_sendPacket_81 ⟨Nat.zero_le _, Nat.zero_le _⟩ (fun σ147 p148 => ?_)
    obtain ⟨G150, F151⟩ := p148
    have F152 := F_81.call F151 (by first | rfl | simp)
    exact J84 σ147 a81_2 a81_3 G150 F152 t81_2 t81_3
  refine v_aload_n B dX11_sendPacket_0 rfl rfl ?_
  obtain ⟨z153, yy154, z155, z156, z157, z158, a159, z160, yy161, a162, yy163, a164, a165, a166, a167, a168, a169, a170, a171, h172, r173, r174, r175, r176, r177, r178, t179, r180, r181, t182, r183, t184, t185, t186, t187, t188, t189, t190, t191⟩ : okDevice τ (σ0 d) := G0 d _ t_d
  refine u_getN B Z (C := RX3) (T := TX3) (N := 19) (ci := 3) hi_Low_sendPacket_X3 t_d h172 rfl 11 (by decide +kernel) (List.mem_of_getElem? (i := 69) rfl) rfl dX11_sendPacket_1 ?_
  refine v_astore_n B (lv' := [(2, .ref a164), (0, .ref h), (1, .ref d)]) dX11_sendPacket_4 rfl (by decide +kernel) rfl ?_
  refine v_aload_n B dX11_sendPacket_5 rfl rfl ?_
  refine u_getN B Z (C := RX3) (T := TX3) (N := 19) (ci := 3) hi_Low_sendPacket_X3 t_d h172 rfl 12 (by decide +kernel) (List.mem_of_getElem? (i := 5) rfl) rfl dX11_sendPacket_6 ?_
  refine v_astore_n B (lv' := [(3, .ref a165), (2, .ref a164), (0, .ref h), (1, .ref d)]) dX11_sendPacket_9 rfl (by decide +kernel) rfl ?_
  refine v_aload_n B dX11_sendPacket_10 rfl rfl ?_
  refine v_aload_n B dX11_sendPacket_11 rfl rfl ?_
  obtain ⟨z192, z193, z194, z195, z196, yy197, yy198, z199, z200, z201, z202, z203, z204, z205, z206, z207, z208, z209, z210, yy211, h212, r213, r214, r215, r216, r217, r218, r219, r220, r221, r222, r223, r224, r225, r226, r227, r228, r229, r230, r231, r232⟩ : okLink τ (σ0 a164) := G0 a164 _ t184
  refine u_getN B Z (C := RX6) (T := TX6) (N := 20) (ci := 6) hi_Low_sendPacket_X6 t184 h212 rfl 18 (by decide +kernel) (List.mem_of_getElem? (i := 58) rfl) rfl dX11_sendPacket_12 ?_
  refine u_callVv B Z hz (n := 1) (As := [.int (iI z210)]) (rest := []) (c_Link_giveReason l D K Z _ _ _ _ a164 z210 t184 ⟨by omega, by omega⟩ σ0 G0) gd_Low_sendPacket_Link_giveReason_502 rfl rfl rfl (by decide +kernel) ⟨Nat.le_trans (by decide +kernel) hR.1, Nat.le_trans (by decide +kernel) hR.2⟩ t184 (cls_Link G0 t184) rfl rfl rfl rfl (Nat.le_of_ble_eq_true rfl) dX11_sendPacket_15 ⟨Nat.zero_le _, Nat.zero_le _⟩ (fun σ233 p234 => ?_)
  obtain ⟨G236, F237⟩ := p234
  have F238 := F0.call F237 (by first | rfl | simp)
  have h239 := (F237 d _ t_d (by first | rfl | simp)).trans h172
  refine v_aload_n B dX11_sendPacket_18 rfl rfl ?_
  obtain ⟨a240, z241, z242, a243, z244, z245, z246, a247, z248, z249, z250, a251, z252, a253, z254, a255, h256, t257, r258, r259, t260, r261, r262, r263, t264, r265, r266, r267, t268, r269, t270, r271, t272⟩ : okMail τ (σ233 a165) := G236 a165 _ t185
  refine u_getN B Z (C := RX7) (T := TX7) (N := 16) (ci := 7) hi_Low_sendPacket_X7 t185 h256 rfl 1 (by decide +kernel) (List.mem_of_getElem? (i := 46) rfl) rfl dX11_sendPacket_19 ?_
  refine u_if_ne B (tgt := 84) (by omega) dX11_sendPacket_22 (by decide +kernel) (fun c273 => ?_) (fun c273 => ?_)
  · refine v_lv [2, 3, 1, 0] rfl ?_
    exact J84 σ233 a164 a165 G236 F238 t184 t185
  · refine v_aload_n B dX11_sendPacket_25 rfl rfl ?_
    refine v_aload_n B dX11_sendPacket_26 rfl rfl ?_
    refine u_getN B Z (C := RX3) (T := TX3) (N := 19) (ci := 3) hi_Low_sendPacket_X3 t_d h239 rfl 13 (by decide +kernel) (List.mem_of_getElem? (i := 10) rfl) rfl dX11_sendPacket_27 ?_
    obtain ⟨a274, a275, z276, a277, a278, a279, z280, z281, z282, z283, z284, z285, z286, z287, a288, a289, h290, t291, t292, r293, t294, t295, t296, r297, r298, r299, r300, r301, r302, r303, r304, t305, t306⟩ : okGuard τ (σ233 a166) := G236 a166 _ t186
    refine u_getN B Z (C := RX5) (T := TX5) (N := 16) (ci := 5) hi_Low_sendPacket_X5 t186 h290 rfl 8 (by decide +kernel) (List.mem_of_getElem? (i := 13) rfl) rfl dX11_sendPacket_30 ?_
    refine u_callVv B Z hz (n := 1) (As := [.int (iI z282)]) (rest := []) (c_Mail_pickNext l D K Z _ _ _ _ a165 z282 t185 ⟨by omega, by omega⟩ σ233 G236) gd_Low_sendPacket_Mail_pickNext_505 rfl rfl rfl (by decide +kernel) ⟨Nat.le_trans (by decide +kernel) hR.1, Nat.le_trans (by decide +kernel) hR.2⟩ t185 (cls_Mail G236 t185) rfl rfl rfl rfl (Nat.le_of_ble_eq_true rfl) dX11_sendPacket_33 ⟨Nat.zero_le _, Nat.zero_le _⟩ (fun σ307 p308 => ?_)
    obtain ⟨G310, F311⟩ := p308
    have F312 := F238.call F311 (by first | rfl | simp)
    have h313 := (F311 d _ t_d (by first | rfl | simp)).trans h239
    have h314 := (F311 a166 _ t186 (by first | rfl | simp)).trans h290
    refine v_aload_n B dX11_sendPacket_36 rfl rfl ?_
    refine u_getN B Z (C := RX3) (T := TX3) (N := 19) (ci := 3) hi_Low_sendPacket_X3 t_d h313 rfl 13 (by decide +kernel) (List.mem_of_getElem? (i := 10) rfl) rfl dX11_sendPacket_37 ?_
    refine u_getN B Z (C := RX5) (T := TX5) (N := 16) (ci := 5) hi_Low_sendPacket_X5 t186 h314 rfl 10 (by decide +kernel) (List.mem_of_getElem? (i := 59) rfl) rfl dX11_sendPacket_40 ?_
    refine u_if_eq B (tgt := 84) (by omega) dX11_sendPacket_43 (by decide +kernel) (fun c315 => ?_) (fun c315 => ?_)
    · refine v_lv [2, 3, 1, 0] rfl ?_
      exact J84 σ307 a164 a165 G310 F312 t184 t185
    · refine v_aload_n B dX11_sendPacket_46 rfl rfl ?_
      obtain ⟨a316, z317, z318, a319, z320, z321, z322, a323, z324, z325, z326, a327, z328, a329, z330, a331, h332, t333, r334, r335, t336, r337, r338, r339, t340, r341, r342, r343, t344, r345, t346, r347, t348⟩ : okMail τ (σ307 a165) := G310 a165 _ t185
      refine u_getN B Z (C := RX7) (T := TX7) (N := 16) (ci := 7) hi_Low_sendPacket_X7 t185 h332 rfl 0 (by decide +kernel) (List.mem_of_getElem? (i := 47) rfl) rfl dX11_sendPacket_47 ?_
      obtain ⟨b349, N350, n351, h352, t353, r354⟩ : okRow τ 2 (σ307 a316) := G310 a316 _ t333
      refine u_getN B Z (C := RX9) (T := TX9) (N := 2) (ci := 9) hi_Low_sendPacket_X9 t333 h352 rfl 1 (by decide +kernel) (List.mem_of_getElem? (i := 51) rfl) rfl dX11_sendPacket_50 ?_
      refine u_if_le B (tgt := 84) (by omega) dX11_sendPacket_53 (by decide +kernel) (fun c355 => ?_) (fun c355 => ?_)
      · refine v_lv [2, 3, 1, 0] rfl ?_
        exact J84 σ307 a164 a165 G310 F312 t184 t185
      · refine v_aload_n B dX11_sendPacket_56 rfl rfl ?_
        refine u_getN B Z (C := RX3) (T := TX3) (N := 19) (ci := 3) hi_Low_sendPacket_X3 t_d h313 rfl 13 (by decide +kernel) (List.mem_of_getElem? (i := 10) rfl) rfl dX11_sendPacket_57 ?_
        refine v_aload_n B dX11_sendPacket_60 rfl rfl ?_
        refine u_getN B Z (C := RX7) (T := TX7) (N := 16) (ci := 7) hi_Low_sendPacket_X7 t185 h332 rfl 1 (by decide +kernel) (List.mem_of_getElem? (i := 46) rfl) rfl dX11_sendPacket_61 ?_
        refine v_aload_n B dX11_sendPacket_64 rfl rfl ?_
        refine u_getN B Z (C := RX7) (T := TX7) (N := 16) (ci := 7) hi_Low_sendPacket_X7 t185 h332 rfl 0 (by decide +kernel) (List.mem_of_getElem? (i := 47) rfl) rfl dX11_sendPacket_65 ?_
        refine v_aload_n B dX11_sendPacket_68 rfl rfl ?_
        refine u_getN B Z (C := RX3) (T := TX3) (N := 19) (ci := 3) hi_Low_sendPacket_X3 t_d h313 rfl 2 (by decide +kernel) (List.mem_of_getElem? (i := 65) rfl) rfl dX11_sendPacket_69 ?_
        refine v_iconst B (v := iI 4) dX11_sendPacket_72 rfl ?_
        refine u_icmp_ne B (tgt := 80) (by omega) (by omega) dX11_sendPacket_73 (by decide +kernel) (fun c356 => ?_) (fun c356 => ?_)
        · refine v_iconst B (v := iI 0) dX11_sendPacket_80 rfl ?_
          refine v_lv [2, 3, 1, 0] rfl ?_
          exact J81 σ307 a164 a165 0 a316 z317 a166 G310 F312 t184 t185 ⟨by omega, by omega⟩ t333 ⟨by omega, by omega⟩ t186
        · refine v_iconst B (v := iI 1) dX11_sendPacket_76 rfl ?_
          refine v_goto B (tgt := 81) dX11_sendPacket_77 (by decide +kernel) ?_
          refine v_lv [2, 3, 1, 0] rfl ?_
          exact J81 σ307 a164 a165 1 a316 z317 a166 G310 F312 t184 t185 ⟨by omega, by omega⟩ t333 ⟨by omega, by omega⟩ t186
set_option maxRecDepth 100000 in
theorem c_Low_sendPacket (l : Launch) (D : va_G) (K : Nat → ClassId) {τ : Nat → Option Ty} {dom : List Nat} (Z : Sk τ dom) (zb zL : Nat) (zx : Nat → Int32) (zs : Nat → Nat) (h : Nat) (d : Nat) (t_h : τ h = some (41, 0, 0)) (t_d : τ d = some (33, 0, 0)) (σ0 : Nat → va_E) (G0 : Good K τ σ0) : MZ l yX11_sendPacket wp_Low_sendPacket ({ frames := 4, cells := 0, slots := 0, locals := 80 }) D (tysA K) [.ref h, .ref d] (fd dom σ0) zb zL zx zs (Qv D (fun σ' => Good K τ σ' ∧ Fr τ [(36, 0), (1, 2), (37, 0), (2, 2), (2, 31), (3, 44), (2, 32), (3, 45), (35, 0), (1, 3), (2, 3), (4, 24), (3, 20), (30, 0), (3, 25)] σ0 σ') (fun σ' => fd dom σ')) 0 0 := by
  refine mz_of (cc := cX11_sendPacket) (maxL := 5) (ret := none) (by decide +kernel) rfl (Nat.le_of_ble_eq_true rfl) ?_
  intro p e s m below meth c A B hr hlk _ hz
  exact b_Low_sendPacket ⟨Nat.le_refl _, Nat.le_refl _⟩ B Z hz h d t_h t_d σ0 G0 (fun σ' lv pc G F hd => v_vret B hr hlk σ' ⟨G, F⟩ rfl (Nat.le_refl _) (Nat.le_refl _) hd)

def wp_Low_beginEvents : List Cond := .code yX11_beginEvents cX11_beginEvents 2 none :: (([.fieldLink RX11 9 "LowEnergy" "devices" "[LLowEnergy$Device;", .fieldLink RX11 65 "LowEnergy" "now" "I", .methodLink RX11 483 yX3_hasEventAt, .instanceMethod yX3_hasEventAt, .selects RX3 yX3_hasEventAt yX3_hasEventAt, .initialized RX3, .code yX3_hasEventAt cX3_hasEventAt 2 (some .boolean), .methodLink RX3 96 yX3_inLink, .instanceMethod yX3_inLink, .selects RX3 yX3_inLink yX3_inLink, .code yX3_inLink cX3_inLink 1 (some .boolean), .fieldLink RX3 93 "LowEnergy$Device" "state" "I", .fieldLink RX3 26 "LowEnergy$Device" "link" "LLowEnergy$Link;", .methodLink RX11 487 yX6_hopOn, .instanceMethod yX6_hopOn, .selects RX6 yX6_hopOn yX6_hopOn, .initialized RX6, .code yX6_hopOn cX6_hopOn 1 none, .fieldLink RX6 57 "LowEnergy$Link" "u" "I", .fieldLink RX6 37 "LowEnergy$Link" "hop" "I", .fieldLink RX6 40 "LowEnergy$Link" "map" "J", .methodLink RX6 84 yX6_channelFor, .static yX6_channelFor, .code yX6_channelFor cX6_channelFor 6 (some .int), .methodLink RX6 25 yJ13_bitCount_95d88, .static yJ13_bitCount_95d88, .initialized RJ13, .code yJ13_bitCount_95d88 cJ13_bitCount_95d88 2 (some .int), .constantLong RJ13 314 (6148914691236517205), .constantLong RJ13 316 (3689348814741910323), .constantLong RJ13 318 (1085102592571150095), .fieldLink RX6 9 "LowEnergy$Link" "channel" "I", .fieldLink RX6 50 "LowEnergy$Link" "mapWaits" "Z", .fieldLink RX6 54 "LowEnergy$Link" "event" "I", .fieldLink RX6 72 "LowEnergy$Link" "instant" "I", .fieldLink RX6 69 "LowEnergy$Link" "nextMap" "J"] : List Cond) ++ (wsX110 ++ (wsX30 ++ (wsX60 ++ ([])))))
theorem hi_Low_beginEvents_X11 : ∀ x ∈ u_ws RX11 TX11 5, x ∈ wp_Low_beginEvents := fun _ h => List.mem_cons_of_mem _ (List.mem_append_right _ (List.mem_append_left _ h))
theorem hi_Low_beginEvents_X3 : ∀ x ∈ u_ws RX3 TX3 19, x ∈ wp_Low_beginEvents := fun _ h => List.mem_cons_of_mem _ (List.mem_append_right _ (List.mem_append_right _ (List.mem_append_left _ h)))
theorem hi_Low_beginEvents_X6 : ∀ x ∈ u_ws RX6 TX6 20, x ∈ wp_Low_beginEvents := fun _ h => List.mem_cons_of_mem _ (List.mem_append_right _ (List.mem_append_right _ (List.mem_append_right _ (List.mem_append_left _ h))))
set_option maxRecDepth 100000 in
theorem gd_Low_beginEvents_Device_hasEventAt_483 : GoodIn wp_Low_beginEvents (wsV RX11 483 RX3 yX3_hasEventAt wp_Device_hasEventAt) := goodIn_app (goodIn_r _ [3, 4, 5, 6] rfl rfl) (goodIn_ca (goodIn_r _ [7, 8, 9, 10, 6, 11, 12, 13] rfl rfl) (goodIn_app (goodIn_cls hi_Low_beginEvents_X3 gw_X3) (goodIn_app (goodIn_cls hi_Low_beginEvents_X6 gw_X6) (goodIn_nil))))
set_option maxRecDepth 100000 in
theorem gd_Low_beginEvents_Link_hopOn_487 : GoodIn wp_Low_beginEvents (wsV RX11 487 RX6 yX6_hopOn wp_Link_hopOn) := goodIn_app (goodIn_r _ [14, 15, 16, 17] rfl rfl) (goodIn_ca (goodIn_r _ [18, 19, 20, 21, 22, 23, 17, 24, 25, 26, 27, 28, 29, 30, 31, 32, 33, 34, 35, 36] rfl rfl) (goodIn_app (goodIn_cls hi_Low_beginEvents_X6 gw_X6) (goodIn_nil)))
set_option maxHeartbeats 4000000 in
set_option maxRecDepth 100000 in
theorem b_Low_beginEvents {p : Program} {l : Launch} {e : Env} {R : Room} {s : State} {m : MethodId} {args : Array Value} {below : List Frame} {meth : Method} {c : Code} {D : va_G} {K : Nat → ClassId} {A : Nat → Prop} {Q : State → Prop} {τ : Nat → Option Ty} {dom : List Nat} {zb zL : Nat} {zx : Nat → Int32} {zs : Nat → Nat} (hR : 3 ≤ R.frames ∧ 66 ≤ R.locals) (B : Bx p s m args c cX11_beginEvents 2 RX11 wp_Low_beginEvents D (tysA K) A) (Z : Sk τ dom) (hz : ZL zb zL zx zs A s s.heap) (h : Nat) (t_h : τ h = some (41, 0, 0)) (σ0 : Nat → va_E) (G0 : Good K τ σ0) (hend : ∀ (σ' : Nat → va_E) (lv : List (Nat × Value)) (pc : Nat), Good K τ σ' → Fr τ [(36, 0)] σ0 σ' → decode cX11_beginEvents pc = .ok (.return_, 1) → V p l e R s m args below meth c 2 D A Q (0, 0) (fd dom σ') lv pc []) : V p l e R s m args below meth c 2 D A Q (0, 0) (fd dom σ0) [(0, .ref h)] 0 [] := by
  have F0 : Fr τ [(36, 0)] σ0 σ0 := Fr.rf
  have J2 : ∀ (k2 : Nat) (σ_2 : Nat → va_E) (z2_1 : Int), (2147483648 - z2_1).toNat ≤ k2 → Good K τ σ_2 → Fr τ [(36, 0)] σ0 σ_2 → (0 ≤ z2_1 ∧ z2_1 ≤ 2) → V p l e R s m args below meth c 2 D A Q (0, 0) (fd dom σ_2) [(0, .ref h), (1, .int (iI z2_1))] 2 [] := by
    intro k2
    induction k2 with
    | zero => intro σ_2 z2_1 m2 G_2 F_2 r2_1; omega
    | succ k2 IH2 =>
      intro σ_2 z2_1 m2 G_2 F_2 r2_1
      have J39 : ∀ (σ_39 : Nat → va_E), Good K τ σ_39 → Fr τ [(36, 0)] σ0 σ_39 → (0 ≤ z2_1 ∧ z2_1 ≤ 1) → V p l e R s m args below meth c 2 D A Q (0, 0) (fd dom σ_39) [(0, .ref h), (1, .int (iI z2_1))] 39 [] := by
        intro σ_39 G_39 F_39 r39_1
        refine v_iinc B (k := 1) (v := iI (z2_1 + 1)) (lv' := [(1, .int (iI (z2_1 + 1))), (0, .ref h)]) dX11_beginEvents_39 rfl ((iI_add _ _).trans (congrArg iI (by omega))) (by decide +kernel) rfl ?_
        refine v_goto B (tgt := 2) dX11_beginEvents_42 (by decide +kernel) ?_
        refine v_lv [1, 0] rfl ?_
        exact IH2 σ_39 (z2_1 + 1) (by omega) G_39 F_39 ⟨by omega, by omega⟩
      refine v_iload_n B dX11_beginEvents_2 rfl rfl ?_
      refine v_aload_n B dX11_beginEvents_3 rfl rfl ?_
      obtain ⟨a1, a2, a3, a4, z5, h6, t7, t8, t9, t10, r11⟩ : okLow τ (σ_2 h) := G_2 h _ t_h
      refine u_get B Z (C := RX11) (T := TX11) (N := 5) (ci := 11) hi_Low_beginEvents_X11 t_h h6 rfl 0 (by decide +kernel) (List.mem_of_getElem? (i := 1) rfl) rfl dX11_beginEvents_4 ?_
      obtain ⟨f12, h13, e14⟩ : okDV K τ 2 (σ_2 a1) := G_2 a1 _ t7
      refine u_alen B Z (t0 := 5) (v := 2) t7 h13 rfl (by first | rfl | omega) dX11_beginEvents_7 ?_
      refine u_icmp_ge B (tgt := 45) (by omega) (by omega) dX11_beginEvents_8 (by decide +kernel) (fun c15 => ?_) (fun c15 => ?_)
      · exact hend σ_2 _ _ G_2 F_2 dX11_beginEvents_45
      · refine v_aload_n B dX11_beginEvents_11 rfl rfl ?_
        refine u_get B Z (C := RX11) (T := TX11) (N := 5) (ci := 11) hi_Low_beginEvents_X11 t_h h6 rfl 0 (by decide +kernel) (List.mem_of_getElem? (i := 1) rfl) rfl dX11_beginEvents_12 ?_
        refine v_iload_n B dX11_beginEvents_15 rfl rfl ?_
        obtain ⟨a16, e17, t18⟩ := e14 (z2_1 : Int).toNat (by omega)
        refine u_aald B Z (t0 := 5) (v := .ref a16) t7 h13 rfl (by omega) (by rw [e17]; rfl) dX11_beginEvents_16 ?_
        refine v_aload_n B dX11_beginEvents_17 rfl rfl ?_
        refine u_get B Z (C := RX11) (T := TX11) (N := 5) (ci := 11) hi_Low_beginEvents_X11 t_h h6 rfl 4 (by decide +kernel) (List.mem_of_getElem? (i := 2) rfl) rfl dX11_beginEvents_18 ?_
        refine u_callVi B Z hz (n := 1) (As := [.int (iI z5)]) (rest := []) (c_Device_hasEventAt l D K Z _ _ _ _ a16 z5 t18 ⟨by omega, by omega⟩ σ_2 G_2) gd_Low_beginEvents_Device_hasEventAt_483 rfl rfl rfl (by decide +kernel) ⟨Nat.le_trans (by decide +kernel) hR.1, Nat.le_trans (by decide +kernel) hR.2⟩ t18 (cls_Device G_2 t18) rfl rfl rfl rfl (Nat.le_of_ble_eq_true rfl) dX11_beginEvents_21 ⟨Nat.zero_le _, Nat.zero_le _⟩ (fun v21 σ19 p20 => ?_)
        obtain ⟨rfl, z25, e26, r27⟩ := p20
        subst e26
        refine u_if_eq B (tgt := 39) (by omega) dX11_beginEvents_24 (by decide +kernel) (fun c28 => ?_) (fun c28 => ?_)
        · exact J39 σ_2 G_2 F_2 ⟨by omega, by omega⟩
        · refine v_aload_n B dX11_beginEvents_27 rfl rfl ?_
          refine u_get B Z (C := RX11) (T := TX11) (N := 5) (ci := 11) hi_Low_beginEvents_X11 t_h h6 rfl 0 (by decide +kernel) (List.mem_of_getElem? (i := 1) rfl) rfl dX11_beginEvents_28 ?_
          refine v_iload_n B dX11_beginEvents_31 rfl rfl ?_
          obtain ⟨a29, e30, t31⟩ := e14 (z2_1 : Int).toNat (by omega)
          refine u_aald B Z (t0 := 5) (v := .ref a29) t7 h13 rfl (by omega) (by rw [e30]; rfl) dX11_beginEvents_32 ?_
          obtain ⟨z32, yy33, z34, z35, z36, z37, a38, z39, yy40, a41, yy42, a43, a44, a45, a46, a47, a48, a49, a50, h51, r52, r53, r54, r55, r56, r57, t58, r59, r60, t61, r62, t63, t64, t65, t66, t67, t68, t69, t70⟩ : okDevice τ (σ_2 a29) := G_2 a29 _ t31
          refine u_getN B Z (C := RX3) (T := TX3) (N := 19) (ci := 3) hi_Low_beginEvents_X3 t31 h51 rfl 11 (by decide +kernel) (List.mem_of_getElem? (i := 69) rfl) rfl dX11_beginEvents_33 ?_
          refine u_callVv B Z hz (n := 0) (As := []) (rest := []) (c_Link_hopOn l D K Z _ _ _ _ a43 t63 σ_2 G_2) gd_Low_beginEvents_Link_hopOn_487 rfl rfl rfl (by decide +kernel) ⟨Nat.le_trans (by decide +kernel) hR.1, Nat.le_trans (by decide +kernel) hR.2⟩ t63 (cls_Link G_2 t63) rfl rfl rfl rfl (Nat.le_of_ble_eq_true rfl) dX11_beginEvents_36 ⟨Nat.zero_le _, Nat.zero_le _⟩ (fun σ71 p72 => ?_)
          obtain ⟨G74, F75⟩ := p72
          have F76 := F_2.call F75 (by first | rfl | simp)
          have h77 := (F75 h _ t_h (by first | rfl | simp)).trans h6
          have h78 := (F75 a1 _ t7 (by first | rfl | simp)).trans h13
          have h79 := (F75 a29 _ t31 (by first | rfl | simp)).trans h51
          exact J39 σ71 G74 F76 ⟨by omega, by omega⟩
  refine v_iconst B (v := iI 0) dX11_beginEvents_0 rfl ?_
  refine v_istore_n B (lv' := [(1, .int (iI 0)), (0, .ref h)]) dX11_beginEvents_1 rfl (by decide +kernel) rfl ?_
  refine v_lv [1, 0] rfl ?_
  exact J2 _ σ0 0 (Nat.le_refl _) G0 F0 ⟨by omega, by omega⟩
set_option maxRecDepth 100000 in
theorem c_Low_beginEvents (l : Launch) (D : va_G) (K : Nat → ClassId) {τ : Nat → Option Ty} {dom : List Nat} (Z : Sk τ dom) (zb zL : Nat) (zx : Nat → Int32) (zs : Nat → Nat) (h : Nat) (t_h : τ h = some (41, 0, 0)) (σ0 : Nat → va_E) (G0 : Good K τ σ0) : MZ l yX11_beginEvents wp_Low_beginEvents ({ frames := 3, cells := 0, slots := 0, locals := 66 }) D (tysA K) [.ref h] (fd dom σ0) zb zL zx zs (Qv D (fun σ' => Good K τ σ' ∧ Fr τ [(36, 0)] σ0 σ') (fun σ' => fd dom σ')) 0 0 := by
  refine mz_of (cc := cX11_beginEvents) (maxL := 2) (ret := none) (by decide +kernel) rfl (Nat.le_of_ble_eq_true rfl) ?_
  intro p e s m below meth c A B hr hlk _ hz
  exact b_Low_beginEvents ⟨Nat.le_refl _, Nat.le_refl _⟩ B Z hz h t_h σ0 G0 (fun σ' lv pc G F hd => v_vret B hr hlk σ' ⟨G, F⟩ rfl (Nat.le_refl _) (Nat.le_refl _) hd)

def wp_Low_endEvents : List Cond := .code yX11_endEvents cX11_endEvents 2 none :: (([.fieldLink RX11 9 "LowEnergy" "devices" "[LLowEnergy$Device;", .fieldLink RX11 65 "LowEnergy" "now" "I", .methodLink RX11 483 yX3_hasEventAt, .instanceMethod yX3_hasEventAt, .selects RX3 yX3_hasEventAt yX3_hasEventAt, .initialized RX3, .code yX3_hasEventAt cX3_hasEventAt 2 (some .boolean), .methodLink RX3 96 yX3_inLink, .instanceMethod yX3_inLink, .selects RX3 yX3_inLink yX3_inLink, .code yX3_inLink cX3_inLink 1 (some .boolean), .fieldLink RX3 93 "LowEnergy$Device" "state" "I", .fieldLink RX3 26 "LowEnergy$Device" "link" "LLowEnergy$Link;", .methodLink RX11 490 yX6_pass, .instanceMethod yX6_pass, .selects RX6 yX6_pass yX6_pass, .initialized RX6, .code yX6_pass cX6_pass 1 none, .fieldLink RX6 54 "LowEnergy$Link" "event" "I", .constant RX6 75 (65535), .fieldLink RX6 44 "LowEnergy$Link" "anchor" "I", .fieldLink RX6 31 "LowEnergy$Link" "interval" "I"] : List Cond) ++ (wsX110 ++ (wsX30 ++ (wsX60 ++ ([])))))
theorem hi_Low_endEvents_X11 : ∀ x ∈ u_ws RX11 TX11 5, x ∈ wp_Low_endEvents := fun _ h => List.mem_cons_of_mem _ (List.mem_append_right _ (List.mem_append_left _ h))
theorem hi_Low_endEvents_X3 : ∀ x ∈ u_ws RX3 TX3 19, x ∈ wp_Low_endEvents := fun _ h => List.mem_cons_of_mem _ (List.mem_append_right _ (List.mem_append_right _ (List.mem_append_left _ h)))
theorem hi_Low_endEvents_X6 : ∀ x ∈ u_ws RX6 TX6 20, x ∈ wp_Low_endEvents := fun _ h => List.mem_cons_of_mem _ (List.mem_append_right _ (List.mem_append_right _ (List.mem_append_right _ (List.mem_append_left _ h))))
set_option maxRecDepth 100000 in
theorem gd_Low_endEvents_Device_hasEventAt_483 : GoodIn wp_Low_endEvents (wsV RX11 483 RX3 yX3_hasEventAt wp_Device_hasEventAt) := goodIn_app (goodIn_r _ [3, 4, 5, 6] rfl rfl) (goodIn_ca (goodIn_r _ [7, 8, 9, 10, 6, 11, 12, 13] rfl rfl) (goodIn_app (goodIn_cls hi_Low_endEvents_X3 gw_X3) (goodIn_app (goodIn_cls hi_Low_endEvents_X6 gw_X6) (goodIn_nil))))
set_option maxRecDepth 100000 in
theorem gd_Low_endEvents_Link_pass_490 : GoodIn wp_Low_endEvents (wsV RX11 490 RX6 yX6_pass wp_Link_pass) := goodIn_app (goodIn_r _ [14, 15, 16, 17] rfl rfl) (goodIn_ca (goodIn_r _ [18, 19, 20, 21, 22] rfl rfl) (goodIn_app (goodIn_cls hi_Low_endEvents_X6 gw_X6) (goodIn_nil)))
set_option maxHeartbeats 4000000 in
set_option maxRecDepth 100000 in
theorem b_Low_endEvents {p : Program} {l : Launch} {e : Env} {R : Room} {s : State} {m : MethodId} {args : Array Value} {below : List Frame} {meth : Method} {c : Code} {D : va_G} {K : Nat → ClassId} {A : Nat → Prop} {Q : State → Prop} {τ : Nat → Option Ty} {dom : List Nat} {zb zL : Nat} {zx : Nat → Int32} {zs : Nat → Nat} (hR : 2 ≤ R.frames ∧ 41 ≤ R.locals) (B : Bx p s m args c cX11_endEvents 2 RX11 wp_Low_endEvents D (tysA K) A) (Z : Sk τ dom) (hz : ZL zb zL zx zs A s s.heap) (h : Nat) (t_h : τ h = some (41, 0, 0)) (σ0 : Nat → va_E) (G0 : Good K τ σ0) (hend : ∀ (σ' : Nat → va_E) (lv : List (Nat × Value)) (pc : Nat), Good K τ σ' → Fr τ [(36, 0)] σ0 σ' → decode cX11_endEvents pc = .ok (.return_, 1) → V p l e R s m args below meth c 2 D A Q (0, 0) (fd dom σ') lv pc []) : V p l e R s m args below meth c 2 D A Q (0, 0) (fd dom σ0) [(0, .ref h)] 0 [] := by
  have F0 : Fr τ [(36, 0)] σ0 σ0 := Fr.rf
  have J2 : ∀ (k2 : Nat) (σ_2 : Nat → va_E) (z2_1 : Int), (2147483648 - z2_1).toNat ≤ k2 → Good K τ σ_2 → Fr τ [(36, 0)] σ0 σ_2 → (0 ≤ z2_1 ∧ z2_1 ≤ 2) → V p l e R s m args below meth c 2 D A Q (0, 0) (fd dom σ_2) [(0, .ref h), (1, .int (iI z2_1))] 2 [] := by
    intro k2
    induction k2 with
    | zero => intro σ_2 z2_1 m2 G_2 F_2 r2_1; omega
    | succ k2 IH2 =>
      intro σ_2 z2_1 m2 G_2 F_2 r2_1
      have J39 : ∀ (σ_39 : Nat → va_E), Good K τ σ_39 → Fr τ [(36, 0)] σ0 σ_39 → (0 ≤ z2_1 ∧ z2_1 ≤ 1) → V p l e R s m args below meth c 2 D A Q (0, 0) (fd dom σ_39) [(0, .ref h), (1, .int (iI z2_1))] 39 [] := by
        intro σ_39 G_39 F_39 r39_1
        refine v_iinc B (k := 1) (v := iI (z2_1 + 1)) (lv' := [(1, .int (iI (z2_1 + 1))), (0, .ref h)]) dX11_endEvents_39 rfl ((iI_add _ _).trans (congrArg iI (by omega))) (by decide +kernel) rfl ?_
        refine v_goto B (tgt := 2) dX11_endEvents_42 (by decide +kernel) ?_
        refine v_lv [1, 0] rfl ?_
        exact IH2 σ_39 (z2_1 + 1) (by omega) G_39 F_39 ⟨by omega, by omega⟩
      refine v_iload_n B dX11_endEvents_2 rfl rfl ?_
      refine v_aload_n B dX11_endEvents_3 rfl rfl ?_
      obtain ⟨a1, a2, a3, a4, z5, h6, t7, t8, t9, t10, r11⟩ : okLow τ (σ_2 h) := G_2 h _ t_h
      refine u_get B Z (C := RX11) (T := TX11) (N := 5) (ci := 11) hi_Low_endEvents_X11 t_h h6 rfl 0 (by decide +kernel) (List.mem_of_getElem? (i := 1) rfl) rfl dX11_endEvents_4 ?_
      obtain ⟨f12, h13, e14⟩ : okDV K τ 2 (σ_2 a1) := G_2 a1 _ t7
      refine u_alen B Z (t0 := 5) (v := 2) t7 h13 rfl (by first | rfl | omega) dX11_endEvents_7 ?_
      refine u_icmp_ge B (tgt := 45) (by omega) (by omega) dX11_endEvents_8 (by decide +kernel) (fun c15 => ?_) (fun c15 => ?_)
      · exact hend σ_2 _ _ G_2 F_2 dX11_endEvents_45
      · refine v_aload_n B dX11_endEvents_11 rfl rfl ?_
        refine u_get B Z (C := RX11) (T := TX11) (N := 5) (ci := 11) hi_Low_endEvents_X11 t_h h6 rfl 0 (by decide +kernel) (List.mem_of_getElem? (i := 1) rfl) rfl dX11_endEvents_12 ?_
        refine v_iload_n B dX11_endEvents_15 rfl rfl ?_
        obtain ⟨a16, e17, t18⟩ := e14 (z2_1 : Int).toNat (by omega)
        refine u_aald B Z (t0 := 5) (v := .ref a16) t7 h13 rfl (by omega) (by rw [e17]; rfl) dX11_endEvents_16 ?_
        refine v_aload_n B dX11_endEvents_17 rfl rfl ?_
        refine u_get B Z (C := RX11) (T := TX11) (N := 5) (ci := 11) hi_Low_endEvents_X11 t_h h6 rfl 4 (by decide +kernel) (List.mem_of_getElem? (i := 2) rfl) rfl dX11_endEvents_18 ?_
        refine u_callVi B Z hz (n := 1) (As := [.int (iI z5)]) (rest := []) (c_Device_hasEventAt l D K Z _ _ _ _ a16 z5 t18 ⟨by omega, by omega⟩ σ_2 G_2) gd_Low_endEvents_Device_hasEventAt_483 rfl rfl rfl (by decide +kernel) ⟨Nat.le_trans (by decide +kernel) hR.1, Nat.le_trans (by decide +kernel) hR.2⟩ t18 (cls_Device G_2 t18) rfl rfl rfl rfl (Nat.le_of_ble_eq_true rfl) dX11_endEvents_21 ⟨Nat.zero_le _, Nat.zero_le _⟩ (fun v21 σ19 p20 => ?_)
        obtain ⟨rfl, z25, e26, r27⟩ := p20
        subst e26
        refine u_if_eq B (tgt := 39) (by omega) dX11_endEvents_24 (by decide +kernel) (fun c28 => ?_) (fun c28 => ?_)
        · exact J39 σ_2 G_2 F_2 ⟨by omega, by omega⟩
        · refine v_aload_n B dX11_endEvents_27 rfl rfl ?_
          refine u_get B Z (C := RX11) (T := TX11) (N := 5) (ci := 11) hi_Low_endEvents_X11 t_h h6 rfl 0 (by decide +kernel) (List.mem_of_getElem? (i := 1) rfl) rfl dX11_endEvents_28 ?_
          refine v_iload_n B dX11_endEvents_31 rfl rfl ?_
          obtain ⟨a29, e30, t31⟩ := e14 (z2_1 : Int).toNat (by omega)
          refine u_aald B Z (t0 := 5) (v := .ref a29) t7 h13 rfl (by omega) (by rw [e30]; rfl) dX11_endEvents_32 ?_
          obtain ⟨z32, yy33, z34, z35, z36, z37, a38, z39, yy40, a41, yy42, a43, a44, a45, a46, a47, a48, a49, a50, h51, r52, r53, r54, r55, r56, r57, t58, r59, r60, t61, r62, t63, t64, t65, t66, t67, t68, t69, t70⟩ : okDevice τ (σ_2 a29) := G_2 a29 _ t31
          refine u_getN B Z (C := RX3) (T := TX3) (N := 19) (ci := 3) hi_Low_endEvents_X3 t31 h51 rfl 11 (by decide +kernel) (List.mem_of_getElem? (i := 69) rfl) rfl dX11_endEvents_33 ?_
          refine u_callVv B Z hz (n := 0) (As := []) (rest := []) (c_Link_pass l D K Z _ _ _ _ a43 t63 σ_2 G_2) gd_Low_endEvents_Link_pass_490 rfl rfl rfl (by decide +kernel) ⟨Nat.le_trans (by decide +kernel) hR.1, Nat.le_trans (by decide +kernel) hR.2⟩ t63 (cls_Link G_2 t63) rfl rfl rfl rfl (Nat.le_of_ble_eq_true rfl) dX11_endEvents_36 ⟨Nat.zero_le _, Nat.zero_le _⟩ (fun σ71 p72 => ?_)
          obtain ⟨G74, F75⟩ := p72
          have F76 := F_2.call F75 (by first | rfl | simp)
          have h77 := (F75 h _ t_h (by first | rfl | simp)).trans h6
          have h78 := (F75 a1 _ t7 (by first | rfl | simp)).trans h13
          have h79 := (F75 a29 _ t31 (by first | rfl | simp)).trans h51
          exact J39 σ71 G74 F76 ⟨by omega, by omega⟩
  refine v_iconst B (v := iI 0) dX11_endEvents_0 rfl ?_
  refine v_istore_n B (lv' := [(1, .int (iI 0)), (0, .ref h)]) dX11_endEvents_1 rfl (by decide +kernel) rfl ?_
  refine v_lv [1, 0] rfl ?_
  exact J2 _ σ0 0 (Nat.le_refl _) G0 F0 ⟨by omega, by omega⟩
set_option maxRecDepth 100000 in
theorem c_Low_endEvents (l : Launch) (D : va_G) (K : Nat → ClassId) {τ : Nat → Option Ty} {dom : List Nat} (Z : Sk τ dom) (zb zL : Nat) (zx : Nat → Int32) (zs : Nat → Nat) (h : Nat) (t_h : τ h = some (41, 0, 0)) (σ0 : Nat → va_E) (G0 : Good K τ σ0) : MZ l yX11_endEvents wp_Low_endEvents ({ frames := 2, cells := 0, slots := 0, locals := 41 }) D (tysA K) [.ref h] (fd dom σ0) zb zL zx zs (Qv D (fun σ' => Good K τ σ' ∧ Fr τ [(36, 0)] σ0 σ') (fun σ' => fd dom σ')) 0 0 := by
  refine mz_of (cc := cX11_endEvents) (maxL := 2) (ret := none) (by decide +kernel) rfl (Nat.le_of_ble_eq_true rfl) ?_
  intro p e s m below meth c A B hr hlk _ hz
  exact b_Low_endEvents ⟨Nat.le_refl _, Nat.le_refl _⟩ B Z hz h t_h σ0 G0 (fun σ' lv pc G F hd => v_vret B hr hlk σ' ⟨G, F⟩ rfl (Nat.le_refl _) (Nat.le_refl _) hd)

def wp_Low_endLinks : List Cond := .code yX11_endLinks cX11_endLinks 4 none :: (([.methodLink RX11 496 yX3_disconnect, .instanceMethod yX3_disconnect, .selects RX3 yX3_disconnect yX3_disconnect, .initialized RX3, .code yX3_disconnect cX3_disconnect 2 none, .fieldLink RX3 93 "LowEnergy$Device" "state" "I", .fieldLink RX3 26 "LowEnergy$Device" "link" "LLowEnergy$Link;", .methodLink RX3 184 yX6_reset, .instanceMethod yX6_reset, .selects RX6 yX6_reset yX6_reset, .initialized RX6, .code yX6_reset cX6_reset 1 none, .fieldLink RX6 50 "LowEnergy$Link" "mapWaits" "Z", .fieldLink RX6 54 "LowEnergy$Link" "event" "I", .fieldLink RX6 57 "LowEnergy$Link" "u" "I", .fieldLink RX6 9 "LowEnergy$Link" "channel" "I", .fieldLink RX6 60 "LowEnergy$Link" "heardGood" "Z", .fieldLink RX6 63 "LowEnergy$Link" "sn" "I", .fieldLink RX6 66 "LowEnergy$Link" "nesn" "I", .fieldLink RX6 15 "LowEnergy$Link" "reason" "I", .fieldLink RX6 18 "LowEnergy$Link" "laterReason" "I", .fieldLink RX3 33 "LowEnergy$Device" "mail" "LLowEnergy$Mail;", .methodLink RX3 187 yX7_reset, .instanceMethod yX7_reset, .selects RX7 yX7_reset yX7_reset, .initialized RX7, .code yX7_reset cX7_reset 1 none, .methodLink RX7 36 yX7_dropCurrent, .instanceMethod yX7_dropCurrent, .selects RX7 yX7_dropCurrent yX7_dropCurrent, .code yX7_dropCurrent cX7_dropCurrent 1 none, .fieldLink RX7 14 "LowEnergy$Mail" "current" "LLowEnergy$Row;", .methodLink RX7 62 yX9_clear, .instanceMethod yX9_clear, .selects RX9 yX9_clear yX9_clear, .initialized RX9, .code yX9_clear cX9_clear 1 none, .fieldLink RX9 21 "LowEnergy$Row" "size" "I", .fieldLink RX7 65 "LowEnergy$Mail" "sort" "I", .fieldLink RX7 68 "LowEnergy$Mail" "currentOp" "I", .fieldLink RX7 39 "LowEnergy$Mail" "controlHead" "I", .fieldLink RX7 43 "LowEnergy$Mail" "controlCount" "I", .fieldLink RX7 46 "LowEnergy$Mail" "versionSent" "Z", .fieldLink RX7 50 "LowEnergy$Mail" "messageHead" "I", .fieldLink RX7 53 "LowEnergy$Mail" "messageCount" "I", .fieldLink RX7 56 "LowEnergy$Mail" "placed" "I", .fieldLink RX7 59 "LowEnergy$Mail" "begun" "Z", .fieldLink RX3 77 "LowEnergy$Device" "guard" "LLowEnergy$Guard;", .methodLink RX3 188 yX5_reset, .instanceMethod yX5_reset, .selects RX5 yX5_reset yX5_reset, .initialized RX5, .code yX5_reset cX5_reset 1 none, .fieldLink RX5 32 "LowEnergy$Guard" "hasSession" "Z", .fieldLink RX5 36 "LowEnergy$Guard" "asked" "Z", .fieldLink RX5 39 "LowEnergy$Guard" "held" "Z", .fieldLink RX5 42 "LowEnergy$Guard" "secure" "Z", .fieldLink RX5 45 "LowEnergy$Guard" "sends" "Z", .fieldLink RX5 48 "LowEnergy$Guard" "comes" "Z", .fieldLink RX5 51 "LowEnergy$Guard" "sent" "I", .fieldLink RX5 55 "LowEnergy$Guard" "opened" "I", .fieldLink RX3 84 "LowEnergy$Device" "pairing" "LLowEnergy$Pairing;", .fieldLink RX3 40 "LowEnergy$Device" "server" "LLowEnergy$Server;", .methodLink RX3 192 yX10_leaveLink, .instanceMethod yX10_leaveLink, .selects RX10 yX10_leaveLink yX10_leaveLink, .initialized RX10, .code yX10_leaveLink cX10_leaveLink 1 none, .fieldLink RX10 28 "LowEnergy$Server" "linkMtu" "I", .fieldLink RX10 40 "LowEnergy$Server" "partCount" "I", .fieldLink RX10 43 "LowEnergy$Server" "waitsForConfirmation" "Z", .fieldLink RX3 47 "LowEnergy$Device" "client" "LLowEnergy$Client;", .fieldLink RX3 54 "LowEnergy$Device" "diary" "LLowEnergy$Diary;", .methodLink RX3 157 yX4_note, .instanceMethod yX4_note, .selects RX4 yX4_note yX4_note, .initialized RX4, .code yX4_note cX4_note 6 none, .fieldLink RX4 29 "LowEnergy$Diary" "count" "I", .fieldLink RX4 36 "LowEnergy$Diary" "head" "I", .fieldLink RX4 11 "LowEnergy$Diary" "kinds" "[I", .fieldLink RX4 17 "LowEnergy$Diary" "numbers" "[[I", .fieldLink RX4 22 "LowEnergy$Diary" "rows" "[LLowEnergy$Row;", .methodLink RX4 39 yX9_clear, .fieldLink RX4 33 "LowEnergy$Diary" "lost" "I", .fieldLink RX11 9 "LowEnergy" "devices" "[LLowEnergy$Device;", .methodLink RX11 99 yX3_inLink, .instanceMethod yX3_inLink, .selects RX3 yX3_inLink yX3_inLink, .code yX3_inLink cX3_inLink 1 (some .boolean), .fieldLink RX11 65 "LowEnergy" "now" "I", .methodLink RX11 493 yX6_reasonToEnd, .instanceMethod yX6_reasonToEnd, .selects RX6 yX6_reasonToEnd yX6_reasonToEnd, .code yX6_reasonToEnd cX6_reasonToEnd 3 (some .int), .fieldLink RX6 47 "LowEnergy$Link" "heardAt" "I", .fieldLink RX6 31 "LowEnergy$Link" "interval" "I", .fieldLink RX6 34 "LowEnergy$Link" "timeout" "I"] : List Cond) ++ (wsX30 ++ (wsX60 ++ (wsX70 ++ (wsX90 ++ (wsX50 ++ (wsX80 ++ (wsX100 ++ (wsX20 ++ (wsX40 ++ (wsX110 ++ ([]))))))))))))
theorem hi_Low_endLinks_X3 : ∀ x ∈ u_ws RX3 TX3 19, x ∈ wp_Low_endLinks := fun _ h => List.mem_cons_of_mem _ (List.mem_append_right _ (List.mem_append_left _ h))
theorem hi_Low_endLinks_X6 : ∀ x ∈ u_ws RX6 TX6 20, x ∈ wp_Low_endLinks := fun _ h => List.mem_cons_of_mem _ (List.mem_append_right _ (List.mem_append_right _ (List.mem_append_left _ h)))
theorem hi_Low_endLinks_X7 : ∀ x ∈ u_ws RX7 TX7 16, x ∈ wp_Low_endLinks := fun _ h => List.mem_cons_of_mem _ (List.mem_append_right _ (List.mem_append_right _ (List.mem_append_right _ (List.mem_append_left _ h))))
theorem hi_Low_endLinks_X9 : ∀ x ∈ u_ws RX9 TX9 2, x ∈ wp_Low_endLinks := fun _ h => List.mem_cons_of_mem _ (List.mem_append_right _ (List.mem_append_right _ (List.mem_append_right _ (List.mem_append_right _ (List.mem_append_left _ h)))))
theorem hi_Low_endLinks_X5 : ∀ x ∈ u_ws RX5 TX5 16, x ∈ wp_Low_endLinks := fun _ h => List.mem_cons_of_mem _ (List.mem_append_right _ (List.mem_append_right _ (List.mem_append_right _ (List.mem_append_right _ (List.mem_append_right _ (List.mem_append_left _ h))))))
theorem hi_Low_endLinks_X8 : ∀ x ∈ u_ws RX8 TX8 8, x ∈ wp_Low_endLinks := fun _ h => List.mem_cons_of_mem _ (List.mem_append_right _ (List.mem_append_right _ (List.mem_append_right _ (List.mem_append_right _ (List.mem_append_right _ (List.mem_append_right _ (List.mem_append_left _ h)))))))
theorem hi_Low_endLinks_X10 : ∀ x ∈ u_ws RX10 TX10 10, x ∈ wp_Low_endLinks := fun _ h => List.mem_cons_of_mem _ (List.mem_append_right _ (List.mem_append_right _ (List.mem_append_right _ (List.mem_append_right _ (List.mem_append_right _ (List.mem_append_right _ (List.mem_append_right _ (List.mem_append_left _ h))))))))
theorem hi_Low_endLinks_X2 : ∀ x ∈ u_ws RX2 TX2 6, x ∈ wp_Low_endLinks := fun _ h => List.mem_cons_of_mem _ (List.mem_append_right _ (List.mem_append_right _ (List.mem_append_right _ (List.mem_append_right _ (List.mem_append_right _ (List.mem_append_right _ (List.mem_append_right _ (List.mem_append_right _ (List.mem_append_left _ h)))))))))
theorem hi_Low_endLinks_X4 : ∀ x ∈ u_ws RX4 TX4 6, x ∈ wp_Low_endLinks := fun _ h => List.mem_cons_of_mem _ (List.mem_append_right _ (List.mem_append_right _ (List.mem_append_right _ (List.mem_append_right _ (List.mem_append_right _ (List.mem_append_right _ (List.mem_append_right _ (List.mem_append_right _ (List.mem_append_right _ (List.mem_append_left _ h))))))))))
theorem hi_Low_endLinks_X11 : ∀ x ∈ u_ws RX11 TX11 5, x ∈ wp_Low_endLinks := fun _ h => List.mem_cons_of_mem _ (List.mem_append_right _ (List.mem_append_right _ (List.mem_append_right _ (List.mem_append_right _ (List.mem_append_right _ (List.mem_append_right _ (List.mem_append_right _ (List.mem_append_right _ (List.mem_append_right _ (List.mem_append_right _ (List.mem_append_left _ h)))))))))))
set_option maxRecDepth 100000 in
theorem gd_Low_endLinks_Device_disconnect_496 : GoodIn wp_Low_endLinks (wsV RX11 496 RX3 yX3_disconnect wp_Device_disconnect) := goodIn_app (goodIn_r _ [1, 2, 3, 4] rfl rfl) (goodIn_ca (goodIn_r _ [5, 6, 7, 8, 9, 10, 11, 12, 13, 14, 15, 16, 17, 18, 19, 20, 21, 22, 23, 24, 25, 26, 27, 28, 29, 30, 31, 32, 33, 34, 35, 36, 37, 38, 39, 40, 41, 42, 43, 44, 45, 46, 47, 48, 49, 50, 51, 52, 53, 54, 55, 56, 57, 58, 59, 60, 61, 62, 63, 64, 65, 66, 67, 68, 69, 70, 71, 72, 73, 74, 75, 76, 77, 78, 79, 80, 81, 82, 83, 84, 85] rfl rfl) (goodIn_app (goodIn_cls hi_Low_endLinks_X3 gw_X3) (goodIn_app (goodIn_cls hi_Low_endLinks_X6 gw_X6) (goodIn_app (goodIn_cls hi_Low_endLinks_X7 gw_X7) (goodIn_app (goodIn_cls hi_Low_endLinks_X9 gw_X9) (goodIn_app (goodIn_cls hi_Low_endLinks_X5 gw_X5) (goodIn_app (goodIn_cls hi_Low_endLinks_X8 gw_X8) (goodIn_app (goodIn_cls hi_Low_endLinks_X10 gw_X10) (goodIn_app (goodIn_cls hi_Low_endLinks_X2 gw_X2) (goodIn_app (goodIn_cls hi_Low_endLinks_X4 gw_X4) (goodIn_nil)))))))))))
set_option maxRecDepth 100000 in
theorem gd_Low_endLinks_Device_inLink_99 : GoodIn wp_Low_endLinks (wsV RX11 99 RX3 yX3_inLink wp_Device_inLink) := goodIn_app (goodIn_r _ [87, 88, 89, 4] rfl rfl) (goodIn_ca (goodIn_r _ [90, 6] rfl rfl) (goodIn_app (goodIn_cls hi_Low_endLinks_X3 gw_X3) (goodIn_nil)))
set_option maxRecDepth 100000 in
theorem gd_Low_endLinks_Link_reasonToEnd_493 : GoodIn wp_Low_endLinks (wsV RX11 493 RX6 yX6_reasonToEnd wp_Link_reasonToEnd) := goodIn_app (goodIn_r _ [92, 93, 94, 11] rfl rfl) (goodIn_ca (goodIn_r _ [95, 20, 96, 17, 97, 98] rfl rfl) (goodIn_app (goodIn_cls hi_Low_endLinks_X6 gw_X6) (goodIn_nil)))
set_option maxHeartbeats 4000000 in
set_option maxRecDepth 100000 in
theorem b_Low_endLinks {p : Program} {l : Launch} {e : Env} {R : Room} {s : State} {m : MethodId} {args : Array Value} {below : List Frame} {meth : Method} {c : Code} {D : va_G} {K : Nat → ClassId} {A : Nat → Prop} {Q : State → Prop} {τ : Nat → Option Ty} {dom : List Nat} {zb zL : Nat} {zx : Nat → Int32} {zs : Nat → Nat} (hR : 4 ≤ R.frames ∧ 81 ≤ R.locals) (B : Bx p s m args c cX11_endLinks 4 RX11 wp_Low_endLinks D (tysA K) A) (Z : Sk τ dom) (hz : ZL zb zL zx zs A s s.heap) (h : Nat) (t_h : τ h = some (41, 0, 0)) (σ0 : Nat → va_E) (G0 : Good K τ σ0) (hend : ∀ (σ' : Nat → va_E) (lv : List (Nat × Value)) (pc : Nat), Good K τ σ' → Fr τ [(33, 0), (36, 0), (1, 2), (37, 0), (35, 0), (38, 0), (40, 0), (32, 0), (3, 23), (3, 22), (1, 16), (34, 0)] σ0 σ' → decode cX11_endLinks pc = .ok (.return_, 1) → V p l e R s m args below meth c 4 D A Q (0, 0) (fd dom σ') lv pc []) : V p l e R s m args below meth c 4 D A Q (0, 0) (fd dom σ0) [(0, .ref h)] 0 [] := by
  have F0 : Fr τ [(33, 0), (36, 0), (1, 2), (37, 0), (35, 0), (38, 0), (40, 0), (32, 0), (3, 23), (3, 22), (1, 16), (34, 0)] σ0 σ0 := Fr.rf
  have J2 : ∀ (k2 : Nat) (σ_2 : Nat → va_E) (z2_1 : Int), (2147483648 - z2_1).toNat ≤ k2 → Good K τ σ_2 → Fr τ [(33, 0), (36, 0), (1, 2), (37, 0), (35, 0), (38, 0), (40, 0), (32, 0), (3, 23), (3, 22), (1, 16), (34, 0)] σ0 σ_2 → (0 ≤ z2_1 ∧ z2_1 ≤ 2) → V p l e R s m args below meth c 4 D A Q (0, 0) (fd dom σ_2) [(0, .ref h), (1, .int (iI z2_1))] 2 [] := by
    intro k2
    induction k2 with
    | zero => intro σ_2 z2_1 m2 G_2 F_2 r2_1; omega
    | succ k2 IH2 =>
      intro σ_2 z2_1 m2 G_2 F_2 r2_1
      have J51 : ∀ (σ_51 : Nat → va_E), Good K τ σ_51 → Fr τ [(33, 0), (36, 0), (1, 2), (37, 0), (35, 0), (38, 0), (40, 0), (32, 0), (3, 23), (3, 22), (1, 16), (34, 0)] σ0 σ_51 → (0 ≤ z2_1 ∧ z2_1 ≤ 1) → V p l e R s m args below meth c 4 D A Q (0, 0) (fd dom σ_51) [(0, .ref h), (1, .int (iI z2_1))] 51 [] := by
        intro σ_51 G_51 F_51 r51_1
        refine v_iinc B (k := 1) (v := iI (z2_1 + 1)) (lv' := [(1, .int (iI (z2_1 + 1))), (0, .ref h)]) dX11_endLinks_51 rfl ((iI_add _ _).trans (congrArg iI (by omega))) (by decide +kernel) rfl ?_
        refine v_goto B (tgt := 2) dX11_endLinks_54 (by decide +kernel) ?_
        refine v_lv [1, 0] rfl ?_
        exact IH2 σ_51 (z2_1 + 1) (by omega) G_51 F_51 ⟨by omega, by omega⟩
      have J40 : ∀ (a40_2 : Nat) (z40_s0 : Int), (0 ≤ z2_1 ∧ z2_1 ≤ 1) → (τ a40_2 = some (33, 0, 0)) → (-2147483648 ≤ z40_s0 ∧ z40_s0 ≤ 2147483647) → V p l e R s m args below meth c 4 D A Q (0, 0) (fd dom σ_2) [(0, .ref h), (1, .int (iI z2_1)), (2, .ref a40_2)] 40 [.int (iI z40_s0)] := by
        intro a40_2 z40_s0 r40_1 t40_2 r40_s0
        refine v_istore_n B (lv' := [(3, .int (iI z40_s0)), (0, .ref h), (1, .int (iI z2_1)), (2, .ref a40_2)]) dX11_endLinks_40 rfl (by decide +kernel) rfl ?_
        refine v_iload_n B dX11_endLinks_41 rfl rfl ?_
        refine v_iconst B (v := iI (-1)) dX11_endLinks_42 rfl ?_
        refine u_icmp_eq B (tgt := 51) (by omega) (by omega) dX11_endLinks_43 (by decide +kernel) (fun c1 => ?_) (fun c1 => ?_)
        · refine v_lv [1, 2] rfl ?_
          exact J51 σ_2 G_2 F_2 ⟨by omega, by omega⟩
        · refine v_aload_n B dX11_endLinks_46 rfl rfl ?_
          refine v_iload_n B dX11_endLinks_47 rfl rfl ?_
          refine u_callVv B Z hz (n := 1) (As := [.int (iI z40_s0)]) (rest := []) (c_Device_disconnect l D K Z _ _ _ _ a40_2 z40_s0 t40_2 ⟨by omega, by omega⟩ σ_2 G_2) gd_Low_endLinks_Device_disconnect_496 rfl rfl rfl (by decide +kernel) ⟨Nat.le_trans (by decide +kernel) hR.1, Nat.le_trans (by decide +kernel) hR.2⟩ t40_2 (cls_Device G_2 t40_2) rfl rfl rfl rfl (Nat.le_of_ble_eq_true rfl) dX11_endLinks_48 ⟨Nat.zero_le _, Nat.zero_le _⟩ (fun σ2 p3 => ?_)
          obtain ⟨G5, F6⟩ := p3
          have F7 := F_2.call F6 (by first | rfl | simp)
          refine v_lv [1, 2] rfl ?_
          exact J51 σ2 G5 F7 ⟨by omega, by omega⟩
      refine v_iload_n B dX11_endLinks_2 rfl rfl ?_
      refine v_aload_n B dX11_endLinks_3 rfl rfl ?_
      obtain ⟨a8, a9, a10, a11, z12, h13, t14, t15, t16, t17, r18⟩ : okLow τ (σ_2 h) := G_2 h _ t_h
      refine u_get B Z (C := RX11) (T := TX11) (N := 5) (ci := 11) hi_Low_endLinks_X11 t_h h13 rfl 0 (by decide +kernel) (List.mem_of_getElem? (i := 86) rfl) rfl dX11_endLinks_4 ?_
      obtain ⟨f19, h20, e21⟩ : okDV K τ 2 (σ_2 a8) := G_2 a8 _ t14
      refine u_alen B Z (t0 := 5) (v := 2) t14 h20 rfl (by first | rfl | omega) dX11_endLinks_7 ?_
      refine u_icmp_ge B (tgt := 57) (by omega) (by omega) dX11_endLinks_8 (by decide +kernel) (fun c22 => ?_) (fun c22 => ?_)
      · exact hend σ_2 _ _ G_2 F_2 dX11_endLinks_57
      · refine v_aload_n B dX11_endLinks_11 rfl rfl ?_
        refine u_get B Z (C := RX11) (T := TX11) (N := 5) (ci := 11) hi_Low_endLinks_X11 t_h h13 rfl 0 (by decide +kernel) (List.mem_of_getElem? (i := 86) rfl) rfl dX11_endLinks_12 ?_
        refine v_iload_n B dX11_endLinks_15 rfl rfl ?_
        obtain ⟨a23, e24, t25⟩ := e21 (z2_1 : Int).toNat (by omega)
        refine u_aald B Z (t0 := 5) (v := .ref a23) t14 h20 rfl (by omega) (by rw [e24]; rfl) dX11_endLinks_16 ?_
        refine v_astore_n B (lv' := [(2, .ref a23), (0, .ref h), (1, .int (iI z2_1))]) dX11_endLinks_17 rfl (by decide +kernel) rfl ?_
        refine v_aload_n B dX11_endLinks_18 rfl rfl ?_
        refine u_callVi B Z hz (n := 0) (As := []) (rest := []) (c_Device_inLink l D K Z _ _ _ _ a23 t25 σ_2 G_2) gd_Low_endLinks_Device_inLink_99 rfl rfl rfl (by decide +kernel) ⟨Nat.le_trans (by decide +kernel) hR.1, Nat.le_trans (by decide +kernel) hR.2⟩ t25 (cls_Device G_2 t25) rfl rfl rfl rfl (Nat.le_of_ble_eq_true rfl) dX11_endLinks_19 ⟨Nat.zero_le _, Nat.zero_le _⟩ (fun v28 σ26 p27 => ?_)
        obtain ⟨rfl, z32, e33, r34⟩ := p27
        subst e33
        refine u_if_eq B (tgt := 39) (by omega) dX11_endLinks_22 (by decide +kernel) (fun c35 => ?_) (fun c35 => ?_)
        · refine v_iconst B (v := iI (-1)) dX11_endLinks_39 rfl ?_
          refine v_lv [1, 2, 0] rfl ?_
          exact J40 a23 (-1) ⟨by omega, by omega⟩ t25 ⟨by omega, by omega⟩
        · refine v_aload_n B dX11_endLinks_25 rfl rfl ?_
          obtain ⟨z36, yy37, z38, z39, z40, z41, a42, z43, yy44, a45, yy46, a47, a48, a49, a50, a51, a52, a53, a54, h55, r56, r57, r58, r59, r60, r61, t62, r63, r64, t65, r66, t67, t68, t69, t70, t71, t72, t73, t74⟩ : okDevice τ (σ_2 a23) := G_2 a23 _ t25
          refine u_getN B Z (C := RX3) (T := TX3) (N := 19) (ci := 3) hi_Low_endLinks_X3 t25 h55 rfl 11 (by decide +kernel) (List.mem_of_getElem? (i := 69) rfl) rfl dX11_endLinks_26 ?_
          refine v_aload_n B dX11_endLinks_29 rfl rfl ?_
          refine u_get B Z (C := RX11) (T := TX11) (N := 5) (ci := 11) hi_Low_endLinks_X11 t_h h13 rfl 4 (by decide +kernel) (List.mem_of_getElem? (i := 91) rfl) rfl dX11_endLinks_30 ?_
          refine u_callVi B Z hz (n := 1) (As := [.int (iI z12)]) (rest := []) (c_Link_reasonToEnd l D K Z _ _ _ _ a47 z12 t67 ⟨by omega, by omega⟩ σ_2 G_2) gd_Low_endLinks_Link_reasonToEnd_493 rfl rfl rfl (by decide +kernel) ⟨Nat.le_trans (by decide +kernel) hR.1, Nat.le_trans (by decide +kernel) hR.2⟩ t67 (cls_Link G_2 t67) rfl rfl rfl rfl (Nat.le_of_ble_eq_true rfl) dX11_endLinks_33 ⟨Nat.zero_le _, Nat.zero_le _⟩ (fun v77 σ75 p76 => ?_)
          obtain ⟨rfl, z81, e82, r83⟩ := p76
          subst e82
          refine v_goto B (tgt := 40) dX11_endLinks_36 (by decide +kernel) ?_
          refine v_lv [1, 2, 0] rfl ?_
          exact J40 a23 z81 ⟨by omega, by omega⟩ t25 ⟨by omega, by omega⟩
  refine v_iconst B (v := iI 0) dX11_endLinks_0 rfl ?_
  refine v_istore_n B (lv' := [(1, .int (iI 0)), (0, .ref h)]) dX11_endLinks_1 rfl (by decide +kernel) rfl ?_
  refine v_lv [1, 0] rfl ?_
  exact J2 _ σ0 0 (Nat.le_refl _) G0 F0 ⟨by omega, by omega⟩
set_option maxRecDepth 100000 in
theorem c_Low_endLinks (l : Launch) (D : va_G) (K : Nat → ClassId) {τ : Nat → Option Ty} {dom : List Nat} (Z : Sk τ dom) (zb zL : Nat) (zx : Nat → Int32) (zs : Nat → Nat) (h : Nat) (t_h : τ h = some (41, 0, 0)) (σ0 : Nat → va_E) (G0 : Good K τ σ0) : MZ l yX11_endLinks wp_Low_endLinks ({ frames := 4, cells := 0, slots := 0, locals := 81 }) D (tysA K) [.ref h] (fd dom σ0) zb zL zx zs (Qv D (fun σ' => Good K τ σ' ∧ Fr τ [(33, 0), (36, 0), (1, 2), (37, 0), (35, 0), (38, 0), (40, 0), (32, 0), (3, 23), (3, 22), (1, 16), (34, 0)] σ0 σ') (fun σ' => fd dom σ')) 0 0 := by
  refine mz_of (cc := cX11_endLinks) (maxL := 4) (ret := none) (by decide +kernel) rfl (Nat.le_of_ble_eq_true rfl) ?_
  intro p e s m below meth c A B hr hlk _ hz
  exact b_Low_endLinks ⟨Nat.le_refl _, Nat.le_refl _⟩ B Z hz h t_h σ0 G0 (fun σ' lv pc G F hd => v_vret B hr hlk σ' ⟨G, F⟩ rfl (Nat.le_refl _) (Nat.le_refl _) hd)

def wp_Low_reaches : List Cond := .code yX11_reaches cX11_reaches 3 (some .boolean) :: (([.fieldLink RX11 65 "LowEnergy" "now" "I", .methodLink RX11 483 yX3_hasEventAt, .instanceMethod yX3_hasEventAt, .selects RX3 yX3_hasEventAt yX3_hasEventAt, .initialized RX3, .code yX3_hasEventAt cX3_hasEventAt 2 (some .boolean), .methodLink RX3 96 yX3_inLink, .instanceMethod yX3_inLink, .selects RX3 yX3_inLink yX3_inLink, .code yX3_inLink cX3_inLink 1 (some .boolean), .fieldLink RX3 93 "LowEnergy$Device" "state" "I", .fieldLink RX3 26 "LowEnergy$Device" "link" "LLowEnergy$Link;", .methodLink RX11 413 yX11_sendPacket, .instanceMethod yX11_sendPacket, .selects RX11 yX11_sendPacket yX11_sendPacket, .initialized RX11, .code yX11_sendPacket cX11_sendPacket 5 none, .fieldLink RX11 18 "LowEnergy" "sky" "LLowEnergy$Air;", .methodLink RX11 435 yX0_transmit, .instanceMethod yX0_transmit, .selects RX0 yX0_transmit yX0_transmit, .initialized RX0, .code yX0_transmit cX0_transmit 8 none, .fieldLink RX0 78 "LowEnergy$Air" "latestIsLost" "Z", .fieldLink RX0 29 "LowEnergy$Air" "losses" "[I", .fieldLink RX0 42 "LowEnergy$Air" "count" "I", .fieldLink RX0 13 "LowEnergy$Air" "packets" "[LLowEnergy$Row;", .methodLink RX0 53 yX9_clear, .instanceMethod yX9_clear, .selects RX9 yX9_clear yX9_clear, .initialized RX9, .code yX9_clear cX9_clear 1 none, .fieldLink RX9 21 "LowEnergy$Row" "size" "I", .methodLink RX0 56 yX9_putNumber, .instanceMethod yX9_putNumber, .selects RX9 yX9_putNumber yX9_putNumber, .code yX9_putNumber cX9_putNumber 5 none, .fieldLink RX9 15 "LowEnergy$Row" "bytes" "[I", .constantLong RX9 25 (255), .methodLink RX0 60 yX9_put, .instanceMethod yX9_put, .selects RX9 yX9_put yX9_put, .code yX9_put cX9_put 2 none, .methodLink RX0 63 yX9_putPart, .instanceMethod yX9_putPart, .selects RX9 yX9_putPart yX9_putPart, .code yX9_putPart cX9_putPart 6 none, .methodLink RX9 9 Lib.Math.max.name, .static Lib.Math.max.name, .initialized "java/lang/Math", .code Lib.Math.max.name Lib.Math.max.code 2 (some .int), .methodLink RX0 67 yX0_crcInOrder, .static yX0_crcInOrder, .code yX0_crcInOrder cX0_crcInOrder 7 (some .int), .constant RX0 100 (16777215), .methodLink RX0 71 yX0_whiten, .static yX0_whiten, .code yX0_whiten cX0_whiten 7 none, .methodLink RX0 75 yX0_disturb, .instanceMethod yX0_disturb, .selects RX0 yX0_disturb yX0_disturb, .code yX0_disturb cX0_disturb 5 none, .fieldLink RX0 26 "LowEnergy$Air" "noiseCounts" "[I", .fieldLink RX0 23 "LowEnergy$Air" "noises" "[[I", .methodLink RX0 82 yX9_turn, .instanceMethod yX9_turn, .selects RX9 yX9_turn yX9_turn, .code yX9_turn cX9_turn 3 none, .fieldLink RX0 17 "LowEnergy$Air" "channels" "[I", .methodLink RX11 512 yX5_seal, .instanceMethod yX5_seal, .selects RX5 yX5_seal yX5_seal, .initialized RX5, .code yX5_seal cX5_seal 6 none, .fieldLink RX5 51 "LowEnergy$Guard" "sent" "I", .fieldLink RX5 22 "LowEnergy$Guard" "mac" "[I", .fieldLink RX5 25 "LowEnergy$Guard" "pad" "[I", .methodLink RX5 61 yX9_put, .fieldLink RX5 28 "LowEnergy$Guard" "cipher" "LLowEnergy$Cipher;", .fieldLink RX5 16 "LowEnergy$Guard" "session" "[I", .methodLink RX5 71 yX1_loadKey, .instanceMethod yX1_loadKey, .selects RX1 yX1_loadKey yX1_loadKey, .initialized RX1, .code yX1_loadKey cX1_loadKey 6 none, .fieldLink RX1 9 "LowEnergy$Cipher" "roundKeys" "[I", .fieldLink RX1 16 "LowEnergy$Cipher" "SBOX" "[I", .methodLink RX5 83 yX5_findMac, .instanceMethod yX5_findMac, .selects RX5 yX5_findMac yX5_findMac, .code yX5_findMac cX5_findMac 8 none, .methodLink RX5 77 yX1_encipher, .instanceMethod yX1_encipher, .selects RX1 yX1_encipher yX1_encipher, .code yX1_encipher cX1_encipher 7 none, .fieldLink RX1 13 "LowEnergy$Cipher" "moved" "[I", .methodLink RX5 67 yX9_at, .instanceMethod yX9_at, .selects RX9 yX9_at yX9_at, .code yX9_at cX9_at 2 (some .int), .methodLink RX5 94 yX5_fillNonce, .instanceMethod yX5_fillNonce, .selects RX5 yX5_fillNonce yX5_fillNonce, .code yX5_fillNonce cX5_fillNonce 8 none, .fieldLink RX5 19 "LowEnergy$Guard" "iv" "[I", .constantLong RX5 102 (255), .methodLink RX5 87 yX5_whitenBySession, .instanceMethod yX5_whitenBySession, .selects RX5 yX5_whitenBySession yX5_whitenBySession, .code yX5_whitenBySession cX5_whitenBySession 7 none, .methodLink RX5 98 yX9_turn, .methodLink RX11 502 yX6_giveReason, .instanceMethod yX6_giveReason, .selects RX6 yX6_giveReason yX6_giveReason, .initialized RX6, .code yX6_giveReason cX6_giveReason 2 none, .fieldLink RX6 15 "LowEnergy$Link" "reason" "I", .methodLink RX11 505 yX7_pickNext, .instanceMethod yX7_pickNext, .selects RX7 yX7_pickNext yX7_pickNext, .initialized RX7, .code yX7_pickNext cX7_pickNext 2 none, .fieldLink RX7 65 "LowEnergy$Mail" "sort" "I", .methodLink RX7 36 yX7_dropCurrent, .instanceMethod yX7_dropCurrent, .selects RX7 yX7_dropCurrent yX7_dropCurrent, .code yX7_dropCurrent cX7_dropCurrent 1 none, .fieldLink RX7 14 "LowEnergy$Mail" "current" "LLowEnergy$Row;", .methodLink RX7 62 yX9_clear, .fieldLink RX7 68 "LowEnergy$Mail" "currentOp" "I", .fieldLink RX7 43 "LowEnergy$Mail" "controlCount" "I", .fieldLink RX7 53 "LowEnergy$Mail" "messageCount" "I", .fieldLink RX7 24 "LowEnergy$Mail" "messages" "[LLowEnergy$Row;", .fieldLink RX7 50 "LowEnergy$Mail" "messageHead" "I", .methodLink RX7 103 yX7_pickPiece, .instanceMethod yX7_pickPiece, .selects RX7 yX7_pickPiece yX7_pickPiece, .code yX7_pickPiece cX7_pickPiece 2 none, .fieldLink RX7 56 "LowEnergy$Mail" "placed" "I", .methodLink RX7 91 yX9_putPart, .fieldLink RX7 20 "LowEnergy$Mail" "controls" "[LLowEnergy$Row;", .fieldLink RX7 39 "LowEnergy$Mail" "controlHead" "I", .methodLink RX7 95 yX9_become, .instanceMethod yX9_become, .selects RX9 yX9_become yX9_become, .code yX9_become cX9_become 2 none, .methodLink RX9 27 yX9_putPart, .methodLink RX7 99 yX9_at, .methodLink RX11 457 yX0_isHeard, .instanceMethod yX0_isHeard, .selects RX0 yX0_isHeard yX0_isHeard, .code yX0_isHeard cX0_isHeard 4 (some .boolean), .methodLink RX0 86 yX9_numberAt, .instanceMethod yX9_numberAt, .selects RX9 yX9_numberAt yX9_numberAt, .code yX9_numberAt cX9_numberAt 7 (some .long)] : List Cond) ++ (wsX30 ++ (wsX110 ++ (wsX60 ++ (wsX70 ++ (wsX00 ++ (wsX90 ++ (wsX50 ++ (wsX10 ++ ([]))))))))))
theorem hi_Low_reaches_X3 : ∀ x ∈ u_ws RX3 TX3 19, x ∈ wp_Low_reaches := fun _ h => List.mem_cons_of_mem _ (List.mem_append_right _ (List.mem_append_left _ h))
theorem hi_Low_reaches_X11 : ∀ x ∈ u_ws RX11 TX11 5, x ∈ wp_Low_reaches := fun _ h => List.mem_cons_of_mem _ (List.mem_append_right _ (List.mem_append_right _ (List.mem_append_left _ h)))
theorem hi_Low_reaches_X6 : ∀ x ∈ u_ws RX6 TX6 20, x ∈ wp_Low_reaches := fun _ h => List.mem_cons_of_mem _ (List.mem_append_right _ (List.mem_append_right _ (List.mem_append_right _ (List.mem_append_left _ h))))
theorem hi_Low_reaches_X7 : ∀ x ∈ u_ws RX7 TX7 16, x ∈ wp_Low_reaches := fun _ h => List.mem_cons_of_mem _ (List.mem_append_right _ (List.mem_append_right _ (List.mem_append_right _ (List.mem_append_right _ (List.mem_append_left _ h)))))
theorem hi_Low_reaches_X0 : ∀ x ∈ u_ws RX0 TX0 10, x ∈ wp_Low_reaches := fun _ h => List.mem_cons_of_mem _ (List.mem_append_right _ (List.mem_append_right _ (List.mem_append_right _ (List.mem_append_right _ (List.mem_append_right _ (List.mem_append_left _ h))))))
theorem hi_Low_reaches_X9 : ∀ x ∈ u_ws RX9 TX9 2, x ∈ wp_Low_reaches := fun _ h => List.mem_cons_of_mem _ (List.mem_append_right _ (List.mem_append_right _ (List.mem_append_right _ (List.mem_append_right _ (List.mem_append_right _ (List.mem_append_right _ (List.mem_append_left _ h)))))))
theorem hi_Low_reaches_X5 : ∀ x ∈ u_ws RX5 TX5 16, x ∈ wp_Low_reaches := fun _ h => List.mem_cons_of_mem _ (List.mem_append_right _ (List.mem_append_right _ (List.mem_append_right _ (List.mem_append_right _ (List.mem_append_right _ (List.mem_append_right _ (List.mem_append_right _ (List.mem_append_left _ h))))))))
theorem hi_Low_reaches_X1 : ∀ x ∈ u_ws RX1 TX1 2, x ∈ wp_Low_reaches := fun _ h => List.mem_cons_of_mem _ (List.mem_append_right _ (List.mem_append_right _ (List.mem_append_right _ (List.mem_append_right _ (List.mem_append_right _ (List.mem_append_right _ (List.mem_append_right _ (List.mem_append_right _ (List.mem_append_left _ h)))))))))
set_option maxRecDepth 100000 in
theorem gd_Low_reaches_Device_hasEventAt_483 : GoodIn wp_Low_reaches (wsV RX11 483 RX3 yX3_hasEventAt wp_Device_hasEventAt) := goodIn_app (goodIn_r _ [2, 3, 4, 5] rfl rfl) (goodIn_ca (goodIn_r _ [6, 7, 8, 9, 5, 10, 11, 12] rfl rfl) (goodIn_app (goodIn_cls hi_Low_reaches_X3 gw_X3) (goodIn_app (goodIn_cls hi_Low_reaches_X6 gw_X6) (goodIn_nil))))
set_option maxRecDepth 100000 in
theorem gd_Low_reaches_Low_sendPacket_413 : GoodIn wp_Low_reaches (wsV RX11 413 RX11 yX11_sendPacket wp_Low_sendPacket) := goodIn_app (goodIn_r _ [13, 14, 15, 16] rfl rfl) (goodIn_ca (goodIn_r _ [17, 18, 19, 20, 21, 22, 23, 24, 25, 26, 27, 28, 29, 30, 31, 32, 33, 34, 35, 36, 37, 38, 39, 40, 41, 42, 43, 44, 45, 46, 47, 48, 49, 50, 51, 52, 53, 54, 55, 56, 57, 58, 59, 60, 61, 62, 63, 64, 65, 66, 67, 68, 69, 70, 71, 72, 73, 74, 75, 76, 77, 78, 79, 80, 81, 82, 83, 84, 85, 86, 87, 88, 89, 90, 91, 92, 93, 94, 95, 96, 97, 98, 99, 100, 101, 102, 103, 104, 105, 106, 107, 108, 109, 110, 111, 112, 113, 114, 115, 116, 117, 118, 119, 120, 121, 122, 123, 124, 125, 126, 127, 128, 129, 130, 131, 132, 133, 134, 135, 136, 137, 138, 139, 140, 141, 142, 143, 144, 145, 146, 147, 148] rfl rfl) (goodIn_app (goodIn_cls hi_Low_reaches_X7 gw_X7) (goodIn_app (goodIn_cls hi_Low_reaches_X6 gw_X6) (goodIn_app (goodIn_cls hi_Low_reaches_X11 gw_X11) (goodIn_app (goodIn_cls hi_Low_reaches_X3 gw_X3) (goodIn_app (goodIn_cls hi_Low_reaches_X0 gw_X0) (goodIn_app (goodIn_cls hi_Low_reaches_X9 gw_X9) (goodIn_app (goodIn_cls hi_Low_reaches_X5 gw_X5) (goodIn_app (goodIn_cls hi_Low_reaches_X1 gw_X1) (goodIn_nil))))))))))
set_option maxRecDepth 100000 in
theorem gd_Low_reaches_Air_isHeard_457 : GoodIn wp_Low_reaches (wsV RX11 457 RX0 yX0_isHeard wp_Air_isHeard) := goodIn_app (goodIn_r _ [149, 150, 151, 22] rfl rfl) (goodIn_ca (goodIn_r _ [152, 26, 27, 24, 69, 153, 154, 155, 31, 156, 33, 38] rfl rfl) (goodIn_app (goodIn_cls hi_Low_reaches_X0 gw_X0) (goodIn_app (goodIn_cls hi_Low_reaches_X9 gw_X9) (goodIn_nil))))
set_option maxHeartbeats 4000000 in
set_option maxRecDepth 100000 in
theorem b_Low_reaches {p : Program} {l : Launch} {e : Env} {R : Room} {s : State} {m : MethodId} {args : Array Value} {below : List Frame} {meth : Method} {c : Code} {D : va_G} {K : Nat → ClassId} {A : Nat → Prop} {Q : State → Prop} {τ : Nat → Option Ty} {dom : List Nat} {zb zL : Nat} {zx : Nat → Int32} {zs : Nat → Nat} (hR : 5 ≤ R.frames ∧ 104 ≤ R.locals) (B : Bx p s m args c cX11_reaches 3 RX11 wp_Low_reaches D (tysA K) A) (Z : Sk τ dom) (hz : ZL zb zL zx zs A s s.heap) (h : Nat) (d : Nat) (d2 : Nat) (t_h : τ h = some (41, 0, 0)) (t_d : τ d = some (33, 0, 0)) (t_d2 : τ d2 = some (33, 0, 0)) (σ0 : Nat → va_E) (G0 : Good K τ σ0) (hend : ∀ (σ' : Nat → va_E) (z : Int) (lv : List (Nat × Value)) (pc : Nat), Good K τ σ' → Fr τ [(36, 0), (1, 2), (37, 0), (2, 2), (2, 31), (3, 44), (2, 32), (3, 45), (35, 0), (1, 3), (2, 3), (4, 24), (3, 20), (30, 0), (3, 25)] σ0 σ' → (0 ≤ z ∧ z ≤ 1) → decode cX11_reaches pc = .ok (.ireturn, 1) → V p l e R s m args below meth c 3 D A Q (0, 0) (fd dom σ') lv pc [.int (iI z)]) : V p l e R s m args below meth c 3 D A Q (0, 0) (fd dom σ0) [(0, .ref h), (1, .ref d), (2, .ref d2)] 0 [] := by
  have F0 : Fr τ [(36, 0), (1, 2), (37, 0), (2, 2), (2, 31), (3, 44), (2, 32), (3, 45), (35, 0), (1, 3), (2, 3), (4, 24), (3, 20), (30, 0), (3, 25)] σ0 σ0 := Fr.rf
  refine v_aload_n B dX11_reaches_0 rfl rfl ?_
  obtain ⟨z1, yy2, z3, z4, z5, z6, a7, z8, yy9, a10, yy11, a12, a13, a14, a15, a16, a17, a18, a19, h20, r21, r22, r23, r24, r25, r26, t27, r28, r29, t30, r31, t32, t33, t34, t35, t36, t37, t38, t39⟩ : okDevice τ (σ0 d) := G0 d _ t_d
  refine u_getN B Z (C := RX3) (T := TX3) (N := 19) (ci := 3) hi_Low_reaches_X3 t_d h20 rfl 2 (by decide +kernel) (List.mem_of_getElem? (i := 65) rfl) rfl dX11_reaches_1 ?_
  refine v_iconst B (v := iI 4) dX11_reaches_4 rfl ?_
  refine u_icmp_ne B (tgt := 19) (by omega) (by omega) dX11_reaches_5 (by decide +kernel) (fun c40 => ?_) (fun c40 => ?_)
  · refine v_iconst B (v := iI 0) dX11_reaches_19 rfl ?_
    exact hend σ0 0 _ _ G0 F0 ⟨by omega, by omega⟩ dX11_reaches_20
  · refine v_aload_n B dX11_reaches_8 rfl rfl ?_
    refine v_aload_n B dX11_reaches_9 rfl rfl ?_
    obtain ⟨a41, a42, a43, a44, z45, h46, t47, t48, t49, t50, r51⟩ : okLow τ (σ0 h) := G0 h _ t_h
    refine u_get B Z (C := RX11) (T := TX11) (N := 5) (ci := 11) hi_Low_reaches_X11 t_h h46 rfl 4 (by decide +kernel) (List.mem_of_getElem? (i := 1) rfl) rfl dX11_reaches_10 ?_
    refine u_callVi B Z hz (n := 1) (As := [.int (iI z45)]) (rest := []) (c_Device_hasEventAt l D K Z _ _ _ _ d z45 t_d ⟨by omega, by omega⟩ σ0 G0) gd_Low_reaches_Device_hasEventAt_483 rfl rfl rfl (by decide +kernel) ⟨Nat.le_trans (by decide +kernel) hR.1, Nat.le_trans (by decide +kernel) hR.2⟩ t_d (cls_Device G0 t_d) rfl rfl rfl rfl (Nat.le_of_ble_eq_true rfl) dX11_reaches_13 ⟨Nat.zero_le _, Nat.zero_le _⟩ (fun v54 σ52 p53 => ?_)
    obtain ⟨rfl, z58, e59, r60⟩ := p53
    subst e59
    refine u_if_ne B (tgt := 21) (by omega) dX11_reaches_16 (by decide +kernel) (fun c61 => ?_) (fun c61 => ?_)
    · refine v_aload_n B dX11_reaches_21 rfl rfl ?_
      refine v_aload_n B dX11_reaches_22 rfl rfl ?_
      refine u_callVv B Z hz (n := 1) (As := [.ref d]) (rest := []) (c_Low_sendPacket l D K Z _ _ _ _ h d t_h t_d σ0 G0) gd_Low_reaches_Low_sendPacket_413 rfl rfl rfl (by decide +kernel) ⟨Nat.le_trans (by decide +kernel) hR.1, Nat.le_trans (by decide +kernel) hR.2⟩ t_h (cls_Low G0 t_h) rfl rfl rfl rfl (Nat.le_of_ble_eq_true rfl) dX11_reaches_23 ⟨Nat.zero_le _, Nat.zero_le _⟩ (fun σ62 p63 => ?_)
      obtain ⟨G65, F66⟩ := p63
      have F67 := F0.call F66 (by first | rfl | simp)
      have h68 := (F66 d _ t_d (by first | rfl | simp)).trans h20
      have h69 := (F66 h _ t_h (by first | rfl | simp)).trans h46
      refine v_aload_n B dX11_reaches_26 rfl rfl ?_
      obtain ⟨z70, yy71, z72, z73, z74, z75, a76, z77, yy78, a79, yy80, a81, a82, a83, a84, a85, a86, a87, a88, h89, r90, r91, r92, r93, r94, r95, t96, r97, r98, t99, r100, t101, t102, t103, t104, t105, t106, t107, t108⟩ : okDevice τ (σ62 d2) := G65 d2 _ t_d2
      refine u_getN B Z (C := RX3) (T := TX3) (N := 19) (ci := 3) hi_Low_reaches_X3 t_d2 h89 rfl 2 (by decide +kernel) (List.mem_of_getElem? (i := 65) rfl) rfl dX11_reaches_27 ?_
      refine v_iconst B (v := iI 5) dX11_reaches_30 rfl ?_
      refine u_icmp_ne B (tgt := 73) (by omega) (by omega) dX11_reaches_31 (by decide +kernel) (fun c109 => ?_) (fun c109 => ?_)
      · refine v_iconst B (v := iI 0) dX11_reaches_73 rfl ?_
        exact hend σ62 0 _ _ G65 F67 ⟨by omega, by omega⟩ dX11_reaches_74
      · refine v_aload_n B dX11_reaches_34 rfl rfl ?_
        refine v_aload_n B dX11_reaches_35 rfl rfl ?_
        refine u_get B Z (C := RX11) (T := TX11) (N := 5) (ci := 11) hi_Low_reaches_X11 t_h h69 rfl 4 (by decide +kernel) (List.mem_of_getElem? (i := 1) rfl) rfl dX11_reaches_36 ?_
        refine u_callVi B Z hz (n := 1) (As := [.int (iI z45)]) (rest := []) (c_Device_hasEventAt l D K Z _ _ _ _ d2 z45 t_d2 ⟨by omega, by omega⟩ σ62 G65) gd_Low_reaches_Device_hasEventAt_483 rfl rfl rfl (by decide +kernel) ⟨Nat.le_trans (by decide +kernel) hR.1, Nat.le_trans (by decide +kernel) hR.2⟩ t_d2 (cls_Device G65 t_d2) rfl rfl rfl rfl (Nat.le_of_ble_eq_true rfl) dX11_reaches_39 ⟨Nat.zero_le _, Nat.zero_le _⟩ (fun v112 σ110 p111 => ?_)
        obtain ⟨rfl, z116, e117, r118⟩ := p111
        subst e117
        refine u_if_eq B (tgt := 73) (by omega) dX11_reaches_42 (by decide +kernel) (fun c119 => ?_) (fun c119 => ?_)
        · refine v_iconst B (v := iI 0) dX11_reaches_73 rfl ?_
          exact hend σ62 0 _ _ G65 F67 ⟨by omega, by omega⟩ dX11_reaches_74
        · refine v_aload_n B dX11_reaches_45 rfl rfl ?_
          refine u_get B Z (C := RX11) (T := TX11) (N := 5) (ci := 11) hi_Low_reaches_X11 t_h h69 rfl 1 (by decide +kernel) (List.mem_of_getElem? (i := 18) rfl) rfl dX11_reaches_46 ?_
          refine v_aload_n B dX11_reaches_49 rfl rfl ?_
          refine u_getN B Z (C := RX3) (T := TX3) (N := 19) (ci := 3) hi_Low_reaches_X3 t_d2 h89 rfl 11 (by decide +kernel) (List.mem_of_getElem? (i := 69) rfl) rfl dX11_reaches_50 ?_
          obtain ⟨z120, z121, z122, z123, z124, yy125, yy126, z127, z128, z129, z130, z131, z132, z133, z134, z135, z136, z137, z138, yy139, h140, r141, r142, r143, r144, r145, r146, r147, r148, r149, r150, r151, r152, r153, r154, r155, r156, r157, r158, r159, r160⟩ : okLink τ (σ62 a81) := G65 a81 _ t101
          refine u_getN B Z (C := RX6) (T := TX6) (N := 20) (ci := 6) hi_Low_reaches_X6 t101 h140 rfl 12 (by decide +kernel) (List.mem_of_getElem? (i := 36) rfl) rfl dX11_reaches_53 ?_
          refine v_aload_n B dX11_reaches_56 rfl rfl ?_
          refine u_getN B Z (C := RX3) (T := TX3) (N := 19) (ci := 3) hi_Low_reaches_X3 t_d2 h89 rfl 11 (by decide +kernel) (List.mem_of_getElem? (i := 69) rfl) rfl dX11_reaches_57 ?_
          refine u_getN B Z (C := RX6) (T := TX6) (N := 20) (ci := 6) hi_Low_reaches_X6 t101 h140 rfl 0 (by decide +kernel) (List.mem_of_getElem? (i := 56) rfl) rfl dX11_reaches_60 ?_
          refine u_callVi B Z hz (n := 2) (As := [.int (iI z132), .int (iI z120)]) (rest := []) (c_Air_isHeard l D K Z _ _ _ _ a42 z132 z120 t48 ⟨by omega, by omega⟩ ⟨by omega, by omega⟩ σ62 G65) gd_Low_reaches_Air_isHeard_457 rfl rfl rfl (by decide +kernel) ⟨Nat.le_trans (by decide +kernel) hR.1, Nat.le_trans (by decide +kernel) hR.2⟩ t48 (cls_Air G65 t48) rfl rfl rfl rfl (Nat.le_of_ble_eq_true rfl) dX11_reaches_63 ⟨Nat.zero_le _, Nat.zero_le _⟩ (fun v163 σ161 p162 => ?_)
          obtain ⟨rfl, z167, e168, r169⟩ := p162
          subst e168
          refine u_if_eq B (tgt := 73) (by omega) dX11_reaches_66 (by decide +kernel) (fun c170 => ?_) (fun c170 => ?_)
          · refine v_iconst B (v := iI 0) dX11_reaches_73 rfl ?_
            exact hend σ62 0 _ _ G65 F67 ⟨by omega, by omega⟩ dX11_reaches_74
          · refine v_iconst B (v := iI 1) dX11_reaches_69 rfl ?_
            refine v_goto B (tgt := 74) dX11_reaches_70 (by decide +kernel) ?_
            exact hend σ62 1 _ _ G65 F67 ⟨by omega, by omega⟩ dX11_reaches_74
    · refine v_iconst B (v := iI 0) dX11_reaches_19 rfl ?_
      exact hend σ0 0 _ _ G0 F0 ⟨by omega, by omega⟩ dX11_reaches_20
set_option maxRecDepth 100000 in
theorem c_Low_reaches (l : Launch) (D : va_G) (K : Nat → ClassId) {τ : Nat → Option Ty} {dom : List Nat} (Z : Sk τ dom) (zb zL : Nat) (zx : Nat → Int32) (zs : Nat → Nat) (h : Nat) (d : Nat) (d2 : Nat) (t_h : τ h = some (41, 0, 0)) (t_d : τ d = some (33, 0, 0)) (t_d2 : τ d2 = some (33, 0, 0)) (σ0 : Nat → va_E) (G0 : Good K τ σ0) : MZ l yX11_reaches wp_Low_reaches ({ frames := 5, cells := 0, slots := 0, locals := 104 }) D (tysA K) [.ref h, .ref d, .ref d2] (fd dom σ0) zb zL zx zs (Qi D (fun r σ' => Good K τ σ' ∧ Fr τ [(36, 0), (1, 2), (37, 0), (2, 2), (2, 31), (3, 44), (2, 32), (3, 45), (35, 0), (1, 3), (2, 3), (4, 24), (3, 20), (30, 0), (3, 25)] σ0 σ' ∧ ∃ z : Int, r = iI z ∧ (0 ≤ z ∧ z ≤ 1)) (fun σ' => fd dom σ')) 0 0 := by
  refine mz_of (cc := cX11_reaches) (maxL := 3) (ret := (some .boolean)) (by decide +kernel) rfl (Nat.le_of_ble_eq_true rfl) ?_
  intro p e s m below meth c A B hr hlk _ hz
  exact b_Low_reaches ⟨Nat.le_refl _, Nat.le_refl _⟩ B Z hz h d d2 t_h t_d t_d2 σ0 G0 (fun σ' z lv pc G F hZ hd => v_zret B hr hlk (nar01 (by omega)) σ' ⟨G, F, z, rfl, hZ⟩ rfl (Nat.le_refl _) (Nat.le_refl _) hd)

def wp_Low_advertisementArrives : List Cond := .code yX11_advertisementArrives cX11_advertisementArrives 3 (some .boolean) :: (([.fieldLink RX11 65 "LowEnergy" "now" "I", .fieldLink RX11 18 "LowEnergy" "sky" "LLowEnergy$Air;", .constant RX11 433 (-1903575338), .methodLink RX11 457 yX0_isHeard, .instanceMethod yX0_isHeard, .selects RX0 yX0_isHeard yX0_isHeard, .initialized RX0, .code yX0_isHeard cX0_isHeard 4 (some .boolean), .fieldLink RX0 42 "LowEnergy$Air" "count" "I", .fieldLink RX0 13 "LowEnergy$Air" "packets" "[LLowEnergy$Row;", .fieldLink RX0 78 "LowEnergy$Air" "latestIsLost" "Z", .fieldLink RX0 17 "LowEnergy$Air" "channels" "[I", .methodLink RX0 86 yX9_numberAt, .instanceMethod yX9_numberAt, .selects RX9 yX9_numberAt yX9_numberAt, .initialized RX9, .code yX9_numberAt cX9_numberAt 7 (some .long), .fieldLink RX9 21 "LowEnergy$Row" "size" "I", .fieldLink RX9 15 "LowEnergy$Row" "bytes" "[I", .constant RX11 434 (5592405), .methodLink RX11 460 yX0_isGood, .instanceMethod yX0_isGood, .selects RX0 yX0_isGood yX0_isGood, .code yX0_isGood cX0_isGood 5 (some .boolean), .fieldLink RX0 35 "LowEnergy$Air" "plain" "LLowEnergy$Row;", .methodLink RX0 90 yX9_become, .instanceMethod yX9_become, .selects RX9 yX9_become yX9_become, .code yX9_become cX9_become 2 none, .methodLink RX9 27 yX9_putPart, .instanceMethod yX9_putPart, .selects RX9 yX9_putPart yX9_putPart, .code yX9_putPart cX9_putPart 6 none, .methodLink RX9 9 Lib.Math.max.name, .static Lib.Math.max.name, .initialized "java/lang/Math", .code Lib.Math.max.name Lib.Math.max.code 2 (some .int), .methodLink RX0 71 yX0_whiten, .static yX0_whiten, .code yX0_whiten cX0_whiten 7 none, .methodLink RX0 49 yX9_at, .instanceMethod yX9_at, .selects RX9 yX9_at yX9_at, .code yX9_at cX9_at 2 (some .int), .fieldLink RX0 94 "LowEnergy$Air" "first" "I", .fieldLink RX0 39 "LowEnergy$Air" "payload" "LLowEnergy$Row;", .methodLink RX0 53 yX9_clear, .instanceMethod yX9_clear, .selects RX9 yX9_clear yX9_clear, .code yX9_clear cX9_clear 1 none, .methodLink RX0 63 yX9_putPart, .methodLink RX0 67 yX0_crcInOrder, .static yX0_crcInOrder, .code yX0_crcInOrder cX0_crcInOrder 7 (some .int), .constant RX0 100 (16777215)] : List Cond) ++ (wsX110 ++ (wsX00 ++ (wsX90 ++ (wsX30 ++ ([]))))))
theorem hi_Low_advertisementArrives_X11 : ∀ x ∈ u_ws RX11 TX11 5, x ∈ wp_Low_advertisementArrives := fun _ h => List.mem_cons_of_mem _ (List.mem_append_right _ (List.mem_append_left _ h))
theorem hi_Low_advertisementArrives_X0 : ∀ x ∈ u_ws RX0 TX0 10, x ∈ wp_Low_advertisementArrives := fun _ h => List.mem_cons_of_mem _ (List.mem_append_right _ (List.mem_append_right _ (List.mem_append_left _ h)))
theorem hi_Low_advertisementArrives_X9 : ∀ x ∈ u_ws RX9 TX9 2, x ∈ wp_Low_advertisementArrives := fun _ h => List.mem_cons_of_mem _ (List.mem_append_right _ (List.mem_append_right _ (List.mem_append_right _ (List.mem_append_left _ h))))
theorem hi_Low_advertisementArrives_X3 : ∀ x ∈ u_ws RX3 TX3 19, x ∈ wp_Low_advertisementArrives := fun _ h => List.mem_cons_of_mem _ (List.mem_append_right _ (List.mem_append_right _ (List.mem_append_right _ (List.mem_append_right _ (List.mem_append_left _ h)))))
set_option maxRecDepth 100000 in
theorem gd_Low_advertisementArrives_Air_isHeard_457 : GoodIn wp_Low_advertisementArrives (wsV RX11 457 RX0 yX0_isHeard wp_Air_isHeard) := goodIn_app (goodIn_r _ [4, 5, 6, 7] rfl rfl) (goodIn_ca (goodIn_r _ [8, 9, 10, 11, 12, 13, 14, 15, 16, 17, 18, 19] rfl rfl) (goodIn_app (goodIn_cls hi_Low_advertisementArrives_X0 gw_X0) (goodIn_app (goodIn_cls hi_Low_advertisementArrives_X9 gw_X9) (goodIn_nil))))
set_option maxRecDepth 100000 in
theorem gd_Low_advertisementArrives_Air_isGood_460 : GoodIn wp_Low_advertisementArrives (wsV RX11 460 RX0 yX0_isGood wp_Air_isGood) := goodIn_app (goodIn_r _ [21, 22, 23, 7] rfl rfl) (goodIn_ca (goodIn_r _ [24, 9, 10, 25, 26, 27, 28, 16, 29, 18, 30, 31, 32, 33, 19, 34, 35, 36, 37, 38, 39, 7, 40, 41, 42, 43, 44, 45, 46, 47, 48, 49, 50, 51, 13, 14, 15, 17, 52, 53, 54, 55] rfl rfl) (goodIn_app (goodIn_cls hi_Low_advertisementArrives_X0 gw_X0) (goodIn_app (goodIn_cls hi_Low_advertisementArrives_X9 gw_X9) (goodIn_nil))))
set_option maxHeartbeats 4000000 in
set_option maxRecDepth 100000 in
theorem b_Low_advertisementArrives {p : Program} {l : Launch} {e : Env} {R : Room} {s : State} {m : MethodId} {args : Array Value} {below : List Frame} {meth : Method} {c : Code} {D : va_G} {K : Nat → ClassId} {A : Nat → Prop} {Q : State → Prop} {τ : Nat → Option Ty} {dom : List Nat} {zb zL : Nat} {zx : Nat → Int32} {zs : Nat → Nat} (hR : 4 ≤ R.frames ∧ 83 ≤ R.locals) (B : Bx p s m args c cX11_advertisementArrives 3 RX11 wp_Low_advertisementArrives D (tysA K) A) (Z : Sk τ dom) (hz : ZL zb zL zx zs A s s.heap) (h : Nat) (d : Nat) (x2 : Int) (t_h : τ h = some (41, 0, 0)) (t_d : τ d = some (33, 0, 0)) (r_x2 : -2147483648 ≤ x2 ∧ x2 ≤ 2147483647) (σ0 : Nat → va_E) (G0 : Good K τ σ0) (hend : ∀ (σ' : Nat → va_E) (z : Int) (lv : List (Nat × Value)) (pc : Nat), Good K τ σ' → Fr τ [(1, 4), (2, 4), (30, 0), (1, 5), (2, 5)] σ0 σ' → (0 ≤ z ∧ z ≤ 1) → decode cX11_advertisementArrives pc = .ok (.ireturn, 1) → V p l e R s m args below meth c 3 D A Q (0, 0) (fd dom σ') lv pc [.int (iI z)]) : V p l e R s m args below meth c 3 D A Q (0, 0) (fd dom σ0) [(0, .ref h), (1, .ref d), (2, .int (iI x2))] 0 [] := by
  have F0 : Fr τ [(1, 4), (2, 4), (30, 0), (1, 5), (2, 5)] σ0 σ0 := Fr.rf
  have J16 : V p l e R s m args below meth c 3 D A Q (0, 0) (fd dom σ0) [(0, .ref h), (2, .int (iI x2))] 16 [] := by
    refine v_iload_n B dX11_advertisementArrives_16 rfl rfl ?_
    refine v_bipush B (v := iI 37) dX11_advertisementArrives_17 (by decide +kernel) ?_
    refine v_aload_n B dX11_advertisementArrives_19 rfl rfl ?_
    obtain ⟨a1, a2, a3, a4, z5, h6, t7, t8, t9, t10, r11⟩ : okLow τ (σ0 h) := G0 h _ t_h
    refine u_get B Z (C := RX11) (T := TX11) (N := 5) (ci := 11) hi_Low_advertisementArrives_X11 t_h h6 rfl 4 (by decide +kernel) (List.mem_of_getElem? (i := 1) rfl) rfl dX11_advertisementArrives_20 ?_
    refine v_iconst B (v := iI 3) dX11_advertisementArrives_23 rfl ?_
    obtain ⟨z12, e13, q15, q16⟩ := iI_remt (a := z5) (b := 3) (by omega) (by omega)
    refine v_irem B (v := iI z12) dX11_advertisementArrives_24 (fun q => absurd ((iI_eq (a := 3) (b := 0) (by omega) (by omega)).mp q) (by omega)) e13 ?_
    refine v_iadd B (v := iI (z12 + 37)) dX11_advertisementArrives_25 ((iI_add _ _).trans (congrArg iI (by omega))) ?_
    refine u_icmp_ne B (tgt := 86) (by omega) (by omega) dX11_advertisementArrives_26 (by decide +kernel) (fun c17 => ?_) (fun c17 => ?_)
    · refine v_iconst B (v := iI 0) dX11_advertisementArrives_86 rfl ?_
      exact hend σ0 0 _ _ G0 F0 ⟨by omega, by omega⟩ dX11_advertisementArrives_87
    · refine v_aload_n B dX11_advertisementArrives_29 rfl rfl ?_
      refine u_get B Z (C := RX11) (T := TX11) (N := 5) (ci := 11) hi_Low_advertisementArrives_X11 t_h h6 rfl 1 (by decide +kernel) (List.mem_of_getElem? (i := 2) rfl) rfl dX11_advertisementArrives_30 ?_
      refine v_iload_n B dX11_advertisementArrives_33 rfl rfl ?_
      refine v_ldcw B (v := iI (-1903575338)) (u_ci (List.mem_of_getElem? (i := 3) rfl) (by decide +kernel)) dX11_advertisementArrives_34 ?_
      refine u_callVi B Z hz (n := 2) (As := [.int (iI x2), .int (iI (-1903575338))]) (rest := []) (c_Air_isHeard l D K Z _ _ _ _ a2 x2 (-1903575338) t8 ⟨by omega, by omega⟩ ⟨by omega, by omega⟩ σ0 G0) gd_Low_advertisementArrives_Air_isHeard_457 rfl rfl rfl (by decide +kernel) ⟨Nat.le_trans (by decide +kernel) hR.1, Nat.le_trans (by decide +kernel) hR.2⟩ t8 (cls_Air G0 t8) rfl rfl rfl rfl (Nat.le_of_ble_eq_true rfl) dX11_advertisementArrives_37 ⟨Nat.zero_le _, Nat.zero_le _⟩ (fun v20 σ18 p19 => ?_)
      obtain ⟨rfl, z24, e25, r26⟩ := p19
      subst e25
      refine u_if_eq B (tgt := 86) (by omega) dX11_advertisementArrives_40 (by decide +kernel) (fun c27 => ?_) (fun c27 => ?_)
      · refine v_iconst B (v := iI 0) dX11_advertisementArrives_86 rfl ?_
        exact hend σ0 0 _ _ G0 F0 ⟨by omega, by omega⟩ dX11_advertisementArrives_87
      · refine v_aload_n B dX11_advertisementArrives_43 rfl rfl ?_
        refine u_get B Z (C := RX11) (T := TX11) (N := 5) (ci := 11) hi_Low_advertisementArrives_X11 t_h h6 rfl 1 (by decide +kernel) (List.mem_of_getElem? (i := 2) rfl) rfl dX11_advertisementArrives_44 ?_
        refine v_iload_n B dX11_advertisementArrives_47 rfl rfl ?_
        refine v_ldcw B (v := iI 5592405) (u_ci (List.mem_of_getElem? (i := 20) rfl) (by decide +kernel)) dX11_advertisementArrives_48 ?_
        refine u_callVi B Z hz (n := 2) (As := [.int (iI x2), .int (iI 5592405)]) (rest := []) (c_Air_isGood l D K Z _ _ _ _ a2 x2 5592405 t8 ⟨by omega, by omega⟩ ⟨by omega, by omega⟩ σ0 G0) gd_Low_advertisementArrives_Air_isGood_460 rfl rfl rfl (by decide +kernel) ⟨Nat.le_trans (by decide +kernel) hR.1, Nat.le_trans (by decide +kernel) hR.2⟩ t8 (cls_Air G0 t8) rfl rfl rfl rfl (Nat.le_of_ble_eq_true rfl) dX11_advertisementArrives_51 ⟨Nat.zero_le _, Nat.zero_le _⟩ (fun v30 σ28 p29 => ?_)
        obtain ⟨G31, F32, z34, e35, r36⟩ := p29
        subst e35
        have F33 := F0.call F32 (by first | rfl | simp)
        have h37 := (F32 h _ t_h (by first | rfl | simp)).trans h6
        refine u_if_eq B (tgt := 86) (by omega) dX11_advertisementArrives_54 (by decide +kernel) (fun c38 => ?_) (fun c38 => ?_)
        · refine v_iconst B (v := iI 0) dX11_advertisementArrives_86 rfl ?_
          exact hend σ28 0 _ _ G31 F33 ⟨by omega, by omega⟩ dX11_advertisementArrives_87
        · refine v_aload_n B dX11_advertisementArrives_57 rfl rfl ?_
          refine u_get B Z (C := RX11) (T := TX11) (N := 5) (ci := 11) hi_Low_advertisementArrives_X11 t_h h37 rfl 1 (by decide +kernel) (List.mem_of_getElem? (i := 2) rfl) rfl dX11_advertisementArrives_58 ?_
          obtain ⟨a39, a40, a41, a42, a43, a44, a45, z46, z47, z48, h49, t50, t51, t52, t53, t54, t55, t56, r57, r58, r59⟩ : okAir τ (σ28 a2) := G31 a2 _ t8
          refine u_getN B Z (C := RX0) (T := TX0) (N := 10) (ci := 0) hi_Low_advertisementArrives_X0 t8 h49 rfl 7 (by decide +kernel) (List.mem_of_getElem? (i := 55) rfl) rfl dX11_advertisementArrives_61 ?_
          refine u_if_ne B (tgt := 86) (by omega) dX11_advertisementArrives_64 (by decide +kernel) (fun c60 => ?_) (fun c60 => ?_)
          · refine v_iconst B (v := iI 0) dX11_advertisementArrives_86 rfl ?_
            exact hend σ28 0 _ _ G31 F33 ⟨by omega, by omega⟩ dX11_advertisementArrives_87
          · refine v_aload_n B dX11_advertisementArrives_67 rfl rfl ?_
            refine u_get B Z (C := RX11) (T := TX11) (N := 5) (ci := 11) hi_Low_advertisementArrives_X11 t_h h37 rfl 1 (by decide +kernel) (List.mem_of_getElem? (i := 2) rfl) rfl dX11_advertisementArrives_68 ?_
            refine u_getN B Z (C := RX0) (T := TX0) (N := 10) (ci := 0) hi_Low_advertisementArrives_X0 t8 h49 rfl 6 (by decide +kernel) (List.mem_of_getElem? (i := 54) rfl) rfl dX11_advertisementArrives_71 ?_
            obtain ⟨b61, N62, n63, h64, t65, r66⟩ : okRow τ 5 (σ28 a45) := G31 a45 _ t56
            refine u_getN B Z (C := RX9) (T := TX9) (N := 2) (ci := 9) hi_Low_advertisementArrives_X9 t56 h64 rfl 1 (by decide +kernel) (List.mem_of_getElem? (i := 51) rfl) rfl dX11_advertisementArrives_74 ?_
            refine v_bipush B (v := iI 6) dX11_advertisementArrives_77 (by decide +kernel) ?_
            refine u_icmp_lt B (tgt := 86) (by omega) (by omega) dX11_advertisementArrives_79 (by decide +kernel) (fun c67 => ?_) (fun c67 => ?_)
            · refine v_iconst B (v := iI 0) dX11_advertisementArrives_86 rfl ?_
              exact hend σ28 0 _ _ G31 F33 ⟨by omega, by omega⟩ dX11_advertisementArrives_87
            · refine v_iconst B (v := iI 1) dX11_advertisementArrives_82 rfl ?_
              refine v_goto B (tgt := 87) dX11_advertisementArrives_83 (by decide +kernel) ?_
              exact hend σ28 1 _ _ G31 F33 ⟨by omega, by omega⟩ dX11_advertisementArrives_87
  refine v_aload_n B dX11_advertisementArrives_0 rfl rfl ?_
  obtain ⟨z68, yy69, z70, z71, z72, z73, a74, z75, yy76, a77, yy78, a79, a80, a81, a82, a83, a84, a85, a86, h87, r88, r89, r90, r91, r92, r93, t94, r95, r96, t97, r98, t99, t100, t101, t102, t103, t104, t105, t106⟩ : okDevice τ (σ0 d) := G0 d _ t_d
  refine u_getN B Z (C := RX3) (T := TX3) (N := 19) (ci := 3) hi_Low_advertisementArrives_X3 t_d h87 rfl 2 (by decide +kernel) (List.mem_of_getElem? (i := 65) rfl) rfl dX11_advertisementArrives_1 ?_
  refine v_iconst B (v := iI 2) dX11_advertisementArrives_4 rfl ?_
  refine u_icmp_eq B (tgt := 16) (by omega) (by omega) dX11_advertisementArrives_5 (by decide +kernel) (fun c107 => ?_) (fun c107 => ?_)
  · refine v_lv [0, 2] rfl ?_
    exact J16
  · refine v_aload_n B dX11_advertisementArrives_8 rfl rfl ?_
    refine u_getN B Z (C := RX3) (T := TX3) (N := 19) (ci := 3) hi_Low_advertisementArrives_X3 t_d h87 rfl 2 (by decide +kernel) (List.mem_of_getElem? (i := 65) rfl) rfl dX11_advertisementArrives_9 ?_
    refine v_iconst B (v := iI 3) dX11_advertisementArrives_12 rfl ?_
    refine u_icmp_ne B (tgt := 86) (by omega) (by omega) dX11_advertisementArrives_13 (by decide +kernel) (fun c108 => ?_) (fun c108 => ?_)
    · refine v_iconst B (v := iI 0) dX11_advertisementArrives_86 rfl ?_
      exact hend σ0 0 _ _ G0 F0 ⟨by omega, by omega⟩ dX11_advertisementArrives_87
    · refine v_lv [0, 2] rfl ?_
      exact J16
set_option maxRecDepth 100000 in
theorem c_Low_advertisementArrives (l : Launch) (D : va_G) (K : Nat → ClassId) {τ : Nat → Option Ty} {dom : List Nat} (Z : Sk τ dom) (zb zL : Nat) (zx : Nat → Int32) (zs : Nat → Nat) (h : Nat) (d : Nat) (x2 : Int) (t_h : τ h = some (41, 0, 0)) (t_d : τ d = some (33, 0, 0)) (r_x2 : -2147483648 ≤ x2 ∧ x2 ≤ 2147483647) (σ0 : Nat → va_E) (G0 : Good K τ σ0) : MZ l yX11_advertisementArrives wp_Low_advertisementArrives ({ frames := 4, cells := 0, slots := 0, locals := 83 }) D (tysA K) [.ref h, .ref d, .int (iI x2)] (fd dom σ0) zb zL zx zs (Qi D (fun r σ' => Good K τ σ' ∧ Fr τ [(1, 4), (2, 4), (30, 0), (1, 5), (2, 5)] σ0 σ' ∧ ∃ z : Int, r = iI z ∧ (0 ≤ z ∧ z ≤ 1)) (fun σ' => fd dom σ')) 0 0 := by
  refine mz_of (cc := cX11_advertisementArrives) (maxL := 3) (ret := (some .boolean)) (by decide +kernel) rfl (Nat.le_of_ble_eq_true rfl) ?_
  intro p e s m below meth c A B hr hlk _ hz
  exact b_Low_advertisementArrives ⟨Nat.le_refl _, Nat.le_refl _⟩ B Z hz h d x2 t_h t_d r_x2 σ0 G0 (fun σ' z lv pc G F hZ hd => v_zret B hr hlk (nar01 (by omega)) σ' ⟨G, F, z, rfl, hZ⟩ rfl (Nat.le_refl _) (Nat.le_refl _) hd)

def wp_Low_initiate : List Cond := .code yX11_initiate cX11_initiate 5 none :: (([.methodLink RX11 466 yX3_drawNumber, .instanceMethod yX3_drawNumber, .selects RX3 yX3_drawNumber yX3_drawNumber, .initialized RX3, .code yX3_drawNumber cX3_drawNumber 4 (some .int), .methodLink RX3 89 yX3_draw, .instanceMethod yX3_draw, .selects RX3 yX3_draw yX3_draw, .code yX3_draw cX3_draw 1 (some .int), .fieldLink RX3 69 "LowEnergy$Device" "x" "I", .constant RX3 88 (1103515245), .fieldLink RX11 65 "LowEnergy" "now" "I", .methodLink RX11 475 yX3_enterLink, .instanceMethod yX3_enterLink, .selects RX3 yX3_enterLink yX3_enterLink, .code yX3_enterLink cX3_enterLink 3 none, .fieldLink RX3 93 "LowEnergy$Device" "state" "I", .fieldLink RX3 26 "LowEnergy$Device" "link" "LLowEnergy$Link;", .methodLink RX3 154 yX6_begin, .instanceMethod yX6_begin, .selects RX6 yX6_begin yX6_begin, .initialized RX6, .code yX6_begin cX6_begin 2 none, .fieldLink RX6 31 "LowEnergy$Link" "interval" "I", .fieldLink RX6 44 "LowEnergy$Link" "anchor" "I", .fieldLink RX6 47 "LowEnergy$Link" "heardAt" "I", .fieldLink RX3 54 "LowEnergy$Device" "diary" "LLowEnergy$Diary;", .methodLink RX3 157 yX4_note, .instanceMethod yX4_note, .selects RX4 yX4_note yX4_note, .initialized RX4, .code yX4_note cX4_note 6 none, .fieldLink RX4 29 "LowEnergy$Diary" "count" "I", .fieldLink RX4 36 "LowEnergy$Diary" "head" "I", .fieldLink RX4 11 "LowEnergy$Diary" "kinds" "[I", .fieldLink RX4 17 "LowEnergy$Diary" "numbers" "[[I", .fieldLink RX4 22 "LowEnergy$Diary" "rows" "[LLowEnergy$Row;", .methodLink RX4 39 yX9_clear, .instanceMethod yX9_clear, .selects RX9 yX9_clear yX9_clear, .initialized RX9, .code yX9_clear cX9_clear 1 none, .fieldLink RX9 21 "LowEnergy$Row" "size" "I", .fieldLink RX4 33 "LowEnergy$Diary" "lost" "I", .fieldLink RX11 31 "LowEnergy" "outgoing" "LLowEnergy$Row;", .methodLink RX11 78 yX9_clear, .methodLink RX11 160 yX9_putNumber, .instanceMethod yX9_putNumber, .selects RX9 yX9_putNumber yX9_putNumber, .code yX9_putNumber cX9_putNumber 5 none, .fieldLink RX9 15 "LowEnergy$Row" "bytes" "[I", .constantLong RX9 25 (255), .methodLink RX11 164 yX9_put, .instanceMethod yX9_put, .selects RX9 yX9_put yX9_put, .code yX9_put cX9_put 2 none, .fieldLink RX11 18 "LowEnergy" "sky" "LLowEnergy$Air;", .constant RX11 433 (-1903575338), .constant RX11 434 (5592405), .methodLink RX11 435 yX0_transmit, .instanceMethod yX0_transmit, .selects RX0 yX0_transmit yX0_transmit, .initialized RX0, .code yX0_transmit cX0_transmit 8 none, .fieldLink RX0 78 "LowEnergy$Air" "latestIsLost" "Z", .fieldLink RX0 29 "LowEnergy$Air" "losses" "[I", .fieldLink RX0 42 "LowEnergy$Air" "count" "I", .fieldLink RX0 13 "LowEnergy$Air" "packets" "[LLowEnergy$Row;", .methodLink RX0 53 yX9_clear, .methodLink RX0 56 yX9_putNumber, .methodLink RX0 60 yX9_put, .methodLink RX0 63 yX9_putPart, .instanceMethod yX9_putPart, .selects RX9 yX9_putPart yX9_putPart, .code yX9_putPart cX9_putPart 6 none, .methodLink RX9 9 Lib.Math.max.name, .static Lib.Math.max.name, .initialized "java/lang/Math", .code Lib.Math.max.name Lib.Math.max.code 2 (some .int), .methodLink RX0 67 yX0_crcInOrder, .static yX0_crcInOrder, .code yX0_crcInOrder cX0_crcInOrder 7 (some .int), .constant RX0 100 (16777215), .methodLink RX0 71 yX0_whiten, .static yX0_whiten, .code yX0_whiten cX0_whiten 7 none, .methodLink RX0 75 yX0_disturb, .instanceMethod yX0_disturb, .selects RX0 yX0_disturb yX0_disturb, .code yX0_disturb cX0_disturb 5 none, .fieldLink RX0 26 "LowEnergy$Air" "noiseCounts" "[I", .fieldLink RX0 23 "LowEnergy$Air" "noises" "[[I", .methodLink RX0 82 yX9_turn, .instanceMethod yX9_turn, .selects RX9 yX9_turn yX9_turn, .code yX9_turn cX9_turn 3 none, .fieldLink RX0 17 "LowEnergy$Air" "channels" "[I", .methodLink RX11 457 yX0_isHeard, .instanceMethod yX0_isHeard, .selects RX0 yX0_isHeard yX0_isHeard, .code yX0_isHeard cX0_isHeard 4 (some .boolean), .methodLink RX0 86 yX9_numberAt, .instanceMethod yX9_numberAt, .selects RX9 yX9_numberAt yX9_numberAt, .code yX9_numberAt cX9_numberAt 7 (some .long), .methodLink RX11 460 yX0_isGood, .instanceMethod yX0_isGood, .selects RX0 yX0_isGood yX0_isGood, .code yX0_isGood cX0_isGood 5 (some .boolean), .fieldLink RX0 35 "LowEnergy$Air" "plain" "LLowEnergy$Row;", .methodLink RX0 90 yX9_become, .instanceMethod yX9_become, .selects RX9 yX9_become yX9_become, .code yX9_become cX9_become 2 none, .methodLink RX9 27 yX9_putPart, .methodLink RX0 49 yX9_at, .instanceMethod yX9_at, .selects RX9 yX9_at yX9_at, .code yX9_at cX9_at 2 (some .int), .fieldLink RX0 94 "LowEnergy$Air" "first" "I", .fieldLink RX0 39 "LowEnergy$Air" "payload" "LLowEnergy$Row;", .methodLink RX11 479 yX3_accepts, .instanceMethod yX3_accepts, .selects RX3 yX3_accepts yX3_accepts, .code yX3_accepts cX3_accepts 7 (some .boolean), .methodLink RX3 113 yX9_numberAt, .fieldLink RX3 65 "LowEnergy$Device" "address" "J", .methodLink RX3 130 yX9_two, .instanceMethod yX9_two, .selects RX9 yX9_two yX9_two, .code yX9_two cX9_two 2 (some .int), .methodLink RX3 134 yX9_at, .methodLink RX3 137 yX6_isProper, .static yX6_isProper, .code yX6_isProper cX6_isProper 5 (some .boolean), .methodLink RX6 21 yX6_isProperMap, .static yX6_isProperMap, .code yX6_isProperMap cX6_isProperMap 2 (some .boolean), .methodLink RX6 25 yJ13_bitCount_95d88, .static yJ13_bitCount_95d88, .initialized RJ13, .code yJ13_bitCount_95d88 cJ13_bitCount_95d88 2 (some .int), .constantLong RJ13 314 (6148914691236517205), .constantLong RJ13 316 (3689348814741910323), .constantLong RJ13 318 (1085102592571150095), .methodLink RX3 150 yX6_arrange, .instanceMethod yX6_arrange, .selects RX6 yX6_arrange yX6_arrange, .code yX6_arrange cX6_arrange 6 none, .fieldLink RX6 34 "LowEnergy$Link" "timeout" "I", .fieldLink RX6 37 "LowEnergy$Link" "hop" "I", .fieldLink RX6 40 "LowEnergy$Link" "map" "J"] : List Cond) ++ (wsX30 ++ (wsX60 ++ (wsX110 ++ (wsX40 ++ (wsX90 ++ (wsX00 ++ ([]))))))))
theorem hi_Low_initiate_X3 : ∀ x ∈ u_ws RX3 TX3 19, x ∈ wp_Low_initiate := fun _ h => List.mem_cons_of_mem _ (List.mem_append_right _ (List.mem_append_left _ h))
theorem hi_Low_initiate_X6 : ∀ x ∈ u_ws RX6 TX6 20, x ∈ wp_Low_initiate := fun _ h => List.mem_cons_of_mem _ (List.mem_append_right _ (List.mem_append_right _ (List.mem_append_left _ h)))
theorem hi_Low_initiate_X11 : ∀ x ∈ u_ws RX11 TX11 5, x ∈ wp_Low_initiate := fun _ h => List.mem_cons_of_mem _ (List.mem_append_right _ (List.mem_append_right _ (List.mem_append_right _ (List.mem_append_left _ h))))
theorem hi_Low_initiate_X4 : ∀ x ∈ u_ws RX4 TX4 6, x ∈ wp_Low_initiate := fun _ h => List.mem_cons_of_mem _ (List.mem_append_right _ (List.mem_append_right _ (List.mem_append_right _ (List.mem_append_right _ (List.mem_append_left _ h)))))
theorem hi_Low_initiate_X9 : ∀ x ∈ u_ws RX9 TX9 2, x ∈ wp_Low_initiate := fun _ h => List.mem_cons_of_mem _ (List.mem_append_right _ (List.mem_append_right _ (List.mem_append_right _ (List.mem_append_right _ (List.mem_append_right _ (List.mem_append_left _ h))))))
theorem hi_Low_initiate_X0 : ∀ x ∈ u_ws RX0 TX0 10, x ∈ wp_Low_initiate := fun _ h => List.mem_cons_of_mem _ (List.mem_append_right _ (List.mem_append_right _ (List.mem_append_right _ (List.mem_append_right _ (List.mem_append_right _ (List.mem_append_right _ (List.mem_append_left _ h)))))))
set_option maxRecDepth 100000 in
theorem gd_Low_initiate_Device_drawNumber_466 : GoodIn wp_Low_initiate (wsV RX11 466 RX3 yX3_drawNumber wp_Device_drawNumber) := goodIn_app (goodIn_r _ [1, 2, 3, 4] rfl rfl) (goodIn_ca (goodIn_r _ [5, 6, 7, 8, 4, 9, 10, 11] rfl rfl) (goodIn_app (goodIn_cls hi_Low_initiate_X3 gw_X3) (goodIn_nil)))
set_option maxRecDepth 100000 in
theorem gd_Low_initiate_Device_enterLink_475 : GoodIn wp_Low_initiate (wsV RX11 475 RX3 yX3_enterLink wp_Device_enterLink) := goodIn_app (goodIn_r _ [13, 14, 15, 4] rfl rfl) (goodIn_ca (goodIn_r _ [16, 17, 18, 19, 20, 21, 22, 23, 24, 25, 26, 27, 28, 29, 30, 31, 32, 33, 34, 35, 36, 37, 38, 39, 40, 41, 42, 43, 44] rfl rfl) (goodIn_app (goodIn_cls hi_Low_initiate_X3 gw_X3) (goodIn_app (goodIn_cls hi_Low_initiate_X6 gw_X6) (goodIn_app (goodIn_cls hi_Low_initiate_X4 gw_X4) (goodIn_app (goodIn_cls hi_Low_initiate_X9 gw_X9) (goodIn_nil))))))
set_option maxRecDepth 100000 in
theorem gd_Low_initiate_Row_clear_78 : GoodIn wp_Low_initiate (wsV RX11 78 RX9 yX9_clear wp_Row_clear) := goodIn_app (goodIn_r _ [46, 39, 40, 41] rfl rfl) (goodIn_ca (goodIn_r _ [42, 43] rfl rfl) (goodIn_app (goodIn_cls hi_Low_initiate_X9 gw_X9) (goodIn_nil)))
set_option maxRecDepth 100000 in
theorem gd_Low_initiate_Row_putNumber_160 : GoodIn wp_Low_initiate (wsV RX11 160 RX9 yX9_putNumber wp_Row_putNumber) := goodIn_app (goodIn_r _ [47, 48, 49, 41] rfl rfl) (goodIn_ca (goodIn_r _ [50, 43, 51, 52] rfl rfl) (goodIn_app (goodIn_cls hi_Low_initiate_X9 gw_X9) (goodIn_nil)))
set_option maxRecDepth 100000 in
theorem gd_Low_initiate_Row_put_164 : GoodIn wp_Low_initiate (wsV RX11 164 RX9 yX9_put wp_Row_put) := goodIn_app (goodIn_r _ [53, 54, 55, 41] rfl rfl) (goodIn_ca (goodIn_r _ [56, 43, 51] rfl rfl) (goodIn_app (goodIn_cls hi_Low_initiate_X9 gw_X9) (goodIn_nil)))
set_option maxRecDepth 100000 in
theorem gd_Low_initiate_Air_transmit_435 : GoodIn wp_Low_initiate (wsV RX11 435 RX0 yX0_transmit wp_Air_transmit) := goodIn_app (goodIn_r _ [60, 61, 62, 63] rfl rfl) (goodIn_ca (goodIn_r _ [64, 65, 66, 67, 68, 69, 39, 40, 41, 42, 43, 70, 48, 49, 50, 51, 52, 71, 54, 55, 56, 72, 73, 74, 75, 76, 77, 78, 79, 80, 81, 63, 82, 83, 84, 85, 86, 87, 88, 89, 90, 91, 92, 93, 94, 95, 96, 97] rfl rfl) (goodIn_app (goodIn_cls hi_Low_initiate_X0 gw_X0) (goodIn_app (goodIn_cls hi_Low_initiate_X9 gw_X9) (goodIn_nil))))
set_option maxRecDepth 100000 in
theorem gd_Low_initiate_Air_isHeard_457 : GoodIn wp_Low_initiate (wsV RX11 457 RX0 yX0_isHeard wp_Air_isHeard) := goodIn_app (goodIn_r _ [98, 99, 100, 63] rfl rfl) (goodIn_ca (goodIn_r _ [101, 67, 68, 65, 97, 102, 103, 104, 41, 105, 43, 51] rfl rfl) (goodIn_app (goodIn_cls hi_Low_initiate_X0 gw_X0) (goodIn_app (goodIn_cls hi_Low_initiate_X9 gw_X9) (goodIn_nil))))
set_option maxRecDepth 100000 in
theorem gd_Low_initiate_Air_isGood_460 : GoodIn wp_Low_initiate (wsV RX11 460 RX0 yX0_isGood wp_Air_isGood) := goodIn_app (goodIn_r _ [106, 107, 108, 63] rfl rfl) (goodIn_ca (goodIn_r _ [109, 67, 68, 110, 111, 112, 113, 41, 114, 43, 115, 73, 74, 75, 51, 76, 77, 78, 79, 84, 85, 63, 86, 116, 117, 118, 119, 120, 121, 69, 39, 40, 42, 72, 102, 103, 104, 105, 80, 81, 82, 83] rfl rfl) (goodIn_app (goodIn_cls hi_Low_initiate_X0 gw_X0) (goodIn_app (goodIn_cls hi_Low_initiate_X9 gw_X9) (goodIn_nil))))
set_option maxRecDepth 100000 in
theorem gd_Low_initiate_Device_accepts_479 : GoodIn wp_Low_initiate (wsV RX11 479 RX3 yX3_accepts wp_Device_accepts) := goodIn_app (goodIn_r _ [122, 123, 124, 4] rfl rfl) (goodIn_ca (goodIn_r _ [125, 126, 103, 104, 41, 105, 43, 51, 127, 128, 129, 130, 131, 132, 117, 118, 119, 133, 134, 22, 135, 136, 137, 138, 139, 140, 141, 142, 143, 144, 145, 18, 146, 147, 148, 149, 24, 150, 151, 152] rfl rfl) (goodIn_app (goodIn_cls hi_Low_initiate_X9 gw_X9) (goodIn_app (goodIn_cls hi_Low_initiate_X3 gw_X3) (goodIn_app (goodIn_cls hi_Low_initiate_X6 gw_X6) (goodIn_nil)))))
set_option maxHeartbeats 4000000 in
set_option maxRecDepth 100000 in
theorem b_Low_initiate {p : Program} {l : Launch} {e : Env} {R : Room} {s : State} {m : MethodId} {args : Array Value} {below : List Frame} {meth : Method} {c : Code} {D : va_G} {K : Nat → ClassId} {A : Nat → Prop} {Q : State → Prop} {τ : Nat → Option Ty} {dom : List Nat} {zb zL : Nat} {zx : Nat → Int32} {zs : Nat → Nat} (hR : 4 ≤ R.frames ∧ 92 ≤ R.locals) (B : Bx p s m args c cX11_initiate 5 RX11 wp_Low_initiate D (tysA K) A) (Z : Sk τ dom) (hz : ZL zb zL zx zs A s s.heap) (h : Nat) (d : Nat) (d2 : Nat) (x3 : Int) (t_h : τ h = some (41, 0, 0)) (t_d : τ d = some (33, 0, 0)) (t_d2 : τ d2 = some (33, 0, 0)) (r_x3 : -2147483648 ≤ x3 ∧ x3 ≤ 2147483647) (σ0 : Nat → va_E) (G0 : Good K τ σ0) (hend : ∀ (σ' : Nat → va_E) (lv : List (Nat × Value)) (pc : Nat), Good K τ σ' → Fr τ [(33, 0), (36, 0), (3, 23), (3, 22), (1, 16), (34, 0), (1, 2), (2, 2), (1, 3), (2, 3), (4, 24), (3, 20), (30, 0), (3, 25), (1, 4), (2, 4), (1, 5), (2, 5)] σ0 σ' → decode cX11_initiate pc = .ok (.return_, 1) → V p l e R s m args below meth c 5 D A Q (0, 0) (fd dom σ') lv pc []) : V p l e R s m args below meth c 5 D A Q (0, 0) (fd dom σ0) [(0, .ref h), (1, .ref d), (2, .ref d2), (3, .int (iI x3))] 0 [] := by
  have F0 : Fr τ [(33, 0), (36, 0), (3, 23), (3, 22), (1, 16), (34, 0), (1, 2), (2, 2), (1, 3), (2, 3), (4, 24), (3, 20), (30, 0), (3, 25), (1, 4), (2, 4), (1, 5), (2, 5)] σ0 σ0 := Fr.rf
  refine v_aload_n B dX11_initiate_0 rfl rfl ?_
  obtain ⟨z1, yy2, z3, z4, z5, z6, a7, z8, yy9, a10, yy11, a12, a13, a14, a15, a16, a17, a18, a19, h20, r21, r22, r23, r24, r25, r26, t27, r28, r29, t30, r31, t32, t33, t34, t35, t36, t37, t38, t39⟩ : okDevice τ (σ0 d) := G0 d _ t_d
  refine u_getN B Z (C := RX3) (T := TX3) (N := 19) (ci := 3) hi_Low_initiate_X3 t_d h20 rfl 11 (by decide +kernel) (List.mem_of_getElem? (i := 69) rfl) rfl dX11_initiate_1 ?_
  refine v_astore B (lv' := [(4, .ref a12), (0, .ref h), (1, .ref d), (2, .ref d2), (3, .int (iI x3))]) dX11_initiate_4 (by decide +kernel) rfl ?_
  refine v_aload B dX11_initiate_6 rfl ?_
  refine v_aload_n B dX11_initiate_8 rfl rfl ?_
  refine v_iconst B (v := iI 4) dX11_initiate_9 rfl ?_
  refine u_callVi B Z hz (n := 1) (As := [.int (iI 4)]) (rest := [.ref a12]) (c_Device_drawNumber l D K Z _ _ _ _ d 4 t_d ⟨by omega, by omega⟩ σ0 G0) gd_Low_initiate_Device_drawNumber_466 rfl rfl rfl (by decide +kernel) ⟨Nat.le_trans (by decide +kernel) hR.1, Nat.le_trans (by decide +kernel) hR.2⟩ t_d (cls_Device G0 t_d) rfl rfl rfl rfl (Nat.le_of_ble_eq_true rfl) dX11_initiate_10 ⟨Nat.zero_le _, Nat.zero_le _⟩ (fun v42 σ40 p41 => ?_)
  obtain ⟨G43, F44, z46, e47, r48⟩ := p41
  subst e47
  have F45 := F0.call F44 (by first | rfl | simp)
  obtain ⟨z49, z50, z51, z52, z53, yy54, yy55, z56, z57, z58, z59, z60, z61, z62, z63, z64, z65, z66, z67, yy68, h69, r70, r71, r72, r73, r74, r75, r76, r77, r78, r79, r80, r81, r82, r83, r84, r85, r86, r87, r88, r89⟩ : okLink τ (σ40 a12) := G43 a12 _ t32
  refine u_putN B Z (C := RX6) (T := TX6) (N := 20) (ci := 6) hi_Low_initiate_X6 t32 h69 rfl 0 (by decide +kernel) tyX6 tyX6_ok nmX6 (List.mem_of_getElem? (i := 56) rfl) rfl (ty := .int) (tyX6_ok 0 (by decide +kernel)) rfl rfl (Nat.le_of_ble_eq_true rfl) (fs' := [.int (iI z46), .int (iI z50), .int (iI z51), .int (iI z52), .int (iI z53), .long (lI yy54), .long (lI yy55), .int (iI z56), .int (iI z57), .int (iI z58), .int (iI z59), .int (iI z60), .int (iI z61), .int (iI z62), .int (iI z63), .int (iI z64), .int (iI z65), .int (iI z66), .int (iI z67), .long (lI yy68)]) rfl dX11_initiate_13 (fun σ90 h91 n92 => ?_)
  have G93 := G43.put t32 (⟨z46, z50, z51, z52, z53, yy54, yy55, z56, z57, z58, z59, z60, z61, z62, z63, z64, z65, z66, z67, yy68, h91, ⟨by omega, by omega⟩, ⟨by omega, by omega⟩, ⟨by omega, by omega⟩, ⟨by omega, by omega⟩, ⟨by omega, by omega⟩, ⟨by omega, by omega⟩, ⟨by omega, by omega⟩, ⟨by omega, by omega⟩, ⟨by omega, by omega⟩, ⟨by omega, by omega⟩, ⟨by omega, by omega⟩, ⟨by omega, by omega⟩, ⟨by omega, by omega⟩, ⟨by omega, by omega⟩, ⟨by omega, by omega⟩, ⟨by omega, by omega⟩, ⟨by omega, by omega⟩, ⟨by omega, by omega⟩, ⟨by omega, by omega⟩, ⟨by omega, by omega⟩⟩ : Ok K τ (36, 0, 0) (σ90 a12)) n92
  have F94 := F45.put t32 (by simp) n92
  refine v_aload B dX11_initiate_16 rfl ?_
  refine v_aload_n B dX11_initiate_18 rfl rfl ?_
  refine v_iconst B (v := iI 3) dX11_initiate_19 rfl ?_
  refine u_callVi B Z hz (n := 1) (As := [.int (iI 3)]) (rest := [.ref a12]) (c_Device_drawNumber l D K Z _ _ _ _ d 3 t_d ⟨by omega, by omega⟩ σ90 G93) gd_Low_initiate_Device_drawNumber_466 rfl rfl rfl (by decide +kernel) ⟨Nat.le_trans (by decide +kernel) hR.1, Nat.le_trans (by decide +kernel) hR.2⟩ t_d (cls_Device G93 t_d) rfl rfl rfl rfl (Nat.le_of_ble_eq_true rfl) dX11_initiate_20 ⟨Nat.zero_le _, Nat.zero_le _⟩ (fun v97 σ95 p96 => ?_)
  obtain ⟨G98, F99, z101, e102, r103⟩ := p96
  subst e102
  have F100 := F94.call F99 (by first | rfl | simp)
  have h104 := (F99 a12 _ t32 (by first | rfl | simp)).trans h91
  refine u_putN B Z (C := RX6) (T := TX6) (N := 20) (ci := 6) hi_Low_initiate_X6 t32 h104 rfl 1 (by decide +kernel) tyX6 tyX6_ok nmX6 (List.mem_of_getElem? (i := 57) rfl) rfl (ty := .int) (tyX6_ok 1 (by decide +kernel)) rfl rfl (Nat.le_of_ble_eq_true rfl) (fs' := [.int (iI z46), .int (iI z101), .int (iI z51), .int (iI z52), .int (iI z53), .long (lI yy54), .long (lI yy55), .int (iI z56), .int (iI z57), .int (iI z58), .int (iI z59), .int (iI z60), .int (iI z61), .int (iI z62), .int (iI z63), .int (iI z64), .int (iI z65), .int (iI z66), .int (iI z67), .long (lI yy68)]) rfl dX11_initiate_23 (fun σ105 h106 n107 => ?_)
  have G108 := G98.put t32 (⟨z46, z101, z51, z52, z53, yy54, yy55, z56, z57, z58, z59, z60, z61, z62, z63, z64, z65, z66, z67, yy68, h106, ⟨by omega, by omega⟩, ⟨by omega, by omega⟩, ⟨by omega, by omega⟩, ⟨by omega, by omega⟩, ⟨by omega, by omega⟩, ⟨by omega, by omega⟩, ⟨by omega, by omega⟩, ⟨by omega, by omega⟩, ⟨by omega, by omega⟩, ⟨by omega, by omega⟩, ⟨by omega, by omega⟩, ⟨by omega, by omega⟩, ⟨by omega, by omega⟩, ⟨by omega, by omega⟩, ⟨by omega, by omega⟩, ⟨by omega, by omega⟩, ⟨by omega, by omega⟩, ⟨by omega, by omega⟩, ⟨by omega, by omega⟩, ⟨by omega, by omega⟩⟩ : Ok K τ (36, 0, 0) (σ105 a12)) n107
  have F109 := F100.put t32 (by simp) n107
  refine v_aload_n B dX11_initiate_26 rfl rfl ?_
  refine v_iconst B (v := iI 4) dX11_initiate_27 rfl ?_
  refine v_aload_n B dX11_initiate_28 rfl rfl ?_
  obtain ⟨a110, a111, a112, a113, z114, h115, t116, t117, t118, t119, r120⟩ : okLow τ (σ105 h) := G108 h _ t_h
  refine u_get B Z (C := RX11) (T := TX11) (N := 5) (ci := 11) hi_Low_initiate_X11 t_h h115 rfl 4 (by decide +kernel) (List.mem_of_getElem? (i := 12) rfl) rfl dX11_initiate_29 ?_
  refine u_callVv B Z hz (n := 2) (As := [.int (iI 4), .int (iI z114)]) (rest := []) (c_Device_enterLink l D K Z _ _ _ _ d 4 z114 t_d ⟨by omega, by omega⟩ ⟨by omega, by omega⟩ σ105 G108) gd_Low_initiate_Device_enterLink_475 rfl rfl rfl (by decide +kernel) ⟨Nat.le_trans (by decide +kernel) hR.1, Nat.le_trans (by decide +kernel) hR.2⟩ t_d (cls_Device G108 t_d) rfl rfl rfl rfl (Nat.le_of_ble_eq_true rfl) dX11_initiate_32 ⟨Nat.zero_le _, Nat.zero_le _⟩ (fun σ121 p122 => ?_)
  obtain ⟨G124, F125⟩ := p122
  have F126 := F109.call F125 (by first | rfl | simp)
  have h127 := (F125 h _ t_h (by first | rfl | simp)).trans h115
  refine v_aload_n B dX11_initiate_35 rfl rfl ?_
  refine u_get B Z (C := RX11) (T := TX11) (N := 5) (ci := 11) hi_Low_initiate_X11 t_h h127 rfl 3 (by decide +kernel) (List.mem_of_getElem? (i := 45) rfl) rfl dX11_initiate_36 ?_
  refine u_callVv B Z hz (n := 0) (As := []) (rest := []) (c_Row_clear l D K Z _ _ _ _ a113 t119 σ121 G124) gd_Low_initiate_Row_clear_78 rfl rfl rfl (by decide +kernel) ⟨Nat.le_trans (by decide +kernel) hR.1, Nat.le_trans (by decide +kernel) hR.2⟩ t119 (cls_Row G124 t119) rfl rfl rfl rfl (Nat.le_of_ble_eq_true rfl) dX11_initiate_39 ⟨Nat.zero_le _, Nat.zero_le _⟩ (fun σ128 p129 => ?_)
  obtain ⟨G131, F132⟩ := p129
  have F133 := F126.call F132 (by first | rfl | simp)
  have h134 := (F132 h _ t_h (by first | rfl | simp)).trans h127
  refine v_aload_n B dX11_initiate_42 rfl rfl ?_
  refine u_get B Z (C := RX11) (T := TX11) (N := 5) (ci := 11) hi_Low_initiate_X11 t_h h134 rfl 3 (by decide +kernel) (List.mem_of_getElem? (i := 45) rfl) rfl dX11_initiate_43 ?_
  refine v_aload_n B dX11_initiate_46 rfl rfl ?_
  obtain ⟨z135, yy136, z137, z138, z139, z140, a141, z142, yy143, a144, yy145, a146, a147, a148, a149, a150, a151, a152, a153, h154, r155, r156, r157, r158, r159, r160, t161, r162, r163, t164, r165, t166, t167, t168, t169, t170, t171, t172, t173⟩ : okDevice τ (σ128 d) := G131 d _ t_d
  refine u_getN B Z (C := RX3) (T := TX3) (N := 19) (ci := 3) hi_Low_initiate_X3 t_d h154 rfl 1 (by decide +kernel) (List.mem_of_getElem? (i := 28) rfl) rfl dX11_initiate_47 ?_
  refine v_bipush B (v := iI 6) dX11_initiate_50 (by decide +kernel) ?_
  refine u_callVv B Z hz (n := 2) (As := [.long (lI yy136), .int (iI 6)]) (rest := []) (c_Row_putNumber l D K Z _ _ _ _ a113 yy136 6 t119 ⟨by omega, by omega⟩ ⟨by omega, by omega⟩ σ128 G131) gd_Low_initiate_Row_putNumber_160 rfl rfl rfl (by decide +kernel) ⟨Nat.le_trans (by decide +kernel) hR.1, Nat.le_trans (by decide +kernel) hR.2⟩ t119 (cls_Row G131 t119) rfl rfl rfl rfl (Nat.le_of_ble_eq_true rfl) dX11_initiate_52 ⟨Nat.zero_le _, Nat.zero_le _⟩ (fun σ174 p175 => ?_)
  obtain ⟨G177, F178⟩ := p175
  have F179 := F133.call F178 (by first | rfl | simp)
  have h180 := (F178 h _ t_h (by first | rfl | simp)).trans h134
  have h181 := (F178 d _ t_d (by first | rfl | simp)).trans h154
  refine v_aload_n B dX11_initiate_55 rfl rfl ?_
  refine u_get B Z (C := RX11) (T := TX11) (N := 5) (ci := 11) hi_Low_initiate_X11 t_h h180 rfl 3 (by decide +kernel) (List.mem_of_getElem? (i := 45) rfl) rfl dX11_initiate_56 ?_
  refine v_aload B dX11_initiate_59 rfl ?_
  obtain ⟨z182, z183, z184, z185, z186, yy187, yy188, z189, z190, z191, z192, z193, z194, z195, z196, z197, z198, z199, z200, yy201, h202, r203, r204, r205, r206, r207, r208, r209, r210, r211, r212, r213, r214, r215, r216, r217, r218, r219, r220, r221, r222⟩ : okLink τ (σ174 a12) := G177 a12 _ t32
  refine u_getN B Z (C := RX6) (T := TX6) (N := 20) (ci := 6) hi_Low_initiate_X6 t32 h202 rfl 19 (by decide +kernel) (List.mem_of_getElem? (i := 70) rfl) rfl dX11_initiate_61 ?_
  refine v_bipush B (v := iI 6) dX11_initiate_64 (by decide +kernel) ?_
  refine u_callVv B Z hz (n := 2) (As := [.long (lI yy201), .int (iI 6)]) (rest := []) (c_Row_putNumber l D K Z _ _ _ _ a113 yy201 6 t119 ⟨by omega, by omega⟩ ⟨by omega, by omega⟩ σ174 G177) gd_Low_initiate_Row_putNumber_160 rfl rfl rfl (by decide +kernel) ⟨Nat.le_trans (by decide +kernel) hR.1, Nat.le_trans (by decide +kernel) hR.2⟩ t119 (cls_Row G177 t119) rfl rfl rfl rfl (Nat.le_of_ble_eq_true rfl) dX11_initiate_66 ⟨Nat.zero_le _, Nat.zero_le _⟩ (fun σ223 p224 => ?_)
  obtain ⟨G226, F227⟩ := p224
  have F228 := F179.call F227 (by first | rfl | simp)
  have h229 := (F227 h _ t_h (by first | rfl | simp)).trans h180
  have h230 := (F227 d _ t_d (by first | rfl | simp)).trans h181
  have h231 := (F227 a12 _ t32 (by first | rfl | simp)).trans h202
  refine v_aload_n B dX11_initiate_69 rfl rfl ?_
  refine u_get B Z (C := RX11) (T := TX11) (N := 5) (ci := 11) hi_Low_initiate_X11 t_h h229 rfl 3 (by decide +kernel) (List.mem_of_getElem? (i := 45) rfl) rfl dX11_initiate_70 ?_
  refine v_aload B dX11_initiate_73 rfl ?_
  refine u_getN B Z (C := RX6) (T := TX6) (N := 20) (ci := 6) hi_Low_initiate_X6 t32 h231 rfl 0 (by decide +kernel) (List.mem_of_getElem? (i := 56) rfl) rfl dX11_initiate_75 ?_
  refine v_i2l B (v := lI z182) dX11_initiate_78 (lI_i (by omega)) ?_
  refine v_iconst B (v := iI 4) dX11_initiate_79 rfl ?_
  refine u_callVv B Z hz (n := 2) (As := [.long (lI z182), .int (iI 4)]) (rest := []) (c_Row_putNumber l D K Z _ _ _ _ a113 z182 4 t119 ⟨by omega, by omega⟩ ⟨by omega, by omega⟩ σ223 G226) gd_Low_initiate_Row_putNumber_160 rfl rfl rfl (by decide +kernel) ⟨Nat.le_trans (by decide +kernel) hR.1, Nat.le_trans (by decide +kernel) hR.2⟩ t119 (cls_Row G226 t119) rfl rfl rfl rfl (Nat.le_of_ble_eq_true rfl) dX11_initiate_80 ⟨Nat.zero_le _, Nat.zero_le _⟩ (fun σ232 p233 => ?_)
  obtain ⟨G235, F236⟩ := p233
  have F237 := F228.call F236 (by first | rfl | simp)
  have h238 := (F236 h _ t_h (by first | rfl | simp)).trans h229
  have h239 := (F236 d _ t_d (by first | rfl | simp)).trans h230
  have h240 := (F236 a12 _ t32 (by first | rfl | simp)).trans h231
  refine v_aload_n B dX11_initiate_83 rfl rfl ?_
  refine u_get B Z (C := RX11) (T := TX11) (N := 5) (ci := 11) hi_Low_initiate_X11 t_h h238 rfl 3 (by decide +kernel) (List.mem_of_getElem? (i := 45) rfl) rfl dX11_initiate_84 ?_
  refine v_aload B dX11_initiate_87 rfl ?_
  refine u_getN B Z (C := RX6) (T := TX6) (N := 20) (ci := 6) hi_Low_initiate_X6 t32 h240 rfl 1 (by decide +kernel) (List.mem_of_getElem? (i := 57) rfl) rfl dX11_initiate_89 ?_
  refine v_i2l B (v := lI z183) dX11_initiate_92 (lI_i (by omega)) ?_
  refine v_iconst B (v := iI 3) dX11_initiate_93 rfl ?_
  refine u_callVv B Z hz (n := 2) (As := [.long (lI z183), .int (iI 3)]) (rest := []) (c_Row_putNumber l D K Z _ _ _ _ a113 z183 3 t119 ⟨by omega, by omega⟩ ⟨by omega, by omega⟩ σ232 G235) gd_Low_initiate_Row_putNumber_160 rfl rfl rfl (by decide +kernel) ⟨Nat.le_trans (by decide +kernel) hR.1, Nat.le_trans (by decide +kernel) hR.2⟩ t119 (cls_Row G235 t119) rfl rfl rfl rfl (Nat.le_of_ble_eq_true rfl) dX11_initiate_94 ⟨Nat.zero_le _, Nat.zero_le _⟩ (fun σ241 p242 => ?_)
  obtain ⟨G244, F245⟩ := p242
  have F246 := F237.call F245 (by first | rfl | simp)
  have h247 := (F245 h _ t_h (by first | rfl | simp)).trans h238
  have h248 := (F245 d _ t_d (by first | rfl | simp)).trans h239
  have h249 := (F245 a12 _ t32 (by first | rfl | simp)).trans h240
  refine v_aload_n B dX11_initiate_97 rfl rfl ?_
  refine u_get B Z (C := RX11) (T := TX11) (N := 5) (ci := 11) hi_Low_initiate_X11 t_h h247 rfl 3 (by decide +kernel) (List.mem_of_getElem? (i := 45) rfl) rfl dX11_initiate_98 ?_
  refine v_aload B dX11_initiate_101 rfl ?_
  refine u_getN B Z (C := RX6) (T := TX6) (N := 20) (ci := 6) hi_Low_initiate_X6 t32 h249 rfl 2 (by decide +kernel) (List.mem_of_getElem? (i := 39) rfl) rfl dX11_initiate_103 ?_
  refine v_i2l B (v := lI z184) dX11_initiate_106 (lI_i (by omega)) ?_
  refine v_iconst B (v := iI 2) dX11_initiate_107 rfl ?_
  refine u_callVv B Z hz (n := 2) (As := [.long (lI z184), .int (iI 2)]) (rest := []) (c_Row_putNumber l D K Z _ _ _ _ a113 z184 2 t119 ⟨by omega, by omega⟩ ⟨by omega, by omega⟩ σ241 G244) gd_Low_initiate_Row_putNumber_160 rfl rfl rfl (by decide +kernel) ⟨Nat.le_trans (by decide +kernel) hR.1, Nat.le_trans (by decide +kernel) hR.2⟩ t119 (cls_Row G244 t119) rfl rfl rfl rfl (Nat.le_of_ble_eq_true rfl) dX11_initiate_108 ⟨Nat.zero_le _, Nat.zero_le _⟩ (fun σ250 p251 => ?_)
  obtain ⟨G253, F254⟩ := p251
  have F255 := F246.call F254 (by first | rfl | simp)
  have h256 := (F254 h _ t_h (by first | rfl | simp)).trans h247
  have h257 := (F254 d _ t_d (by first | rfl | simp)).trans h248
  have h258 := (F254 a12 _ t32 (by first | rfl | simp)).trans h249
  refine v_aload_n B dX11_initiate_111 rfl rfl ?_
  refine u_get B Z (C := RX11) (T := TX11) (N := 5) (ci := 11) hi_Low_initiate_X11 t_h h256 rfl 3 (by decide +kernel) (List.mem_of_getElem? (i := 45) rfl) rfl dX11_initiate_112 ?_
  refine v_aload B dX11_initiate_115 rfl ?_
  refine u_getN B Z (C := RX6) (T := TX6) (N := 20) (ci := 6) hi_Low_initiate_X6 t32 h258 rfl 3 (by decide +kernel) (List.mem_of_getElem? (i := 41) rfl) rfl dX11_initiate_117 ?_
  refine v_i2l B (v := lI z185) dX11_initiate_120 (lI_i (by omega)) ?_
  refine v_iconst B (v := iI 2) dX11_initiate_121 rfl ?_
  refine u_callVv B Z hz (n := 2) (As := [.long (lI z185), .int (iI 2)]) (rest := []) (c_Row_putNumber l D K Z _ _ _ _ a113 z185 2 t119 ⟨by omega, by omega⟩ ⟨by omega, by omega⟩ σ250 G253) gd_Low_initiate_Row_putNumber_160 rfl rfl rfl (by decide +kernel) ⟨Nat.le_trans (by decide +kernel) hR.1, Nat.le_trans (by decide +kernel) hR.2⟩ t119 (cls_Row G253 t119) rfl rfl rfl rfl (Nat.le_of_ble_eq_true rfl) dX11_initiate_122 ⟨Nat.zero_le _, Nat.zero_le _⟩ (fun σ259 p260 => ?_)
  obtain ⟨G262, F263⟩ := p260
  have F264 := F255.call F263 (by first | rfl | simp)
  have h265 := (F263 h _ t_h (by first | rfl | simp)).trans h256
  have h266 := (F263 d _ t_d (by first | rfl | simp)).trans h257
  have h267 := (F263 a12 _ t32 (by first | rfl | simp)).trans h258
  refine v_aload_n B dX11_initiate_125 rfl rfl ?_
  refine u_get B Z (C := RX11) (T := TX11) (N := 5) (ci := 11) hi_Low_initiate_X11 t_h h265 rfl 3 (by decide +kernel) (List.mem_of_getElem? (i := 45) rfl) rfl dX11_initiate_126 ?_
  refine v_aload B dX11_initiate_129 rfl ?_
  refine u_getN B Z (C := RX6) (T := TX6) (N := 20) (ci := 6) hi_Low_initiate_X6 t32 h267 rfl 5 (by decide +kernel) (List.mem_of_getElem? (i := 26) rfl) rfl dX11_initiate_131 ?_
  refine v_iconst B (v := iI 5) dX11_initiate_134 rfl ?_
  refine u_callVv B Z hz (n := 2) (As := [.long (lI yy187), .int (iI 5)]) (rest := []) (c_Row_putNumber l D K Z _ _ _ _ a113 yy187 5 t119 ⟨by omega, by omega⟩ ⟨by omega, by omega⟩ σ259 G262) gd_Low_initiate_Row_putNumber_160 rfl rfl rfl (by decide +kernel) ⟨Nat.le_trans (by decide +kernel) hR.1, Nat.le_trans (by decide +kernel) hR.2⟩ t119 (cls_Row G262 t119) rfl rfl rfl rfl (Nat.le_of_ble_eq_true rfl) dX11_initiate_135 ⟨Nat.zero_le _, Nat.zero_le _⟩ (fun σ268 p269 => ?_)
  obtain ⟨G271, F272⟩ := p269
  have F273 := F264.call F272 (by first | rfl | simp)
  have h274 := (F272 h _ t_h (by first | rfl | simp)).trans h265
  have h275 := (F272 d _ t_d (by first | rfl | simp)).trans h266
  have h276 := (F272 a12 _ t32 (by first | rfl | simp)).trans h267
  refine v_aload_n B dX11_initiate_138 rfl rfl ?_
  refine u_get B Z (C := RX11) (T := TX11) (N := 5) (ci := 11) hi_Low_initiate_X11 t_h h274 rfl 3 (by decide +kernel) (List.mem_of_getElem? (i := 45) rfl) rfl dX11_initiate_139 ?_
  refine v_aload B dX11_initiate_142 rfl ?_
  refine u_getN B Z (C := RX6) (T := TX6) (N := 20) (ci := 6) hi_Low_initiate_X6 t32 h276 rfl 4 (by decide +kernel) (List.mem_of_getElem? (i := 40) rfl) rfl dX11_initiate_144 ?_
  refine u_callVv B Z hz (n := 1) (As := [.int (iI z186)]) (rest := []) (c_Row_put l D K Z _ _ _ _ a113 z186 t119 ⟨by omega, by omega⟩ σ268 G271) gd_Low_initiate_Row_put_164 rfl rfl rfl (by decide +kernel) ⟨Nat.le_trans (by decide +kernel) hR.1, Nat.le_trans (by decide +kernel) hR.2⟩ t119 (cls_Row G271 t119) rfl rfl rfl rfl (Nat.le_of_ble_eq_true rfl) dX11_initiate_147 ⟨Nat.zero_le _, Nat.zero_le _⟩ (fun σ277 p278 => ?_)
  obtain ⟨G280, F281⟩ := p278
  have F282 := F273.call F281 (by first | rfl | simp)
  have h283 := (F281 h _ t_h (by first | rfl | simp)).trans h274
  have h284 := (F281 d _ t_d (by first | rfl | simp)).trans h275
  have h285 := (F281 a12 _ t32 (by first | rfl | simp)).trans h276
  refine v_aload_n B dX11_initiate_150 rfl rfl ?_
  refine u_get B Z (C := RX11) (T := TX11) (N := 5) (ci := 11) hi_Low_initiate_X11 t_h h283 rfl 1 (by decide +kernel) (List.mem_of_getElem? (i := 57) rfl) rfl dX11_initiate_151 ?_
  refine v_aload_n B dX11_initiate_154 rfl rfl ?_
  refine u_getN B Z (C := RX3) (T := TX3) (N := 19) (ci := 3) hi_Low_initiate_X3 t_d h284 rfl 0 (by decide +kernel) (List.mem_of_getElem? (i := 53) rfl) rfl dX11_initiate_155 ?_
  refine v_iload_n B dX11_initiate_158 rfl rfl ?_
  refine v_ldcw B (v := iI (-1903575338)) (u_ci (List.mem_of_getElem? (i := 58) rfl) (by decide +kernel)) dX11_initiate_159 ?_
  refine v_ldcw B (v := iI 5592405) (u_ci (List.mem_of_getElem? (i := 59) rfl) (by decide +kernel)) dX11_initiate_162 ?_
  refine v_iconst B (v := iI 5) dX11_initiate_165 rfl ?_
  refine v_aload_n B dX11_initiate_166 rfl rfl ?_
  refine u_get B Z (C := RX11) (T := TX11) (N := 5) (ci := 11) hi_Low_initiate_X11 t_h h283 rfl 3 (by decide +kernel) (List.mem_of_getElem? (i := 45) rfl) rfl dX11_initiate_167 ?_
  refine u_callVv B Z hz (n := 6) (As := [.int (iI z135), .int (iI x3), .int (iI (-1903575338)), .int (iI 5592405), .int (iI 5), .ref a113]) (rest := []) (c_Air_transmit l D K Z _ _ _ _ a111 z135 x3 (-1903575338) 5592405 5 a113 t117 ⟨by omega, by omega⟩ ⟨by omega, by omega⟩ ⟨by omega, by omega⟩ ⟨by omega, by omega⟩ ⟨by omega, by omega⟩ t119 σ277 G280) gd_Low_initiate_Air_transmit_435 rfl rfl rfl (by decide +kernel) ⟨Nat.le_trans (by decide +kernel) hR.1, Nat.le_trans (by decide +kernel) hR.2⟩ t117 (cls_Air G280 t117) rfl rfl rfl rfl (Nat.le_of_ble_eq_true rfl) dX11_initiate_170 ⟨Nat.zero_le _, Nat.zero_le _⟩ (fun σ286 p287 => ?_)
  obtain ⟨G289, F290⟩ := p287
  have F291 := F282.call F290 (by first | rfl | simp)
  have h292 := (F290 h _ t_h (by first | rfl | simp)).trans h283
  have h293 := (F290 d _ t_d (by first | rfl | simp)).trans h284
  have h294 := (F290 a12 _ t32 (by first | rfl | simp)).trans h285
  refine v_aload_n B dX11_initiate_173 rfl rfl ?_
  refine u_get B Z (C := RX11) (T := TX11) (N := 5) (ci := 11) hi_Low_initiate_X11 t_h h292 rfl 1 (by decide +kernel) (List.mem_of_getElem? (i := 57) rfl) rfl dX11_initiate_174 ?_
  refine v_iload_n B dX11_initiate_177 rfl rfl ?_
  refine v_ldcw B (v := iI (-1903575338)) (u_ci (List.mem_of_getElem? (i := 58) rfl) (by decide +kernel)) dX11_initiate_178 ?_
  refine u_callVi B Z hz (n := 2) (As := [.int (iI x3), .int (iI (-1903575338))]) (rest := []) (c_Air_isHeard l D K Z _ _ _ _ a111 x3 (-1903575338) t117 ⟨by omega, by omega⟩ ⟨by omega, by omega⟩ σ286 G289) gd_Low_initiate_Air_isHeard_457 rfl rfl rfl (by decide +kernel) ⟨Nat.le_trans (by decide +kernel) hR.1, Nat.le_trans (by decide +kernel) hR.2⟩ t117 (cls_Air G289 t117) rfl rfl rfl rfl (Nat.le_of_ble_eq_true rfl) dX11_initiate_181 ⟨Nat.zero_le _, Nat.zero_le _⟩ (fun v297 σ295 p296 => ?_)
  obtain ⟨rfl, z301, e302, r303⟩ := p296
  subst e302
  refine u_if_eq B (tgt := 235) (by omega) dX11_initiate_184 (by decide +kernel) (fun c304 => ?_) (fun c304 => ?_)
  · exact hend σ286 _ _ G289 F291 dX11_initiate_235
  · refine v_aload_n B dX11_initiate_187 rfl rfl ?_
    refine u_get B Z (C := RX11) (T := TX11) (N := 5) (ci := 11) hi_Low_initiate_X11 t_h h292 rfl 1 (by decide +kernel) (List.mem_of_getElem? (i := 57) rfl) rfl dX11_initiate_188 ?_
    refine v_iload_n B dX11_initiate_191 rfl rfl ?_
    refine v_ldcw B (v := iI 5592405) (u_ci (List.mem_of_getElem? (i := 59) rfl) (by decide +kernel)) dX11_initiate_192 ?_
    refine u_callVi B Z hz (n := 2) (As := [.int (iI x3), .int (iI 5592405)]) (rest := []) (c_Air_isGood l D K Z _ _ _ _ a111 x3 5592405 t117 ⟨by omega, by omega⟩ ⟨by omega, by omega⟩ σ286 G289) gd_Low_initiate_Air_isGood_460 rfl rfl rfl (by decide +kernel) ⟨Nat.le_trans (by decide +kernel) hR.1, Nat.le_trans (by decide +kernel) hR.2⟩ t117 (cls_Air G289 t117) rfl rfl rfl rfl (Nat.le_of_ble_eq_true rfl) dX11_initiate_195 ⟨Nat.zero_le _, Nat.zero_le _⟩ (fun v307 σ305 p306 => ?_)
    obtain ⟨G308, F309, z311, e312, r313⟩ := p306
    subst e312
    have F310 := F291.call F309 (by first | rfl | simp)
    have h314 := (F309 h _ t_h (by first | rfl | simp)).trans h292
    have h315 := (F309 d _ t_d (by first | rfl | simp)).trans h293
    have h316 := (F309 a12 _ t32 (by first | rfl | simp)).trans h294
    refine u_if_eq B (tgt := 235) (by omega) dX11_initiate_198 (by decide +kernel) (fun c317 => ?_) (fun c317 => ?_)
    · exact hend σ305 _ _ G308 F310 dX11_initiate_235
    · refine v_aload_n B dX11_initiate_201 rfl rfl ?_
      refine u_get B Z (C := RX11) (T := TX11) (N := 5) (ci := 11) hi_Low_initiate_X11 t_h h314 rfl 1 (by decide +kernel) (List.mem_of_getElem? (i := 57) rfl) rfl dX11_initiate_202 ?_
      obtain ⟨a318, a319, a320, a321, a322, a323, a324, z325, z326, z327, h328, t329, t330, t331, t332, t333, t334, t335, r336, r337, r338⟩ : okAir τ (σ305 a111) := G308 a111 _ t117
      refine u_getN B Z (C := RX0) (T := TX0) (N := 10) (ci := 0) hi_Low_initiate_X0 t117 h328 rfl 7 (by decide +kernel) (List.mem_of_getElem? (i := 55) rfl) rfl dX11_initiate_205 ?_
      refine v_iconst B (v := iI 5) dX11_initiate_208 rfl ?_
      refine u_icmp_ne B (tgt := 235) (by omega) (by omega) dX11_initiate_209 (by decide +kernel) (fun c339 => ?_) (fun c339 => ?_)
      · exact hend σ305 _ _ G308 F310 dX11_initiate_235
      · refine v_aload_n B dX11_initiate_212 rfl rfl ?_
        refine v_aload_n B dX11_initiate_213 rfl rfl ?_
        refine u_get B Z (C := RX11) (T := TX11) (N := 5) (ci := 11) hi_Low_initiate_X11 t_h h314 rfl 1 (by decide +kernel) (List.mem_of_getElem? (i := 57) rfl) rfl dX11_initiate_214 ?_
        refine u_getN B Z (C := RX0) (T := TX0) (N := 10) (ci := 0) hi_Low_initiate_X0 t117 h328 rfl 6 (by decide +kernel) (List.mem_of_getElem? (i := 54) rfl) rfl dX11_initiate_217 ?_
        refine u_callVi B Z hz (n := 1) (As := [.ref a324]) (rest := []) (c_Device_accepts l D K Z _ _ _ _ d2 a324 t_d2 t335 σ305 G308) gd_Low_initiate_Device_accepts_479 rfl rfl rfl (by decide +kernel) ⟨Nat.le_trans (by decide +kernel) hR.1, Nat.le_trans (by decide +kernel) hR.2⟩ t_d2 (cls_Device G308 t_d2) rfl rfl rfl rfl (Nat.le_of_ble_eq_true rfl) dX11_initiate_220 ⟨Nat.zero_le _, Nat.zero_le _⟩ (fun v342 σ340 p341 => ?_)
        obtain ⟨G343, F344, z346, e347, r348⟩ := p341
        subst e347
        have F345 := F310.call F344 (by first | rfl | simp)
        have h349 := (F344 h _ t_h (by first | rfl | simp)).trans h314
        have h350 := (F344 d _ t_d (by first | rfl | simp)).trans h315
        have h351 := (F344 a111 _ t117 (by first | rfl | simp)).trans h328
        refine u_if_eq B (tgt := 235) (by omega) dX11_initiate_223 (by decide +kernel) (fun c352 => ?_) (fun c352 => ?_)
        · exact hend σ340 _ _ G343 F345 dX11_initiate_235
        · refine v_aload_n B dX11_initiate_226 rfl rfl ?_
          refine v_iconst B (v := iI 5) dX11_initiate_227 rfl ?_
          refine v_aload_n B dX11_initiate_228 rfl rfl ?_
          refine u_get B Z (C := RX11) (T := TX11) (N := 5) (ci := 11) hi_Low_initiate_X11 t_h h349 rfl 4 (by decide +kernel) (List.mem_of_getElem? (i := 12) rfl) rfl dX11_initiate_229 ?_
          refine u_callVv B Z hz (n := 2) (As := [.int (iI 5), .int (iI z114)]) (rest := []) (c_Device_enterLink l D K Z _ _ _ _ d2 5 z114 t_d2 ⟨by omega, by omega⟩ ⟨by omega, by omega⟩ σ340 G343) gd_Low_initiate_Device_enterLink_475 rfl rfl rfl (by decide +kernel) ⟨Nat.le_trans (by decide +kernel) hR.1, Nat.le_trans (by decide +kernel) hR.2⟩ t_d2 (cls_Device G343 t_d2) rfl rfl rfl rfl (Nat.le_of_ble_eq_true rfl) dX11_initiate_232 ⟨Nat.zero_le _, Nat.zero_le _⟩ (fun σ353 p354 => ?_)
          obtain ⟨G356, F357⟩ := p354
          have F358 := F345.call F357 (by first | rfl | simp)
          have h359 := (F357 h _ t_h (by first | rfl | simp)).trans h349
          have h360 := (F357 a111 _ t117 (by first | rfl | simp)).trans h351
          exact hend σ353 _ _ G356 F358 dX11_initiate_235
set_option maxRecDepth 100000 in
theorem c_Low_initiate (l : Launch) (D : va_G) (K : Nat → ClassId) {τ : Nat → Option Ty} {dom : List Nat} (Z : Sk τ dom) (zb zL : Nat) (zx : Nat → Int32) (zs : Nat → Nat) (h : Nat) (d : Nat) (d2 : Nat) (x3 : Int) (t_h : τ h = some (41, 0, 0)) (t_d : τ d = some (33, 0, 0)) (t_d2 : τ d2 = some (33, 0, 0)) (r_x3 : -2147483648 ≤ x3 ∧ x3 ≤ 2147483647) (σ0 : Nat → va_E) (G0 : Good K τ σ0) : MZ l yX11_initiate wp_Low_initiate ({ frames := 4, cells := 0, slots := 0, locals := 92 }) D (tysA K) [.ref h, .ref d, .ref d2, .int (iI x3)] (fd dom σ0) zb zL zx zs (Qv D (fun σ' => Good K τ σ' ∧ Fr τ [(33, 0), (36, 0), (3, 23), (3, 22), (1, 16), (34, 0), (1, 2), (2, 2), (1, 3), (2, 3), (4, 24), (3, 20), (30, 0), (3, 25), (1, 4), (2, 4), (1, 5), (2, 5)] σ0 σ') (fun σ' => fd dom σ')) 0 0 := by
  refine mz_of (cc := cX11_initiate) (maxL := 5) (ret := none) (by decide +kernel) rfl (Nat.le_of_ble_eq_true rfl) ?_
  intro p e s m below meth c A B hr hlk _ hz
  exact b_Low_initiate ⟨Nat.le_refl _, Nat.le_refl _⟩ B Z hz h d d2 x3 t_h t_d t_d2 r_x3 σ0 G0 (fun σ' lv pc G F hd => v_vret B hr hlk σ' ⟨G, F⟩ rfl (Nat.le_refl _) (Nat.le_refl _) hd)

def wp_Low_spread : List Cond := .code yX11_spread cX11_spread 4 none :: (([.fieldLink RX11 31 "LowEnergy" "outgoing" "LLowEnergy$Row;", .methodLink RX11 78 yX9_clear, .instanceMethod yX9_clear, .selects RX9 yX9_clear yX9_clear, .initialized RX9, .code yX9_clear cX9_clear 1 none, .fieldLink RX9 21 "LowEnergy$Row" "size" "I", .methodLink RX11 160 yX9_putNumber, .instanceMethod yX9_putNumber, .selects RX9 yX9_putNumber yX9_putNumber, .code yX9_putNumber cX9_putNumber 5 none, .fieldLink RX9 15 "LowEnergy$Row" "bytes" "[I", .constantLong RX9 25 (255), .methodLink RX11 426 yX9_putPart, .instanceMethod yX9_putPart, .selects RX9 yX9_putPart yX9_putPart, .code yX9_putPart cX9_putPart 6 none, .methodLink RX9 9 Lib.Math.max.name, .static Lib.Math.max.name, .initialized "java/lang/Math", .code Lib.Math.max.name Lib.Math.max.code 2 (some .int), .fieldLink RX11 18 "LowEnergy" "sky" "LLowEnergy$Air;", .constant RX11 433 (-1903575338), .constant RX11 434 (5592405), .methodLink RX11 435 yX0_transmit, .instanceMethod yX0_transmit, .selects RX0 yX0_transmit yX0_transmit, .initialized RX0, .code yX0_transmit cX0_transmit 8 none, .fieldLink RX0 78 "LowEnergy$Air" "latestIsLost" "Z", .fieldLink RX0 29 "LowEnergy$Air" "losses" "[I", .fieldLink RX0 42 "LowEnergy$Air" "count" "I", .fieldLink RX0 13 "LowEnergy$Air" "packets" "[LLowEnergy$Row;", .methodLink RX0 53 yX9_clear, .methodLink RX0 56 yX9_putNumber, .methodLink RX0 60 yX9_put, .instanceMethod yX9_put, .selects RX9 yX9_put yX9_put, .code yX9_put cX9_put 2 none, .methodLink RX0 63 yX9_putPart, .methodLink RX0 67 yX0_crcInOrder, .static yX0_crcInOrder, .code yX0_crcInOrder cX0_crcInOrder 7 (some .int), .constant RX0 100 (16777215), .methodLink RX0 71 yX0_whiten, .static yX0_whiten, .code yX0_whiten cX0_whiten 7 none, .methodLink RX0 75 yX0_disturb, .instanceMethod yX0_disturb, .selects RX0 yX0_disturb yX0_disturb, .code yX0_disturb cX0_disturb 5 none, .fieldLink RX0 26 "LowEnergy$Air" "noiseCounts" "[I", .fieldLink RX0 23 "LowEnergy$Air" "noises" "[[I", .methodLink RX0 82 yX9_turn, .instanceMethod yX9_turn, .selects RX9 yX9_turn yX9_turn, .code yX9_turn cX9_turn 3 none, .fieldLink RX0 17 "LowEnergy$Air" "channels" "[I", .methodLink RX11 439 yX11_advertisementArrives, .instanceMethod yX11_advertisementArrives, .selects RX11 yX11_advertisementArrives yX11_advertisementArrives, .initialized RX11, .code yX11_advertisementArrives cX11_advertisementArrives 3 (some .boolean), .fieldLink RX11 65 "LowEnergy" "now" "I", .methodLink RX11 457 yX0_isHeard, .instanceMethod yX0_isHeard, .selects RX0 yX0_isHeard yX0_isHeard, .code yX0_isHeard cX0_isHeard 4 (some .boolean), .methodLink RX0 86 yX9_numberAt, .instanceMethod yX9_numberAt, .selects RX9 yX9_numberAt yX9_numberAt, .code yX9_numberAt cX9_numberAt 7 (some .long), .methodLink RX11 460 yX0_isGood, .instanceMethod yX0_isGood, .selects RX0 yX0_isGood yX0_isGood, .code yX0_isGood cX0_isGood 5 (some .boolean), .fieldLink RX0 35 "LowEnergy$Air" "plain" "LLowEnergy$Row;", .methodLink RX0 90 yX9_become, .instanceMethod yX9_become, .selects RX9 yX9_become yX9_become, .code yX9_become cX9_become 2 none, .methodLink RX9 27 yX9_putPart, .methodLink RX0 49 yX9_at, .instanceMethod yX9_at, .selects RX9 yX9_at yX9_at, .code yX9_at cX9_at 2 (some .int), .fieldLink RX0 94 "LowEnergy$Air" "first" "I", .fieldLink RX0 39 "LowEnergy$Air" "payload" "LLowEnergy$Row;", .methodLink RX11 449 yX9_numberAt, .methodLink RX11 453 yX11_initiate, .instanceMethod yX11_initiate, .selects RX11 yX11_initiate yX11_initiate, .code yX11_initiate cX11_initiate 5 none, .methodLink RX11 466 yX3_drawNumber, .instanceMethod yX3_drawNumber, .selects RX3 yX3_drawNumber yX3_drawNumber, .initialized RX3, .code yX3_drawNumber cX3_drawNumber 4 (some .int), .methodLink RX3 89 yX3_draw, .instanceMethod yX3_draw, .selects RX3 yX3_draw yX3_draw, .code yX3_draw cX3_draw 1 (some .int), .fieldLink RX3 69 "LowEnergy$Device" "x" "I", .constant RX3 88 (1103515245), .methodLink RX11 475 yX3_enterLink, .instanceMethod yX3_enterLink, .selects RX3 yX3_enterLink yX3_enterLink, .code yX3_enterLink cX3_enterLink 3 none, .fieldLink RX3 93 "LowEnergy$Device" "state" "I", .fieldLink RX3 26 "LowEnergy$Device" "link" "LLowEnergy$Link;", .methodLink RX3 154 yX6_begin, .instanceMethod yX6_begin, .selects RX6 yX6_begin yX6_begin, .initialized RX6, .code yX6_begin cX6_begin 2 none, .fieldLink RX6 31 "LowEnergy$Link" "interval" "I", .fieldLink RX6 44 "LowEnergy$Link" "anchor" "I", .fieldLink RX6 47 "LowEnergy$Link" "heardAt" "I", .fieldLink RX3 54 "LowEnergy$Device" "diary" "LLowEnergy$Diary;", .methodLink RX3 157 yX4_note, .instanceMethod yX4_note, .selects RX4 yX4_note yX4_note, .initialized RX4, .code yX4_note cX4_note 6 none, .fieldLink RX4 29 "LowEnergy$Diary" "count" "I", .fieldLink RX4 36 "LowEnergy$Diary" "head" "I", .fieldLink RX4 11 "LowEnergy$Diary" "kinds" "[I", .fieldLink RX4 17 "LowEnergy$Diary" "numbers" "[[I", .fieldLink RX4 22 "LowEnergy$Diary" "rows" "[LLowEnergy$Row;", .methodLink RX4 39 yX9_clear, .fieldLink RX4 33 "LowEnergy$Diary" "lost" "I", .methodLink RX11 164 yX9_put, .methodLink RX11 479 yX3_accepts, .instanceMethod yX3_accepts, .selects RX3 yX3_accepts yX3_accepts, .code yX3_accepts cX3_accepts 7 (some .boolean), .methodLink RX3 113 yX9_numberAt, .fieldLink RX3 65 "LowEnergy$Device" "address" "J", .methodLink RX3 130 yX9_two, .instanceMethod yX9_two, .selects RX9 yX9_two yX9_two, .code yX9_two cX9_two 2 (some .int), .methodLink RX3 134 yX9_at, .methodLink RX3 137 yX6_isProper, .static yX6_isProper, .code yX6_isProper cX6_isProper 5 (some .boolean), .methodLink RX6 21 yX6_isProperMap, .static yX6_isProperMap, .code yX6_isProperMap cX6_isProperMap 2 (some .boolean), .methodLink RX6 25 yJ13_bitCount_95d88, .static yJ13_bitCount_95d88, .initialized RJ13, .code yJ13_bitCount_95d88 cJ13_bitCount_95d88 2 (some .int), .constantLong RJ13 314 (6148914691236517205), .constantLong RJ13 316 (3689348814741910323), .constantLong RJ13 318 (1085102592571150095), .methodLink RX3 150 yX6_arrange, .instanceMethod yX6_arrange, .selects RX6 yX6_arrange yX6_arrange, .code yX6_arrange cX6_arrange 6 none, .fieldLink RX6 34 "LowEnergy$Link" "timeout" "I", .fieldLink RX6 37 "LowEnergy$Link" "hop" "I", .fieldLink RX6 40 "LowEnergy$Link" "map" "J", .methodLink RX11 446 yX3_report, .instanceMethod yX3_report, .selects RX3 yX3_report yX3_report, .code yX3_report cX3_report 2 none, .fieldLink RX3 110 "LowEnergy$Device" "reports" "I", .fieldLink RX3 117 "LowEnergy$Device" "reportAddress" "J", .fieldLink RX3 20 "LowEnergy$Device" "reportData" "LLowEnergy$Row;", .methodLink RX3 120 yX9_clear, .methodLink RX3 126 yX9_putPart, .methodLink RX11 423 yX3_draw] : List Cond) ++ (wsX30 ++ (wsX110 ++ (wsX90 ++ (wsX00 ++ (wsX60 ++ (wsX40 ++ ([]))))))))
theorem hi_Low_spread_X3 : ∀ x ∈ u_ws RX3 TX3 19, x ∈ wp_Low_spread := fun _ h => List.mem_cons_of_mem _ (List.mem_append_right _ (List.mem_append_left _ h))
theorem hi_Low_spread_X11 : ∀ x ∈ u_ws RX11 TX11 5, x ∈ wp_Low_spread := fun _ h => List.mem_cons_of_mem _ (List.mem_append_right _ (List.mem_append_right _ (List.mem_append_left _ h)))
theorem hi_Low_spread_X9 : ∀ x ∈ u_ws RX9 TX9 2, x ∈ wp_Low_spread := fun _ h => List.mem_cons_of_mem _ (List.mem_append_right _ (List.mem_append_right _ (List.mem_append_right _ (List.mem_append_left _ h))))
theorem hi_Low_spread_X0 : ∀ x ∈ u_ws RX0 TX0 10, x ∈ wp_Low_spread := fun _ h => List.mem_cons_of_mem _ (List.mem_append_right _ (List.mem_append_right _ (List.mem_append_right _ (List.mem_append_right _ (List.mem_append_left _ h)))))
theorem hi_Low_spread_X6 : ∀ x ∈ u_ws RX6 TX6 20, x ∈ wp_Low_spread := fun _ h => List.mem_cons_of_mem _ (List.mem_append_right _ (List.mem_append_right _ (List.mem_append_right _ (List.mem_append_right _ (List.mem_append_right _ (List.mem_append_left _ h))))))
theorem hi_Low_spread_X4 : ∀ x ∈ u_ws RX4 TX4 6, x ∈ wp_Low_spread := fun _ h => List.mem_cons_of_mem _ (List.mem_append_right _ (List.mem_append_right _ (List.mem_append_right _ (List.mem_append_right _ (List.mem_append_right _ (List.mem_append_right _ (List.mem_append_left _ h)))))))
set_option maxRecDepth 100000 in
theorem gd_Low_spread_Row_clear_78 : GoodIn wp_Low_spread (wsV RX11 78 RX9 yX9_clear wp_Row_clear) := goodIn_app (goodIn_r _ [2, 3, 4, 5] rfl rfl) (goodIn_ca (goodIn_r _ [6, 7] rfl rfl) (goodIn_app (goodIn_cls hi_Low_spread_X9 gw_X9) (goodIn_nil)))
set_option maxRecDepth 100000 in
theorem gd_Low_spread_Row_putNumber_160 : GoodIn wp_Low_spread (wsV RX11 160 RX9 yX9_putNumber wp_Row_putNumber) := goodIn_app (goodIn_r _ [8, 9, 10, 5] rfl rfl) (goodIn_ca (goodIn_r _ [11, 7, 12, 13] rfl rfl) (goodIn_app (goodIn_cls hi_Low_spread_X9 gw_X9) (goodIn_nil)))
set_option maxRecDepth 100000 in
theorem gd_Low_spread_Row_putPart_426 : GoodIn wp_Low_spread (wsV RX11 426 RX9 yX9_putPart wp_Row_putPart) := goodIn_app (goodIn_r _ [14, 15, 16, 5] rfl rfl) (goodIn_ca (goodIn_r _ [17, 7, 12, 18, 19, 20, 21] rfl rfl) (goodIn_app (goodIn_cls hi_Low_spread_X9 gw_X9) (goodIn_nil)))
set_option maxRecDepth 100000 in
theorem gd_Low_spread_Air_transmit_435 : GoodIn wp_Low_spread (wsV RX11 435 RX0 yX0_transmit wp_Air_transmit) := goodIn_app (goodIn_r _ [25, 26, 27, 28] rfl rfl) (goodIn_ca (goodIn_r _ [29, 30, 31, 32, 33, 34, 3, 4, 5, 6, 7, 35, 9, 10, 11, 12, 13, 36, 37, 38, 39, 40, 15, 16, 17, 18, 19, 20, 21, 41, 42, 28, 43, 44, 45, 46, 47, 48, 49, 50, 51, 52, 53, 54, 55, 56, 57, 58] rfl rfl) (goodIn_app (goodIn_cls hi_Low_spread_X0 gw_X0) (goodIn_app (goodIn_cls hi_Low_spread_X9 gw_X9) (goodIn_nil))))
set_option maxRecDepth 100000 in
theorem gd_Low_spread_Low_advertisementArrives_439 : GoodIn wp_Low_spread (wsV RX11 439 RX11 yX11_advertisementArrives wp_Low_advertisementArrives) := goodIn_app (goodIn_r _ [59, 60, 61, 62] rfl rfl) (goodIn_ca (goodIn_r _ [63, 64, 22, 23, 65, 66, 67, 28, 68, 32, 33, 30, 58, 69, 70, 71, 5, 72, 7, 12, 24, 73, 74, 75, 76, 77, 78, 79, 80, 81, 82, 15, 16, 17, 18, 19, 20, 21, 45, 46, 47, 83, 84, 85, 86, 87, 88, 34, 3, 4, 6, 40, 41, 42, 43, 44] rfl rfl) (goodIn_app (goodIn_cls hi_Low_spread_X11 gw_X11) (goodIn_app (goodIn_cls hi_Low_spread_X0 gw_X0) (goodIn_app (goodIn_cls hi_Low_spread_X9 gw_X9) (goodIn_app (goodIn_cls hi_Low_spread_X3 gw_X3) (goodIn_nil))))))
set_option maxRecDepth 100000 in
theorem gd_Low_spread_Row_numberAt_449 : GoodIn wp_Low_spread (wsV RX11 449 RX9 yX9_numberAt wp_Row_numberAt) := goodIn_app (goodIn_r _ [89, 70, 71, 5] rfl rfl) (goodIn_ca (goodIn_r _ [72, 7, 12] rfl rfl) (goodIn_app (goodIn_cls hi_Low_spread_X9 gw_X9) (goodIn_nil)))
set_option maxRecDepth 100000 in
theorem gd_Low_spread_Low_initiate_453 : GoodIn wp_Low_spread (wsV RX11 453 RX11 yX11_initiate wp_Low_initiate) := goodIn_app (goodIn_r _ [90, 91, 92, 62] rfl rfl) (goodIn_ca (goodIn_r _ [93, 94, 95, 96, 97, 98, 99, 100, 101, 102, 103, 104, 64, 105, 106, 107, 108, 109, 110, 111, 112, 113, 114, 115, 116, 117, 118, 119, 120, 121, 122, 123, 124, 125, 126, 127, 128, 129, 130, 3, 4, 5, 6, 7, 131, 1, 2, 8, 9, 10, 11, 12, 13, 132, 37, 38, 39, 22, 23, 24, 25, 26, 27, 28, 29, 30, 31, 32, 33, 34, 35, 36, 40, 15, 16, 17, 18, 19, 20, 21, 41, 42, 43, 44, 45, 46, 47, 48, 49, 50, 51, 52, 53, 54, 55, 56, 57, 58, 65, 66, 67, 68, 69, 70, 71, 72, 73, 74, 75, 76, 77, 78, 79, 80, 81, 82, 83, 84, 85, 86, 87, 88, 133, 134, 135, 136, 137, 138, 139, 140, 141, 142, 143, 144, 145, 146, 147, 148, 149, 150, 151, 152, 153, 154, 155, 156, 157, 158, 159, 160, 161, 162, 163] rfl rfl) (goodIn_app (goodIn_cls hi_Low_spread_X3 gw_X3) (goodIn_app (goodIn_cls hi_Low_spread_X6 gw_X6) (goodIn_app (goodIn_cls hi_Low_spread_X11 gw_X11) (goodIn_app (goodIn_cls hi_Low_spread_X4 gw_X4) (goodIn_app (goodIn_cls hi_Low_spread_X9 gw_X9) (goodIn_app (goodIn_cls hi_Low_spread_X0 gw_X0) (goodIn_nil))))))))
set_option maxRecDepth 100000 in
theorem gd_Low_spread_Device_report_446 : GoodIn wp_Low_spread (wsV RX11 446 RX3 yX3_report wp_Device_report) := goodIn_app (goodIn_r _ [164, 165, 166, 97] rfl rfl) (goodIn_ca (goodIn_r _ [167, 168, 137, 70, 71, 5, 72, 7, 12, 169, 170, 171, 3, 4, 6, 172, 15, 16, 17, 18, 19, 20, 21] rfl rfl) (goodIn_app (goodIn_cls hi_Low_spread_X3 gw_X3) (goodIn_app (goodIn_cls hi_Low_spread_X9 gw_X9) (goodIn_nil))))
set_option maxRecDepth 100000 in
theorem gd_Low_spread_Device_draw_423 : GoodIn wp_Low_spread (wsV RX11 423 RX3 yX3_draw wp_Device_draw) := goodIn_app (goodIn_r _ [173, 100, 101, 97] rfl rfl) (goodIn_ca (goodIn_r _ [102, 103, 104] rfl rfl) (goodIn_app (goodIn_cls hi_Low_spread_X3 gw_X3) (goodIn_nil)))
set_option maxHeartbeats 4000000 in
set_option maxRecDepth 100000 in
theorem b_Low_spread {p : Program} {l : Launch} {e : Env} {R : Room} {s : State} {m : MethodId} {args : Array Value} {below : List Frame} {meth : Method} {c : Code} {D : va_G} {K : Nat → ClassId} {A : Nat → Prop} {Q : State → Prop} {τ : Nat → Option Ty} {dom : List Nat} {zb zL : Nat} {zx : Nat → Int32} {zs : Nat → Nat} (hR : 5 ≤ R.frames ∧ 116 ≤ R.locals) (B : Bx p s m args c cX11_spread 4 RX11 wp_Low_spread D (tysA K) A) (Z : Sk τ dom) (hz : ZL zb zL zx zs A s s.heap) (h : Nat) (d : Nat) (d2 : Nat) (t_h : τ h = some (41, 0, 0)) (t_d : τ d = some (33, 0, 0)) (t_d2 : τ d2 = some (33, 0, 0)) (σ0 : Nat → va_E) (G0 : Good K τ σ0) (hend : ∀ (σ' : Nat → va_E) (lv : List (Nat × Value)) (pc : Nat), Good K τ σ' → Fr τ [(33, 0), (1, 2), (2, 2), (1, 3), (2, 3), (4, 24), (3, 20), (30, 0), (3, 25), (1, 4), (2, 4), (1, 5), (2, 5), (36, 0), (3, 23), (3, 22), (1, 16), (34, 0), (1, 7), (2, 7)] σ0 σ' → decode cX11_spread pc = .ok (.return_, 1) → V p l e R s m args below meth c 4 D A Q (0, 0) (fd dom σ') lv pc []) : V p l e R s m args below meth c 4 D A Q (0, 0) (fd dom σ0) [(0, .ref h), (1, .ref d), (2, .ref d2)] 0 [] := by
  have F0 : Fr τ [(33, 0), (1, 2), (2, 2), (1, 3), (2, 3), (4, 24), (3, 20), (30, 0), (3, 25), (1, 4), (2, 4), (1, 5), (2, 5), (36, 0), (3, 23), (3, 22), (1, 16), (34, 0), (1, 7), (2, 7)] σ0 σ0 := Fr.rf
  have J43 : ∀ (k43 : Nat) (σ_43 : Nat → va_E) (z43_3 : Int), (2147483648 - z43_3).toNat ≤ k43 → Good K τ σ_43 → Fr τ [(33, 0), (1, 2), (2, 2), (1, 3), (2, 3), (4, 24), (3, 20), (30, 0), (3, 25), (1, 4), (2, 4), (1, 5), (2, 5), (36, 0), (3, 23), (3, 22), (1, 16), (34, 0), (1, 7), (2, 7)] σ0 σ_43 → (37 ≤ z43_3 ∧ z43_3 ≤ 40) → V p l e R s m args below meth c 4 D A Q (0, 0) (fd dom σ_43) [(0, .ref h), (1, .ref d), (2, .ref d2), (3, .int (iI z43_3))] 43 [] := by
    intro k43
    induction k43 with
    | zero => intro σ_43 z43_3 m43 G_43 F_43 r43_3; omega
    | succ k43 IH43 =>
      intro σ_43 z43_3 m43 G_43 F_43 r43_3
      have J181 : ∀ (σ_181 : Nat → va_E), Good K τ σ_181 → Fr τ [(33, 0), (1, 2), (2, 2), (1, 3), (2, 3), (4, 24), (3, 20), (30, 0), (3, 25), (1, 4), (2, 4), (1, 5), (2, 5), (36, 0), (3, 23), (3, 22), (1, 16), (34, 0), (1, 7), (2, 7)] σ0 σ_181 → (37 ≤ z43_3 ∧ z43_3 ≤ 39) → V p l e R s m args below meth c 4 D A Q (0, 0) (fd dom σ_181) [(0, .ref h), (1, .ref d), (2, .ref d2), (3, .int (iI z43_3))] 181 [] := by
        intro σ_181 G_181 F_181 r181_3
        refine v_iinc B (k := 3) (v := iI (z43_3 + 1)) (lv' := [(3, .int (iI (z43_3 + 1))), (0, .ref h), (1, .ref d), (2, .ref d2)]) dX11_spread_181 rfl ((iI_add _ _).trans (congrArg iI (by omega))) (by decide +kernel) rfl ?_
        refine v_goto B (tgt := 43) dX11_spread_184 (by decide +kernel) ?_
        refine v_lv [1, 2, 3, 0] rfl ?_
        exact IH43 σ_181 (z43_3 + 1) (by omega) G_181 F_181 ⟨by omega, by omega⟩
      refine v_iload_n B dX11_spread_43 rfl rfl ?_
      refine v_bipush B (v := iI 39) dX11_spread_44 (by decide +kernel) ?_
      refine u_icmp_gt B (tgt := 187) (by omega) (by omega) dX11_spread_46 (by decide +kernel) (fun c1 => ?_) (fun c1 => ?_)
      · exact hend σ_43 _ _ G_43 F_43 dX11_spread_187
      · refine v_aload_n B dX11_spread_49 rfl rfl ?_
        obtain ⟨z2, yy3, z4, z5, z6, z7, a8, z9, yy10, a11, yy12, a13, a14, a15, a16, a17, a18, a19, a20, h21, r22, r23, r24, r25, r26, r27, t28, r29, r30, t31, r32, t33, t34, t35, t36, t37, t38, t39, t40⟩ : okDevice τ (σ_43 d) := G_43 d _ t_d
        refine u_getN B Z (C := RX3) (T := TX3) (N := 19) (ci := 3) hi_Low_spread_X3 t_d h21 rfl 2 (by decide +kernel) (List.mem_of_getElem? (i := 65) rfl) rfl dX11_spread_50 ?_
        refine v_iconst B (v := iI 1) dX11_spread_53 rfl ?_
        refine u_icmp_ne B (tgt := 187) (by omega) (by omega) dX11_spread_54 (by decide +kernel) (fun c41 => ?_) (fun c41 => ?_)
        · exact hend σ_43 _ _ G_43 F_43 dX11_spread_187
        · refine v_aload_n B dX11_spread_57 rfl rfl ?_
          obtain ⟨a42, a43, a44, a45, z46, h47, t48, t49, t50, t51, r52⟩ : okLow τ (σ_43 h) := G_43 h _ t_h
          refine u_get B Z (C := RX11) (T := TX11) (N := 5) (ci := 11) hi_Low_spread_X11 t_h h47 rfl 3 (by decide +kernel) (List.mem_of_getElem? (i := 1) rfl) rfl dX11_spread_58 ?_
          refine u_callVv B Z hz (n := 0) (As := []) (rest := []) (c_Row_clear l D K Z _ _ _ _ a45 t51 σ_43 G_43) gd_Low_spread_Row_clear_78 rfl rfl rfl (by decide +kernel) ⟨Nat.le_trans (by decide +kernel) hR.1, Nat.le_trans (by decide +kernel) hR.2⟩ t51 (cls_Row G_43 t51) rfl rfl rfl rfl (Nat.le_of_ble_eq_true rfl) dX11_spread_61 ⟨Nat.zero_le _, Nat.zero_le _⟩ (fun σ53 p54 => ?_)
          obtain ⟨G56, F57⟩ := p54
          have F58 := F_43.call F57 (by first | rfl | simp)
          have h59 := (F57 d _ t_d (by first | rfl | simp)).trans h21
          have h60 := (F57 h _ t_h (by first | rfl | simp)).trans h47
          refine v_aload_n B dX11_spread_64 rfl rfl ?_
          refine u_get B Z (C := RX11) (T := TX11) (N := 5) (ci := 11) hi_Low_spread_X11 t_h h60 rfl 3 (by decide +kernel) (List.mem_of_getElem? (i := 1) rfl) rfl dX11_spread_65 ?_
          refine v_aload_n B dX11_spread_68 rfl rfl ?_
          refine u_getN B Z (C := RX3) (T := TX3) (N := 19) (ci := 3) hi_Low_spread_X3 t_d h59 rfl 1 (by decide +kernel) (List.mem_of_getElem? (i := 28) rfl) rfl dX11_spread_69 ?_
          refine v_bipush B (v := iI 6) dX11_spread_72 (by decide +kernel) ?_
          refine u_callVv B Z hz (n := 2) (As := [.long (lI yy3), .int (iI 6)]) (rest := []) (c_Row_putNumber l D K Z _ _ _ _ a45 yy3 6 t51 ⟨by omega, by omega⟩ ⟨by omega, by omega⟩ σ53 G56) gd_Low_spread_Row_putNumber_160 rfl rfl rfl (by decide +kernel) ⟨Nat.le_trans (by decide +kernel) hR.1, Nat.le_trans (by decide +kernel) hR.2⟩ t51 (cls_Row G56 t51) rfl rfl rfl rfl (Nat.le_of_ble_eq_true rfl) dX11_spread_74 ⟨Nat.zero_le _, Nat.zero_le _⟩ (fun σ61 p62 => ?_)
          obtain ⟨G64, F65⟩ := p62
          have F66 := F58.call F65 (by first | rfl | simp)
          have h67 := (F65 d _ t_d (by first | rfl | simp)).trans h59
          have h68 := (F65 h _ t_h (by first | rfl | simp)).trans h60
          refine v_aload_n B dX11_spread_77 rfl rfl ?_
          refine u_get B Z (C := RX11) (T := TX11) (N := 5) (ci := 11) hi_Low_spread_X11 t_h h68 rfl 3 (by decide +kernel) (List.mem_of_getElem? (i := 1) rfl) rfl dX11_spread_78 ?_
          refine v_aload_n B dX11_spread_81 rfl rfl ?_
          refine u_getN B Z (C := RX3) (T := TX3) (N := 19) (ci := 3) hi_Low_spread_X3 t_d h67 rfl 6 (by decide +kernel) (List.mem_of_getElem? (i := 68) rfl) rfl dX11_spread_82 ?_
          refine v_iconst B (v := iI 0) dX11_spread_85 rfl ?_
          refine v_aload_n B dX11_spread_86 rfl rfl ?_
          refine u_getN B Z (C := RX3) (T := TX3) (N := 19) (ci := 3) hi_Low_spread_X3 t_d h67 rfl 6 (by decide +kernel) (List.mem_of_getElem? (i := 68) rfl) rfl dX11_spread_87 ?_
          obtain ⟨b69, N70, n71, h72, t73, r74⟩ : okRow τ 6 (σ61 a8) := G64 a8 _ t28
          refine u_getN B Z (C := RX9) (T := TX9) (N := 2) (ci := 9) hi_Low_spread_X9 t28 h72 rfl 1 (by decide +kernel) (List.mem_of_getElem? (i := 51) rfl) rfl dX11_spread_90 ?_
          refine u_callVv B Z hz (n := 3) (As := [.ref a8, .int (iI 0), .int (iI n71)]) (rest := []) (c_Row_putPart l D K Z _ _ _ _ a45 a8 0 n71 t51 t28 ⟨by omega, by omega⟩ ⟨by omega, by omega⟩ σ61 G64) gd_Low_spread_Row_putPart_426 rfl rfl rfl (by decide +kernel) ⟨Nat.le_trans (by decide +kernel) hR.1, Nat.le_trans (by decide +kernel) hR.2⟩ t51 (cls_Row G64 t51) rfl rfl rfl rfl (Nat.le_of_ble_eq_true rfl) dX11_spread_93 ⟨Nat.zero_le _, Nat.zero_le _⟩ (fun σ75 p76 => ?_)
          obtain ⟨G78, F79⟩ := p76
          have F80 := F66.call F79 (by first | rfl | simp)
          have h81 := (F79 d _ t_d (by first | rfl | simp)).trans h67
          have h82 := (F79 h _ t_h (by first | rfl | simp)).trans h68
          have h83 := (F79 a8 _ t28 (by first | rfl | simp)).trans h72
          refine v_aload_n B dX11_spread_96 rfl rfl ?_
          refine u_get B Z (C := RX11) (T := TX11) (N := 5) (ci := 11) hi_Low_spread_X11 t_h h82 rfl 1 (by decide +kernel) (List.mem_of_getElem? (i := 22) rfl) rfl dX11_spread_97 ?_
          refine v_aload_n B dX11_spread_100 rfl rfl ?_
          refine u_getN B Z (C := RX3) (T := TX3) (N := 19) (ci := 3) hi_Low_spread_X3 t_d h81 rfl 0 (by decide +kernel) (List.mem_of_getElem? (i := 53) rfl) rfl dX11_spread_101 ?_
          refine v_iload_n B dX11_spread_104 rfl rfl ?_
          refine v_ldcw B (v := iI (-1903575338)) (u_ci (List.mem_of_getElem? (i := 23) rfl) (by decide +kernel)) dX11_spread_105 ?_
          refine v_ldcw B (v := iI 5592405) (u_ci (List.mem_of_getElem? (i := 24) rfl) (by decide +kernel)) dX11_spread_108 ?_
          refine v_iconst B (v := iI 0) dX11_spread_111 rfl ?_
          refine v_aload_n B dX11_spread_112 rfl rfl ?_
          refine u_get B Z (C := RX11) (T := TX11) (N := 5) (ci := 11) hi_Low_spread_X11 t_h h82 rfl 3 (by decide +kernel) (List.mem_of_getElem? (i := 1) rfl) rfl dX11_spread_113 ?_
          refine u_callVv B Z hz (n := 6) (As := [.int (iI z2), .int (iI z43_3), .int (iI (-1903575338)), .int (iI 5592405), .int (iI 0), .ref a45]) (rest := []) (c_Air_transmit l D K Z _ _ _ _ a43 z2 z43_3 (-1903575338) 5592405 0 a45 t49 ⟨by omega, by omega⟩ ⟨by omega, by omega⟩ ⟨by omega, by omega⟩ ⟨by omega, by omega⟩ ⟨by omega, by omega⟩ t51 σ75 G78) gd_Low_spread_Air_transmit_435 rfl rfl rfl (by decide +kernel) ⟨Nat.le_trans (by decide +kernel) hR.1, Nat.le_trans (by decide +kernel) hR.2⟩ t49 (cls_Air G78 t49) rfl rfl rfl rfl (Nat.le_of_ble_eq_true rfl) dX11_spread_116 ⟨Nat.zero_le _, Nat.zero_le _⟩ (fun σ84 p85 => ?_)
          obtain ⟨G87, F88⟩ := p85
          have F89 := F80.call F88 (by first | rfl | simp)
          have h90 := (F88 d _ t_d (by first | rfl | simp)).trans h81
          have h91 := (F88 h _ t_h (by first | rfl | simp)).trans h82
          have h92 := (F88 a8 _ t28 (by first | rfl | simp)).trans h83
          refine v_aload_n B dX11_spread_119 rfl rfl ?_
          refine v_aload_n B dX11_spread_120 rfl rfl ?_
          refine v_iload_n B dX11_spread_121 rfl rfl ?_
          refine u_callVi B Z hz (n := 2) (As := [.ref d2, .int (iI z43_3)]) (rest := []) (c_Low_advertisementArrives l D K Z _ _ _ _ h d2 z43_3 t_h t_d2 ⟨by omega, by omega⟩ σ84 G87) gd_Low_spread_Low_advertisementArrives_439 rfl rfl rfl (by decide +kernel) ⟨Nat.le_trans (by decide +kernel) hR.1, Nat.le_trans (by decide +kernel) hR.2⟩ t_h (cls_Low G87 t_h) rfl rfl rfl rfl (Nat.le_of_ble_eq_true rfl) dX11_spread_122 ⟨Nat.zero_le _, Nat.zero_le _⟩ (fun v95 σ93 p94 => ?_)
          obtain ⟨G96, F97, z99, e100, r101⟩ := p94
          subst e100
          have F98 := F89.call F97 (by first | rfl | simp)
          have h102 := (F97 d _ t_d (by first | rfl | simp)).trans h90
          have h103 := (F97 h _ t_h (by first | rfl | simp)).trans h91
          have h104 := (F97 a8 _ t28 (by first | rfl | simp)).trans h92
          refine u_if_eq B (tgt := 181) (by omega) dX11_spread_125 (by decide +kernel) (fun c105 => ?_) (fun c105 => ?_)
          · exact J181 σ93 G96 F98 ⟨by omega, by omega⟩
          · refine v_aload_n B dX11_spread_128 rfl rfl ?_
            obtain ⟨z106, yy107, z108, z109, z110, z111, a112, z113, yy114, a115, yy116, a117, a118, a119, a120, a121, a122, a123, a124, h125, r126, r127, r128, r129, r130, r131, t132, r133, r134, t135, r136, t137, t138, t139, t140, t141, t142, t143, t144⟩ : okDevice τ (σ93 d2) := G96 d2 _ t_d2
            refine u_getN B Z (C := RX3) (T := TX3) (N := 19) (ci := 3) hi_Low_spread_X3 t_d2 h125 rfl 2 (by decide +kernel) (List.mem_of_getElem? (i := 65) rfl) rfl dX11_spread_129 ?_
            refine v_iconst B (v := iI 2) dX11_spread_132 rfl ?_
            refine u_icmp_ne B (tgt := 150) (by omega) (by omega) dX11_spread_133 (by decide +kernel) (fun c145 => ?_) (fun c145 => ?_)
            · refine v_aload_n B dX11_spread_150 rfl rfl ?_
              refine u_get B Z (C := RX11) (T := TX11) (N := 5) (ci := 11) hi_Low_spread_X11 t_h h103 rfl 1 (by decide +kernel) (List.mem_of_getElem? (i := 22) rfl) rfl dX11_spread_151 ?_
              obtain ⟨a146, a147, a148, a149, a150, a151, a152, z153, z154, z155, h156, t157, t158, t159, t160, t161, t162, t163, r164, r165, r166⟩ : okAir τ (σ93 a43) := G96 a43 _ t49
              refine u_getN B Z (C := RX0) (T := TX0) (N := 10) (ci := 0) hi_Low_spread_X0 t49 h156 rfl 6 (by decide +kernel) (List.mem_of_getElem? (i := 54) rfl) rfl dX11_spread_154 ?_
              refine v_iconst B (v := iI 0) dX11_spread_157 rfl ?_
              refine v_bipush B (v := iI 6) dX11_spread_158 (by decide +kernel) ?_
              refine u_callVl B Z hz (n := 2) (As := [.int (iI 0), .int (iI 6)]) (rest := []) (c_Row_numberAt l D K Z _ _ _ _ a152 0 6 t163 ⟨by omega, by omega⟩ ⟨by omega, by omega⟩ σ93 G96) gd_Low_spread_Row_numberAt_449 rfl rfl rfl (by decide +kernel) ⟨Nat.le_trans (by decide +kernel) hR.1, Nat.le_trans (by decide +kernel) hR.2⟩ t163 (cls_Row G96 t163) rfl rfl rfl rfl (Nat.le_of_ble_eq_true rfl) dX11_spread_160 ⟨Nat.zero_le _, Nat.zero_le _⟩ (fun v169 σ167 p168 => ?_)
              obtain ⟨rfl, yy173, e174, r175⟩ := p168
              subst e174
              refine v_aload_n B dX11_spread_163 rfl rfl ?_
              refine u_getN B Z (C := RX3) (T := TX3) (N := 19) (ci := 3) hi_Low_spread_X3 t_d2 h125 rfl 11 (by decide +kernel) (List.mem_of_getElem? (i := 69) rfl) rfl dX11_spread_164 ?_
              obtain ⟨z176, z177, z178, z179, z180, yy181, yy182, z183, z184, z185, z186, z187, z188, z189, z190, z191, z192, z193, z194, yy195, h196, r197, r198, r199, r200, r201, r202, r203, r204, r205, r206, r207, r208, r209, r210, r211, r212, r213, r214, r215, r216⟩ : okLink τ (σ93 a117) := G96 a117 _ t137
              refine u_getN B Z (C := RX6) (T := TX6) (N := 20) (ci := 6) hi_Low_spread_X6 t137 h196 rfl 19 (by decide +kernel) (List.mem_of_getElem? (i := 70) rfl) rfl dX11_spread_167 ?_
              obtain ⟨z217, e218, r219⟩ := iI_any (lg_cmp (lI yy173) (lI yy195))
              refine v_lcmp B (v := iI z217) dX11_spread_170 e218 ?_
              refine u_if_ne B (tgt := 181) (by omega) dX11_spread_171 (by decide +kernel) (fun c220 => ?_) (fun c220 => ?_)
              · exact J181 σ93 G96 F98 ⟨by omega, by omega⟩
              · refine v_aload_n B dX11_spread_174 rfl rfl ?_
                refine v_aload_n B dX11_spread_175 rfl rfl ?_
                refine v_aload_n B dX11_spread_176 rfl rfl ?_
                refine v_iload_n B dX11_spread_177 rfl rfl ?_
                refine u_callVv B Z hz (n := 3) (As := [.ref d2, .ref d, .int (iI z43_3)]) (rest := []) (c_Low_initiate l D K Z _ _ _ _ h d2 d z43_3 t_h t_d2 t_d ⟨by omega, by omega⟩ σ93 G96) gd_Low_spread_Low_initiate_453 rfl rfl rfl (by decide +kernel) ⟨Nat.le_trans (by decide +kernel) hR.1, Nat.le_trans (by decide +kernel) hR.2⟩ t_h (cls_Low G96 t_h) rfl rfl rfl rfl (Nat.le_of_ble_eq_true rfl) dX11_spread_178 ⟨Nat.zero_le _, Nat.zero_le _⟩ (fun σ221 p222 => ?_)
                obtain ⟨G224, F225⟩ := p222
                have F226 := F98.call F225 (by first | rfl | simp)
                have h227 := (F225 h _ t_h (by first | rfl | simp)).trans h103
                have h228 := (F225 a8 _ t28 (by first | rfl | simp)).trans h104
                exact J181 σ221 G224 F226 ⟨by omega, by omega⟩
            · refine v_aload_n B dX11_spread_136 rfl rfl ?_
              refine v_aload_n B dX11_spread_137 rfl rfl ?_
              refine u_get B Z (C := RX11) (T := TX11) (N := 5) (ci := 11) hi_Low_spread_X11 t_h h103 rfl 1 (by decide +kernel) (List.mem_of_getElem? (i := 22) rfl) rfl dX11_spread_138 ?_
              obtain ⟨a229, a230, a231, a232, a233, a234, a235, z236, z237, z238, h239, t240, t241, t242, t243, t244, t245, t246, r247, r248, r249⟩ : okAir τ (σ93 a43) := G96 a43 _ t49
              refine u_getN B Z (C := RX0) (T := TX0) (N := 10) (ci := 0) hi_Low_spread_X0 t49 h239 rfl 6 (by decide +kernel) (List.mem_of_getElem? (i := 54) rfl) rfl dX11_spread_141 ?_
              refine u_callVv B Z hz (n := 1) (As := [.ref a235]) (rest := []) (c_Device_report l D K Z _ _ _ _ d2 a235 t_d2 t246 σ93 G96) gd_Low_spread_Device_report_446 rfl rfl rfl (by decide +kernel) ⟨Nat.le_trans (by decide +kernel) hR.1, Nat.le_trans (by decide +kernel) hR.2⟩ t_d2 (cls_Device G96 t_d2) rfl rfl rfl rfl (Nat.le_of_ble_eq_true rfl) dX11_spread_144 ⟨Nat.zero_le _, Nat.zero_le _⟩ (fun σ250 p251 => ?_)
              obtain ⟨G253, F254⟩ := p251
              have F255 := F98.call F254 (by first | rfl | simp)
              have h256 := (F254 h _ t_h (by first | rfl | simp)).trans h103
              have h257 := (F254 a8 _ t28 (by first | rfl | simp)).trans h104
              have h258 := (F254 a43 _ t49 (by first | rfl | simp)).trans h239
              refine v_goto B (tgt := 181) dX11_spread_147 (by decide +kernel) ?_
              exact J181 σ250 G253 F255 ⟨by omega, by omega⟩
  refine v_aload_n B dX11_spread_0 rfl rfl ?_
  obtain ⟨z259, yy260, z261, z262, z263, z264, a265, z266, yy267, a268, yy269, a270, a271, a272, a273, a274, a275, a276, a277, h278, r279, r280, r281, r282, r283, r284, t285, r286, r287, t288, r289, t290, t291, t292, t293, t294, t295, t296, t297⟩ : okDevice τ (σ0 d) := G0 d _ t_d
  refine u_getN B Z (C := RX3) (T := TX3) (N := 19) (ci := 3) hi_Low_spread_X3 t_d h278 rfl 2 (by decide +kernel) (List.mem_of_getElem? (i := 65) rfl) rfl dX11_spread_1 ?_
  refine v_iconst B (v := iI 1) dX11_spread_4 rfl ?_
  refine u_icmp_ne B (tgt := 19) (by omega) (by omega) dX11_spread_5 (by decide +kernel) (fun c298 => ?_) (fun c298 => ?_)
  · exact hend σ0 _ _ G0 F0 dX11_spread_19
  · refine v_aload_n B dX11_spread_8 rfl rfl ?_
    refine u_getN B Z (C := RX3) (T := TX3) (N := 19) (ci := 3) hi_Low_spread_X3 t_d h278 rfl 5 (by decide +kernel) (List.mem_of_getElem? (i := 67) rfl) rfl dX11_spread_9 ?_
    refine v_aload_n B dX11_spread_12 rfl rfl ?_
    obtain ⟨a299, a300, a301, a302, z303, h304, t305, t306, t307, t308, r309⟩ : okLow τ (σ0 h) := G0 h _ t_h
    refine u_get B Z (C := RX11) (T := TX11) (N := 5) (ci := 11) hi_Low_spread_X11 t_h h304 rfl 4 (by decide +kernel) (List.mem_of_getElem? (i := 64) rfl) rfl dX11_spread_13 ?_
    refine u_icmp_eq B (tgt := 20) (by omega) (by omega) dX11_spread_16 (by decide +kernel) (fun c310 => ?_) (fun c310 => ?_)
    · refine v_aload_n B dX11_spread_20 rfl rfl ?_
      refine v_aload_n B dX11_spread_21 rfl rfl ?_
      refine u_get B Z (C := RX11) (T := TX11) (N := 5) (ci := 11) hi_Low_spread_X11 t_h h304 rfl 4 (by decide +kernel) (List.mem_of_getElem? (i := 64) rfl) rfl dX11_spread_22 ?_
      refine v_aload_n B dX11_spread_25 rfl rfl ?_
      refine u_getN B Z (C := RX3) (T := TX3) (N := 19) (ci := 3) hi_Low_spread_X3 t_d h278 rfl 4 (by decide +kernel) (List.mem_of_getElem? (i := 66) rfl) rfl dX11_spread_26 ?_
      obtain ⟨z311, e312, r313⟩ := iI_any (iI z303 + iI z263)
      refine v_iadd B (v := iI z311) dX11_spread_29 e312 ?_
      refine v_aload_n B dX11_spread_30 rfl rfl ?_
      refine u_callVi B Z hz (n := 0) (As := []) (rest := [.int (iI z311), .ref d]) (c_Device_draw l D K Z _ _ _ _ d t_d σ0 G0) gd_Low_spread_Device_draw_423 rfl rfl rfl (by decide +kernel) ⟨Nat.le_trans (by decide +kernel) hR.1, Nat.le_trans (by decide +kernel) hR.2⟩ t_d (cls_Device G0 t_d) rfl rfl rfl rfl (Nat.le_of_ble_eq_true rfl) dX11_spread_31 ⟨Nat.zero_le _, Nat.zero_le _⟩ (fun v316 σ314 p315 => ?_)
      obtain ⟨G317, F318, z320, e321, r322⟩ := p315
      subst e321
      have F319 := F0.call F318 (by first | rfl | simp)
      have h323 := (F318 h _ t_h (by first | rfl | simp)).trans h304
      refine v_iconst B (v := iI 3) dX11_spread_34 rfl ?_
      obtain ⟨z324, e325, r326⟩ := iI_and z320 (c := 3) (by decide) (by decide)
      refine v_iand B (v := iI z324) dX11_spread_35 e325 ?_
      obtain ⟨z327, e328, r329⟩ := iI_any (iI z311 + iI z324)
      refine v_iadd B (v := iI z327) dX11_spread_36 e328 ?_
      obtain ⟨z330, yy331, z332, z333, z334, z335, a336, z337, yy338, a339, yy340, a341, a342, a343, a344, a345, a346, a347, a348, h349, r350, r351, r352, r353, r354, r355, t356, r357, r358, t359, r360, t361, t362, t363, t364, t365, t366, t367, t368⟩ : okDevice τ (σ314 d) := G317 d _ t_d
      refine u_putN B Z (C := RX3) (T := TX3) (N := 19) (ci := 3) hi_Low_spread_X3 t_d h349 rfl 5 (by decide +kernel) tyX3 tyX3_ok nmX3 (List.mem_of_getElem? (i := 67) rfl) rfl (ty := .int) (tyX3_ok 5 (by decide +kernel)) rfl rfl (Nat.le_of_ble_eq_true rfl) (fs' := [.int (iI z330), .long (lI yy331), .int (iI z332), .int (iI z333), .int (iI z334), .int (iI z327), .ref a336, .int (iI z337), .long (lI yy338), .ref a339, .long (lI yy340), .ref a341, .ref a342, .ref a343, .ref a344, .ref a345, .ref a346, .ref a347, .ref a348]) rfl dX11_spread_37 (fun σ369 h370 n371 => ?_)
      have G372 := G317.put t_d (⟨z330, yy331, z332, z333, z334, z327, a336, z337, yy338, a339, yy340, a341, a342, a343, a344, a345, a346, a347, a348, h370, ⟨by omega, by omega⟩, ⟨by omega, by omega⟩, ⟨by omega, by omega⟩, ⟨by omega, by omega⟩, ⟨by omega, by omega⟩, ⟨by omega, by omega⟩, t356, ⟨by omega, by omega⟩, ⟨by omega, by omega⟩, t359, ⟨by omega, by omega⟩, t361, t362, t363, t364, t365, t366, t367, t368⟩ : Ok K τ (33, 0, 0) (σ369 d)) n371
      have F373 := F319.put t_d (by simp) n371
      have h374 := (n371 h (ne_ty t_h t_d (by simp))).trans h323
      refine v_bipush B (v := iI 37) dX11_spread_40 (by decide +kernel) ?_
      refine v_istore_n B (lv' := [(3, .int (iI 37)), (0, .ref h), (1, .ref d), (2, .ref d2)]) dX11_spread_42 rfl (by decide +kernel) rfl ?_
      refine v_lv [1, 2, 3, 0] rfl ?_
      exact J43 _ σ369 37 (Nat.le_refl _) G372 F373 ⟨by omega, by omega⟩
    · exact hend σ0 _ _ G0 F0 dX11_spread_19
set_option maxRecDepth 100000 in
theorem c_Low_spread (l : Launch) (D : va_G) (K : Nat → ClassId) {τ : Nat → Option Ty} {dom : List Nat} (Z : Sk τ dom) (zb zL : Nat) (zx : Nat → Int32) (zs : Nat → Nat) (h : Nat) (d : Nat) (d2 : Nat) (t_h : τ h = some (41, 0, 0)) (t_d : τ d = some (33, 0, 0)) (t_d2 : τ d2 = some (33, 0, 0)) (σ0 : Nat → va_E) (G0 : Good K τ σ0) : MZ l yX11_spread wp_Low_spread ({ frames := 5, cells := 0, slots := 0, locals := 116 }) D (tysA K) [.ref h, .ref d, .ref d2] (fd dom σ0) zb zL zx zs (Qv D (fun σ' => Good K τ σ' ∧ Fr τ [(33, 0), (1, 2), (2, 2), (1, 3), (2, 3), (4, 24), (3, 20), (30, 0), (3, 25), (1, 4), (2, 4), (1, 5), (2, 5), (36, 0), (3, 23), (3, 22), (1, 16), (34, 0), (1, 7), (2, 7)] σ0 σ') (fun σ' => fd dom σ')) 0 0 := by
  refine mz_of (cc := cX11_spread) (maxL := 4) (ret := none) (by decide +kernel) rfl (Nat.le_of_ble_eq_true rfl) ?_
  intro p e s m below meth c A B hr hlk _ hz
  exact b_Low_spread ⟨Nat.le_refl _, Nat.le_refl _⟩ B Z hz h d d2 t_h t_d t_d2 σ0 G0 (fun σ' lv pc G F hd => v_vret B hr hlk σ' ⟨G, F⟩ rfl (Nat.le_refl _) (Nat.le_refl _) hd)
