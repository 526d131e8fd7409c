def wp_Device_currentIsAcknowledged : List Cond := .code yX3_currentIsAcknowledged cX3_currentIsAcknowledged 2 none :: (([.fieldLink RX3 33 "LowEnergy$Device" "mail" "LLowEnergy$Mail;", .methodLink RX3 164 yX7_dropCurrent, .instanceMethod yX7_dropCurrent, .selects RX7 yX7_dropCurrent yX7_dropCurrent, .initialized RX7, .code yX7_dropCurrent cX7_dropCurrent 1 none, .fieldLink RX7 14 "LowEnergy$Mail" "current" "LLowEnergy$Row;", .methodLink RX7 62 yX9_clear, .instanceMethod yX9_clear, .selects RX9 yX9_clear yX9_clear, .initialized RX9, .code yX9_clear cX9_clear 1 none, .fieldLink RX9 21 "LowEnergy$Row" "size" "I", .fieldLink RX7 65 "LowEnergy$Mail" "sort" "I", .fieldLink RX7 68 "LowEnergy$Mail" "currentOp" "I", .fieldLink RX3 77 "LowEnergy$Device" "guard" "LLowEnergy$Guard;", .methodLink RX3 170 yX5_beginComing, .instanceMethod yX5_beginComing, .selects RX5 yX5_beginComing yX5_beginComing, .initialized RX5, .code yX5_beginComing cX5_beginComing 1 none, .fieldLink RX5 48 "LowEnergy$Guard" "comes" "Z", .fieldLink RX5 55 "LowEnergy$Guard" "opened" "I", .fieldLink RX3 26 "LowEnergy$Device" "link" "LLowEnergy$Link;", .methodLink RX3 167 yX6_giveReason, .instanceMethod yX6_giveReason, .selects RX6 yX6_giveReason yX6_giveReason, .initialized RX6, .code yX6_giveReason cX6_giveReason 2 none, .fieldLink RX6 15 "LowEnergy$Link" "reason" "I"] : List Cond) ++ (wsX30 ++ (wsX70 ++ (wsX90 ++ (wsX50 ++ (wsX60 ++ ([])))))))
theorem hi_Device_currentIsAcknowledged_X3 : ∀ x ∈ u_ws RX3 TX3 19, x ∈ wp_Device_currentIsAcknowledged := fun _ h => List.mem_cons_of_mem _ (List.mem_append_right _ (List.mem_append_left _ h))
theorem hi_Device_currentIsAcknowledged_X7 : ∀ x ∈ u_ws RX7 TX7 16, x ∈ wp_Device_currentIsAcknowledged := fun _ h => List.mem_cons_of_mem _ (List.mem_append_right _ (List.mem_append_right _ (List.mem_append_left _ h)))
theorem hi_Device_currentIsAcknowledged_X9 : ∀ x ∈ u_ws RX9 TX9 2, x ∈ wp_Device_currentIsAcknowledged := fun _ h => List.mem_cons_of_mem _ (List.mem_append_right _ (List.mem_append_right _ (List.mem_append_right _ (List.mem_append_left _ h))))
theorem hi_Device_currentIsAcknowledged_X5 : ∀ x ∈ u_ws RX5 TX5 16, x ∈ wp_Device_currentIsAcknowledged := fun _ h => List.mem_cons_of_mem _ (List.mem_append_right _ (List.mem_append_right _ (List.mem_append_right _ (List.mem_append_right _ (List.mem_append_left _ h)))))
theorem hi_Device_currentIsAcknowledged_X6 : ∀ x ∈ u_ws RX6 TX6 20, x ∈ wp_Device_currentIsAcknowledged := fun _ h => List.mem_cons_of_mem _ (List.mem_append_right _ (List.mem_append_right _ (List.mem_append_right _ (List.mem_append_right _ (List.mem_append_right _ (List.mem_append_left _ h))))))
set_option maxRecDepth 100000 in
theorem gd_Device_currentIsAcknowledged_Mail_dropCurrent_164 : GoodIn wp_Device_currentIsAcknowledged (wsV RX3 164 RX7 yX7_dropCurrent wp_Mail_dropCurrent) := goodIn_app (goodIn_r _ [2, 3, 4, 5] rfl rfl) (goodIn_ca (goodIn_r _ [6, 7, 8, 9, 10, 11, 12, 13, 14, 15] rfl rfl) (goodIn_app (goodIn_cls hi_Device_currentIsAcknowledged_X7 gw_X7) (goodIn_app (goodIn_cls hi_Device_currentIsAcknowledged_X9 gw_X9) (goodIn_nil))))
set_option maxRecDepth 100000 in
theorem gd_Device_currentIsAcknowledged_Guard_beginComing_170 : GoodIn wp_Device_currentIsAcknowledged (wsV RX3 170 RX5 yX5_beginComing wp_Guard_beginComing) := goodIn_app (goodIn_r _ [17, 18, 19, 20] rfl rfl) (goodIn_ca (goodIn_r _ [21, 22, 23] rfl rfl) (goodIn_app (goodIn_cls hi_Device_currentIsAcknowledged_X5 gw_X5) (goodIn_nil)))
set_option maxRecDepth 100000 in
theorem gd_Device_currentIsAcknowledged_Link_giveReason_167 : GoodIn wp_Device_currentIsAcknowledged (wsV RX3 167 RX6 yX6_giveReason wp_Link_giveReason) := goodIn_app (goodIn_r _ [25, 26, 27, 28] rfl rfl) (goodIn_ca (goodIn_r _ [29, 30] rfl rfl) (goodIn_app (goodIn_cls hi_Device_currentIsAcknowledged_X6 gw_X6) (goodIn_nil)))
set_option maxHeartbeats 4000000 in
set_option maxRecDepth 100000 in
theorem b_Device_currentIsAcknowledged {p : Program} {l : Launch} {e : Env} {R : Room} {s : State} {m : MethodId} {args : Array Value} {below : List Frame} {meth : Method} {c : Code} {D : va_G} {K : Nat → ClassId} {A : Nat → Prop} {Q : State → Prop} {τ : Nat → Option Ty} {dom : List Nat} {zb zL : Nat} {zx : Nat → Int32} {zs : Nat → Nat} (hR : 2 ≤ R.frames ∧ 40 ≤ R.locals) (B : Bx p s m args c cX3_currentIsAcknowledged 2 RX3 wp_Device_currentIsAcknowledged D (tysA K) A) (Z : Sk τ dom) (hz : ZL zb zL zx zs A s s.heap) (h : Nat) (t_h : τ h = some (33, 0, 0)) (σ0 : Nat → va_E) (G0 : Good K τ σ0) (hend : ∀ (σ' : Nat → va_E) (lv : List (Nat × Value)) (pc : Nat), Good K τ σ' → Fr τ [(1, 2), (37, 0), (35, 0), (36, 0)] σ0 σ' → decode cX3_currentIsAcknowledged pc = .ok (.return_, 1) → V p l e R s m args below meth c 2 D A Q (0, 0) (fd dom σ') lv pc []) : V p l e R s m args below meth c 2 D A Q (0, 0) (fd dom σ0) [(0, .ref h)] 0 [] := by
  have F0 : Fr τ [(1, 2), (37, 0), (35, 0), (36, 0)] σ0 σ0 := Fr.rf
  refine v_aload_n B dX3_currentIsAcknowledged_0 rfl rfl ?_
  obtain ⟨z1, yy2, z3, z4, z5, z6, a7, z8, yy9, a10, yy11, a12, a13, a14, a15, a16, a17, a18, a19, h20, r21, r22, r23, r24, r25, r26, t27, r28, r29, t30, r31, t32, t33, t34, t35, t36, t37, t38, t39⟩ : okDevice τ (σ0 h) := G0 h _ t_h
  refine u_get B Z (C := RX3) (T := TX3) (N := 19) (ci := 3) hi_Device_currentIsAcknowledged_X3 t_h h20 rfl 12 (by decide +kernel) (List.mem_of_getElem? (i := 1) rfl) rfl dX3_currentIsAcknowledged_1 ?_
  obtain ⟨a40, z41, z42, a43, z44, z45, z46, a47, z48, z49, z50, a51, z52, a53, z54, a55, h56, t57, r58, r59, t60, r61, r62, r63, t64, r65, r66, r67, t68, r69, t70, r71, t72⟩ : okMail τ (σ0 a13) := G0 a13 _ t33
  refine u_getN B Z (C := RX7) (T := TX7) (N := 16) (ci := 7) hi_Device_currentIsAcknowledged_X7 t33 h56 rfl 2 (by decide +kernel) (List.mem_of_getElem? (i := 83) rfl) rfl dX3_currentIsAcknowledged_4 ?_
  refine v_istore_n B (lv' := [(1, .int (iI z42)), (0, .ref h)]) dX3_currentIsAcknowledged_7 rfl (by decide +kernel) rfl ?_
  refine v_aload_n B dX3_currentIsAcknowledged_8 rfl rfl ?_
  refine u_get B Z (C := RX3) (T := TX3) (N := 19) (ci := 3) hi_Device_currentIsAcknowledged_X3 t_h h20 rfl 12 (by decide +kernel) (List.mem_of_getElem? (i := 1) rfl) rfl dX3_currentIsAcknowledged_9 ?_
  refine u_callVv B Z hz (n := 0) (As := []) (rest := []) (c_Mail_dropCurrent l D K Z _ _ _ _ a13 t33 σ0 G0) gd_Device_currentIsAcknowledged_Mail_dropCurrent_164 rfl rfl rfl (by decide +kernel) ⟨Nat.le_trans (by decide +kernel) hR.1, Nat.le_trans (by decide +kernel) hR.2⟩ t33 (cls_Mail G0 t33) rfl rfl rfl rfl (Nat.le_of_ble_eq_true rfl) dX3_currentIsAcknowledged_12 ⟨Nat.zero_le _, Nat.zero_le _⟩ (fun σ73 p74 => ?_)
  obtain ⟨G76, F77⟩ := p74
  have F78 := F0.call F77 (by first | rfl | simp)
  have h79 := (F77 h _ t_h (by first | rfl | simp)).trans h20
  refine v_iload_n B dX3_currentIsAcknowledged_15 rfl rfl ?_
  refine v_iconst B (v := iI 2) dX3_currentIsAcknowledged_16 rfl ?_
  refine u_icmp_ne B (tgt := 32) (by omega) (by omega) dX3_currentIsAcknowledged_17 (by decide +kernel) (fun c80 => ?_) (fun c80 => ?_)
  · refine v_iload_n B dX3_currentIsAcknowledged_32 rfl rfl ?_
    refine v_iconst B (v := iI 5) dX3_currentIsAcknowledged_33 rfl ?_
    refine u_icmp_ne B (tgt := 44) (by omega) (by omega) dX3_currentIsAcknowledged_34 (by decide +kernel) (fun c81 => ?_) (fun c81 => ?_)
    · exact hend σ73 _ _ G76 F78 dX3_currentIsAcknowledged_44
    · refine v_aload_n B dX3_currentIsAcknowledged_37 rfl rfl ?_
      refine u_get B Z (C := RX3) (T := TX3) (N := 19) (ci := 3) hi_Device_currentIsAcknowledged_X3 t_h h79 rfl 13 (by decide +kernel) (List.mem_of_getElem? (i := 16) rfl) rfl dX3_currentIsAcknowledged_38 ?_
      refine u_callVv B Z hz (n := 0) (As := []) (rest := []) (c_Guard_beginComing l D K Z _ _ _ _ a14 t34 σ73 G76) gd_Device_currentIsAcknowledged_Guard_beginComing_170 rfl rfl rfl (by decide +kernel) ⟨Nat.le_trans (by decide +kernel) hR.1, Nat.le_trans (by decide +kernel) hR.2⟩ t34 (cls_Guard G76 t34) rfl rfl rfl rfl (Nat.le_of_ble_eq_true rfl) dX3_currentIsAcknowledged_41 ⟨Nat.zero_le _, Nat.zero_le _⟩ (fun σ82 p83 => ?_)
      obtain ⟨G85, F86⟩ := p83
      have F87 := F78.call F86 (by first | rfl | simp)
      have h88 := (F86 h _ t_h (by first | rfl | simp)).trans h79
      exact hend σ82 _ _ G85 F87 dX3_currentIsAcknowledged_44
  · refine v_aload_n B dX3_currentIsAcknowledged_20 rfl rfl ?_
    refine u_get B Z (C := RX3) (T := TX3) (N := 19) (ci := 3) hi_Device_currentIsAcknowledged_X3 t_h h79 rfl 11 (by decide +kernel) (List.mem_of_getElem? (i := 24) rfl) rfl dX3_currentIsAcknowledged_21 ?_
    refine v_bipush B (v := iI 22) dX3_currentIsAcknowledged_24 (by decide +kernel) ?_
    refine u_callVv B Z hz (n := 1) (As := [.int (iI 22)]) (rest := []) (c_Link_giveReason l D K Z _ _ _ _ a12 22 t32 ⟨by omega, by omega⟩ σ73 G76) gd_Device_currentIsAcknowledged_Link_giveReason_167 rfl rfl rfl (by decide +kernel) ⟨Nat.le_trans (by decide +kernel) hR.1, Nat.le_trans (by decide +kernel) hR.2⟩ t32 (cls_Link G76 t32) rfl rfl rfl rfl (Nat.le_of_ble_eq_true rfl) dX3_currentIsAcknowledged_26 ⟨Nat.zero_le _, Nat.zero_le _⟩ (fun σ89 p90 => ?_)
    obtain ⟨G92, F93⟩ := p90
    have F94 := F78.call F93 (by first | rfl | simp)
    have h95 := (F93 h _ t_h (by first | rfl | simp)).trans h79
    refine v_goto B (tgt := 44) dX3_currentIsAcknowledged_29 (by decide +kernel) ?_
    exact hend σ89 _ _ G92 F94 dX3_currentIsAcknowledged_44
set_option maxRecDepth 100000 in
theorem c_Device_currentIsAcknowledged (l : Launch) (D : va_G) (K : Nat → ClassId) {τ : Nat → Option Ty} {dom : List Nat} (Z : Sk τ dom) (zb zL : Nat) (zx : Nat → Int32) (zs : Nat → Nat) (h : Nat) (t_h : τ h = some (33, 0, 0)) (σ0 : Nat → va_E) (G0 : Good K τ σ0) : MZ l yX3_currentIsAcknowledged wp_Device_currentIsAcknowledged ({ frames := 2, cells := 0, slots := 0, locals := 40 }) D (tysA K) [.ref h] (fd dom σ0) zb zL zx zs (Qv D (fun σ' => Good K τ σ' ∧ Fr τ [(1, 2), (37, 0), (35, 0), (36, 0)] σ0 σ') (fun σ' => fd dom σ')) 0 0 := by
  refine mz_of (cc := cX3_currentIsAcknowledged) (maxL := 2) (ret := none) (by decide +kernel) rfl (Nat.le_of_ble_eq_true rfl) ?_
  intro p e s m below meth c A B hr hlk _ hz
  exact b_Device_currentIsAcknowledged ⟨Nat.le_refl _, Nat.le_refl _⟩ B Z hz h t_h σ0 G0 (fun σ' lv pc G F hd => v_vret B hr hlk σ' ⟨G, F⟩ rfl (Nat.le_refl _) (Nat.le_refl _) hd)

def wp_Device_postValue : List Cond := .code yX3_postValue cX3_postValue 5 none :: (([.fieldLink RX3 58 "LowEnergy$Device" "draft" "LLowEnergy$Row;", .methodLink RX3 120 yX9_clear, .instanceMethod yX9_clear, .selects RX9 yX9_clear yX9_clear, .initialized RX9, .code yX9_clear cX9_clear 1 none, .fieldLink RX9 21 "LowEnergy$Row" "size" "I", .methodLink RX3 173 yX9_put, .instanceMethod yX9_put, .selects RX9 yX9_put yX9_put, .code yX9_put cX9_put 2 none, .fieldLink RX9 15 "LowEnergy$Row" "bytes" "[I", .methodLink RX3 176 yX9_putNumber, .instanceMethod yX9_putNumber, .selects RX9 yX9_putNumber yX9_putNumber, .code yX9_putNumber cX9_putNumber 5 none, .constantLong RX9 25 (255), .methodLink RX3 126 yX9_putPart, .instanceMethod yX9_putPart, .selects RX9 yX9_putPart yX9_putPart, .code yX9_putPart cX9_putPart 6 none, .methodLink RX9 9 Lib.Math.max.name, .static Lib.Math.max.name, .initialized "java/lang/Math", .code Lib.Math.max.name Lib.Math.max.code 2 (some .int), .fieldLink RX3 33 "LowEnergy$Device" "mail" "LLowEnergy$Mail;", .methodLink RX3 180 yX7_post, .instanceMethod yX7_post, .selects RX7 yX7_post yX7_post, .initialized RX7, .code yX7_post cX7_post 4 none, .methodLink RX7 84 yX7_isFull, .instanceMethod yX7_isFull, .selects RX7 yX7_isFull yX7_isFull, .code yX7_isFull cX7_isFull 1 (some .boolean), .fieldLink RX7 53 "LowEnergy$Mail" "messageCount" "I", .fieldLink RX7 24 "LowEnergy$Mail" "messages" "[LLowEnergy$Row;", .fieldLink RX7 50 "LowEnergy$Mail" "messageHead" "I", .methodLink RX7 62 yX9_clear, .methodLink RX7 78 yX9_putNumber, .methodLink RX7 91 yX9_putPart] : List Cond) ++ (wsX30 ++ (wsX90 ++ (wsX70 ++ ([])))))
theorem hi_Device_postValue_X3 : ∀ x ∈ u_ws RX3 TX3 19, x ∈ wp_Device_postValue := fun _ h => List.mem_cons_of_mem _ (List.mem_append_right _ (List.mem_append_left _ h))
theorem hi_Device_postValue_X9 : ∀ x ∈ u_ws RX9 TX9 2, x ∈ wp_Device_postValue := fun _ h => List.mem_cons_of_mem _ (List.mem_append_right _ (List.mem_append_right _ (List.mem_append_left _ h)))
theorem hi_Device_postValue_X7 : ∀ x ∈ u_ws RX7 TX7 16, x ∈ wp_Device_postValue := fun _ h => List.mem_cons_of_mem _ (List.mem_append_right _ (List.mem_append_right _ (List.mem_append_right _ (List.mem_append_left _ h))))
set_option maxRecDepth 100000 in
theorem gd_Device_postValue_Row_clear_120 : GoodIn wp_Device_postValue (wsV RX3 120 RX9 yX9_clear wp_Row_clear) := goodIn_app (goodIn_r _ [2, 3, 4, 5] rfl rfl) (goodIn_ca (goodIn_r _ [6, 7] rfl rfl) (goodIn_app (goodIn_cls hi_Device_postValue_X9 gw_X9) (goodIn_nil)))
set_option maxRecDepth 100000 in
theorem gd_Device_postValue_Row_put_173 : GoodIn wp_Device_postValue (wsV RX3 173 RX9 yX9_put wp_Row_put) := goodIn_app (goodIn_r _ [8, 9, 10, 5] rfl rfl) (goodIn_ca (goodIn_r _ [11, 7, 12] rfl rfl) (goodIn_app (goodIn_cls hi_Device_postValue_X9 gw_X9) (goodIn_nil)))
set_option maxRecDepth 100000 in
theorem gd_Device_postValue_Row_putNumber_176 : GoodIn wp_Device_postValue (wsV RX3 176 RX9 yX9_putNumber wp_Row_putNumber) := goodIn_app (goodIn_r _ [13, 14, 15, 5] rfl rfl) (goodIn_ca (goodIn_r _ [16, 7, 12, 17] rfl rfl) (goodIn_app (goodIn_cls hi_Device_postValue_X9 gw_X9) (goodIn_nil)))
set_option maxRecDepth 100000 in
theorem gd_Device_postValue_Row_putPart_126 : GoodIn wp_Device_postValue (wsV RX3 126 RX9 yX9_putPart wp_Row_putPart) := goodIn_app (goodIn_r _ [18, 19, 20, 5] rfl rfl) (goodIn_ca (goodIn_r _ [21, 7, 12, 22, 23, 24, 25] rfl rfl) (goodIn_app (goodIn_cls hi_Device_postValue_X9 gw_X9) (goodIn_nil)))
set_option maxRecDepth 100000 in
theorem gd_Device_postValue_Mail_post_180 : GoodIn wp_Device_postValue (wsV RX3 180 RX7 yX7_post wp_Mail_post) := goodIn_app (goodIn_r _ [27, 28, 29, 30] rfl rfl) (goodIn_ca (goodIn_r _ [31, 32, 33, 34, 30, 35, 36, 37, 38, 39, 3, 4, 5, 6, 7, 40, 14, 15, 16, 12, 17, 41, 19, 20, 21, 22, 23, 24, 25] rfl rfl) (goodIn_app (goodIn_cls hi_Device_postValue_X7 gw_X7) (goodIn_app (goodIn_cls hi_Device_postValue_X9 gw_X9) (goodIn_nil))))
set_option maxHeartbeats 4000000 in
set_option maxRecDepth 100000 in
theorem b_Device_postValue {p : Program} {l : Launch} {e : Env} {R : Room} {s : State} {m : MethodId} {args : Array Value} {below : List Frame} {meth : Method} {c : Code} {D : va_G} {K : Nat → ClassId} {A : Nat → Prop} {Q : State → Prop} {τ : Nat → Option Ty} {dom : List Nat} {zb zL : Nat} {zx : Nat → Int32} {zs : Nat → Nat} {π : Nat} (hR : 3 ≤ R.frames ∧ 61 ≤ R.locals) (B : Bx p s m args c cX3_postValue 5 RX3 wp_Device_postValue D (tysA K) A) (Z : Sk τ dom) (hz : ZL zb zL zx zs A s s.heap) (h : Nat) (x1 : Int) (x2 : Int) (g : Nat) (x4 : Int) (t_h : τ h = some (33, 0, 0)) (r_x1 : -2147483648 ≤ x1 ∧ x1 ≤ 2147483647) (r_x2 : -2147483648 ≤ x2 ∧ x2 ≤ 2147483647) (t_g : τ g = some (1, π, 0)) (r_x4 : -2147483648 ≤ x4 ∧ x4 ≤ 2147483647) (σ0 : Nat → va_E) (G0 : Good K τ σ0) (hend : ∀ (σ' : Nat → va_E) (lv : List (Nat × Value)) (pc : Nat), Good K τ σ' → Fr τ [(1, 8), (2, 8), (1, 10), (2, 10), (37, 0)] σ0 σ' → decode cX3_postValue pc = .ok (.return_, 1) → V p l e R s m args below meth c 5 D A Q (0, 0) (fd dom σ') lv pc []) : V p l e R s m args below meth c 5 D A Q (0, 0) (fd dom σ0) [(0, .ref h), (1, .int (iI x1)), (2, .int (iI x2)), (3, .ref g), (4, .int (iI x4))] 0 [] := by
  have F0 : Fr τ [(1, 8), (2, 8), (1, 10), (2, 10), (37, 0)] σ0 σ0 := Fr.rf
  refine v_aload_n B dX3_postValue_0 rfl rfl ?_
  obtain ⟨z1, yy2, z3, z4, z5, z6, a7, z8, yy9, a10, yy11, a12, a13, a14, a15, a16, a17, a18, a19, h20, r21, r22, r23, r24, r25, r26, t27, r28, r29, t30, r31, t32, t33, t34, t35, t36, t37, t38, t39⟩ : okDevice τ (σ0 h) := G0 h _ t_h
  refine u_get B Z (C := RX3) (T := TX3) (N := 19) (ci := 3) hi_Device_postValue_X3 t_h h20 rfl 18 (by decide +kernel) (List.mem_of_getElem? (i := 1) rfl) rfl dX3_postValue_1 ?_
  refine u_callVv B Z hz (n := 0) (As := []) (rest := []) (c_Row_clear l D K Z _ _ _ _ a19 t39 σ0 G0) gd_Device_postValue_Row_clear_120 rfl rfl rfl (by decide +kernel) ⟨Nat.le_trans (by decide +kernel) hR.1, Nat.le_trans (by decide +kernel) hR.2⟩ t39 (cls_Row G0 t39) rfl rfl rfl rfl (Nat.le_of_ble_eq_true rfl) dX3_postValue_4 ⟨Nat.zero_le _, Nat.zero_le _⟩ (fun σ40 p41 => ?_)
  obtain ⟨G43, F44⟩ := p41
  have F45 := F0.call F44 (by first | rfl | simp)
  have h46 := (F44 h _ t_h (by first | rfl | simp)).trans h20
  refine v_aload_n B dX3_postValue_7 rfl rfl ?_
  refine u_get B Z (C := RX3) (T := TX3) (N := 19) (ci := 3) hi_Device_postValue_X3 t_h h46 rfl 18 (by decide +kernel) (List.mem_of_getElem? (i := 1) rfl) rfl dX3_postValue_8 ?_
  refine v_iload_n B dX3_postValue_11 rfl rfl ?_
  refine u_callVv B Z hz (n := 1) (As := [.int (iI x1)]) (rest := []) (c_Row_put l D K Z _ _ _ _ a19 x1 t39 ⟨by omega, by omega⟩ σ40 G43) gd_Device_postValue_Row_put_173 rfl rfl rfl (by decide +kernel) ⟨Nat.le_trans (by decide +kernel) hR.1, Nat.le_trans (by decide +kernel) hR.2⟩ t39 (cls_Row G43 t39) rfl rfl rfl rfl (Nat.le_of_ble_eq_true rfl) dX3_postValue_12 ⟨Nat.zero_le _, Nat.zero_le _⟩ (fun σ47 p48 => ?_)
  obtain ⟨G50, F51⟩ := p48
  have F52 := F45.call F51 (by first | rfl | simp)
  have h53 := (F51 h _ t_h (by first | rfl | simp)).trans h46
  refine v_aload_n B dX3_postValue_15 rfl rfl ?_
  refine u_get B Z (C := RX3) (T := TX3) (N := 19) (ci := 3) hi_Device_postValue_X3 t_h h53 rfl 18 (by decide +kernel) (List.mem_of_getElem? (i := 1) rfl) rfl dX3_postValue_16 ?_
  refine v_iload_n B dX3_postValue_19 rfl rfl ?_
  refine v_i2l B (v := lI x2) dX3_postValue_20 (lI_i (by omega)) ?_
  refine v_iconst B (v := iI 2) dX3_postValue_21 rfl ?_
  refine u_callVv B Z hz (n := 2) (As := [.long (lI x2), .int (iI 2)]) (rest := []) (c_Row_putNumber l D K Z _ _ _ _ a19 x2 2 t39 ⟨by omega, by omega⟩ ⟨by omega, by omega⟩ σ47 G50) gd_Device_postValue_Row_putNumber_176 rfl rfl rfl (by decide +kernel) ⟨Nat.le_trans (by decide +kernel) hR.1, Nat.le_trans (by decide +kernel) hR.2⟩ t39 (cls_Row G50 t39) rfl rfl rfl rfl (Nat.le_of_ble_eq_true rfl) dX3_postValue_22 ⟨Nat.zero_le _, Nat.zero_le _⟩ (fun σ54 p55 => ?_)
  obtain ⟨G57, F58⟩ := p55
  have F59 := F52.call F58 (by first | rfl | simp)
  have h60 := (F58 h _ t_h (by first | rfl | simp)).trans h53
  refine v_aload_n B dX3_postValue_25 rfl rfl ?_
  refine u_get B Z (C := RX3) (T := TX3) (N := 19) (ci := 3) hi_Device_postValue_X3 t_h h60 rfl 18 (by decide +kernel) (List.mem_of_getElem? (i := 1) rfl) rfl dX3_postValue_26 ?_
  refine v_aload_n B dX3_postValue_29 rfl rfl ?_
  refine v_iconst B (v := iI 0) dX3_postValue_30 rfl ?_
  refine v_iload B dX3_postValue_31 rfl ?_
  refine u_callVv B Z hz (n := 3) (As := [.ref g, .int (iI 0), .int (iI x4)]) (rest := []) (c_Row_putPart l D K Z _ _ _ _ a19 g 0 x4 t39 t_g ⟨by omega, by omega⟩ ⟨by omega, by omega⟩ σ54 G57) gd_Device_postValue_Row_putPart_126 rfl rfl rfl (by decide +kernel) ⟨Nat.le_trans (by decide +kernel) hR.1, Nat.le_trans (by decide +kernel) hR.2⟩ t39 (cls_Row G57 t39) rfl rfl rfl rfl (Nat.le_of_ble_eq_true rfl) dX3_postValue_33 ⟨Nat.zero_le _, Nat.zero_le _⟩ (fun σ61 p62 => ?_)
  obtain ⟨G64, F65⟩ := p62
  have F66 := F59.call F65 (by first | rfl | simp)
  have h67 := (F65 h _ t_h (by first | rfl | simp)).trans h60
  refine v_aload_n B dX3_postValue_36 rfl rfl ?_
  refine u_get B Z (C := RX3) (T := TX3) (N := 19) (ci := 3) hi_Device_postValue_X3 t_h h67 rfl 12 (by decide +kernel) (List.mem_of_getElem? (i := 26) rfl) rfl dX3_postValue_37 ?_
  refine v_iconst B (v := iI 4) dX3_postValue_40 rfl ?_
  refine v_aload_n B dX3_postValue_41 rfl rfl ?_
  refine u_get B Z (C := RX3) (T := TX3) (N := 19) (ci := 3) hi_Device_postValue_X3 t_h h67 rfl 18 (by decide +kernel) (List.mem_of_getElem? (i := 1) rfl) rfl dX3_postValue_42 ?_
  refine u_callVv B Z hz (n := 2) (As := [.int (iI 4), .ref a19]) (rest := []) (c_Mail_post l D K Z _ _ _ _ a13 4 a19 t33 ⟨by omega, by omega⟩ t39 σ61 G64) gd_Device_postValue_Mail_post_180 rfl rfl rfl (by decide +kernel) ⟨Nat.le_trans (by decide +kernel) hR.1, Nat.le_trans (by decide +kernel) hR.2⟩ t33 (cls_Mail G64 t33) rfl rfl rfl rfl (Nat.le_of_ble_eq_true rfl) dX3_postValue_45 ⟨Nat.zero_le _, Nat.zero_le _⟩ (fun σ68 p69 => ?_)
  obtain ⟨G71, F72⟩ := p69
  have F73 := F66.call F72 (by first | rfl | simp)
  have h74 := (F72 h _ t_h (by first | rfl | simp)).trans h67
  exact hend σ68 _ _ G71 F73 dX3_postValue_48
set_option maxRecDepth 100000 in
theorem c_Device_postValue (l : Launch) (D : va_G) (K : Nat → ClassId) {τ : Nat → Option Ty} {dom : List Nat} (Z : Sk τ dom) (zb zL : Nat) (zx : Nat → Int32) (zs : Nat → Nat) {π : Nat} (h : Nat) (x1 : Int) (x2 : Int) (g : Nat) (x4 : Int) (t_h : τ h = some (33, 0, 0)) (r_x1 : -2147483648 ≤ x1 ∧ x1 ≤ 2147483647) (r_x2 : -2147483648 ≤ x2 ∧ x2 ≤ 2147483647) (t_g : τ g = some (1, π, 0)) (r_x4 : -2147483648 ≤ x4 ∧ x4 ≤ 2147483647) (σ0 : Nat → va_E) (G0 : Good K τ σ0) : MZ l yX3_postValue wp_Device_postValue ({ frames := 3, cells := 0, slots := 0, locals := 61 }) D (tysA K) [.ref h, .int (iI x1), .int (iI x2), .ref g, .int (iI x4)] (fd dom σ0) zb zL zx zs (Qv D (fun σ' => Good K τ σ' ∧ Fr τ [(1, 8), (2, 8), (1, 10), (2, 10), (37, 0)] σ0 σ') (fun σ' => fd dom σ')) 0 0 := by
  refine mz_of (cc := cX3_postValue) (maxL := 5) (ret := none) (by decide +kernel) rfl (Nat.le_of_ble_eq_true rfl) ?_
  intro p e s m below meth c A B hr hlk _ hz
  exact b_Device_postValue ⟨Nat.le_refl _, Nat.le_refl _⟩ B Z hz h x1 x2 g x4 t_h r_x1 r_x2 t_g r_x4 σ0 G0 (fun σ' lv pc G F hd => v_vret B hr hlk σ' ⟨G, F⟩ rfl (Nat.le_refl _) (Nat.le_refl _) hd)

def wp_Device_disconnect : List Cond := .code yX3_disconnect cX3_disconnect 2 none :: (([.fieldLink RX3 93 "LowEnergy$Device" "state" "I", .fieldLink RX3 26 "LowEnergy$Device" "link" "LLowEnergy$Link;", .methodLink RX3 184 yX6_reset, .instanceMethod yX6_reset, .selects RX6 yX6_reset yX6_reset, .initialized RX6, .code yX6_reset cX6_reset 1 none, .fieldLink RX6 50 "LowEnergy$Link" "mapWaits" "Z", .fieldLink RX6 54 "LowEnergy$Link" "event" "I", .fieldLink RX6 57 "LowEnergy$Link" "u" "I", .fieldLink RX6 9 "LowEnergy$Link" "channel" "I", .fieldLink RX6 60 "LowEnergy$Link" "heardGood" "Z", .fieldLink RX6 63 "LowEnergy$Link" "sn" "I", .fieldLink RX6 66 "LowEnergy$Link" "nesn" "I", .fieldLink RX6 15 "LowEnergy$Link" "reason" "I", .fieldLink RX6 18 "LowEnergy$Link" "laterReason" "I", .fieldLink RX3 33 "LowEnergy$Device" "mail" "LLowEnergy$Mail;", .methodLink RX3 187 yX7_reset, .instanceMethod yX7_reset, .selects RX7 yX7_reset yX7_reset, .initialized RX7, .code yX7_reset cX7_reset 1 none, .methodLink RX7 36 yX7_dropCurrent, .instanceMethod yX7_dropCurrent, .selects RX7 yX7_dropCurrent yX7_dropCurrent, .code yX7_dropCurrent cX7_dropCurrent 1 none, .fieldLink RX7 14 "LowEnergy$Mail" "current" "LLowEnergy$Row;", .methodLink RX7 62 yX9_clear, .instanceMethod yX9_clear, .selects RX9 yX9_clear yX9_clear, .initialized RX9, .code yX9_clear cX9_clear 1 none, .fieldLink RX9 21 "LowEnergy$Row" "size" "I", .fieldLink RX7 65 "LowEnergy$Mail" "sort" "I", .fieldLink RX7 68 "LowEnergy$Mail" "currentOp" "I", .fieldLink RX7 39 "LowEnergy$Mail" "controlHead" "I", .fieldLink RX7 43 "LowEnergy$Mail" "controlCount" "I", .fieldLink RX7 46 "LowEnergy$Mail" "versionSent" "Z", .fieldLink RX7 50 "LowEnergy$Mail" "messageHead" "I", .fieldLink RX7 53 "LowEnergy$Mail" "messageCount" "I", .fieldLink RX7 56 "LowEnergy$Mail" "placed" "I", .fieldLink RX7 59 "LowEnergy$Mail" "begun" "Z", .fieldLink RX3 77 "LowEnergy$Device" "guard" "LLowEnergy$Guard;", .methodLink RX3 188 yX5_reset, .instanceMethod yX5_reset, .selects RX5 yX5_reset yX5_reset, .initialized RX5, .code yX5_reset cX5_reset 1 none, .fieldLink RX5 32 "LowEnergy$Guard" "hasSession" "Z", .fieldLink RX5 36 "LowEnergy$Guard" "asked" "Z", .fieldLink RX5 39 "LowEnergy$Guard" "held" "Z", .fieldLink RX5 42 "LowEnergy$Guard" "secure" "Z", .fieldLink RX5 45 "LowEnergy$Guard" "sends" "Z", .fieldLink RX5 48 "LowEnergy$Guard" "comes" "Z", .fieldLink RX5 51 "LowEnergy$Guard" "sent" "I", .fieldLink RX5 55 "LowEnergy$Guard" "opened" "I", .fieldLink RX3 84 "LowEnergy$Device" "pairing" "LLowEnergy$Pairing;", .fieldLink RX3 40 "LowEnergy$Device" "server" "LLowEnergy$Server;", .methodLink RX3 192 yX10_leaveLink, .instanceMethod yX10_leaveLink, .selects RX10 yX10_leaveLink yX10_leaveLink, .initialized RX10, .code yX10_leaveLink cX10_leaveLink 1 none, .fieldLink RX10 28 "LowEnergy$Server" "linkMtu" "I", .fieldLink RX10 40 "LowEnergy$Server" "partCount" "I", .fieldLink RX10 43 "LowEnergy$Server" "waitsForConfirmation" "Z", .fieldLink RX3 47 "LowEnergy$Device" "client" "LLowEnergy$Client;", .fieldLink RX3 54 "LowEnergy$Device" "diary" "LLowEnergy$Diary;", .methodLink RX3 157 yX4_note, .instanceMethod yX4_note, .selects RX4 yX4_note yX4_note, .initialized RX4, .code yX4_note cX4_note 6 none, .fieldLink RX4 29 "LowEnergy$Diary" "count" "I", .fieldLink RX4 36 "LowEnergy$Diary" "head" "I", .fieldLink RX4 11 "LowEnergy$Diary" "kinds" "[I", .fieldLink RX4 17 "LowEnergy$Diary" "numbers" "[[I", .fieldLink RX4 22 "LowEnergy$Diary" "rows" "[LLowEnergy$Row;", .methodLink RX4 39 yX9_clear, .fieldLink RX4 33 "LowEnergy$Diary" "lost" "I"] : List Cond) ++ (wsX30 ++ (wsX60 ++ (wsX70 ++ (wsX90 ++ (wsX50 ++ (wsX80 ++ (wsX100 ++ (wsX20 ++ (wsX40 ++ ([])))))))))))
theorem hi_Device_disconnect_X3 : ∀ x ∈ u_ws RX3 TX3 19, x ∈ wp_Device_disconnect := fun _ h => List.mem_cons_of_mem _ (List.mem_append_right _ (List.mem_append_left _ h))
theorem hi_Device_disconnect_X6 : ∀ x ∈ u_ws RX6 TX6 20, x ∈ wp_Device_disconnect := fun _ h => List.mem_cons_of_mem _ (List.mem_append_right _ (List.mem_append_right _ (List.mem_append_left _ h)))
theorem hi_Device_disconnect_X7 : ∀ x ∈ u_ws RX7 TX7 16, x ∈ wp_Device_disconnect := fun _ h => List.mem_cons_of_mem _ (List.mem_append_right _ (List.mem_append_right _ (List.mem_append_right _ (List.mem_append_left _ h))))
theorem hi_Device_disconnect_X9 : ∀ x ∈ u_ws RX9 TX9 2, x ∈ wp_Device_disconnect := fun _ h => List.mem_cons_of_mem _ (List.mem_append_right _ (List.mem_append_right _ (List.mem_append_right _ (List.mem_append_right _ (List.mem_append_left _ h)))))
theorem hi_Device_disconnect_X5 : ∀ x ∈ u_ws RX5 TX5 16, x ∈ wp_Device_disconnect := fun _ h => List.mem_cons_of_mem _ (List.mem_append_right _ (List.mem_append_right _ (List.mem_append_right _ (List.mem_append_right _ (List.mem_append_right _ (List.mem_append_left _ h))))))
theorem hi_Device_disconnect_X8 : ∀ x ∈ u_ws RX8 TX8 8, x ∈ wp_Device_disconnect := fun _ h => List.mem_cons_of_mem _ (List.mem_append_right _ (List.mem_append_right _ (List.mem_append_right _ (List.mem_append_right _ (List.mem_append_right _ (List.mem_append_right _ (List.mem_append_left _ h)))))))
theorem hi_Device_disconnect_X10 : ∀ x ∈ u_ws RX10 TX10 10, x ∈ wp_Device_disconnect := fun _ h => List.mem_cons_of_mem _ (List.mem_append_right _ (List.mem_append_right _ (List.mem_append_right _ (List.mem_append_right _ (List.mem_append_right _ (List.mem_append_right _ (List.mem_append_right _ (List.mem_append_left _ h))))))))
theorem hi_Device_disconnect_X2 : ∀ x ∈ u_ws RX2 TX2 6, x ∈ wp_Device_disconnect := fun _ h => List.mem_cons_of_mem _ (List.mem_append_right _ (List.mem_append_right _ (List.mem_append_right _ (List.mem_append_right _ (List.mem_append_right _ (List.mem_append_right _ (List.mem_append_right _ (List.mem_append_right _ (List.mem_append_left _ h)))))))))
theorem hi_Device_disconnect_X4 : ∀ x ∈ u_ws RX4 TX4 6, x ∈ wp_Device_disconnect := fun _ h => List.mem_cons_of_mem _ (List.mem_append_right _ (List.mem_append_right _ (List.mem_append_right _ (List.mem_append_right _ (List.mem_append_right _ (List.mem_append_right _ (List.mem_append_right _ (List.mem_append_right _ (List.mem_append_right _ (List.mem_append_left _ h))))))))))
set_option maxRecDepth 100000 in
theorem gd_Device_disconnect_Link_reset_184 : GoodIn wp_Device_disconnect (wsV RX3 184 RX6 yX6_reset wp_Link_reset) := goodIn_app (goodIn_r _ [3, 4, 5, 6] rfl rfl) (goodIn_ca (goodIn_r _ [7, 8, 9, 10, 11, 12, 13, 14, 15, 16] rfl rfl) (goodIn_app (goodIn_cls hi_Device_disconnect_X6 gw_X6) (goodIn_nil)))
set_option maxRecDepth 100000 in
theorem gd_Device_disconnect_Mail_reset_187 : GoodIn wp_Device_disconnect (wsV RX3 187 RX7 yX7_reset wp_Mail_reset) := goodIn_app (goodIn_r _ [18, 19, 20, 21] rfl rfl) (goodIn_ca (goodIn_r _ [22, 23, 24, 25, 21, 26, 27, 28, 29, 30, 31, 32, 33, 34, 35, 36, 37, 38, 39, 40, 41, 42] rfl rfl) (goodIn_app (goodIn_cls hi_Device_disconnect_X7 gw_X7) (goodIn_app (goodIn_cls hi_Device_disconnect_X9 gw_X9) (goodIn_nil))))
set_option maxRecDepth 100000 in
theorem gd_Device_disconnect_Guard_reset_188 : GoodIn wp_Device_disconnect (wsV RX3 188 RX5 yX5_reset wp_Guard_reset) := goodIn_app (goodIn_r _ [44, 45, 46, 47] rfl rfl) (goodIn_ca (goodIn_r _ [48, 49, 50, 51, 52, 53, 54, 55, 56] rfl rfl) (goodIn_app (goodIn_cls hi_Device_disconnect_X5 gw_X5) (goodIn_nil)))
set_option maxRecDepth 100000 in
theorem gd_Device_disconnect_Server_leaveLink_192 : GoodIn wp_Device_disconnect (wsV RX3 192 RX10 yX10_leaveLink wp_Server_leaveLink) := goodIn_app (goodIn_r _ [59, 60, 61, 62] rfl rfl) (goodIn_ca (goodIn_r _ [63, 64, 65, 66] rfl rfl) (goodIn_app (goodIn_cls hi_Device_disconnect_X10 gw_X10) (goodIn_nil)))
set_option maxRecDepth 100000 in
theorem gd_Device_disconnect_Diary_note_157 : GoodIn wp_Device_disconnect (wsV RX3 157 RX4 yX4_note wp_Diary_note) := goodIn_app (goodIn_r _ [69, 70, 71, 72] rfl rfl) (goodIn_ca (goodIn_r _ [73, 74, 75, 76, 77, 78, 79, 29, 30, 31, 32, 33, 80] rfl rfl) (goodIn_app (goodIn_cls hi_Device_disconnect_X4 gw_X4) (goodIn_app (goodIn_cls hi_Device_disconnect_X9 gw_X9) (goodIn_nil))))
set_option maxHeartbeats 4000000 in
set_option maxRecDepth 100000 in
theorem b_Device_disconnect {p : Program} {l : Launch} {e : Env} {R : Room} {s : State} {m : MethodId} {args : Array Value} {below : List Frame} {meth : Method} {c : Code} {D : va_G} {K : Nat → ClassId} {A : Nat → Prop} {Q : State → Prop} {τ : Nat → Option Ty} {dom : List Nat} {zb zL : Nat} {zx : Nat → Int32} {zs : Nat → Nat} (hR : 3 ≤ R.frames ∧ 60 ≤ R.locals) (B : Bx p s m args c cX3_disconnect 2 RX3 wp_Device_disconnect D (tysA K) A) (Z : Sk τ dom) (hz : ZL zb zL zx zs A s s.heap) (h : Nat) (x1 : Int) (t_h : τ h = some (33, 0, 0)) (r_x1 : -2147483648 ≤ x1 ∧ x1 ≤ 2147483647) (σ0 : Nat → va_E) (G0 : Good K τ σ0) (hend : ∀ (σ' : Nat → va_E) (lv : List (Nat × Value)) (pc : Nat), Good K τ σ' → Fr τ [(33, 0), (36, 0), (1, 2), (37, 0), (35, 0), (38, 0), (40, 0), (32, 0), (3, 23), (3, 22), (1, 16), (34, 0)] σ0 σ' → decode cX3_disconnect pc = .ok (.return_, 1) → V p l e R s m args below meth c 2 D A Q (0, 0) (fd dom σ') lv pc []) : V p l e R s m args below meth c 2 D A Q (0, 0) (fd dom σ0) [(0, .ref h), (1, .int (iI x1))] 0 [] := by
  have F0 : Fr τ [(33, 0), (36, 0), (1, 2), (37, 0), (35, 0), (38, 0), (40, 0), (32, 0), (3, 23), (3, 22), (1, 16), (34, 0)] σ0 σ0 := Fr.rf
  refine v_aload_n B dX3_disconnect_0 rfl rfl ?_
  refine v_iconst B (v := iI 0) dX3_disconnect_1 rfl ?_
  obtain ⟨z1, yy2, z3, z4, z5, z6, a7, z8, yy9, a10, yy11, a12, a13, a14, a15, a16, a17, a18, a19, h20, r21, r22, r23, r24, r25, r26, t27, r28, r29, t30, r31, t32, t33, t34, t35, t36, t37, t38, t39⟩ : okDevice τ (σ0 h) := G0 h _ t_h
  refine u_put B Z (C := RX3) (T := TX3) (N := 19) (ci := 3) hi_Device_disconnect_X3 t_h h20 rfl 2 (by decide +kernel) tyX3 tyX3_ok nmX3 (List.mem_of_getElem? (i := 1) rfl) rfl (ty := .int) (tyX3_ok 2 (by decide +kernel)) rfl rfl (Nat.le_of_ble_eq_true rfl) (fs' := [.int (iI z1), .long (lI yy2), .int (iI 0), .int (iI z4), .int (iI z5), .int (iI z6), .ref a7, .int (iI z8), .long (lI yy9), .ref a10, .long (lI yy11), .ref a12, .ref a13, .ref a14, .ref a15, .ref a16, .ref a17, .ref a18, .ref a19]) rfl dX3_disconnect_2 (fun σ40 h41 n42 => ?_)
  have G43 := G0.put t_h (⟨z1, yy2, 0, z4, z5, z6, a7, z8, yy9, a10, yy11, a12, a13, a14, a15, a16, a17, a18, a19, h41, ⟨by omega, by omega⟩, ⟨by omega, by omega⟩, ⟨by omega, by omega⟩, ⟨by omega, by omega⟩, ⟨by omega, by omega⟩, ⟨by omega, by omega⟩, t27, ⟨by omega, by omega⟩, ⟨by omega, by omega⟩, t30, ⟨by omega, by omega⟩, t32, t33, t34, t35, t36, t37, t38, t39⟩ : Ok K τ (33, 0, 0) (σ40 h)) n42
  have F44 := F0.put t_h (by simp) n42
  refine v_aload_n B dX3_disconnect_5 rfl rfl ?_
  refine u_get B Z (C := RX3) (T := TX3) (N := 19) (ci := 3) hi_Device_disconnect_X3 t_h h41 rfl 11 (by decide +kernel) (List.mem_of_getElem? (i := 2) rfl) rfl dX3_disconnect_6 ?_
  refine u_callVv B Z hz (n := 0) (As := []) (rest := []) (c_Link_reset l D K Z _ _ _ _ a12 t32 σ40 G43) gd_Device_disconnect_Link_reset_184 rfl rfl rfl (by decide +kernel) ⟨Nat.le_trans (by decide +kernel) hR.1, Nat.le_trans (by decide +kernel) hR.2⟩ t32 (cls_Link G43 t32) rfl rfl rfl rfl (Nat.le_of_ble_eq_true rfl) dX3_disconnect_9 ⟨Nat.zero_le _, Nat.zero_le _⟩ (fun σ45 p46 => ?_)
  obtain ⟨G48, F49⟩ := p46
  have F50 := F44.call F49 (by first | rfl | simp)
  have h51 := (F49 h _ t_h (by first | rfl | simp)).trans h41
  refine v_aload_n B dX3_disconnect_12 rfl rfl ?_
  refine u_get B Z (C := RX3) (T := TX3) (N := 19) (ci := 3) hi_Device_disconnect_X3 t_h h51 rfl 12 (by decide +kernel) (List.mem_of_getElem? (i := 17) rfl) rfl dX3_disconnect_13 ?_
  refine u_callVv B Z hz (n := 0) (As := []) (rest := []) (c_Mail_reset l D K Z _ _ _ _ a13 t33 σ45 G48) gd_Device_disconnect_Mail_reset_187 rfl rfl rfl (by decide +kernel) ⟨Nat.le_trans (by decide +kernel) hR.1, Nat.le_trans (by decide +kernel) hR.2⟩ t33 (cls_Mail G48 t33) rfl rfl rfl rfl (Nat.le_of_ble_eq_true rfl) dX3_disconnect_16 ⟨Nat.zero_le _, Nat.zero_le _⟩ (fun σ52 p53 => ?_)
  obtain ⟨G55, F56⟩ := p53
  have F57 := F50.call F56 (by first | rfl | simp)
  have h58 := (F56 h _ t_h (by first | rfl | simp)).trans h51
  refine v_aload_n B dX3_disconnect_19 rfl rfl ?_
  refine u_get B Z (C := RX3) (T := TX3) (N := 19) (ci := 3) hi_Device_disconnect_X3 t_h h58 rfl 13 (by decide +kernel) (List.mem_of_getElem? (i := 43) rfl) rfl dX3_disconnect_20 ?_
  refine u_callVv B Z hz (n := 0) (As := []) (rest := []) (c_Guard_reset l D K Z _ _ _ _ a14 t34 σ52 G55) gd_Device_disconnect_Guard_reset_188 rfl rfl rfl (by decide +kernel) ⟨Nat.le_trans (by decide +kernel) hR.1, Nat.le_trans (by decide +kernel) hR.2⟩ t34 (cls_Guard G55 t34) rfl rfl rfl rfl (Nat.le_of_ble_eq_true rfl) dX3_disconnect_23 ⟨Nat.zero_le _, Nat.zero_le _⟩ (fun σ59 p60 => ?_)
  obtain ⟨G62, F63⟩ := p60
  have F64 := F57.call F63 (by first | rfl | simp)
  have h65 := (F63 h _ t_h (by first | rfl | simp)).trans h58
  refine v_aload_n B dX3_disconnect_26 rfl rfl ?_
  refine u_get B Z (C := RX3) (T := TX3) (N := 19) (ci := 3) hi_Device_disconnect_X3 t_h h65 rfl 14 (by decide +kernel) (List.mem_of_getElem? (i := 57) rfl) rfl dX3_disconnect_27 ?_
  refine v_iconst B (v := iI 0) dX3_disconnect_30 rfl ?_
  obtain ⟨a66, z67, z68, a69, a70, a71, a72, a73, h74, t75, r76, r77, t78, t79, t80, t81, t82⟩ : okPairing τ (σ59 a15) := G62 a15 _ t35
  refine u_putN B Z (C := RX8) (T := TX8) (N := 8) (ci := 8) hi_Device_disconnect_X8 t35 h74 rfl 2 (by decide +kernel) tyX8 tyX8_ok nmX8 (List.mem_of_getElem? (i := 84) rfl) rfl (ty := .int) (tyX8_ok 2 (by decide +kernel)) rfl rfl (Nat.le_of_ble_eq_true rfl) (fs' := [.ref a66, .int (iI z67), .int (iI 0), .ref a69, .ref a70, .ref a71, .ref a72, .ref a73]) rfl dX3_disconnect_31 (fun σ83 h84 n85 => ?_)
  have G86 := G62.put t35 (⟨a66, z67, 0, a69, a70, a71, a72, a73, h84, t75, ⟨by omega, by omega⟩, ⟨by omega, by omega⟩, t78, t79, t80, t81, t82⟩ : Ok K τ (38, 0, 0) (σ83 a15)) n85
  have F87 := F64.put t35 (by simp) n85
  have h88 := (n85 h (ne_ty t_h t35 (by simp))).trans h65
  refine v_aload_n B dX3_disconnect_34 rfl rfl ?_
  refine u_get B Z (C := RX3) (T := TX3) (N := 19) (ci := 3) hi_Device_disconnect_X3 t_h h88 rfl 15 (by decide +kernel) (List.mem_of_getElem? (i := 58) rfl) rfl dX3_disconnect_35 ?_
  refine u_callVv B Z hz (n := 0) (As := []) (rest := []) (c_Server_leaveLink l D K Z _ _ _ _ a16 t36 σ83 G86) gd_Device_disconnect_Server_leaveLink_192 rfl rfl rfl (by decide +kernel) ⟨Nat.le_trans (by decide +kernel) hR.1, Nat.le_trans (by decide +kernel) hR.2⟩ t36 (cls_Server G86 t36) rfl rfl rfl rfl (Nat.le_of_ble_eq_true rfl) dX3_disconnect_38 ⟨Nat.zero_le _, Nat.zero_le _⟩ (fun σ89 p90 => ?_)
  obtain ⟨G92, F93⟩ := p90
  have F94 := F87.call F93 (by first | rfl | simp)
  have h95 := (F93 h _ t_h (by first | rfl | simp)).trans h88
  have h96 := (F93 a15 _ t35 (by first | rfl | simp)).trans h84
  refine v_aload_n B dX3_disconnect_41 rfl rfl ?_
  refine u_get B Z (C := RX3) (T := TX3) (N := 19) (ci := 3) hi_Device_disconnect_X3 t_h h95 rfl 16 (by decide +kernel) (List.mem_of_getElem? (i := 67) rfl) rfl dX3_disconnect_42 ?_
  refine v_iconst B (v := iI (-1)) dX3_disconnect_45 rfl ?_
  obtain ⟨z97, z98, z99, z100, z101, a102, h103, r104, r105, r106, r107, r108, t109⟩ : okClient τ (σ89 a17) := G92 a17 _ t37
  refine u_putN B Z (C := RX2) (T := TX2) (N := 6) (ci := 2) hi_Device_disconnect_X2 t37 h103 rfl 0 (by decide +kernel) tyX2 tyX2_ok nmX2 (List.mem_of_getElem? (i := 85) rfl) rfl (ty := .int) (tyX2_ok 0 (by decide +kernel)) rfl rfl (Nat.le_of_ble_eq_true rfl) (fs' := [.int (iI (-1)), .int (iI z98), .int (iI z99), .int (iI z100), .int (iI z101), .ref a102]) rfl dX3_disconnect_46 (fun σ110 h111 n112 => ?_)
  have G113 := G92.put t37 (⟨(-1), z98, z99, z100, z101, a102, h111, ⟨by omega, by omega⟩, ⟨by omega, by omega⟩, ⟨by omega, by omega⟩, ⟨by omega, by omega⟩, ⟨by omega, by omega⟩, t109⟩ : Ok K τ (32, 0, 0) (σ110 a17)) n112
  have F114 := F94.put t37 (by simp) n112
  have h115 := (n112 h (ne_ty t_h t37 (by simp))).trans h95
  have h116 := (n112 a15 (ne_ty t35 t37 (by simp))).trans h96
  refine v_aload_n B dX3_disconnect_49 rfl rfl ?_
  refine u_get B Z (C := RX3) (T := TX3) (N := 19) (ci := 3) hi_Device_disconnect_X3 t_h h115 rfl 17 (by decide +kernel) (List.mem_of_getElem? (i := 68) rfl) rfl dX3_disconnect_50 ?_
  refine v_bipush B (v := iI 7) dX3_disconnect_53 (by decide +kernel) ?_
  refine v_iload_n B dX3_disconnect_55 rfl rfl ?_
  refine v_iconst B (v := iI 0) dX3_disconnect_56 rfl ?_
  refine v_iconst B (v := iI 0) dX3_disconnect_57 rfl ?_
  refine u_callVv B Z hz (n := 4) (As := [.int (iI 7), .int (iI x1), .int (iI 0), .int (iI 0)]) (rest := []) (c_Diary_note l D K Z _ _ _ _ a18 7 x1 0 0 t38 ⟨by omega, by omega⟩ ⟨by omega, by omega⟩ ⟨by omega, by omega⟩ ⟨by omega, by omega⟩ σ110 G113) gd_Device_disconnect_Diary_note_157 rfl rfl rfl (by decide +kernel) ⟨Nat.le_trans (by decide +kernel) hR.1, Nat.le_trans (by decide +kernel) hR.2⟩ t38 (cls_Diary G113 t38) rfl rfl rfl rfl (Nat.le_of_ble_eq_true rfl) dX3_disconnect_58 ⟨Nat.zero_le _, Nat.zero_le _⟩ (fun σ117 p118 => ?_)
  obtain ⟨G120, F121⟩ := p118
  have F122 := F114.call F121 (by first | rfl | simp)
  have h123 := (F121 h _ t_h (by first | rfl | simp)).trans h115
  have h124 := (F121 a15 _ t35 (by first | rfl | simp)).trans h116
  have h125 := (F121 a17 _ t37 (by first | rfl | simp)).trans h111
  exact hend σ117 _ _ G120 F122 dX3_disconnect_61
set_option maxRecDepth 100000 in
theorem c_Device_disconnect (l : Launch) (D : va_G) (K : Nat → ClassId) {τ : Nat → Option Ty} {dom : List Nat} (Z : Sk τ dom) (zb zL : Nat) (zx : Nat → Int32) (zs : Nat → Nat) (h : Nat) (x1 : Int) (t_h : τ h = some (33, 0, 0)) (r_x1 : -2147483648 ≤ x1 ∧ x1 ≤ 2147483647) (σ0 : Nat → va_E) (G0 : Good K τ σ0) : MZ l yX3_disconnect wp_Device_disconnect ({ frames := 3, cells := 0, slots := 0, locals := 60 }) D (tysA K) [.ref h, .int (iI x1)] (fd dom σ0) zb zL zx zs (Qv D (fun σ' => Good K τ σ' ∧ Fr τ [(33, 0), (36, 0), (1, 2), (37, 0), (35, 0), (38, 0), (40, 0), (32, 0), (3, 23), (3, 22), (1, 16), (34, 0)] σ0 σ') (fun σ' => fd dom σ')) 0 0 := by
  refine mz_of (cc := cX3_disconnect) (maxL := 2) (ret := none) (by decide +kernel) rfl (Nat.le_of_ble_eq_true rfl) ?_
  intro p e s m below meth c A B hr hlk _ hz
  exact b_Device_disconnect ⟨Nat.le_refl _, Nat.le_refl _⟩ B Z hz h x1 t_h r_x1 σ0 G0 (fun σ' lv pc G F hd => v_vret B hr hlk σ' ⟨G, F⟩ rfl (Nat.le_refl _) (Nat.le_refl _) hd)

def wp_Air_clear : List Cond := .code yX0_clear cX0_clear 1 none :: (([.fieldLink RX0 42 "LowEnergy$Air" "count" "I"] : List Cond) ++ (wsX00 ++ ([])))
theorem hi_Air_clear_X0 : ∀ x ∈ u_ws RX0 TX0 10, x ∈ wp_Air_clear := fun _ h => List.mem_cons_of_mem _ (List.mem_append_right _ (List.mem_append_left _ h))
set_option maxHeartbeats 4000000 in
set_option maxRecDepth 100000 in
theorem b_Air_clear {p : Program} {l : Launch} {e : Env} {R : Room} {s : State} {m : MethodId} {args : Array Value} {below : List Frame} {meth : Method} {c : Code} {D : va_G} {K : Nat → ClassId} {A : Nat → Prop} {Q : State → Prop} {τ : Nat → Option Ty} {dom : List Nat} {zb zL : Nat} {zx : Nat → Int32} {zs : Nat → Nat} (hR : 0 ≤ R.frames ∧ 0 ≤ R.locals) (B : Bx p s m args c cX0_clear 1 RX0 wp_Air_clear D (tysA K) A) (Z : Sk τ dom) (hz : ZL zb zL zx zs A s s.heap) (h : Nat) (t_h : τ h = some (30, 0, 0)) (σ0 : Nat → va_E) (G0 : Good K τ σ0) (hend : ∀ (σ' : Nat → va_E) (lv : List (Nat × Value)) (pc : Nat), Good K τ σ' → Fr τ [(30, 0)] σ0 σ' → decode cX0_clear pc = .ok (.return_, 1) → V p l e R s m args below meth c 1 D A Q (0, 0) (fd dom σ') lv pc []) : V p l e R s m args below meth c 1 D A Q (0, 0) (fd dom σ0) [(0, .ref h)] 0 [] := by
  have F0 : Fr τ [(30, 0)] σ0 σ0 := Fr.rf
  refine v_aload_n B dX0_clear_0 rfl rfl ?_
  refine v_iconst B (v := iI 0) dX0_clear_1 rfl ?_
  obtain ⟨a1, a2, a3, a4, a5, a6, a7, z8, z9, z10, h11, t12, t13, t14, t15, t16, t17, t18, r19, r20, r21⟩ : okAir τ (σ0 h) := G0 h _ t_h
  refine u_put B Z (C := RX0) (T := TX0) (N := 10) (ci := 0) hi_Air_clear_X0 t_h h11 rfl 8 (by decide +kernel) tyX0 tyX0_ok nmX0 (List.mem_of_getElem? (i := 1) rfl) rfl (ty := .int) (tyX0_ok 8 (by decide +kernel)) rfl rfl (Nat.le_of_ble_eq_true rfl) (fs' := [.ref a1, .ref a2, .ref a3, .ref a4, .ref a5, .ref a6, .ref a7, .int (iI z8), .int (iI 0), .int (iI z10)]) rfl dX0_clear_2 (fun σ22 h23 n24 => ?_)
  have G25 := G0.put t_h (⟨a1, a2, a3, a4, a5, a6, a7, z8, 0, z10, h23, t12, t13, t14, t15, t16, t17, t18, ⟨by omega, by omega⟩, ⟨by omega, by omega⟩, ⟨by omega, by omega⟩⟩ : Ok K τ (30, 0, 0) (σ22 h)) n24
  have F26 := F0.put t_h (by simp) n24
  exact hend σ22 _ _ G25 F26 dX0_clear_5
set_option maxRecDepth 100000 in
theorem c_Air_clear (l : Launch) (D : va_G) (K : Nat → ClassId) {τ : Nat → Option Ty} {dom : List Nat} (Z : Sk τ dom) (zb zL : Nat) (zx : Nat → Int32) (zs : Nat → Nat) (h : Nat) (t_h : τ h = some (30, 0, 0)) (σ0 : Nat → va_E) (G0 : Good K τ σ0) : MZ l yX0_clear wp_Air_clear ({ frames := 0, cells := 0, slots := 0, locals := 0 }) D (tysA K) [.ref h] (fd dom σ0) zb zL zx zs (Qv D (fun σ' => Good K τ σ' ∧ Fr τ [(30, 0)] σ0 σ') (fun σ' => fd dom σ')) 0 0 := by
  refine mz_of (cc := cX0_clear) (maxL := 1) (ret := none) (by decide +kernel) rfl (Nat.le_of_ble_eq_true rfl) ?_
  intro p e s m below meth c A B hr hlk _ hz
  exact b_Air_clear ⟨Nat.le_refl _, Nat.le_refl _⟩ B Z hz h t_h σ0 G0 (fun σ' lv pc G F hd => v_vret B hr hlk σ' ⟨G, F⟩ rfl (Nat.le_refl _) (Nat.le_refl _) hd)

def wp_Air_disturbNext : List Cond := .code yX0_disturbNext cX0_disturbNext 3 (some .boolean) :: (([.fieldLink RX0 26 "LowEnergy$Air" "noiseCounts" "[I", .fieldLink RX0 23 "LowEnergy$Air" "noises" "[[I"] : List Cond) ++ (wsX00 ++ ([])))
theorem hi_Air_disturbNext_X0 : ∀ x ∈ u_ws RX0 TX0 10, x ∈ wp_Air_disturbNext := fun _ h => List.mem_cons_of_mem _ (List.mem_append_right _ (List.mem_append_left _ h))
set_option maxHeartbeats 4000000 in
set_option maxRecDepth 100000 in
theorem b_Air_disturbNext {p : Program} {l : Launch} {e : Env} {R : Room} {s : State} {m : MethodId} {args : Array Value} {below : List Frame} {meth : Method} {c : Code} {D : va_G} {K : Nat → ClassId} {A : Nat → Prop} {Q : State → Prop} {τ : Nat → Option Ty} {dom : List Nat} {zb zL : Nat} {zx : Nat → Int32} {zs : Nat → Nat} (hR : 0 ≤ R.frames ∧ 0 ≤ R.locals) (B : Bx p s m args c cX0_disturbNext 3 RX0 wp_Air_disturbNext D (tysA K) A) (Z : Sk τ dom) (hz : ZL zb zL zx zs A s s.heap) (h : Nat) (x1 : Int) (x2 : Int) (t_h : τ h = some (30, 0, 0)) (r_x1 : -2147483648 ≤ x1 ∧ x1 ≤ 2147483647) (r_x2 : -2147483648 ≤ x2 ∧ x2 ≤ 2147483647) (σ0 : Nat → va_E) (G0 : Good K τ σ0) (hend : ∀ (σ' : Nat → va_E) (z : Int) (lv : List (Nat × Value)) (pc : Nat), Good K τ σ' → Fr τ [(3, 21), (4, 24)] σ0 σ' → (0 ≤ z ∧ z ≤ 1) → decode cX0_disturbNext pc = .ok (.ireturn, 1) → V p l e R s m args below meth c 3 D A Q (0, 0) (fd dom σ') lv pc [.int (iI z)]) : V p l e R s m args below meth c 3 D A Q (0, 0) (fd dom σ0) [(0, .ref h), (1, .int (iI x1)), (2, .int (iI x2))] 0 [] := by
  have F0 : Fr τ [(3, 21), (4, 24)] σ0 σ0 := Fr.rf
  refine v_iload_n B dX0_disturbNext_0 rfl rfl ?_
  refine u_if_lt B (tgt := 31) (by omega) dX0_disturbNext_1 (by decide +kernel) (fun c1 => ?_) (fun c1 => ?_)
  · refine v_iconst B (v := iI 0) dX0_disturbNext_31 rfl ?_
    exact hend σ0 0 _ _ G0 F0 ⟨by omega, by omega⟩ dX0_disturbNext_32
  · refine v_iload_n B dX0_disturbNext_4 rfl rfl ?_
    refine v_iconst B (v := iI 1) dX0_disturbNext_5 rfl ?_
    refine u_icmp_gt B (tgt := 31) (by omega) (by omega) dX0_disturbNext_6 (by decide +kernel) (fun c2 => ?_) (fun c2 => ?_)
    · refine v_iconst B (v := iI 0) dX0_disturbNext_31 rfl ?_
      exact hend σ0 0 _ _ G0 F0 ⟨by omega, by omega⟩ dX0_disturbNext_32
    · refine v_iload_n B dX0_disturbNext_9 rfl rfl ?_
      refine u_if_lt B (tgt := 31) (by omega) dX0_disturbNext_10 (by decide +kernel) (fun c3 => ?_) (fun c3 => ?_)
      · refine v_iconst B (v := iI 0) dX0_disturbNext_31 rfl ?_
        exact hend σ0 0 _ _ G0 F0 ⟨by omega, by omega⟩ dX0_disturbNext_32
      · refine v_iload_n B dX0_disturbNext_13 rfl rfl ?_
        refine v_sipush B (v := iI 320) dX0_disturbNext_14 (by decide +kernel) ?_
        refine u_icmp_ge B (tgt := 31) (by omega) (by omega) dX0_disturbNext_17 (by decide +kernel) (fun c4 => ?_) (fun c4 => ?_)
        · refine v_iconst B (v := iI 0) dX0_disturbNext_31 rfl ?_
          exact hend σ0 0 _ _ G0 F0 ⟨by omega, by omega⟩ dX0_disturbNext_32
        · refine v_aload_n B dX0_disturbNext_20 rfl rfl ?_
          obtain ⟨a5, a6, a7, a8, a9, a10, a11, z12, z13, z14, h15, t16, t17, t18, t19, t20, t21, t22, r23, r24, r25⟩ : okAir τ (σ0 h) := G0 h _ t_h
          refine u_get B Z (C := RX0) (T := TX0) (N := 10) (ci := 0) hi_Air_disturbNext_X0 t_h h15 rfl 3 (by decide +kernel) (List.mem_of_getElem? (i := 1) rfl) rfl dX0_disturbNext_21 ?_
          refine v_iload_n B dX0_disturbNext_24 rfl rfl ?_
          obtain ⟨f26, h27, r28, e29⟩ : okC K 2 (σ0 a8) := G0 a8 _ t19
          obtain ⟨z30, e31, r32⟩ := e29 (x1 : Int).toNat
          refine u_iald B Z (t0 := 0) t19 h27 rfl (by omega) e31 dX0_disturbNext_25 ?_
          refine v_bipush B (v := iI 64) dX0_disturbNext_26 (by decide +kernel) ?_
          refine u_icmp_lt B (tgt := 33) (by omega) (by omega) dX0_disturbNext_28 (by decide +kernel) (fun c33 => ?_) (fun c33 => ?_)
          · refine v_aload_n B dX0_disturbNext_33 rfl rfl ?_
            refine u_get B Z (C := RX0) (T := TX0) (N := 10) (ci := 0) hi_Air_disturbNext_X0 t_h h15 rfl 2 (by decide +kernel) (List.mem_of_getElem? (i := 2) rfl) rfl dX0_disturbNext_34 ?_
            refine v_iload_n B dX0_disturbNext_37 rfl rfl ?_
            obtain ⟨f34, h35, e36⟩ : okII K τ 2 (σ0 a7) := G0 a7 _ t18
            obtain ⟨a37, e38, t39⟩ := e36 (x1 : Int).toNat (by omega)
            refine u_aaldA B Z (t0 := 6) (v := .ref a37) t18 h35 rfl (by omega) (by rw [e38]; rfl) dX0_disturbNext_38 ?_
            refine v_aload_n B dX0_disturbNext_39 rfl rfl ?_
            refine u_get B Z (C := RX0) (T := TX0) (N := 10) (ci := 0) hi_Air_disturbNext_X0 t_h h15 rfl 3 (by decide +kernel) (List.mem_of_getElem? (i := 1) rfl) rfl dX0_disturbNext_40 ?_
            refine v_iload_n B dX0_disturbNext_43 rfl rfl ?_
            refine u_iald B Z (t0 := 0) t19 h27 rfl (by omega) e31 dX0_disturbNext_44 ?_
            refine v_iload_n B dX0_disturbNext_45 rfl rfl ?_
            obtain ⟨f40, h41, r42⟩ : okP K 64 (σ0 a37) := G0 a37 _ t39
            refine u_iast B Z (t0 := 0) t39 h41 rfl (by omega) dX0_disturbNext_46 (fun σ43 h44 n45 => ?_)
            have G46 := G0.put t39 (⟨_, h44, r42⟩ : Ok K τ (3, 21, 64) (σ43 a37)) n45
            have F47 := F0.put t39 (by simp) n45
            have h48 := (n45 h (ne_ty t_h t39 (by simp))).trans h15
            have h49 := (n45 a8 (ne_ty t19 t39 (by simp))).trans h27
            have h50 := (n45 a7 (ne_ty t18 t39 (by simp))).trans h35
            refine v_aload_n B dX0_disturbNext_47 rfl rfl ?_
            refine u_get B Z (C := RX0) (T := TX0) (N := 10) (ci := 0) hi_Air_disturbNext_X0 t_h h48 rfl 3 (by decide +kernel) (List.mem_of_getElem? (i := 1) rfl) rfl dX0_disturbNext_48 ?_
            refine v_iload_n B dX0_disturbNext_51 rfl rfl ?_
            refine v_dup2 B dX0_disturbNext_52 rfl rfl ?_
            refine u_iald B Z (t0 := 0) t19 h49 rfl (by omega) e31 dX0_disturbNext_53 ?_
            refine v_iconst B (v := iI 1) dX0_disturbNext_54 rfl ?_
            refine v_iadd B (v := iI (z30 + 1)) dX0_disturbNext_55 ((iI_add _ _).trans (congrArg iI (by omega))) ?_
            refine u_iast B Z (t0 := 0) t19 h49 rfl (by omega) dX0_disturbNext_56 (fun σ51 h52 n53 => ?_)
            have G54 := G46.put t19 (⟨_, h52, r28, el_upd e29 (by omega) _⟩ : Ok K τ (4, 24, 2) (σ51 a8)) n53
            have F55 := F47.put t19 (by simp) n53
            have h56 := (n53 h (ne_ty t_h t19 (by simp))).trans h48
            have h57 := (n53 a7 (ne_ty t18 t19 (by simp))).trans h50
            refine v_iconst B (v := iI 1) dX0_disturbNext_57 rfl ?_
            exact hend σ51 1 _ _ G54 F55 ⟨by omega, by omega⟩ dX0_disturbNext_58
          · refine v_iconst B (v := iI 0) dX0_disturbNext_31 rfl ?_
            exact hend σ0 0 _ _ G0 F0 ⟨by omega, by omega⟩ dX0_disturbNext_32
set_option maxRecDepth 100000 in
theorem c_Air_disturbNext (l : Launch) (D : va_G) (K : Nat → ClassId) {τ : Nat → Option Ty} {dom : List Nat} (Z : Sk τ dom) (zb zL : Nat) (zx : Nat → Int32) (zs : Nat → Nat) (h : Nat) (x1 : Int) (x2 : Int) (t_h : τ h = some (30, 0, 0)) (r_x1 : -2147483648 ≤ x1 ∧ x1 ≤ 2147483647) (r_x2 : -2147483648 ≤ x2 ∧ x2 ≤ 2147483647) (σ0 : Nat → va_E) (G0 : Good K τ σ0) : MZ l yX0_disturbNext wp_Air_disturbNext ({ frames := 0, cells := 0, slots := 0, locals := 0 }) D (tysA K) [.ref h, .int (iI x1), .int (iI x2)] (fd dom σ0) zb zL zx zs (Qi D (fun r σ' => Good K τ σ' ∧ Fr τ [(3, 21), (4, 24)] σ0 σ' ∧ ∃ z : Int, r = iI z ∧ (0 ≤ z ∧ z ≤ 1)) (fun σ' => fd dom σ')) 0 0 := by
  refine mz_of (cc := cX0_disturbNext) (maxL := 3) (ret := (some .boolean)) (by decide +kernel) rfl (Nat.le_of_ble_eq_true rfl) ?_
  intro p e s m below meth c A B hr hlk _ hz
  exact b_Air_disturbNext ⟨Nat.le_refl _, Nat.le_refl _⟩ B Z hz h x1 x2 t_h r_x1 r_x2 σ0 G0 (fun σ' z lv pc G F hZ hd => v_zret B hr hlk (nar01 (by omega)) σ' ⟨G, F, z, rfl, hZ⟩ rfl (Nat.le_refl _) (Nat.le_refl _) hd)

def wp_Air_loseNext : List Cond := .code yX0_loseNext cX0_loseNext 3 (some .boolean) :: (([.fieldLink RX0 29 "LowEnergy$Air" "losses" "[I"] : List Cond) ++ (wsX00 ++ ([])))
theorem hi_Air_loseNext_X0 : ∀ x ∈ u_ws RX0 TX0 10, x ∈ wp_Air_loseNext := fun _ h => List.mem_cons_of_mem _ (List.mem_append_right _ (List.mem_append_left _ h))
set_option maxHeartbeats 4000000 in
set_option maxRecDepth 100000 in
theorem b_Air_loseNext {p : Program} {l : Launch} {e : Env} {R : Room} {s : State} {m : MethodId} {args : Array Value} {below : List Frame} {meth : Method} {c : Code} {D : va_G} {K : Nat → ClassId} {A : Nat → Prop} {Q : State → Prop} {τ : Nat → Option Ty} {dom : List Nat} {zb zL : Nat} {zx : Nat → Int32} {zs : Nat → Nat} (hR : 0 ≤ R.frames ∧ 0 ≤ R.locals) (B : Bx p s m args c cX0_loseNext 3 RX0 wp_Air_loseNext D (tysA K) A) (Z : Sk τ dom) (hz : ZL zb zL zx zs A s s.heap) (h : Nat) (x1 : Int) (x2 : Int) (t_h : τ h = some (30, 0, 0)) (r_x1 : -2147483648 ≤ x1 ∧ x1 ≤ 2147483647) (r_x2 : -2147483648 ≤ x2 ∧ x2 ≤ 2147483647) (σ0 : Nat → va_E) (G0 : Good K τ σ0) (hend : ∀ (σ' : Nat → va_E) (z : Int) (lv : List (Nat × Value)) (pc : Nat), Good K τ σ' → Fr τ [(3, 25)] σ0 σ' → (0 ≤ z ∧ z ≤ 1) → decode cX0_loseNext pc = .ok (.ireturn, 1) → V p l e R s m args below meth c 3 D A Q (0, 0) (fd dom σ') lv pc [.int (iI z)]) : V p l e R s m args below meth c 3 D A Q (0, 0) (fd dom σ0) [(0, .ref h), (1, .int (iI x1)), (2, .int (iI x2))] 0 [] := by
  have F0 : Fr τ [(3, 25)] σ0 σ0 := Fr.rf
  refine v_iload_n B dX0_loseNext_0 rfl rfl ?_
  refine u_if_lt B (tgt := 19) (by omega) dX0_loseNext_1 (by decide +kernel) (fun c1 => ?_) (fun c1 => ?_)
  · refine v_iconst B (v := iI 0) dX0_loseNext_19 rfl ?_
    exact hend σ0 0 _ _ G0 F0 ⟨by omega, by omega⟩ dX0_loseNext_20
  · refine v_iload_n B dX0_loseNext_4 rfl rfl ?_
    refine v_iconst B (v := iI 1) dX0_loseNext_5 rfl ?_
    refine u_icmp_gt B (tgt := 19) (by omega) (by omega) dX0_loseNext_6 (by decide +kernel) (fun c2 => ?_) (fun c2 => ?_)
    · refine v_iconst B (v := iI 0) dX0_loseNext_19 rfl ?_
      exact hend σ0 0 _ _ G0 F0 ⟨by omega, by omega⟩ dX0_loseNext_20
    · refine v_iload_n B dX0_loseNext_9 rfl rfl ?_
      refine u_if_lt B (tgt := 19) (by omega) dX0_loseNext_10 (by decide +kernel) (fun c3 => ?_) (fun c3 => ?_)
      · refine v_iconst B (v := iI 0) dX0_loseNext_19 rfl ?_
        exact hend σ0 0 _ _ G0 F0 ⟨by omega, by omega⟩ dX0_loseNext_20
      · refine v_iload_n B dX0_loseNext_13 rfl rfl ?_
        refine v_bipush B (v := iI 100) dX0_loseNext_14 (by decide +kernel) ?_
        refine u_icmp_le B (tgt := 21) (by omega) (by omega) dX0_loseNext_16 (by decide +kernel) (fun c4 => ?_) (fun c4 => ?_)
        · refine v_aload_n B dX0_loseNext_21 rfl rfl ?_
          obtain ⟨a5, a6, a7, a8, a9, a10, a11, z12, z13, z14, h15, t16, t17, t18, t19, t20, t21, t22, r23, r24, r25⟩ : okAir τ (σ0 h) := G0 h _ t_h
          refine u_get B Z (C := RX0) (T := TX0) (N := 10) (ci := 0) hi_Air_loseNext_X0 t_h h15 rfl 4 (by decide +kernel) (List.mem_of_getElem? (i := 1) rfl) rfl dX0_loseNext_22 ?_
          refine v_iload_n B dX0_loseNext_25 rfl rfl ?_
          refine v_iload_n B dX0_loseNext_26 rfl rfl ?_
          obtain ⟨f26, h27, r28⟩ : okP K 2 (σ0 a9) := G0 a9 _ t20
          refine u_iast B Z (t0 := 0) t20 h27 rfl (by omega) dX0_loseNext_27 (fun σ29 h30 n31 => ?_)
          have G32 := G0.put t20 (⟨_, h30, r28⟩ : Ok K τ (3, 25, 2) (σ29 a9)) n31
          have F33 := F0.put t20 (by simp) n31
          have h34 := (n31 h (ne_ty t_h t20 (by simp))).trans h15
          refine v_iconst B (v := iI 1) dX0_loseNext_28 rfl ?_
          exact hend σ29 1 _ _ G32 F33 ⟨by omega, by omega⟩ dX0_loseNext_29
        · refine v_iconst B (v := iI 0) dX0_loseNext_19 rfl ?_
          exact hend σ0 0 _ _ G0 F0 ⟨by omega, by omega⟩ dX0_loseNext_20
set_option maxRecDepth 100000 in
theorem c_Air_loseNext (l : Launch) (D : va_G) (K : Nat → ClassId) {τ : Nat → Option Ty} {dom : List Nat} (Z : Sk τ dom) (zb zL : Nat) (zx : Nat → Int32) (zs : Nat → Nat) (h : Nat) (x1 : Int) (x2 : Int) (t_h : τ h = some (30, 0, 0)) (r_x1 : -2147483648 ≤ x1 ∧ x1 ≤ 2147483647) (r_x2 : -2147483648 ≤ x2 ∧ x2 ≤ 2147483647) (σ0 : Nat → va_E) (G0 : Good K τ σ0) : MZ l yX0_loseNext wp_Air_loseNext ({ frames := 0, cells := 0, slots := 0, locals := 0 }) D (tysA K) [.ref h, .int (iI x1), .int (iI x2)] (fd dom σ0) zb zL zx zs (Qi D (fun r σ' => Good K τ σ' ∧ Fr τ [(3, 25)] σ0 σ' ∧ ∃ z : Int, r = iI z ∧ (0 ≤ z ∧ z ≤ 1)) (fun σ' => fd dom σ')) 0 0 := by
  refine mz_of (cc := cX0_loseNext) (maxL := 3) (ret := (some .boolean)) (by decide +kernel) rfl (Nat.le_of_ble_eq_true rfl) ?_
  intro p e s m below meth c A B hr hlk _ hz
  exact b_Air_loseNext ⟨Nat.le_refl _, Nat.le_refl _⟩ B Z hz h x1 x2 t_h r_x1 r_x2 σ0 G0 (fun σ' z lv pc G F hZ hd => v_zret B hr hlk (nar01 (by omega)) σ' ⟨G, F, z, rfl, hZ⟩ rfl (Nat.le_refl _) (Nat.le_refl _) hd)

def wp_Air_lossesOf : List Cond := .code yX0_lossesOf cX0_lossesOf 2 (some .int) :: (([.fieldLink RX0 29 "LowEnergy$Air" "losses" "[I"] : List Cond) ++ (wsX00 ++ ([])))
theorem hi_Air_lossesOf_X0 : ∀ x ∈ u_ws RX0 TX0 10, x ∈ wp_Air_lossesOf := fun _ h => List.mem_cons_of_mem _ (List.mem_append_right _ (List.mem_append_left _ h))
set_option maxHeartbeats 4000000 in
set_option maxRecDepth 100000 in
theorem b_Air_lossesOf {p : Program} {l : Launch} {e : Env} {R : Room} {s : State} {m : MethodId} {args : Array Value} {below : List Frame} {meth : Method} {c : Code} {D : va_G} {K : Nat → ClassId} {A : Nat → Prop} {Q : State → Prop} {τ : Nat → Option Ty} {dom : List Nat} {zb zL : Nat} {zx : Nat → Int32} {zs : Nat → Nat} (hR : 0 ≤ R.frames ∧ 0 ≤ R.locals) (B : Bx p s m args c cX0_lossesOf 2 RX0 wp_Air_lossesOf D (tysA K) A) (Z : Sk τ dom) (hz : ZL zb zL zx zs A s s.heap) (h : Nat) (x1 : Int) (t_h : τ h = some (30, 0, 0)) (r_x1 : -2147483648 ≤ x1 ∧ x1 ≤ 2147483647) (σ0 : Nat → va_E) (G0 : Good K τ σ0) (hend : ∀ (z : Int) (lv : List (Nat × Value)) (pc : Nat), (-2147483648 ≤ z ∧ z ≤ 2147483647) → decode cX0_lossesOf pc = .ok (.ireturn, 1) → V p l e R s m args below meth c 2 D A Q (0, 0) (fd dom σ0) lv pc [.int (iI z)]) : V p l e R s m args below meth c 2 D A Q (0, 0) (fd dom σ0) [(0, .ref h), (1, .int (iI x1))] 0 [] := by
  have F0 : Fr τ [] σ0 σ0 := Fr.rf
  have J9 : (0 ≤ x1 ∧ x1 ≤ 1) → V p l e R s m args below meth c 2 D A Q (0, 0) (fd dom σ0) [(0, .ref h), (1, .int (iI x1))] 9 [] := by
    intro r9_1
    refine v_aload_n B dX0_lossesOf_9 rfl rfl ?_
    obtain ⟨a1, a2, a3, a4, a5, a6, a7, z8, z9, z10, h11, t12, t13, t14, t15, t16, t17, t18, r19, r20, r21⟩ : okAir τ (σ0 h) := G0 h _ t_h
    refine u_get B Z (C := RX0) (T := TX0) (N := 10) (ci := 0) hi_Air_lossesOf_X0 t_h h11 rfl 4 (by decide +kernel) (List.mem_of_getElem? (i := 1) rfl) rfl dX0_lossesOf_10 ?_
    refine v_iload_n B dX0_lossesOf_13 rfl rfl ?_
    obtain ⟨f22, h23, r24⟩ : okP K 2 (σ0 a5) := G0 a5 _ t16
    obtain ⟨z25, e26, r27⟩ := iI_any (f22 (x1 : Int).toNat)
    refine u_iald B Z (t0 := 0) t16 h23 rfl (by omega) e26 dX0_lossesOf_14 ?_
    refine v_goto B (tgt := 19) dX0_lossesOf_15 (by decide +kernel) ?_
    exact hend z25 _ _ ⟨by omega, by omega⟩ dX0_lossesOf_19
  refine v_iload_n B dX0_lossesOf_0 rfl rfl ?_
  refine u_if_eq B (tgt := 9) (by omega) dX0_lossesOf_1 (by decide +kernel) (fun c28 => ?_) (fun c28 => ?_)
  · exact J9 ⟨by omega, by omega⟩
  · refine v_iload_n B dX0_lossesOf_4 rfl rfl ?_
    refine v_iconst B (v := iI 1) dX0_lossesOf_5 rfl ?_
    refine u_icmp_ne B (tgt := 18) (by omega) (by omega) dX0_lossesOf_6 (by decide +kernel) (fun c29 => ?_) (fun c29 => ?_)
    · refine v_iconst B (v := iI (-1)) dX0_lossesOf_18 rfl ?_
      exact hend (-1) _ _ ⟨by omega, by omega⟩ dX0_lossesOf_19
    · exact J9 ⟨by omega, by omega⟩
set_option maxRecDepth 100000 in
theorem c_Air_lossesOf (l : Launch) (D : va_G) (K : Nat → ClassId) {τ : Nat → Option Ty} {dom : List Nat} (Z : Sk τ dom) (zb zL : Nat) (zx : Nat → Int32) (zs : Nat → Nat) (h : Nat) (x1 : Int) (t_h : τ h = some (30, 0, 0)) (r_x1 : -2147483648 ≤ x1 ∧ x1 ≤ 2147483647) (σ0 : Nat → va_E) (G0 : Good K τ σ0) : MZ l yX0_lossesOf wp_Air_lossesOf ({ frames := 0, cells := 0, slots := 0, locals := 0 }) D (tysA K) [.ref h, .int (iI x1)] (fd dom σ0) zb zL zx zs (Qi D (fun r σ' => σ0 = σ' ∧ ∃ z : Int, r = iI z ∧ (-2147483648 ≤ z ∧ z ≤ 2147483647)) (fun σ' => fd dom σ')) 0 0 := by
  refine mz_of (cc := cX0_lossesOf) (maxL := 2) (ret := (some .int)) (by decide +kernel) rfl (Nat.le_of_ble_eq_true rfl) ?_
  intro p e s m below meth c A B hr hlk _ hz
  exact b_Air_lossesOf ⟨Nat.le_refl _, Nat.le_refl _⟩ B Z hz h x1 t_h r_x1 σ0 G0 (fun z lv pc hZ hd => v_iret B hr hlk σ0 ⟨rfl, z, rfl, hZ⟩ rfl (Nat.le_refl _) (Nat.le_refl _) hd)

def wp_Air_figure : List Cond := .code yX0_figure cX0_figure 3 (some .int) :: (([.fieldLink RX0 42 "LowEnergy$Air" "count" "I", .fieldLink RX0 13 "LowEnergy$Air" "packets" "[LLowEnergy$Row;", .methodLink RX0 49 yX9_at, .instanceMethod yX9_at, .selects RX9 yX9_at yX9_at, .initialized RX9, .code yX9_at cX9_at 2 (some .int), .fieldLink RX9 21 "LowEnergy$Row" "size" "I", .fieldLink RX9 15 "LowEnergy$Row" "bytes" "[I", .fieldLink RX0 17 "LowEnergy$Air" "channels" "[I"] : List Cond) ++ (wsX00 ++ (wsX90 ++ ([]))))
theorem hi_Air_figure_X0 : ∀ x ∈ u_ws RX0 TX0 10, x ∈ wp_Air_figure := fun _ h => List.mem_cons_of_mem _ (List.mem_append_right _ (List.mem_append_left _ h))
theorem hi_Air_figure_X9 : ∀ x ∈ u_ws RX9 TX9 2, x ∈ wp_Air_figure := fun _ h => List.mem_cons_of_mem _ (List.mem_append_right _ (List.mem_append_right _ (List.mem_append_left _ h)))
set_option maxRecDepth 100000 in
theorem gd_Air_figure_Row_at_49 : GoodIn wp_Air_figure (wsV RX0 49 RX9 yX9_at wp_Row_at) := goodIn_app (goodIn_r _ [3, 4, 5, 6] rfl rfl) (goodIn_ca (goodIn_r _ [7, 8, 9] rfl rfl) (goodIn_app (goodIn_cls hi_Air_figure_X9 gw_X9) (goodIn_nil)))
set_option maxHeartbeats 4000000 in
set_option maxRecDepth 100000 in
theorem b_Air_figure {p : Program} {l : Launch} {e : Env} {R : Room} {s : State} {m : MethodId} {args : Array Value} {below : List Frame} {meth : Method} {c : Code} {D : va_G} {K : Nat → ClassId} {A : Nat → Prop} {Q : State → Prop} {τ : Nat → Option Ty} {dom : List Nat} {zb zL : Nat} {zx : Nat → Int32} {zs : Nat → Nat} (hR : 1 ≤ R.frames ∧ 21 ≤ R.locals) (B : Bx p s m args c cX0_figure 3 RX0 wp_Air_figure D (tysA K) A) (Z : Sk τ dom) (hz : ZL zb zL zx zs A s s.heap) (h : Nat) (x1 : Int) (x2 : Int) (t_h : τ h = some (30, 0, 0)) (r_x1 : -2147483648 ≤ x1 ∧ x1 ≤ 2147483647) (r_x2 : -2147483648 ≤ x2 ∧ x2 ≤ 2147483647) (σ0 : Nat → va_E) (G0 : Good K τ σ0) (hend : ∀ (z : Int) (lv : List (Nat × Value)) (pc : Nat), (-2147483648 ≤ z ∧ z ≤ 2147483647) → decode cX0_figure pc = .ok (.ireturn, 1) → V p l e R s m args below meth c 3 D A Q (0, 0) (fd dom σ0) lv pc [.int (iI z)]) : V p l e R s m args below meth c 3 D A Q (0, 0) (fd dom σ0) [(0, .ref h), (1, .int (iI x1)), (2, .int (iI x2))] 0 [] := by
  have F0 : Fr τ [] σ0 σ0 := Fr.rf
  refine v_iload_n B dX0_figure_0 rfl rfl ?_
  refine u_if_lt B (tgt := 21) (by omega) dX0_figure_1 (by decide +kernel) (fun c1 => ?_) (fun c1 => ?_)
  · refine v_iconst B (v := iI (-1)) dX0_figure_21 rfl ?_
    exact hend (-1) _ _ ⟨by omega, by omega⟩ dX0_figure_22
  · refine v_iload_n B dX0_figure_4 rfl rfl ?_
    refine v_aload_n B dX0_figure_5 rfl rfl ?_
    obtain ⟨a2, a3, a4, a5, a6, a7, a8, z9, z10, z11, h12, t13, t14, t15, t16, t17, t18, t19, r20, r21, r22⟩ : okAir τ (σ0 h) := G0 h _ t_h
    refine u_get B Z (C := RX0) (T := TX0) (N := 10) (ci := 0) hi_Air_figure_X0 t_h h12 rfl 8 (by decide +kernel) (List.mem_of_getElem? (i := 1) rfl) rfl dX0_figure_6 ?_
    refine u_icmp_ge B (tgt := 21) (by omega) (by omega) dX0_figure_9 (by decide +kernel) (fun c23 => ?_) (fun c23 => ?_)
    · refine v_iconst B (v := iI (-1)) dX0_figure_21 rfl ?_
      exact hend (-1) _ _ ⟨by omega, by omega⟩ dX0_figure_22
    · refine v_iload_n B dX0_figure_12 rfl rfl ?_
      refine v_aload_n B dX0_figure_13 rfl rfl ?_
      refine u_get B Z (C := RX0) (T := TX0) (N := 10) (ci := 0) hi_Air_figure_X0 t_h h12 rfl 0 (by decide +kernel) (List.mem_of_getElem? (i := 2) rfl) rfl dX0_figure_14 ?_
      obtain ⟨f24, h25, e26⟩ : okRA K τ 3 8 (σ0 a2) := G0 a2 _ t13
      refine u_alen B Z (t0 := 4) (v := 8) t13 h25 rfl (by first | rfl | omega) dX0_figure_17 ?_
      refine u_icmp_lt B (tgt := 23) (by omega) (by omega) dX0_figure_18 (by decide +kernel) (fun c27 => ?_) (fun c27 => by omega)
      refine v_iload_n B dX0_figure_23 rfl rfl ?_
      refine v_bipush B (v := iI (-2)) dX0_figure_24 (by decide +kernel) ?_
      refine u_icmp_ne B (tgt := 36) (by omega) (by omega) dX0_figure_26 (by decide +kernel) (fun c28 => ?_) (fun c28 => ?_)
      · refine v_iload_n B dX0_figure_36 rfl rfl ?_
        refine v_iconst B (v := iI (-1)) dX0_figure_37 rfl ?_
        refine u_icmp_ne B (tgt := 53) (by omega) (by omega) dX0_figure_38 (by decide +kernel) (fun c29 => ?_) (fun c29 => ?_)
        · refine v_aload_n B dX0_figure_53 rfl rfl ?_
          refine u_get B Z (C := RX0) (T := TX0) (N := 10) (ci := 0) hi_Air_figure_X0 t_h h12 rfl 0 (by decide +kernel) (List.mem_of_getElem? (i := 2) rfl) rfl dX0_figure_54 ?_
          refine v_iload_n B dX0_figure_57 rfl rfl ?_
          obtain ⟨a30, e31, t32⟩ := e26 (x1 : Int).toNat (by omega)
          refine u_aald B Z (t0 := 4) (v := .ref a30) t13 h25 rfl (by omega) (by rw [e31]; rfl) dX0_figure_58 ?_
          refine v_iload_n B dX0_figure_59 rfl rfl ?_
          refine u_callVi B Z hz (n := 1) (As := [.int (iI x2)]) (rest := []) (c_Row_at l D K Z _ _ _ _ a30 x2 t32 ⟨by omega, by omega⟩ σ0 G0) gd_Air_figure_Row_at_49 rfl rfl rfl (by decide +kernel) ⟨Nat.le_trans (by decide +kernel) hR.1, Nat.le_trans (by decide +kernel) hR.2⟩ t32 (cls_Row G0 t32) rfl rfl rfl rfl (Nat.le_of_ble_eq_true rfl) dX0_figure_60 ⟨Nat.zero_le _, Nat.zero_le _⟩ (fun v35 σ33 p34 => ?_)
          obtain ⟨rfl, z39, e40, r41⟩ := p34
          subst e40
          exact hend z39 _ _ ⟨by omega, by omega⟩ dX0_figure_63
        · refine v_aload_n B dX0_figure_41 rfl rfl ?_
          refine u_get B Z (C := RX0) (T := TX0) (N := 10) (ci := 0) hi_Air_figure_X0 t_h h12 rfl 0 (by decide +kernel) (List.mem_of_getElem? (i := 2) rfl) rfl dX0_figure_42 ?_
          refine v_iload_n B dX0_figure_45 rfl rfl ?_
          obtain ⟨a42, e43, t44⟩ := e26 (x1 : Int).toNat (by omega)
          refine u_aald B Z (t0 := 4) (v := .ref a42) t13 h25 rfl (by omega) (by rw [e43]; rfl) dX0_figure_46 ?_
          obtain ⟨b45, N46, n47, h48, t49, r50⟩ : okRow τ 3 (σ0 a42) := G0 a42 _ t44
          refine u_getN B Z (C := RX9) (T := TX9) (N := 2) (ci := 9) hi_Air_figure_X9 t44 h48 rfl 1 (by decide +kernel) (List.mem_of_getElem? (i := 71) rfl) rfl dX0_figure_47 ?_
          refine v_goto B (tgt := 63) dX0_figure_50 (by decide +kernel) ?_
          exact hend n47 _ _ ⟨by omega, by omega⟩ dX0_figure_63
      · refine v_aload_n B dX0_figure_29 rfl rfl ?_
        refine u_get B Z (C := RX0) (T := TX0) (N := 10) (ci := 0) hi_Air_figure_X0 t_h h12 rfl 1 (by decide +kernel) (List.mem_of_getElem? (i := 10) rfl) rfl dX0_figure_30 ?_
        refine v_iload_n B dX0_figure_33 rfl rfl ?_
        obtain ⟨f51, h52, r53⟩ : okP K 8 (σ0 a3) := G0 a3 _ t14
        obtain ⟨z54, e55, r56⟩ := iI_any (f51 (x1 : Int).toNat)
        refine u_iald B Z (t0 := 0) t14 h52 rfl (by omega) e55 dX0_figure_34 ?_
        exact hend z54 _ _ ⟨by omega, by omega⟩ dX0_figure_35
set_option maxRecDepth 100000 in
theorem c_Air_figure (l : Launch) (D : va_G) (K : Nat → ClassId) {τ : Nat → Option Ty} {dom : List Nat} (Z : Sk τ dom) (zb zL : Nat) (zx : Nat → Int32) (zs : Nat → Nat) (h : Nat) (x1 : Int) (x2 : Int) (t_h : τ h = some (30, 0, 0)) (r_x1 : -2147483648 ≤ x1 ∧ x1 ≤ 2147483647) (r_x2 : -2147483648 ≤ x2 ∧ x2 ≤ 2147483647) (σ0 : Nat → va_E) (G0 : Good K τ σ0) : MZ l yX0_figure wp_Air_figure ({ frames := 1, cells := 0, slots := 0, locals := 21 }) D (tysA K) [.ref h, .int (iI x1), .int (iI x2)] (fd dom σ0) zb zL zx zs (Qi D (fun r σ' => σ0 = σ' ∧ ∃ z : Int, r = iI z ∧ (-2147483648 ≤ z ∧ z ≤ 2147483647)) (fun σ' => fd dom σ')) 0 0 := by
  refine mz_of (cc := cX0_figure) (maxL := 3) (ret := (some .int)) (by decide +kernel) rfl (Nat.le_of_ble_eq_true rfl) ?_
  intro p e s m below meth c A B hr hlk _ hz
  exact b_Air_figure ⟨Nat.le_refl _, Nat.le_refl _⟩ B Z hz h x1 x2 t_h r_x1 r_x2 σ0 G0 (fun z lv pc hZ hd => v_iret B hr hlk σ0 ⟨rfl, z, rfl, hZ⟩ rfl (Nat.le_refl _) (Nat.le_refl _) hd)

def wp_Air_whiten : List Cond := .code yX0_whiten cX0_whiten 7 none :: (([] : List Cond) ++ (wsX90 ++ ([])))
theorem hi_Air_whiten_X9 : ∀ x ∈ u_ws RX9 TX9 2, x ∈ wp_Air_whiten := fun _ h => List.mem_cons_of_mem _ (List.mem_append_right _ (List.mem_append_left _ h))
set_option maxHeartbeats 4000000 in
set_option maxRecDepth 100000 in
theorem b_Air_whiten {p : Program} {l : Launch} {e : Env} {R : Room} {s : State} {m : MethodId} {args : Array Value} {below : List Frame} {meth : Method} {c : Code} {D : va_G} {K : Nat → ClassId} {A : Nat → Prop} {Q : State → Prop} {τ : Nat → Option Ty} {dom : List Nat} {zb zL : Nat} {zx : Nat → Int32} {zs : Nat → Nat} {π : Nat} (hR : 0 ≤ R.frames ∧ 0 ≤ R.locals) (B : Bx p s m args c cX0_whiten 7 RX0 wp_Air_whiten D (tysA K) A) (Z : Sk τ dom) (hz : ZL zb zL zx zs A s s.heap) (g : Nat) (x1 : Int) (t_g : τ g = some (1, π, 0)) (r_x1 : -2147483648 ≤ x1 ∧ x1 ≤ 2147483647) (σ0 : Nat → va_E) (G0 : Good K τ σ0) (hend : ∀ (σ' : Nat → va_E) (lv : List (Nat × Value)) (pc : Nat), Good K τ σ' → Fr τ [(2, π)] σ0 σ' → decode cX0_whiten pc = .ok (.return_, 1) → V p l e R s m args below meth c 7 D A Q (0, 0) (fd dom σ') lv pc []) : V p l e R s m args below meth c 7 D A Q (0, 0) (fd dom σ0) [(0, .ref g), (1, .int (iI x1))] 0 [] := by
  have F0 : Fr τ [(2, π)] σ0 σ0 := Fr.rf
  obtain ⟨b1, N2, n3, h4, t5, r6⟩ : okRow τ π (σ0 g) := G0 g _ t_g
  have J7 : ∀ (k7 : Nat) (σ_7 : Nat → va_E) (z7_2 : Int) (z7_3 : Int), (2147483648 - z7_3).toNat ≤ k7 → Good K τ σ_7 → Fr τ [(2, π)] σ0 σ_7 → (σ_7 g = .inr (9, [.ref b1, .int (iI n3)])) → (-2147483648 ≤ z7_2 ∧ z7_2 ≤ 2147483647) → (4 ≤ z7_3 ∧ z7_3 ≤ 256) → V p l e R s m args below meth c 7 D A Q (0, 0) (fd dom σ_7) [(0, .ref g), (2, .int (iI z7_2)), (3, .int (iI z7_3))] 7 [] := by
    intro k7
    induction k7 with
    | zero => intro σ_7 z7_2 z7_3 m7 G_7 F_7 hc7_g r7_2 r7_3; omega
    | succ k7 IH7 =>
      intro σ_7 z7_2 z7_3 m7 G_7 F_7 hc7_g r7_2 r7_3
      have J21 : ∀ (k21 : Nat) (z21_2 : Int) (z21_4 : Int) (z21_5 : Int), (2147483648 - z21_5).toNat ≤ k21 → (-2147483648 ≤ z21_2 ∧ z21_2 ≤ 2147483647) → (4 ≤ z7_3 ∧ z7_3 ≤ 255) → (0 ≤ z21_4 ∧ z21_4 ≤ 255) → (0 ≤ z21_5 ∧ z21_5 ≤ 8) → (z7_3 < n3) → V p l e R s m args below meth c 7 D A Q (0, 0) (fd dom σ_7) [(0, .ref g), (2, .int (iI z21_2)), (3, .int (iI z7_3)), (4, .int (iI z21_4)), (5, .int (iI z21_5))] 21 [] := by
        intro k21
        induction k21 with
        | zero => intro z21_2 z21_4 z21_5 m21 r21_2 r21_3 r21_4 r21_5 i21; omega
        | succ k21 IH21 =>
          intro z21_2 z21_4 z21_5 m21 r21_2 r21_3 r21_4 r21_5 i21
          refine v_iload B dX0_whiten_21 rfl ?_
          refine v_bipush B (v := iI 8) dX0_whiten_23 (by decide +kernel) ?_
          refine u_icmp_ge B (tgt := 59) (by omega) (by omega) dX0_whiten_25 (by decide +kernel) (fun c7 => ?_) (fun c7 => ?_)
          · refine v_aload_n B dX0_whiten_59 rfl rfl ?_
            refine u_getN B Z (C := RX9) (T := TX9) (N := 2) (ci := 9) hi_Air_whiten_X9 t_g hc7_g rfl 0 (by decide +kernel) (List.mem_of_getElem? (i := 72) rfl) rfl dX0_whiten_60 ?_
            refine v_iload_n B dX0_whiten_63 rfl rfl ?_
            refine v_dup2 B dX0_whiten_64 rfl rfl ?_
            obtain ⟨f8, h9, r10, e11⟩ : okB K N2 (σ_7 b1) := G_7 b1 _ t5
            obtain ⟨z12, e13, r14⟩ := e11 (z7_3 : Int).toNat
            refine u_iald B Z (t0 := 0) t5 h9 rfl (by omega) e13 dX0_whiten_65 ?_
            refine v_iload B dX0_whiten_66 rfl ?_
            obtain ⟨z15, e16, r17⟩ := iI_xor (a := z12) (b := z21_4) 8 (by decide) (by omega) (by omega)
            refine v_ixor B (v := iI z15) dX0_whiten_68 e16 ?_
            refine u_iast B Z (t0 := 0) t5 h9 rfl (by omega) dX0_whiten_69 (fun σ18 h19 n20 => ?_)
            have G21 := G_7.put t5 (⟨_, h19, r10, el_upd e11 (by omega) _⟩ : Ok K τ (2, π, N2) (σ18 b1)) n20
            have F22 := F_7.put t5 (by simp) n20
            have h23 := (n20 g (ne_ty t_g t5 (by simp))).trans hc7_g
            refine v_iinc B (k := 2) (v := iI (z7_3 + 1)) (lv' := [(3, .int (iI (z7_3 + 1))), (0, .ref g), (2, .int (iI z21_2)), (4, .int (iI z21_4)), (5, .int (iI z21_5))]) dX0_whiten_70 rfl ((iI_add _ _).trans (congrArg iI (by omega))) (by decide +kernel) rfl ?_
            refine v_goto B (tgt := 7) dX0_whiten_73 (by decide +kernel) ?_
            refine v_lv [1, 2, 0] rfl ?_
            exact IH7 σ18 z21_2 (z7_3 + 1) (by omega) G21 F22 h23 ⟨by omega, by omega⟩ ⟨by omega, by omega⟩
          · refine v_iload_n B dX0_whiten_28 rfl rfl ?_
            refine v_iconst B (v := iI 1) dX0_whiten_29 rfl ?_
            obtain ⟨z24, e25, r26⟩ := iI_and z21_2 (c := 1) (by decide) (by decide)
            refine v_iand B (v := iI z24) dX0_whiten_30 e25 ?_
            refine v_istore B (lv' := [(6, .int (iI z24)), (0, .ref g), (2, .int (iI z21_2)), (3, .int (iI z7_3)), (4, .int (iI z21_4)), (5, .int (iI z21_5))]) dX0_whiten_31 (by decide +kernel) rfl ?_
            refine v_iload B dX0_whiten_33 rfl ?_
            refine v_iload B dX0_whiten_35 rfl ?_
            refine v_iload B dX0_whiten_37 rfl ?_
            obtain ⟨z27, e28, r29⟩ := iI_shlv (a := z24) (c := z21_5) (A := 1) 7 (by decide) (by omega) (by omega)
            refine v_ishl B (v := iI z27) dX0_whiten_39 e28 ?_
            obtain ⟨z30, e31, r32⟩ := iI_or (a := z21_4) (b := z27) 8 (by decide) (by omega) (by omega)
            refine v_ior B (v := iI z30) dX0_whiten_40 e31 ?_
            refine v_istore B (lv' := [(4, .int (iI z30)), (6, .int (iI z24)), (0, .ref g), (2, .int (iI z21_2)), (3, .int (iI z7_3)), (5, .int (iI z21_5))]) dX0_whiten_41 (by decide +kernel) rfl ?_
            refine v_iload_n B dX0_whiten_43 rfl rfl ?_
            refine v_iconst B (v := iI 1) dX0_whiten_44 rfl ?_
            obtain ⟨z33, e34⟩ : ∃ z : Int, z = z21_2 / 2 := ⟨_, rfl⟩
            refine v_ishr B (v := iI z33) dX0_whiten_45 ((iI_shr (a := z21_2) (by omega) 1 (by decide)).trans (congrArg iI (by omega))) ?_
            refine v_bipush B (v := iI 68) dX0_whiten_46 (by decide +kernel) ?_
            refine v_iload B dX0_whiten_48 rfl ?_
            refine v_imul B (v := iI (68 * z24)) dX0_whiten_50 ((iI_mul _ _).trans (congrArg iI (by omega))) ?_
            obtain ⟨z35, e36, r37⟩ := iI_any (iI z33 ^^^ iI (68 * z24))
            refine v_ixor B (v := iI z35) dX0_whiten_51 e36 ?_
            refine v_istore_n B (lv' := [(2, .int (iI z35)), (4, .int (iI z30)), (6, .int (iI z24)), (0, .ref g), (3, .int (iI z7_3)), (5, .int (iI z21_5))]) dX0_whiten_52 rfl (by decide +kernel) rfl ?_
            refine v_iinc B (k := 5) (v := iI (z21_5 + 1)) (lv' := [(5, .int (iI (z21_5 + 1))), (2, .int (iI z35)), (4, .int (iI z30)), (6, .int (iI z24)), (0, .ref g), (3, .int (iI z7_3))]) dX0_whiten_53 rfl ((iI_add _ _).trans (congrArg iI (by omega))) (by decide +kernel) rfl ?_
            refine v_goto B (tgt := 21) dX0_whiten_56 (by decide +kernel) ?_
            refine v_lv [4, 1, 5, 2, 0] rfl ?_
            exact IH21 z35 z30 (z21_5 + 1) (by omega) ⟨by omega, by omega⟩ ⟨by omega, by omega⟩ ⟨by omega, by omega⟩ ⟨by omega, by omega⟩ (by omega)
      refine v_iload_n B dX0_whiten_7 rfl rfl ?_
      refine v_aload_n B dX0_whiten_8 rfl rfl ?_
      refine u_getN B Z (C := RX9) (T := TX9) (N := 2) (ci := 9) hi_Air_whiten_X9 t_g hc7_g rfl 1 (by decide +kernel) (List.mem_of_getElem? (i := 71) rfl) rfl dX0_whiten_9 ?_
      refine u_icmp_ge B (tgt := 76) (by omega) (by omega) dX0_whiten_12 (by decide +kernel) (fun c38 => ?_) (fun c38 => ?_)
      · exact hend σ_7 _ _ G_7 F_7 dX0_whiten_76
      · refine v_iconst B (v := iI 0) dX0_whiten_15 rfl ?_
        refine v_istore B (lv' := [(4, .int (iI 0)), (0, .ref g), (2, .int (iI z7_2)), (3, .int (iI z7_3))]) dX0_whiten_16 (by decide +kernel) rfl ?_
        refine v_iconst B (v := iI 0) dX0_whiten_18 rfl ?_
        refine v_istore B (lv' := [(5, .int (iI 0)), (4, .int (iI 0)), (0, .ref g), (2, .int (iI z7_2)), (3, .int (iI z7_3))]) dX0_whiten_19 (by decide +kernel) rfl ?_
        refine v_lv [2, 3, 4, 1, 0] rfl ?_
        exact J21 _ z7_2 0 0 (Nat.le_refl _) ⟨by omega, by omega⟩ ⟨by omega, by omega⟩ ⟨by omega, by omega⟩ ⟨by omega, by omega⟩ (by omega)
  refine v_bipush B (v := iI 64) dX0_whiten_0 (by decide +kernel) ?_
  refine v_iload_n B dX0_whiten_2 rfl rfl ?_
  obtain ⟨z39, e40, r41⟩ := iI_any (iI 64 + iI x1)
  refine v_iadd B (v := iI z39) dX0_whiten_3 e40 ?_
  refine v_istore_n B (lv' := [(2, .int (iI z39)), (0, .ref g), (1, .int (iI x1))]) dX0_whiten_4 rfl (by decide +kernel) rfl ?_
  refine v_iconst B (v := iI 4) dX0_whiten_5 rfl ?_
  refine v_istore_n B (lv' := [(3, .int (iI 4)), (2, .int (iI z39)), (0, .ref g), (1, .int (iI x1))]) dX0_whiten_6 rfl (by decide +kernel) rfl ?_
  refine v_lv [2, 1, 0] rfl ?_
  exact J7 _ σ0 z39 4 (Nat.le_refl _) G0 F0 h4 ⟨by omega, by omega⟩ ⟨by omega, by omega⟩
set_option maxRecDepth 100000 in
theorem c_Air_whiten (l : Launch) (D : va_G) (K : Nat → ClassId) {τ : Nat → Option Ty} {dom : List Nat} (Z : Sk τ dom) (zb zL : Nat) (zx : Nat → Int32) (zs : Nat → Nat) {π : Nat} (g : Nat) (x1 : Int) (t_g : τ g = some (1, π, 0)) (r_x1 : -2147483648 ≤ x1 ∧ x1 ≤ 2147483647) (σ0 : Nat → va_E) (G0 : Good K τ σ0) : MZ l yX0_whiten wp_Air_whiten ({ frames := 0, cells := 0, slots := 0, locals := 0 }) D (tysA K) [.ref g, .int (iI x1)] (fd dom σ0) zb zL zx zs (Qv D (fun σ' => Good K τ σ' ∧ Fr τ [(2, π)] σ0 σ') (fun σ' => fd dom σ')) 0 0 := by
  refine mz_of (cc := cX0_whiten) (maxL := 7) (ret := none) (by decide +kernel) rfl (Nat.le_of_ble_eq_true rfl) ?_
  intro p e s m below meth c A B hr hlk _ hz
  exact b_Air_whiten ⟨Nat.le_refl _, Nat.le_refl _⟩ B Z hz g x1 t_g r_x1 σ0 G0 (fun σ' lv pc G F hd => v_vret B hr hlk σ' ⟨G, F⟩ rfl (Nat.le_refl _) (Nat.le_refl _) hd)

def wp_Air_crc : List Cond := .code yX0_crcInOrder cX0_crcInOrder 7 (some .int) :: (([.constant RX0 100 (16777215)] : List Cond) ++ (wsX90 ++ ([])))
theorem hi_Air_crc_X9 : ∀ x ∈ u_ws RX9 TX9 2, x ∈ wp_Air_crc := fun _ h => List.mem_cons_of_mem _ (List.mem_append_right _ (List.mem_append_left _ h))
set_option maxHeartbeats 4000000 in
set_option maxRecDepth 100000 in
theorem b_Air_crc {p : Program} {l : Launch} {e : Env} {R : Room} {s : State} {m : MethodId} {args : Array Value} {below : List Frame} {meth : Method} {c : Code} {D : va_G} {K : Nat → ClassId} {A : Nat → Prop} {Q : State → Prop} {τ : Nat → Option Ty} {dom : List Nat} {zb zL : Nat} {zx : Nat → Int32} {zs : Nat → Nat} {π : Nat} (hR : 0 ≤ R.frames ∧ 0 ≤ R.locals) (B : Bx p s m args c cX0_crcInOrder 7 RX0 wp_Air_crc D (tysA K) A) (Z : Sk τ dom) (hz : ZL zb zL zx zs A s s.heap) (g : Nat) (x1 : Int) (x2 : Int) (t_g : τ g = some (1, π, 0)) (r_x1 : -2147483648 ≤ x1 ∧ x1 ≤ 2147483647) (r_x2 : -2147483648 ≤ x2 ∧ x2 ≤ 2147483647) (σ0 : Nat → va_E) (G0 : Good K τ σ0) (hend : ∀ (z : Int) (lv : List (Nat × Value)) (pc : Nat), (0 ≤ z ∧ z ≤ 2147483647) → decode cX0_crcInOrder pc = .ok (.ireturn, 1) → V p l e R s m args below meth c 7 D A Q (0, 0) (fd dom σ0) lv pc [.int (iI z)]) : V p l e R s m args below meth c 7 D A Q (0, 0) (fd dom σ0) [(0, .ref g), (1, .int (iI x1)), (2, .int (iI x2))] 0 [] := by
  have F0 : Fr τ [] σ0 σ0 := Fr.rf
  obtain ⟨b1, N2, n3, h4, t5, r6⟩ : okRow τ π (σ0 g) := G0 g _ t_g
  have J84 : ∀ (k84 : Nat) (z84_3 : Int) (z84_4 : Int) (z84_5 : Int), (2147483648 - z84_5).toNat ≤ k84 → (0 ≤ z84_3 ∧ z84_3 ≤ 16777215) → (0 ≤ z84_4 ∧ z84_4 ≤ 2147483647) → (0 ≤ z84_5 ∧ z84_5 ≤ 24) → V p l e R s m args below meth c 7 D A Q (0, 0) (fd dom σ0) [(3, .int (iI z84_3)), (4, .int (iI z84_4)), (5, .int (iI z84_5))] 84 [] := by
    intro k84
    induction k84 with
    | zero => intro z84_3 z84_4 z84_5 m84 r84_3 r84_4 r84_5; omega
    | succ k84 IH84 =>
      intro z84_3 z84_4 z84_5 m84 r84_3 r84_4 r84_5
      refine v_iload B dX0_crcInOrder_84 rfl ?_
      refine v_bipush B (v := iI 24) dX0_crcInOrder_86 (by decide +kernel) ?_
      refine u_icmp_ge B (tgt := 114) (by omega) (by omega) dX0_crcInOrder_88 (by decide +kernel) (fun c7 => ?_) (fun c7 => ?_)
      · refine v_iload B dX0_crcInOrder_114 rfl ?_
        exact hend z84_4 _ _ ⟨by omega, by omega⟩ dX0_crcInOrder_116
      · refine v_iload B dX0_crcInOrder_91 rfl ?_
        refine v_iload_n B dX0_crcInOrder_93 rfl rfl ?_
        refine v_bipush B (v := iI 23) dX0_crcInOrder_94 (by decide +kernel) ?_
        refine v_iload B dX0_crcInOrder_96 rfl ?_
        refine v_isub B (v := iI ((-1) * z84_5 + 23)) dX0_crcInOrder_98 ((iI_sub _ _).trans (congrArg iI (by omega))) ?_
        obtain ⟨z8, e9, r10⟩ := iI_any (iI z84_3 >>> (iI ((-1) * z84_5 + 23) &&& 31))
        refine v_ishr B (v := iI z8) dX0_crcInOrder_99 e9 ?_
        refine v_iconst B (v := iI 1) dX0_crcInOrder_100 rfl ?_
        obtain ⟨z11, e12, r13⟩ := iI_and z8 (c := 1) (by decide) (by decide)
        refine v_iand B (v := iI z11) dX0_crcInOrder_101 e12 ?_
        refine v_iload B dX0_crcInOrder_102 rfl ?_
        obtain ⟨z14, e15, r16⟩ := iI_shlv (a := z11) (c := z84_5) (A := 1) 23 (by decide) (by omega) (by omega)
        refine v_ishl B (v := iI z14) dX0_crcInOrder_104 e15 ?_
        obtain ⟨z17, e18, r19⟩ := iI_or (a := z84_4) (b := z14) 31 (by decide) (by omega) (by omega)
        refine v_ior B (v := iI z17) dX0_crcInOrder_105 e18 ?_
        refine v_istore B (lv' := [(4, .int (iI z17)), (3, .int (iI z84_3)), (5, .int (iI z84_5))]) dX0_crcInOrder_106 (by decide +kernel) rfl ?_
        refine v_iinc B (k := 2) (v := iI (z84_5 + 1)) (lv' := [(5, .int (iI (z84_5 + 1))), (4, .int (iI z17)), (3, .int (iI z84_3))]) dX0_crcInOrder_108 rfl ((iI_add _ _).trans (congrArg iI (by omega))) (by decide +kernel) rfl ?_
        refine v_goto B (tgt := 84) dX0_crcInOrder_111 (by decide +kernel) ?_
        refine v_lv [2, 1, 0] rfl ?_
        exact IH84 z84_3 z17 (z84_5 + 1) (by omega) ⟨by omega, by omega⟩ ⟨by omega, by omega⟩ ⟨by omega, by omega⟩
  have J78 : ∀ (z78_3 : Int), (0 ≤ z78_3 ∧ z78_3 ≤ 16777215) → V p l e R s m args below meth c 7 D A Q (0, 0) (fd dom σ0) [(3, .int (iI z78_3))] 78 [] := by
    intro z78_3 r78_3
    refine v_iconst B (v := iI 0) dX0_crcInOrder_78 rfl ?_
    refine v_istore B (lv' := [(4, .int (iI 0)), (3, .int (iI z78_3))]) dX0_crcInOrder_79 (by decide +kernel) rfl ?_
    refine v_iconst B (v := iI 0) dX0_crcInOrder_81 rfl ?_
    refine v_istore B (lv' := [(5, .int (iI 0)), (4, .int (iI 0)), (3, .int (iI z78_3))]) dX0_crcInOrder_82 (by decide +kernel) rfl ?_
    refine v_lv [2, 1, 0] rfl ?_
    exact J84 _ z78_3 0 0 (Nat.le_refl _) ⟨by omega, by omega⟩ ⟨by omega, by omega⟩ ⟨by omega, by omega⟩
  have J8 : ∀ (k8 : Nat) (z8_3 : Int) (z8_4 : Int), (2147483648 - z8_4).toNat ≤ k8 → (0 ≤ z8_3 ∧ z8_3 ≤ 16777215) → (4 ≤ z8_4 ∧ z8_4 ≤ 256) → V p l e R s m args below meth c 7 D A Q (0, 0) (fd dom σ0) [(0, .ref g), (1, .int (iI x1)), (3, .int (iI z8_3)), (4, .int (iI z8_4))] 8 [] := by
    intro k8
    induction k8 with
    | zero => intro z8_3 z8_4 m8 r8_3 r8_4; omega
    | succ k8 IH8 =>
      intro z8_3 z8_4 m8 r8_3 r8_4
      have J26 : ∀ (k26 : Nat) (z26_3 : Int) (z26_5 : Int), (2147483648 - z26_5).toNat ≤ k26 → (5 ≤ x1 ∧ x1 ≤ 2147483647) → (0 ≤ z26_3 ∧ z26_3 ≤ 16777215) → (4 ≤ z8_4 ∧ z8_4 ≤ 255) → (0 ≤ z26_5 ∧ z26_5 ≤ 8) → (z8_4 < n3) → V p l e R s m args below meth c 7 D A Q (0, 0) (fd dom σ0) [(0, .ref g), (1, .int (iI x1)), (3, .int (iI z26_3)), (4, .int (iI z8_4)), (5, .int (iI z26_5))] 26 [] := by
        intro k26
        induction k26 with
        | zero => intro z26_3 z26_5 m26 r26_1 r26_3 r26_4 r26_5 i26; omega
        | succ k26 IH26 =>
          intro z26_3 z26_5 m26 r26_1 r26_3 r26_4 r26_5 i26
          refine v_iload B dX0_crcInOrder_26 rfl ?_
          refine v_bipush B (v := iI 8) dX0_crcInOrder_28 (by decide +kernel) ?_
          refine u_icmp_ge B (tgt := 72) (by omega) (by omega) dX0_crcInOrder_30 (by decide +kernel) (fun c20 => ?_) (fun c20 => ?_)
          · refine v_iinc B (k := 3) (v := iI (z8_4 + 1)) (lv' := [(4, .int (iI (z8_4 + 1))), (0, .ref g), (1, .int (iI x1)), (3, .int (iI z26_3)), (5, .int (iI z26_5))]) dX0_crcInOrder_72 rfl ((iI_add _ _).trans (congrArg iI (by omega))) (by decide +kernel) rfl ?_
            refine v_goto B (tgt := 8) dX0_crcInOrder_75 (by decide +kernel) ?_
            refine v_lv [1, 2, 3, 0] rfl ?_
            exact IH8 z26_3 (z8_4 + 1) (by omega) ⟨by omega, by omega⟩ ⟨by omega, by omega⟩
          · refine v_aload_n B dX0_crcInOrder_33 rfl rfl ?_
            refine u_getN B Z (C := RX9) (T := TX9) (N := 2) (ci := 9) hi_Air_crc_X9 t_g h4 rfl 0 (by decide +kernel) (List.mem_of_getElem? (i := 72) rfl) rfl dX0_crcInOrder_34 ?_
            refine v_iload B dX0_crcInOrder_37 rfl ?_
            obtain ⟨f21, h22, r23, e24⟩ : okB K N2 (σ0 b1) := G0 b1 _ t5
            obtain ⟨z25, e26, r27⟩ := e24 (z8_4 : Int).toNat
            refine u_iald B Z (t0 := 0) t5 h22 rfl (by omega) e26 dX0_crcInOrder_39 ?_
            refine v_iload B dX0_crcInOrder_40 rfl ?_
            obtain ⟨z28, e29, r30⟩ := iI_any (iI z25 >>> (iI z26_5 &&& 31))
            refine v_ishr B (v := iI z28) dX0_crcInOrder_42 e29 ?_
            refine v_iload_n B dX0_crcInOrder_43 rfl rfl ?_
            refine v_bipush B (v := iI 23) dX0_crcInOrder_44 (by decide +kernel) ?_
            obtain ⟨z31, e32⟩ : ∃ z : Int, z = z26_3 / 8388608 := ⟨_, rfl⟩
            refine v_ishr B (v := iI z31) dX0_crcInOrder_46 ((iI_shr (a := z26_3) (by omega) 23 (by decide)).trans (congrArg iI (by omega))) ?_
            obtain ⟨z33, e34, r35⟩ := iI_any (iI z28 ^^^ iI z31)
            refine v_ixor B (v := iI z33) dX0_crcInOrder_47 e34 ?_
            refine v_iconst B (v := iI 1) dX0_crcInOrder_48 rfl ?_
            obtain ⟨z36, e37, r38⟩ := iI_and z33 (c := 1) (by decide) (by decide)
            refine v_iand B (v := iI z36) dX0_crcInOrder_49 e37 ?_
            refine v_istore B (lv' := [(6, .int (iI z36)), (0, .ref g), (1, .int (iI x1)), (3, .int (iI z26_3)), (4, .int (iI z8_4)), (5, .int (iI z26_5))]) dX0_crcInOrder_50 (by decide +kernel) rfl ?_
            refine v_iload_n B dX0_crcInOrder_52 rfl rfl ?_
            refine v_iconst B (v := iI 1) dX0_crcInOrder_53 rfl ?_
            refine v_ishl B (v := iI (2 * z26_3)) dX0_crcInOrder_54 ((iI_shl z26_3 1 (by decide)).trans (congrArg iI (by omega))) ?_
            refine v_ldc B (v := iI 16777215) (u_ci (List.mem_of_getElem? (i := 1) rfl) (by decide +kernel)) dX0_crcInOrder_55 ?_
            obtain ⟨z39, e40, r41⟩ := iI_and (2 * z26_3) (c := 16777215) (by decide) (by decide)
            refine v_iand B (v := iI z39) dX0_crcInOrder_57 e40 ?_
            refine v_sipush B (v := iI 1627) dX0_crcInOrder_58 (by decide +kernel) ?_
            refine v_iload B dX0_crcInOrder_61 rfl ?_
            refine v_imul B (v := iI (1627 * z36)) dX0_crcInOrder_63 ((iI_mul _ _).trans (congrArg iI (by omega))) ?_
            obtain ⟨z42, e43, r44⟩ := iI_xor (a := z39) (b := (1627 * z36)) 24 (by decide) (by omega) (by omega)
            refine v_ixor B (v := iI z42) dX0_crcInOrder_64 e43 ?_
            refine v_istore_n B (lv' := [(3, .int (iI z42)), (6, .int (iI z36)), (0, .ref g), (1, .int (iI x1)), (4, .int (iI z8_4)), (5, .int (iI z26_5))]) dX0_crcInOrder_65 rfl (by decide +kernel) rfl ?_
            refine v_iinc B (k := 5) (v := iI (z26_5 + 1)) (lv' := [(5, .int (iI (z26_5 + 1))), (3, .int (iI z42)), (6, .int (iI z36)), (0, .ref g), (1, .int (iI x1)), (4, .int (iI z8_4))]) dX0_crcInOrder_66 rfl ((iI_add _ _).trans (congrArg iI (by omega))) (by decide +kernel) rfl ?_
            refine v_goto B (tgt := 26) dX0_crcInOrder_69 (by decide +kernel) ?_
            refine v_lv [3, 4, 1, 5, 0] rfl ?_
            exact IH26 z42 (z26_5 + 1) (by omega) ⟨by omega, by omega⟩ ⟨by omega, by omega⟩ ⟨by omega, by omega⟩ ⟨by omega, by omega⟩ (by omega)
      refine v_iload B dX0_crcInOrder_8 rfl ?_
      refine v_iload_n B dX0_crcInOrder_10 rfl rfl ?_
      refine u_icmp_ge B (tgt := 78) (by omega) (by omega) dX0_crcInOrder_11 (by decide +kernel) (fun c45 => ?_) (fun c45 => ?_)
      · refine v_lv [2] rfl ?_
        exact J78 z8_3 ⟨by omega, by omega⟩
      · refine v_iload B dX0_crcInOrder_14 rfl ?_
        refine v_aload_n B dX0_crcInOrder_16 rfl rfl ?_
        refine u_getN B Z (C := RX9) (T := TX9) (N := 2) (ci := 9) hi_Air_crc_X9 t_g h4 rfl 1 (by decide +kernel) (List.mem_of_getElem? (i := 71) rfl) rfl dX0_crcInOrder_17 ?_
        refine u_icmp_ge B (tgt := 78) (by omega) (by omega) dX0_crcInOrder_20 (by decide +kernel) (fun c46 => ?_) (fun c46 => ?_)
        · refine v_lv [2] rfl ?_
          exact J78 z8_3 ⟨by omega, by omega⟩
        · refine v_iconst B (v := iI 0) dX0_crcInOrder_23 rfl ?_
          refine v_istore B (lv' := [(5, .int (iI 0)), (0, .ref g), (1, .int (iI x1)), (3, .int (iI z8_3)), (4, .int (iI z8_4))]) dX0_crcInOrder_24 (by decide +kernel) rfl ?_
          refine v_lv [1, 2, 3, 4, 0] rfl ?_
          exact J26 _ z8_3 0 (Nat.le_refl _) ⟨by omega, by omega⟩ ⟨by omega, by omega⟩ ⟨by omega, by omega⟩ ⟨by omega, by omega⟩ (by omega)
  refine v_iload_n B dX0_crcInOrder_0 rfl rfl ?_
  refine v_ldc B (v := iI 16777215) (u_ci (List.mem_of_getElem? (i := 1) rfl) (by decide +kernel)) dX0_crcInOrder_1 ?_
  obtain ⟨z47, e48, r49⟩ := iI_and x2 (c := 16777215) (by decide) (by decide)
  refine v_iand B (v := iI z47) dX0_crcInOrder_3 e48 ?_
  refine v_istore_n B (lv' := [(3, .int (iI z47)), (0, .ref g), (1, .int (iI x1)), (2, .int (iI x2))]) dX0_crcInOrder_4 rfl (by decide +kernel) rfl ?_
  refine v_iconst B (v := iI 4) dX0_crcInOrder_5 rfl ?_
  refine v_istore B (lv' := [(4, .int (iI 4)), (3, .int (iI z47)), (0, .ref g), (1, .int (iI x1)), (2, .int (iI x2))]) dX0_crcInOrder_6 (by decide +kernel) rfl ?_
  refine v_lv [2, 3, 1, 0] rfl ?_
  exact J8 _ z47 4 (Nat.le_refl _) ⟨by omega, by omega⟩ ⟨by omega, by omega⟩
set_option maxRecDepth 100000 in
theorem c_Air_crc (l : Launch) (D : va_G) (K : Nat → ClassId) {τ : Nat → Option Ty} {dom : List Nat} (Z : Sk τ dom) (zb zL : Nat) (zx : Nat → Int32) (zs : Nat → Nat) {π : Nat} (g : Nat) (x1 : Int) (x2 : Int) (t_g : τ g = some (1, π, 0)) (r_x1 : -2147483648 ≤ x1 ∧ x1 ≤ 2147483647) (r_x2 : -2147483648 ≤ x2 ∧ x2 ≤ 2147483647) (σ0 : Nat → va_E) (G0 : Good K τ σ0) : MZ l yX0_crcInOrder wp_Air_crc ({ frames := 0, cells := 0, slots := 0, locals := 0 }) D (tysA K) [.ref g, .int (iI x1), .int (iI x2)] (fd dom σ0) zb zL zx zs (Qi D (fun r σ' => σ0 = σ' ∧ ∃ z : Int, r = iI z ∧ (0 ≤ z ∧ z ≤ 2147483647)) (fun σ' => fd dom σ')) 0 0 := by
  refine mz_of (cc := cX0_crcInOrder) (maxL := 7) (ret := (some .int)) (by decide +kernel) rfl (Nat.le_of_ble_eq_true rfl) ?_
  intro p e s m below meth c A B hr hlk _ hz
  exact b_Air_crc ⟨Nat.le_refl _, Nat.le_refl _⟩ B Z hz g x1 x2 t_g r_x1 r_x2 σ0 G0 (fun z lv pc hZ hd => v_iret B hr hlk σ0 ⟨rfl, z, rfl, hZ⟩ rfl (Nat.le_refl _) (Nat.le_refl _) hd)

def wp_Air_disturb : List Cond := .code yX0_disturb cX0_disturb 5 none :: (([.fieldLink RX0 26 "LowEnergy$Air" "noiseCounts" "[I", .fieldLink RX0 23 "LowEnergy$Air" "noises" "[[I", .methodLink RX0 82 yX9_turn, .instanceMethod yX9_turn, .selects RX9 yX9_turn yX9_turn, .initialized RX9, .code yX9_turn cX9_turn 3 none, .fieldLink RX9 21 "LowEnergy$Row" "size" "I", .fieldLink RX9 15 "LowEnergy$Row" "bytes" "[I"] : List Cond) ++ (wsX00 ++ (wsX90 ++ ([]))))
theorem hi_Air_disturb_X0 : ∀ x ∈ u_ws RX0 TX0 10, x ∈ wp_Air_disturb := fun _ h => List.mem_cons_of_mem _ (List.mem_append_right _ (List.mem_append_left _ h))
theorem hi_Air_disturb_X9 : ∀ x ∈ u_ws RX9 TX9 2, x ∈ wp_Air_disturb := fun _ h => List.mem_cons_of_mem _ (List.mem_append_right _ (List.mem_append_right _ (List.mem_append_left _ h)))
set_option maxRecDepth 100000 in
theorem gd_Air_disturb_Row_turn_82 : GoodIn wp_Air_disturb (wsV RX0 82 RX9 yX9_turn wp_Row_turn) := goodIn_app (goodIn_r _ [3, 4, 5, 6] rfl rfl) (goodIn_ca (goodIn_r _ [7, 8, 9] rfl rfl) (goodIn_app (goodIn_cls hi_Air_disturb_X9 gw_X9) (goodIn_nil)))
set_option maxHeartbeats 4000000 in
set_option maxRecDepth 100000 in
theorem b_Air_disturb {p : Program} {l : Launch} {e : Env} {R : Room} {s : State} {m : MethodId} {args : Array Value} {below : List Frame} {meth : Method} {c : Code} {D : va_G} {K : Nat → ClassId} {A : Nat → Prop} {Q : State → Prop} {τ : Nat → Option Ty} {dom : List Nat} {zb zL : Nat} {zx : Nat → Int32} {zs : Nat → Nat} (hR : 1 ≤ R.frames ∧ 22 ≤ R.locals) (B : Bx p s m args c cX0_disturb 5 RX0 wp_Air_disturb D (tysA K) A) (Z : Sk τ dom) (hz : ZL zb zL zx zs A s s.heap) (h : Nat) (g : Nat) (x2 : Int) (t_h : τ h = some (30, 0, 0)) (t_g : τ g = some (1, 3, 0)) (r_x2 : 0 ≤ x2 ∧ x2 ≤ 1) (σ0 : Nat → va_E) (G0 : Good K τ σ0) (hend : ∀ (σ' : Nat → va_E) (lv : List (Nat × Value)) (pc : Nat), Good K τ σ' → Fr τ [(2, 3), (4, 24)] σ0 σ' → decode cX0_disturb pc = .ok (.return_, 1) → V p l e R s m args below meth c 5 D A Q (0, 0) (fd dom σ') lv pc []) : V p l e R s m args below meth c 5 D A Q (0, 0) (fd dom σ0) [(0, .ref h), (1, .ref g), (2, .int (iI x2))] 0 [] := by
  have F0 : Fr τ [(2, 3), (4, 24)] σ0 σ0 := Fr.rf
  have J49 : ∀ (σ_49 : Nat → va_E), Good K τ σ_49 → Fr τ [(2, 3), (4, 24)] σ0 σ_49 → V p l e R s m args below meth c 5 D A Q (0, 0) (fd dom σ_49) [(0, .ref h), (2, .int (iI x2))] 49 [] := by
    intro σ_49 G_49 F_49
    refine v_aload_n B dX0_disturb_49 rfl rfl ?_
    obtain ⟨a1, a2, a3, a4, a5, a6, a7, z8, z9, z10, h11, t12, t13, t14, t15, t16, t17, t18, r19, r20, r21⟩ : okAir τ (σ_49 h) := G_49 h _ t_h
    refine u_get B Z (C := RX0) (T := TX0) (N := 10) (ci := 0) hi_Air_disturb_X0 t_h h11 rfl 3 (by decide +kernel) (List.mem_of_getElem? (i := 1) rfl) rfl dX0_disturb_50 ?_
    refine v_iload_n B dX0_disturb_53 rfl rfl ?_
    refine v_iconst B (v := iI 0) dX0_disturb_54 rfl ?_
    obtain ⟨f22, h23, r24, e25⟩ : okC K 2 (σ_49 a4) := G_49 a4 _ t15
    refine u_iast B Z (t0 := 0) t15 h23 rfl (by omega) dX0_disturb_55 (fun σ26 h27 n28 => ?_)
    have G29 := G_49.put t15 (⟨_, h27, r24, el_upd e25 (by omega) _⟩ : Ok K τ (4, 24, 2) (σ26 a4)) n28
    have F30 := F_49.put t15 (by simp) n28
    have h31 := (n28 h (ne_ty t_h t15 (by simp))).trans h11
    exact hend σ26 _ _ G29 F30 dX0_disturb_56
  have J2 : ∀ (k2 : Nat) (σ_2 : Nat → va_E) (z2_3 : Int), (2147483648 - z2_3).toNat ≤ k2 → Good K τ σ_2 → Fr τ [(2, 3), (4, 24)] σ0 σ_2 → (0 ≤ z2_3 ∧ z2_3 ≤ 64) → V p l e R s m args below meth c 5 D A Q (0, 0) (fd dom σ_2) [(0, .ref h), (1, .ref g), (2, .int (iI x2)), (3, .int (iI z2_3))] 2 [] := by
    intro k2
    induction k2 with
    | zero => intro σ_2 z2_3 m2 G_2 F_2 r2_3; omega
    | succ k2 IH2 =>
      intro σ_2 z2_3 m2 G_2 F_2 r2_3
      refine v_iload_n B dX0_disturb_2 rfl rfl ?_
      refine v_aload_n B dX0_disturb_3 rfl rfl ?_
      obtain ⟨a32, a33, a34, a35, a36, a37, a38, z39, z40, z41, h42, t43, t44, t45, t46, t47, t48, t49, r50, r51, r52⟩ : okAir τ (σ_2 h) := G_2 h _ t_h
      refine u_get B Z (C := RX0) (T := TX0) (N := 10) (ci := 0) hi_Air_disturb_X0 t_h h42 rfl 3 (by decide +kernel) (List.mem_of_getElem? (i := 1) rfl) rfl dX0_disturb_4 ?_
      refine v_iload_n B dX0_disturb_7 rfl rfl ?_
      obtain ⟨f53, h54, r55, e56⟩ : okC K 2 (σ_2 a35) := G_2 a35 _ t46
      obtain ⟨z57, e58, r59⟩ := e56 (x2 : Int).toNat
      refine u_iald B Z (t0 := 0) t46 h54 rfl (by omega) e58 dX0_disturb_8 ?_
      refine u_icmp_ge B (tgt := 49) (by omega) (by omega) dX0_disturb_9 (by decide +kernel) (fun c60 => ?_) (fun c60 => ?_)
      · refine v_lv [0, 2] rfl ?_
        exact J49 σ_2 G_2 F_2
      · refine v_iload_n B dX0_disturb_12 rfl rfl ?_
        refine v_bipush B (v := iI 64) dX0_disturb_13 (by decide +kernel) ?_
        refine u_icmp_ge B (tgt := 49) (by omega) (by omega) dX0_disturb_15 (by decide +kernel) (fun c61 => by omega) (fun c61 => ?_)
        refine v_aload_n B dX0_disturb_18 rfl rfl ?_
        refine u_get B Z (C := RX0) (T := TX0) (N := 10) (ci := 0) hi_Air_disturb_X0 t_h h42 rfl 2 (by decide +kernel) (List.mem_of_getElem? (i := 2) rfl) rfl dX0_disturb_19 ?_
        refine v_iload_n B dX0_disturb_22 rfl rfl ?_
        obtain ⟨f62, h63, e64⟩ : okII K τ 2 (σ_2 a34) := G_2 a34 _ t45
        obtain ⟨a65, e66, t67⟩ := e64 (x2 : Int).toNat (by omega)
        refine u_aaldA B Z (t0 := 6) (v := .ref a65) t45 h63 rfl (by omega) (by rw [e66]; rfl) dX0_disturb_23 ?_
        refine v_iload_n B dX0_disturb_24 rfl rfl ?_
        obtain ⟨f68, h69, r70⟩ : okP K 64 (σ_2 a65) := G_2 a65 _ t67
        obtain ⟨z71, e72, r73⟩ := iI_any (f68 (z2_3 : Int).toNat)
        refine u_iald B Z (t0 := 0) t67 h69 rfl (by omega) e72 dX0_disturb_25 ?_
        refine v_istore B (lv' := [(4, .int (iI z71)), (0, .ref h), (1, .ref g), (2, .int (iI x2)), (3, .int (iI z2_3))]) dX0_disturb_26 (by decide +kernel) rfl ?_
        refine v_aload_n B dX0_disturb_28 rfl rfl ?_
        refine v_iload B dX0_disturb_29 rfl ?_
        refine v_iconst B (v := iI 3) dX0_disturb_31 rfl ?_
        obtain ⟨z74, e75⟩ : ∃ z : Int, z = z71 / 8 := ⟨_, rfl⟩
        refine v_ishr B (v := iI z74) dX0_disturb_32 ((iI_shr (a := z71) (by omega) 3 (by decide)).trans (congrArg iI (by omega))) ?_
        refine v_iconst B (v := iI 1) dX0_disturb_33 rfl ?_
        refine v_iload B dX0_disturb_34 rfl ?_
        refine v_bipush B (v := iI 7) dX0_disturb_36 (by decide +kernel) ?_
        obtain ⟨z76, e77, r78⟩ := iI_and z71 (c := 7) (by decide) (by decide)
        refine v_iand B (v := iI z76) dX0_disturb_38 e77 ?_
        obtain ⟨z79, e80, r81⟩ := iI_shlv (a := 1) (c := z76) (A := 1) 7 (by decide) (by omega) (by omega)
        refine v_ishl B (v := iI z79) dX0_disturb_39 e80 ?_
        refine u_callVv B Z hz (n := 2) (As := [.int (iI z74), .int (iI z79)]) (rest := []) (c_Row_turn l D K Z _ _ _ _ g z74 z79 t_g ⟨by omega, by omega⟩ ⟨by omega, by omega⟩ σ_2 G_2) gd_Air_disturb_Row_turn_82 rfl rfl rfl (by decide +kernel) ⟨Nat.le_trans (by decide +kernel) hR.1, Nat.le_trans (by decide +kernel) hR.2⟩ t_g (cls_Row G_2 t_g) rfl rfl rfl rfl (Nat.le_of_ble_eq_true rfl) dX0_disturb_40 ⟨Nat.zero_le _, Nat.zero_le _⟩ (fun σ82 p83 => ?_)
        obtain ⟨G85, F86⟩ := p83
        have F87 := F_2.call F86 (by first | rfl | simp)
        have h88 := (F86 h _ t_h (by first | rfl | simp)).trans h42
        have h89 := (F86 a35 _ t46 (by first | rfl | simp)).trans h54
        have h90 := (F86 a34 _ t45 (by first | rfl | simp)).trans h63
        have h91 := (F86 a65 _ t67 (by first | rfl | simp)).trans h69
        refine v_iinc B (k := 4) (v := iI (z2_3 + 1)) (lv' := [(3, .int (iI (z2_3 + 1))), (4, .int (iI z71)), (0, .ref h), (1, .ref g), (2, .int (iI x2))]) dX0_disturb_43 rfl ((iI_add _ _).trans (congrArg iI (by omega))) (by decide +kernel) rfl ?_
        refine v_goto B (tgt := 2) dX0_disturb_46 (by decide +kernel) ?_
        refine v_lv [2, 3, 4, 0] rfl ?_
        exact IH2 σ82 (z2_3 + 1) (by omega) G85 F87 ⟨by omega, by omega⟩
  refine v_iconst B (v := iI 0) dX0_disturb_0 rfl ?_
  refine v_istore_n B (lv' := [(3, .int (iI 0)), (0, .ref h), (1, .ref g), (2, .int (iI x2))]) dX0_disturb_1 rfl (by decide +kernel) rfl ?_
  refine v_lv [1, 2, 3, 0] rfl ?_
  exact J2 _ σ0 0 (Nat.le_refl _) G0 F0 ⟨by omega, by omega⟩
set_option maxRecDepth 100000 in
theorem c_Air_disturb (l : Launch) (D : va_G) (K : Nat → ClassId) {τ : Nat → Option Ty} {dom : List Nat} (Z : Sk τ dom) (zb zL : Nat) (zx : Nat → Int32) (zs : Nat → Nat) (h : Nat) (g : Nat) (x2 : Int) (t_h : τ h = some (30, 0, 0)) (t_g : τ g = some (1, 3, 0)) (r_x2 : 0 ≤ x2 ∧ x2 ≤ 1) (σ0 : Nat → va_E) (G0 : Good K τ σ0) : MZ l yX0_disturb wp_Air_disturb ({ frames := 1, cells := 0, slots := 0, locals := 22 }) D (tysA K) [.ref h, .ref g, .int (iI x2)] (fd dom σ0) zb zL zx zs (Qv D (fun σ' => Good K τ σ' ∧ Fr τ [(2, 3), (4, 24)] σ0 σ') (fun σ' => fd dom σ')) 0 0 := by
  refine mz_of (cc := cX0_disturb) (maxL := 5) (ret := none) (by decide +kernel) rfl (Nat.le_of_ble_eq_true rfl) ?_
  intro p e s m below meth c A B hr hlk _ hz
  exact b_Air_disturb ⟨Nat.le_refl _, Nat.le_refl _⟩ B Z hz h g x2 t_h t_g r_x2 σ0 G0 (fun σ' lv pc G F hd => v_vret B hr hlk σ' ⟨G, F⟩ rfl (Nat.le_refl _) (Nat.le_refl _) hd)

def wp_Air_transmit : List Cond := .code yX0_transmit cX0_transmit 8 none :: (([.fieldLink RX0 78 "LowEnergy$Air" "latestIsLost" "Z", .fieldLink RX0 29 "LowEnergy$Air" "losses" "[I", .fieldLink RX0 42 "LowEnergy$Air" "count" "I", .fieldLink RX0 13 "LowEnergy$Air" "packets" "[LLowEnergy$Row;", .methodLink RX0 53 yX9_clear, .instanceMethod yX9_clear, .selects RX9 yX9_clear yX9_clear, .initialized RX9, .code yX9_clear cX9_clear 1 none, .fieldLink RX9 21 "LowEnergy$Row" "size" "I", .methodLink RX0 56 yX9_putNumber, .instanceMethod yX9_putNumber, .selects RX9 yX9_putNumber yX9_putNumber, .code yX9_putNumber cX9_putNumber 5 none, .fieldLink RX9 15 "LowEnergy$Row" "bytes" "[I", .constantLong RX9 25 (255), .methodLink RX0 60 yX9_put, .instanceMethod yX9_put, .selects RX9 yX9_put yX9_put, .code yX9_put cX9_put 2 none, .methodLink RX0 63 yX9_putPart, .instanceMethod yX9_putPart, .selects RX9 yX9_putPart yX9_putPart, .code yX9_putPart cX9_putPart 6 none, .methodLink RX9 9 Lib.Math.max.name, .static Lib.Math.max.name, .initialized "java/lang/Math", .code Lib.Math.max.name Lib.Math.max.code 2 (some .int), .methodLink RX0 67 yX0_crcInOrder, .static yX0_crcInOrder, .initialized RX0, .code yX0_crcInOrder cX0_crcInOrder 7 (some .int), .constant RX0 100 (16777215), .methodLink RX0 71 yX0_whiten, .static yX0_whiten, .code yX0_whiten cX0_whiten 7 none, .methodLink RX0 75 yX0_disturb, .instanceMethod yX0_disturb, .selects RX0 yX0_disturb yX0_disturb, .code yX0_disturb cX0_disturb 5 none, .fieldLink RX0 26 "LowEnergy$Air" "noiseCounts" "[I", .fieldLink RX0 23 "LowEnergy$Air" "noises" "[[I", .methodLink RX0 82 yX9_turn, .instanceMethod yX9_turn, .selects RX9 yX9_turn yX9_turn, .code yX9_turn cX9_turn 3 none, .fieldLink RX0 17 "LowEnergy$Air" "channels" "[I"] : List Cond) ++ (wsX00 ++ (wsX90 ++ ([]))))
theorem hi_Air_transmit_X0 : ∀ x ∈ u_ws RX0 TX0 10, x ∈ wp_Air_transmit := fun _ h => List.mem_cons_of_mem _ (List.mem_append_right _ (List.mem_append_left _ h))
theorem hi_Air_transmit_X9 : ∀ x ∈ u_ws RX9 TX9 2, x ∈ wp_Air_transmit := fun _ h => List.mem_cons_of_mem _ (List.mem_append_right _ (List.mem_append_right _ (List.mem_append_left _ h)))
set_option maxRecDepth 100000 in
theorem gd_Air_transmit_Row_clear_53 : GoodIn wp_Air_transmit (wsV RX0 53 RX9 yX9_clear wp_Row_clear) := goodIn_app (goodIn_r _ [5, 6, 7, 8] rfl rfl) (goodIn_ca (goodIn_r _ [9, 10] rfl rfl) (goodIn_app (goodIn_cls hi_Air_transmit_X9 gw_X9) (goodIn_nil)))
set_option maxRecDepth 100000 in
theorem gd_Air_transmit_Row_putNumber_56 : GoodIn wp_Air_transmit (wsV RX0 56 RX9 yX9_putNumber wp_Row_putNumber) := goodIn_app (goodIn_r _ [11, 12, 13, 8] rfl rfl) (goodIn_ca (goodIn_r _ [14, 10, 15, 16] rfl rfl) (goodIn_app (goodIn_cls hi_Air_transmit_X9 gw_X9) (goodIn_nil)))
set_option maxRecDepth 100000 in
theorem gd_Air_transmit_Row_put_60 : GoodIn wp_Air_transmit (wsV RX0 60 RX9 yX9_put wp_Row_put) := goodIn_app (goodIn_r _ [17, 18, 19, 8] rfl rfl) (goodIn_ca (goodIn_r _ [20, 10, 15] rfl rfl) (goodIn_app (goodIn_cls hi_Air_transmit_X9 gw_X9) (goodIn_nil)))
set_option maxRecDepth 100000 in
theorem gd_Air_transmit_Row_putPart_63 : GoodIn wp_Air_transmit (wsV RX0 63 RX9 yX9_putPart wp_Row_putPart) := goodIn_app (goodIn_r _ [21, 22, 23, 8] rfl rfl) (goodIn_ca (goodIn_r _ [24, 10, 15, 25, 26, 27, 28] rfl rfl) (goodIn_app (goodIn_cls hi_Air_transmit_X9 gw_X9) (goodIn_nil)))
set_option maxRecDepth 100000 in
theorem gd_Air_transmit_Air_crc_67 : GoodIn wp_Air_transmit (va_wsS RX0 67 yX0_crcInOrder wp_Air_crc) := goodIn_app (goodIn_r _ [29, 30, 31] rfl rfl) (goodIn_ca (goodIn_r _ [32, 33] rfl rfl) (goodIn_app (goodIn_cls hi_Air_transmit_X9 gw_X9) (goodIn_nil)))
set_option maxRecDepth 100000 in
theorem gd_Air_transmit_Air_whiten_71 : GoodIn wp_Air_transmit (va_wsS RX0 71 yX0_whiten wp_Air_whiten) := goodIn_app (goodIn_r _ [34, 35, 31] rfl rfl) (goodIn_ca (goodIn_r _ [36] rfl rfl) (goodIn_app (goodIn_cls hi_Air_transmit_X9 gw_X9) (goodIn_nil)))
set_option maxRecDepth 100000 in
theorem gd_Air_transmit_Air_disturb_75 : GoodIn wp_Air_transmit (wsV RX0 75 RX0 yX0_disturb wp_Air_disturb) := goodIn_app (goodIn_r _ [37, 38, 39, 31] rfl rfl) (goodIn_ca (goodIn_r _ [40, 41, 42, 43, 44, 45, 8, 46, 10, 15] rfl rfl) (goodIn_app (goodIn_cls hi_Air_transmit_X0 gw_X0) (goodIn_app (goodIn_cls hi_Air_transmit_X9 gw_X9) (goodIn_nil))))
set_option maxHeartbeats 4000000 in
set_option maxRecDepth 100000 in
theorem b_Air_transmit {p : Program} {l : Launch} {e : Env} {R : Room} {s : State} {m : MethodId} {args : Array Value} {below : List Frame} {meth : Method} {c : Code} {D : va_G} {K : Nat → ClassId} {A : Nat → Prop} {Q : State → Prop} {τ : Nat → Option Ty} {dom : List Nat} {zb zL : Nat} {zx : Nat → Int32} {zs : Nat → Nat} {π : Nat} (hR : 2 ≤ R.frames ∧ 46 ≤ R.locals) (B : Bx p s m args c cX0_transmit 8 RX0 wp_Air_transmit D (tysA K) A) (Z : Sk τ dom) (hz : ZL zb zL zx zs A s s.heap) (h : Nat) (x1 : Int) (x2 : Int) (x3 : Int) (x4 : Int) (x5 : Int) (g : Nat) (t_h : τ h = some (30, 0, 0)) (r_x1 : -2147483648 ≤ x1 ∧ x1 ≤ 2147483647) (r_x2 : -2147483648 ≤ x2 ∧ x2 ≤ 2147483647) (r_x3 : -2147483648 ≤ x3 ∧ x3 ≤ 2147483647) (r_x4 : -2147483648 ≤ x4 ∧ x4 ≤ 2147483647) (r_x5 : -2147483648 ≤ x5 ∧ x5 ≤ 2147483647) (t_g : τ g = some (1, π, 0)) (σ0 : Nat → va_E) (G0 : Good K τ σ0) (hend : ∀ (σ' : Nat → va_E) (lv : List (Nat × Value)) (pc : Nat), Good K τ σ' → Fr τ [(1, 3), (2, 3), (4, 24), (3, 20), (30, 0), (3, 25)] σ0 σ' → decode cX0_transmit pc = .ok (.return_, 1) → V p l e R s m args below meth c 8 D A Q (0, 0) (fd dom σ') lv pc []) : V p l e R s m args below meth c 8 D A Q (0, 0) (fd dom σ0) [(0, .ref h), (1, .int (iI x1)), (2, .int (iI x2)), (3, .int (iI x3)), (4, .int (iI x4)), (5, .int (iI x5)), (6, .ref g)] 0 [] := by
  have F0 : Fr τ [(1, 3), (2, 3), (4, 24), (3, 20), (30, 0), (3, 25)] σ0 σ0 := Fr.rf
  have J143 : ∀ (σ_143 : Nat → va_E) (z143_s0 : Int), Good K τ σ_143 → Fr τ [(1, 3), (2, 3), (4, 24), (3, 20), (30, 0), (3, 25)] σ0 σ_143 → (0 ≤ x1 ∧ x1 ≤ 1) → (0 ≤ z143_s0 ∧ z143_s0 ≤ 1) → V p l e R s m args below meth c 8 D A Q (0, 0) (fd dom σ_143) [(0, .ref h), (1, .int (iI x1))] 143 [.int (iI z143_s0), .ref h] := by
    intro σ_143 z143_s0 G_143 F_143 r143_1 r143_s0
    obtain ⟨a1, a2, a3, a4, a5, a6, a7, z8, z9, z10, h11, t12, t13, t14, t15, t16, t17, t18, r19, r20, r21⟩ : okAir τ (σ_143 h) := G_143 h _ t_h
    refine u_put B Z (C := RX0) (T := TX0) (N := 10) (ci := 0) hi_Air_transmit_X0 t_h h11 rfl 9 (by decide +kernel) tyX0 tyX0_ok nmX0 (List.mem_of_getElem? (i := 1) rfl) rfl (ty := .boolean) (tyX0_ok 9 (by decide +kernel)) (nar01 (by omega)) (fit01 (by omega)) (Nat.le_of_ble_eq_true rfl) (fs' := [.ref a1, .ref a2, .ref a3, .ref a4, .ref a5, .ref a6, .ref a7, .int (iI z8), .int (iI z9), .int (iI z143_s0)]) rfl dX0_transmit_143 (fun σ22 h23 n24 => ?_)
    have G25 := G_143.put t_h (⟨a1, a2, a3, a4, a5, a6, a7, z8, z9, z143_s0, h23, t12, t13, t14, t15, t16, t17, t18, ⟨by omega, by omega⟩, ⟨by omega, by omega⟩, ⟨by omega, by omega⟩⟩ : Ok K τ (30, 0, 0) (σ22 h)) n24
    have F26 := F_143.put t_h (by simp) n24
    refine v_aload_n B dX0_transmit_146 rfl rfl ?_
    refine u_get B Z (C := RX0) (T := TX0) (N := 10) (ci := 0) hi_Air_transmit_X0 t_h h23 rfl 9 (by decide +kernel) (List.mem_of_getElem? (i := 1) rfl) rfl dX0_transmit_147 ?_
    refine u_if_eq B (tgt := 163) (by omega) dX0_transmit_150 (by decide +kernel) (fun c27 => ?_) (fun c27 => ?_)
    · exact hend σ22 _ _ G25 F26 dX0_transmit_163
    · refine v_aload_n B dX0_transmit_153 rfl rfl ?_
      refine u_get B Z (C := RX0) (T := TX0) (N := 10) (ci := 0) hi_Air_transmit_X0 t_h h23 rfl 4 (by decide +kernel) (List.mem_of_getElem? (i := 2) rfl) rfl dX0_transmit_154 ?_
      refine v_iload_n B dX0_transmit_157 rfl rfl ?_
      refine v_dup2 B dX0_transmit_158 rfl rfl ?_
      obtain ⟨f28, h29, r30⟩ : okP K 2 (σ22 a5) := G25 a5 _ t16
      obtain ⟨z31, e32, r33⟩ := iI_any (f28 (x1 : Int).toNat)
      refine u_iald B Z (t0 := 0) t16 h29 rfl (by omega) e32 dX0_transmit_159 ?_
      refine v_iconst B (v := iI 1) dX0_transmit_160 rfl ?_
      obtain ⟨z34, e35, r36⟩ := iI_any (iI z31 - iI 1)
      refine v_isub B (v := iI z34) dX0_transmit_161 e35 ?_
      refine u_iast B Z (t0 := 0) t16 h29 rfl (by omega) dX0_transmit_162 (fun σ37 h38 n39 => ?_)
      have G40 := G25.put t16 (⟨_, h38, r30⟩ : Ok K τ (3, 25, 2) (σ37 a5)) n39
      have F41 := F26.put t16 (by simp) n39
      have h42 := (n39 h (ne_ty t_h t16 (by simp))).trans h23
      exact hend σ37 _ _ G40 F41 dX0_transmit_163
  refine v_iload_n B dX0_transmit_0 rfl rfl ?_
  refine u_if_lt B (tgt := 21) (by omega) dX0_transmit_1 (by decide +kernel) (fun c43 => ?_) (fun c43 => ?_)
  · exact hend σ0 _ _ G0 F0 dX0_transmit_21
  · refine v_iload_n B dX0_transmit_4 rfl rfl ?_
    refine v_iconst B (v := iI 1) dX0_transmit_5 rfl ?_
    refine u_icmp_gt B (tgt := 21) (by omega) (by omega) dX0_transmit_6 (by decide +kernel) (fun c44 => ?_) (fun c44 => ?_)
    · exact hend σ0 _ _ G0 F0 dX0_transmit_21
    · refine v_aload_n B dX0_transmit_9 rfl rfl ?_
      obtain ⟨a45, a46, a47, a48, a49, a50, a51, z52, z53, z54, h55, t56, t57, t58, t59, t60, t61, t62, r63, r64, r65⟩ : okAir τ (σ0 h) := G0 h _ t_h
      refine u_get B Z (C := RX0) (T := TX0) (N := 10) (ci := 0) hi_Air_transmit_X0 t_h h55 rfl 8 (by decide +kernel) (List.mem_of_getElem? (i := 3) rfl) rfl dX0_transmit_10 ?_
      refine v_aload_n B dX0_transmit_13 rfl rfl ?_
      refine u_get B Z (C := RX0) (T := TX0) (N := 10) (ci := 0) hi_Air_transmit_X0 t_h h55 rfl 0 (by decide +kernel) (List.mem_of_getElem? (i := 4) rfl) rfl dX0_transmit_14 ?_
      obtain ⟨f66, h67, e68⟩ : okRA K τ 3 8 (σ0 a45) := G0 a45 _ t56
      refine u_alen B Z (t0 := 4) (v := 8) t56 h67 rfl (by first | rfl | omega) dX0_transmit_17 ?_
      refine u_icmp_lt B (tgt := 22) (by omega) (by omega) dX0_transmit_18 (by decide +kernel) (fun c69 => ?_) (fun c69 => ?_)
      · refine v_aload_n B dX0_transmit_22 rfl rfl ?_
        refine u_get B Z (C := RX0) (T := TX0) (N := 10) (ci := 0) hi_Air_transmit_X0 t_h h55 rfl 0 (by decide +kernel) (List.mem_of_getElem? (i := 4) rfl) rfl dX0_transmit_23 ?_
        refine v_aload_n B dX0_transmit_26 rfl rfl ?_
        refine u_get B Z (C := RX0) (T := TX0) (N := 10) (ci := 0) hi_Air_transmit_X0 t_h h55 rfl 8 (by decide +kernel) (List.mem_of_getElem? (i := 3) rfl) rfl dX0_transmit_27 ?_
        obtain ⟨a70, e71, t72⟩ := e68 (z53 : Int).toNat (by omega)
        refine u_aald B Z (t0 := 4) (v := .ref a70) t56 h67 rfl (by omega) (by rw [e71]; rfl) dX0_transmit_30 ?_
        refine v_astore B (lv' := [(7, .ref a70), (0, .ref h), (1, .int (iI x1)), (2, .int (iI x2)), (3, .int (iI x3)), (4, .int (iI x4)), (5, .int (iI x5)), (6, .ref g)]) dX0_transmit_31 (by decide +kernel) rfl ?_
        refine v_aload B dX0_transmit_33 rfl ?_
        refine u_callVv B Z hz (n := 0) (As := []) (rest := []) (c_Row_clear l D K Z _ _ _ _ a70 t72 σ0 G0) gd_Air_transmit_Row_clear_53 rfl rfl rfl (by decide +kernel) ⟨Nat.le_trans (by decide +kernel) hR.1, Nat.le_trans (by decide +kernel) hR.2⟩ t72 (cls_Row G0 t72) rfl rfl rfl rfl (Nat.le_of_ble_eq_true rfl) dX0_transmit_35 ⟨Nat.zero_le _, Nat.zero_le _⟩ (fun σ73 p74 => ?_)
        obtain ⟨G76, F77⟩ := p74
        have F78 := F0.call F77 (by first | rfl | simp)
        have h79 := (F77 h _ t_h (by first | rfl | simp)).trans h55
        have h80 := (F77 a45 _ t56 (by first | rfl | simp)).trans h67
        refine v_aload B dX0_transmit_38 rfl ?_
        refine v_iload_n B dX0_transmit_40 rfl rfl ?_
        refine v_i2l B (v := lI x3) dX0_transmit_41 (lI_i (by omega)) ?_
        refine v_iconst B (v := iI 4) dX0_transmit_42 rfl ?_
        refine u_callVv B Z hz (n := 2) (As := [.long (lI x3), .int (iI 4)]) (rest := []) (c_Row_putNumber l D K Z _ _ _ _ a70 x3 4 t72 ⟨by omega, by omega⟩ ⟨by omega, by omega⟩ σ73 G76) gd_Air_transmit_Row_putNumber_56 rfl rfl rfl (by decide +kernel) ⟨Nat.le_trans (by decide +kernel) hR.1, Nat.le_trans (by decide +kernel) hR.2⟩ t72 (cls_Row G76 t72) rfl rfl rfl rfl (Nat.le_of_ble_eq_true rfl) dX0_transmit_43 ⟨Nat.zero_le _, Nat.zero_le _⟩ (fun σ81 p82 => ?_)
        obtain ⟨G84, F85⟩ := p82
        have F86 := F78.call F85 (by first | rfl | simp)
        have h87 := (F85 h _ t_h (by first | rfl | simp)).trans h79
        have h88 := (F85 a45 _ t56 (by first | rfl | simp)).trans h80
        refine v_aload B dX0_transmit_46 rfl ?_
        refine v_iload B dX0_transmit_48 rfl ?_
        refine u_callVv B Z hz (n := 1) (As := [.int (iI x5)]) (rest := []) (c_Row_put l D K Z _ _ _ _ a70 x5 t72 ⟨by omega, by omega⟩ σ81 G84) gd_Air_transmit_Row_put_60 rfl rfl rfl (by decide +kernel) ⟨Nat.le_trans (by decide +kernel) hR.1, Nat.le_trans (by decide +kernel) hR.2⟩ t72 (cls_Row G84 t72) rfl rfl rfl rfl (Nat.le_of_ble_eq_true rfl) dX0_transmit_50 ⟨Nat.zero_le _, Nat.zero_le _⟩ (fun σ89 p90 => ?_)
        obtain ⟨G92, F93⟩ := p90
        have F94 := F86.call F93 (by first | rfl | simp)
        have h95 := (F93 h _ t_h (by first | rfl | simp)).trans h87
        have h96 := (F93 a45 _ t56 (by first | rfl | simp)).trans h88
        refine v_aload B dX0_transmit_53 rfl ?_
        refine v_aload B dX0_transmit_55 rfl ?_
        obtain ⟨b97, N98, n99, h100, t101, r102⟩ : okRow τ π (σ89 g) := G92 g _ t_g
        refine u_getN B Z (C := RX9) (T := TX9) (N := 2) (ci := 9) hi_Air_transmit_X9 t_g h100 rfl 1 (by decide +kernel) (List.mem_of_getElem? (i := 71) rfl) rfl dX0_transmit_57 ?_
        refine u_callVv B Z hz (n := 1) (As := [.int (iI n99)]) (rest := []) (c_Row_put l D K Z _ _ _ _ a70 n99 t72 ⟨by omega, by omega⟩ σ89 G92) gd_Air_transmit_Row_put_60 rfl rfl rfl (by decide +kernel) ⟨Nat.le_trans (by decide +kernel) hR.1, Nat.le_trans (by decide +kernel) hR.2⟩ t72 (cls_Row G92 t72) rfl rfl rfl rfl (Nat.le_of_ble_eq_true rfl) dX0_transmit_60 ⟨Nat.zero_le _, Nat.zero_le _⟩ (fun σ103 p104 => ?_)
        obtain ⟨G106, F107⟩ := p104
        have F108 := F94.call F107 (by first | rfl | simp)
        have h109 := (F107 h _ t_h (by first | rfl | simp)).trans h95
        have h110 := (F107 a45 _ t56 (by first | rfl | simp)).trans h96
        refine v_aload B dX0_transmit_63 rfl ?_
        refine v_aload B dX0_transmit_65 rfl ?_
        refine v_iconst B (v := iI 0) dX0_transmit_67 rfl ?_
        refine v_aload B dX0_transmit_68 rfl ?_
        obtain ⟨b111, N112, n113, h114, t115, r116⟩ : okRow τ π (σ103 g) := G106 g _ t_g
        refine u_getN B Z (C := RX9) (T := TX9) (N := 2) (ci := 9) hi_Air_transmit_X9 t_g h114 rfl 1 (by decide +kernel) (List.mem_of_getElem? (i := 71) rfl) rfl dX0_transmit_70 ?_
        refine u_callVv B Z hz (n := 3) (As := [.ref g, .int (iI 0), .int (iI n113)]) (rest := []) (c_Row_putPart l D K Z _ _ _ _ a70 g 0 n113 t72 t_g ⟨by omega, by omega⟩ ⟨by omega, by omega⟩ σ103 G106) gd_Air_transmit_Row_putPart_63 rfl rfl rfl (by decide +kernel) ⟨Nat.le_trans (by decide +kernel) hR.1, Nat.le_trans (by decide +kernel) hR.2⟩ t72 (cls_Row G106 t72) rfl rfl rfl rfl (Nat.le_of_ble_eq_true rfl) dX0_transmit_73 ⟨Nat.zero_le _, Nat.zero_le _⟩ (fun σ117 p118 => ?_)
        obtain ⟨G120, F121⟩ := p118
        have F122 := F108.call F121 (by first | rfl | simp)
        have h123 := (F121 h _ t_h (by first | rfl | simp)).trans h109
        have h124 := (F121 a45 _ t56 (by first | rfl | simp)).trans h110
        refine v_aload B dX0_transmit_76 rfl ?_
        refine v_aload B dX0_transmit_78 rfl ?_
        refine v_aload B dX0_transmit_80 rfl ?_
        obtain ⟨b125, N126, n127, h128, t129, r130⟩ : okRow τ 3 (σ117 a70) := G120 a70 _ t72
        refine u_getN B Z (C := RX9) (T := TX9) (N := 2) (ci := 9) hi_Air_transmit_X9 t72 h128 rfl 1 (by decide +kernel) (List.mem_of_getElem? (i := 71) rfl) rfl dX0_transmit_82 ?_
        refine v_iload B dX0_transmit_85 rfl ?_
        refine u_callSi B Z hz (n := 3) (As := [.ref a70, .int (iI n127), .int (iI x4)]) (rest := [.ref a70]) (c_Air_crc l D K Z _ _ _ _ a70 n127 x4 t72 ⟨by omega, by omega⟩ ⟨by omega, by omega⟩ σ117 G120) gd_Air_transmit_Air_crc_67 rfl rfl rfl (by decide +kernel) ⟨Nat.le_trans (by decide +kernel) hR.1, Nat.le_trans (by decide +kernel) hR.2⟩ rfl rfl (Nat.le_of_ble_eq_true rfl) dX0_transmit_87 ⟨Nat.zero_le _, Nat.zero_le _⟩ (fun v133 σ131 p132 => ?_)
        obtain ⟨rfl, z137, e138, r139⟩ := p132
        subst e138
        refine v_i2l B (v := lI z137) dX0_transmit_90 (lI_i (by omega)) ?_
        refine v_iconst B (v := iI 3) dX0_transmit_91 rfl ?_
        refine u_callVv B Z hz (n := 2) (As := [.long (lI z137), .int (iI 3)]) (rest := []) (c_Row_putNumber l D K Z _ _ _ _ a70 z137 3 t72 ⟨by omega, by omega⟩ ⟨by omega, by omega⟩ σ117 G120) gd_Air_transmit_Row_putNumber_56 rfl rfl rfl (by decide +kernel) ⟨Nat.le_trans (by decide +kernel) hR.1, Nat.le_trans (by decide +kernel) hR.2⟩ t72 (cls_Row G120 t72) rfl rfl rfl rfl (Nat.le_of_ble_eq_true rfl) dX0_transmit_92 ⟨Nat.zero_le _, Nat.zero_le _⟩ (fun σ140 p141 => ?_)
        obtain ⟨G143, F144⟩ := p141
        have F145 := F122.call F144 (by first | rfl | simp)
        have h146 := (F144 h _ t_h (by first | rfl | simp)).trans h123
        have h147 := (F144 a45 _ t56 (by first | rfl | simp)).trans h124
        refine v_aload B dX0_transmit_95 rfl ?_
        refine v_iload_n B dX0_transmit_97 rfl rfl ?_
        refine u_callSv B Z hz (n := 2) (As := [.ref a70, .int (iI x2)]) (rest := []) (c_Air_whiten l D K Z _ _ _ _ a70 x2 t72 ⟨by omega, by omega⟩ σ140 G143) gd_Air_transmit_Air_whiten_71 rfl rfl rfl (by decide +kernel) ⟨Nat.le_trans (by decide +kernel) hR.1, Nat.le_trans (by decide +kernel) hR.2⟩ rfl rfl (Nat.le_of_ble_eq_true rfl) dX0_transmit_98 ⟨Nat.zero_le _, Nat.zero_le _⟩ (fun σ148 p149 => ?_)
        obtain ⟨G151, F152⟩ := p149
        have F153 := F145.call F152 (by first | rfl | simp)
        have h154 := (F152 h _ t_h (by first | rfl | simp)).trans h146
        have h155 := (F152 a45 _ t56 (by first | rfl | simp)).trans h147
        refine v_aload_n B dX0_transmit_101 rfl rfl ?_
        refine v_aload B dX0_transmit_102 rfl ?_
        refine v_iload_n B dX0_transmit_104 rfl rfl ?_
        refine u_callVv B Z hz (n := 2) (As := [.ref a70, .int (iI x1)]) (rest := []) (c_Air_disturb l D K Z _ _ _ _ h a70 x1 t_h t72 ⟨by omega, by omega⟩ σ148 G151) gd_Air_transmit_Air_disturb_75 rfl rfl rfl (by decide +kernel) ⟨Nat.le_trans (by decide +kernel) hR.1, Nat.le_trans (by decide +kernel) hR.2⟩ t_h (cls_Air G151 t_h) rfl rfl rfl rfl (Nat.le_of_ble_eq_true rfl) dX0_transmit_105 ⟨Nat.zero_le _, Nat.zero_le _⟩ (fun σ156 p157 => ?_)
        obtain ⟨G159, F160⟩ := p157
        have F161 := F153.call F160 (by first | rfl | simp)
        have h162 := (F160 h _ t_h (by first | rfl | simp)).trans h154
        have h163 := (F160 a45 _ t56 (by first | rfl | simp)).trans h155
        refine v_aload_n B dX0_transmit_108 rfl rfl ?_
        refine u_get B Z (C := RX0) (T := TX0) (N := 10) (ci := 0) hi_Air_transmit_X0 t_h h162 rfl 1 (by decide +kernel) (List.mem_of_getElem? (i := 47) rfl) rfl dX0_transmit_109 ?_
        refine v_aload_n B dX0_transmit_112 rfl rfl ?_
        refine u_get B Z (C := RX0) (T := TX0) (N := 10) (ci := 0) hi_Air_transmit_X0 t_h h162 rfl 8 (by decide +kernel) (List.mem_of_getElem? (i := 3) rfl) rfl dX0_transmit_113 ?_
        refine v_iload_n B dX0_transmit_116 rfl rfl ?_
        obtain ⟨f164, h165, r166⟩ : okP K 8 (σ156 a46) := G159 a46 _ t57
        refine u_iast B Z (t0 := 0) t57 h165 rfl (by omega) dX0_transmit_117 (fun σ167 h168 n169 => ?_)
        have G170 := G159.put t57 (⟨_, h168, r166⟩ : Ok K τ (3, 20, 8) (σ167 a46)) n169
        have F171 := F161.put t57 (by simp) n169
        have h172 := (n169 h (ne_ty t_h t57 (by simp))).trans h162
        have h173 := (n169 a45 (ne_ty t56 t57 (by simp))).trans h163
        refine v_aload_n B dX0_transmit_118 rfl rfl ?_
        refine v_dup B dX0_transmit_119 rfl ?_
        refine u_get B Z (C := RX0) (T := TX0) (N := 10) (ci := 0) hi_Air_transmit_X0 t_h h172 rfl 8 (by decide +kernel) (List.mem_of_getElem? (i := 3) rfl) rfl dX0_transmit_120 ?_
        refine v_iconst B (v := iI 1) dX0_transmit_123 rfl ?_
        refine v_iadd B (v := iI (z53 + 1)) dX0_transmit_124 ((iI_add _ _).trans (congrArg iI (by omega))) ?_
        refine u_put B Z (C := RX0) (T := TX0) (N := 10) (ci := 0) hi_Air_transmit_X0 t_h h172 rfl 8 (by decide +kernel) tyX0 tyX0_ok nmX0 (List.mem_of_getElem? (i := 3) rfl) rfl (ty := .int) (tyX0_ok 8 (by decide +kernel)) rfl rfl (Nat.le_of_ble_eq_true rfl) (fs' := [.ref a45, .ref a46, .ref a47, .ref a48, .ref a49, .ref a50, .ref a51, .int (iI z52), .int (iI (z53 + 1)), .int (iI z54)]) rfl dX0_transmit_125 (fun σ174 h175 n176 => ?_)
        have G177 := G170.put t_h (⟨a45, a46, a47, a48, a49, a50, a51, z52, (z53 + 1), z54, h175, t56, t57, t58, t59, t60, t61, t62, ⟨by omega, by omega⟩, ⟨by omega, by omega⟩, ⟨by omega, by omega⟩⟩ : Ok K τ (30, 0, 0) (σ174 h)) n176
        have F178 := F171.put t_h (by simp) n176
        have h179 := (n176 a45 (ne_ty t56 t_h (by simp))).trans h173
        refine v_aload_n B dX0_transmit_128 rfl rfl ?_
        refine v_aload_n B dX0_transmit_129 rfl rfl ?_
        refine u_get B Z (C := RX0) (T := TX0) (N := 10) (ci := 0) hi_Air_transmit_X0 t_h h175 rfl 4 (by decide +kernel) (List.mem_of_getElem? (i := 2) rfl) rfl dX0_transmit_130 ?_
        refine v_iload_n B dX0_transmit_133 rfl rfl ?_
        obtain ⟨f180, h181, r182⟩ : okP K 2 (σ174 a49) := G177 a49 _ t60
        obtain ⟨z183, e184, r185⟩ := iI_any (f180 (x1 : Int).toNat)
        refine u_iald B Z (t0 := 0) t60 h181 rfl (by omega) e184 dX0_transmit_134 ?_
        refine u_if_le B (tgt := 142) (by omega) dX0_transmit_135 (by decide +kernel) (fun c186 => ?_) (fun c186 => ?_)
        · refine v_iconst B (v := iI 0) dX0_transmit_142 rfl ?_
          refine v_lv [1, 2] rfl ?_
          exact J143 σ174 0 G177 F178 ⟨by omega, by omega⟩ ⟨by omega, by omega⟩
        · refine v_iconst B (v := iI 1) dX0_transmit_138 rfl ?_
          refine v_goto B (tgt := 143) dX0_transmit_139 (by decide +kernel) ?_
          refine v_lv [1, 2] rfl ?_
          exact J143 σ174 1 G177 F178 ⟨by omega, by omega⟩ ⟨by omega, by omega⟩
      · exact hend σ0 _ _ G0 F0 dX0_transmit_21
set_option maxRecDepth 100000 in
theorem c_Air_transmit (l : Launch) (D : va_G) (K : Nat → ClassId) {τ : Nat → Option Ty} {dom : List Nat} (Z : Sk τ dom) (zb zL : Nat) (zx : Nat → Int32) (zs : Nat → Nat) {π : Nat} (h : Nat) (x1 : Int) (x2 : Int) (x3 : Int) (x4 : Int) (x5 : Int) (g : Nat) (t_h : τ h = some (30, 0, 0)) (r_x1 : -2147483648 ≤ x1 ∧ x1 ≤ 2147483647) (r_x2 : -2147483648 ≤ x2 ∧ x2 ≤ 2147483647) (r_x3 : -2147483648 ≤ x3 ∧ x3 ≤ 2147483647) (r_x4 : -2147483648 ≤ x4 ∧ x4 ≤ 2147483647) (r_x5 : -2147483648 ≤ x5 ∧ x5 ≤ 2147483647) (t_g : τ g = some (1, π, 0)) (σ0 : Nat → va_E) (G0 : Good K τ σ0) : MZ l yX0_transmit wp_Air_transmit ({ frames := 2, cells := 0, slots := 0, locals := 46 }) D (tysA K) [.ref h, .int (iI x1), .int (iI x2), .int (iI x3), .int (iI x4), .int (iI x5), .ref g] (fd dom σ0) zb zL zx zs (Qv D (fun σ' => Good K τ σ' ∧ Fr τ [(1, 3), (2, 3), (4, 24), (3, 20), (30, 0), (3, 25)] σ0 σ') (fun σ' => fd dom σ')) 0 0 := by
  refine mz_of (cc := cX0_transmit) (maxL := 8) (ret := none) (by decide +kernel) rfl (Nat.le_of_ble_eq_true rfl) ?_
  intro p e s m below meth c A B hr hlk _ hz
  exact b_Air_transmit ⟨Nat.le_refl _, Nat.le_refl _⟩ B Z hz h x1 x2 x3 x4 x5 g t_h r_x1 r_x2 r_x3 r_x4 r_x5 t_g σ0 G0 (fun σ' lv pc G F hd => v_vret B hr hlk σ' ⟨G, F⟩ rfl (Nat.le_refl _) (Nat.le_refl _) hd)

def wp_Air_isHeard : List Cond := .code yX0_isHeard cX0_isHeard 4 (some .boolean) :: (([.fieldLink RX0 42 "LowEnergy$Air" "count" "I", .fieldLink RX0 13 "LowEnergy$Air" "packets" "[LLowEnergy$Row;", .fieldLink RX0 78 "LowEnergy$Air" "latestIsLost" "Z", .fieldLink RX0 17 "LowEnergy$Air" "channels" "[I", .methodLink RX0 86 yX9_numberAt, .instanceMethod yX9_numberAt, .selects RX9 yX9_numberAt yX9_numberAt, .initialized RX9, .code yX9_numberAt cX9_numberAt 7 (some .long), .fieldLink RX9 21 "LowEnergy$Row" "size" "I", .fieldLink RX9 15 "LowEnergy$Row" "bytes" "[I"] : List Cond) ++ (wsX00 ++ (wsX90 ++ ([]))))
theorem hi_Air_isHeard_X0 : ∀ x ∈ u_ws RX0 TX0 10, x ∈ wp_Air_isHeard := fun _ h => List.mem_cons_of_mem _ (List.mem_append_right _ (List.mem_append_left _ h))
theorem hi_Air_isHeard_X9 : ∀ x ∈ u_ws RX9 TX9 2, x ∈ wp_Air_isHeard := fun _ h => List.mem_cons_of_mem _ (List.mem_append_right _ (List.mem_append_right _ (List.mem_append_left _ h)))
set_option maxRecDepth 100000 in
theorem gd_Air_isHeard_Row_numberAt_86 : GoodIn wp_Air_isHeard (wsV RX0 86 RX9 yX9_numberAt wp_Row_numberAt) := goodIn_app (goodIn_r _ [5, 6, 7, 8] rfl rfl) (goodIn_ca (goodIn_r _ [9, 10, 11] rfl rfl) (goodIn_app (goodIn_cls hi_Air_isHeard_X9 gw_X9) (goodIn_nil)))
set_option maxHeartbeats 4000000 in
set_option maxRecDepth 100000 in
theorem b_Air_isHeard {p : Program} {l : Launch} {e : Env} {R : Room} {s : State} {m : MethodId} {args : Array Value} {below : List Frame} {meth : Method} {c : Code} {D : va_G} {K : Nat → ClassId} {A : Nat → Prop} {Q : State → Prop} {τ : Nat → Option Ty} {dom : List Nat} {zb zL : Nat} {zx : Nat → Int32} {zs : Nat → Nat} (hR : 1 ≤ R.frames ∧ 26 ≤ R.locals) (B : Bx p s m args c cX0_isHeard 4 RX0 wp_Air_isHeard D (tysA K) A) (Z : Sk τ dom) (hz : ZL zb zL zx zs A s s.heap) (h : Nat) (x1 : Int) (x2 : Int) (t_h : τ h = some (30, 0, 0)) (r_x1 : -2147483648 ≤ x1 ∧ x1 ≤ 2147483647) (r_x2 : -2147483648 ≤ x2 ∧ x2 ≤ 2147483647) (σ0 : Nat → va_E) (G0 : Good K τ σ0) (hend : ∀ (z : Int) (lv : List (Nat × Value)) (pc : Nat), (0 ≤ z ∧ z ≤ 1) → decode cX0_isHeard pc = .ok (.ireturn, 1) → V p l e R s m args below meth c 4 D A Q (0, 0) (fd dom σ0) lv pc [.int (iI z)]) : V p l e R s m args below meth c 4 D A Q (0, 0) (fd dom σ0) [(0, .ref h), (1, .int (iI x1)), (2, .int (iI x2))] 0 [] := by
  have F0 : Fr τ [] σ0 σ0 := Fr.rf
  refine v_aload_n B dX0_isHeard_0 rfl rfl ?_
  obtain ⟨a1, a2, a3, a4, a5, a6, a7, z8, z9, z10, h11, t12, t13, t14, t15, t16, t17, t18, r19, r20, r21⟩ : okAir τ (σ0 h) := G0 h _ t_h
  refine u_get B Z (C := RX0) (T := TX0) (N := 10) (ci := 0) hi_Air_isHeard_X0 t_h h11 rfl 8 (by decide +kernel) (List.mem_of_getElem? (i := 1) rfl) rfl dX0_isHeard_1 ?_
  refine v_iconst B (v := iI 1) dX0_isHeard_4 rfl ?_
  refine v_isub B (v := iI (z9 + (-1))) dX0_isHeard_5 ((iI_sub _ _).trans (congrArg iI (by omega))) ?_
  refine v_istore_n B (lv' := [(3, .int (iI (z9 + (-1)))), (0, .ref h), (1, .int (iI x1)), (2, .int (iI x2))]) dX0_isHeard_6 rfl (by decide +kernel) rfl ?_
  refine v_iload_n B dX0_isHeard_7 rfl rfl ?_
  refine u_if_lt B (tgt := 57) (by omega) dX0_isHeard_8 (by decide +kernel) (fun c22 => ?_) (fun c22 => ?_)
  · refine v_iconst B (v := iI 0) dX0_isHeard_57 rfl ?_
    exact hend 0 _ _ ⟨by omega, by omega⟩ dX0_isHeard_58
  · refine v_iload_n B dX0_isHeard_11 rfl rfl ?_
    refine v_aload_n B dX0_isHeard_12 rfl rfl ?_
    refine u_get B Z (C := RX0) (T := TX0) (N := 10) (ci := 0) hi_Air_isHeard_X0 t_h h11 rfl 0 (by decide +kernel) (List.mem_of_getElem? (i := 2) rfl) rfl dX0_isHeard_13 ?_
    obtain ⟨f23, h24, e25⟩ : okRA K τ 3 8 (σ0 a1) := G0 a1 _ t12
    refine u_alen B Z (t0 := 4) (v := 8) t12 h24 rfl (by first | rfl | omega) dX0_isHeard_16 ?_
    refine u_icmp_ge B (tgt := 57) (by omega) (by omega) dX0_isHeard_17 (by decide +kernel) (fun c26 => by omega) (fun c26 => ?_)
    refine v_aload_n B dX0_isHeard_20 rfl rfl ?_
    refine u_get B Z (C := RX0) (T := TX0) (N := 10) (ci := 0) hi_Air_isHeard_X0 t_h h11 rfl 9 (by decide +kernel) (List.mem_of_getElem? (i := 3) rfl) rfl dX0_isHeard_21 ?_
    refine u_if_ne B (tgt := 57) (by omega) dX0_isHeard_24 (by decide +kernel) (fun c27 => ?_) (fun c27 => ?_)
    · refine v_iconst B (v := iI 0) dX0_isHeard_57 rfl ?_
      exact hend 0 _ _ ⟨by omega, by omega⟩ dX0_isHeard_58
    · refine v_aload_n B dX0_isHeard_27 rfl rfl ?_
      refine u_get B Z (C := RX0) (T := TX0) (N := 10) (ci := 0) hi_Air_isHeard_X0 t_h h11 rfl 1 (by decide +kernel) (List.mem_of_getElem? (i := 4) rfl) rfl dX0_isHeard_28 ?_
      refine v_iload_n B dX0_isHeard_31 rfl rfl ?_
      obtain ⟨f28, h29, r30⟩ : okP K 8 (σ0 a2) := G0 a2 _ t13
      obtain ⟨z31, e32, r33⟩ := iI_any (f28 ((z9 + (-1)) : Int).toNat)
      refine u_iald B Z (t0 := 0) t13 h29 rfl (by omega) e32 dX0_isHeard_32 ?_
      refine v_iload_n B dX0_isHeard_33 rfl rfl ?_
      refine u_icmp_ne B (tgt := 57) (by omega) (by omega) dX0_isHeard_34 (by decide +kernel) (fun c34 => ?_) (fun c34 => ?_)
      · refine v_iconst B (v := iI 0) dX0_isHeard_57 rfl ?_
        exact hend 0 _ _ ⟨by omega, by omega⟩ dX0_isHeard_58
      · refine v_aload_n B dX0_isHeard_37 rfl rfl ?_
        refine u_get B Z (C := RX0) (T := TX0) (N := 10) (ci := 0) hi_Air_isHeard_X0 t_h h11 rfl 0 (by decide +kernel) (List.mem_of_getElem? (i := 2) rfl) rfl dX0_isHeard_38 ?_
        refine v_iload_n B dX0_isHeard_41 rfl rfl ?_
        obtain ⟨a35, e36, t37⟩ := e25 ((z9 + (-1)) : Int).toNat (by omega)
        refine u_aald B Z (t0 := 4) (v := .ref a35) t12 h24 rfl (by omega) (by rw [e36]; rfl) dX0_isHeard_42 ?_
        refine v_iconst B (v := iI 0) dX0_isHeard_43 rfl ?_
        refine v_iconst B (v := iI 4) dX0_isHeard_44 rfl ?_
        refine u_callVl B Z hz (n := 2) (As := [.int (iI 0), .int (iI 4)]) (rest := []) (c_Row_numberAt l D K Z _ _ _ _ a35 0 4 t37 ⟨by omega, by omega⟩ ⟨by omega, by omega⟩ σ0 G0) gd_Air_isHeard_Row_numberAt_86 rfl rfl rfl (by decide +kernel) ⟨Nat.le_trans (by decide +kernel) hR.1, Nat.le_trans (by decide +kernel) hR.2⟩ t37 (cls_Row G0 t37) rfl rfl rfl rfl (Nat.le_of_ble_eq_true rfl) dX0_isHeard_45 ⟨Nat.zero_le _, Nat.zero_le _⟩ (fun v40 σ38 p39 => ?_)
        obtain ⟨rfl, yy44, e45, r46⟩ := p39
        subst e45
        obtain ⟨z47, e48, r49⟩ := iI_any ((lI yy44).toInt32)
        refine v_l2i B (v := iI z47) dX0_isHeard_48 e48 ?_
        refine v_iload_n B dX0_isHeard_49 rfl rfl ?_
        refine u_icmp_ne B (tgt := 57) (by omega) (by omega) dX0_isHeard_50 (by decide +kernel) (fun c50 => ?_) (fun c50 => ?_)
        · refine v_iconst B (v := iI 0) dX0_isHeard_57 rfl ?_
          exact hend 0 _ _ ⟨by omega, by omega⟩ dX0_isHeard_58
        · refine v_iconst B (v := iI 1) dX0_isHeard_53 rfl ?_
          refine v_goto B (tgt := 58) dX0_isHeard_54 (by decide +kernel) ?_
          exact hend 1 _ _ ⟨by omega, by omega⟩ dX0_isHeard_58
set_option maxRecDepth 100000 in
theorem c_Air_isHeard (l : Launch) (D : va_G) (K : Nat → ClassId) {τ : Nat → Option Ty} {dom : List Nat} (Z : Sk τ dom) (zb zL : Nat) (zx : Nat → Int32) (zs : Nat → Nat) (h : Nat) (x1 : Int) (x2 : Int) (t_h : τ h = some (30, 0, 0)) (r_x1 : -2147483648 ≤ x1 ∧ x1 ≤ 2147483647) (r_x2 : -2147483648 ≤ x2 ∧ x2 ≤ 2147483647) (σ0 : Nat → va_E) (G0 : Good K τ σ0) : MZ l yX0_isHeard wp_Air_isHeard ({ frames := 1, cells := 0, slots := 0, locals := 26 }) D (tysA K) [.ref h, .int (iI x1), .int (iI x2)] (fd dom σ0) zb zL zx zs (Qi D (fun r σ' => σ0 = σ' ∧ ∃ z : Int, r = iI z ∧ (0 ≤ z ∧ z ≤ 1)) (fun σ' => fd dom σ')) 0 0 := by
  refine mz_of (cc := cX0_isHeard) (maxL := 4) (ret := (some .boolean)) (by decide +kernel) rfl (Nat.le_of_ble_eq_true rfl) ?_
  intro p e s m below meth c A B hr hlk _ hz
  exact b_Air_isHeard ⟨Nat.le_refl _, Nat.le_refl _⟩ B Z hz h x1 x2 t_h r_x1 r_x2 σ0 G0 (fun z lv pc hZ hd => v_zret B hr hlk (nar01 (by omega)) σ0 ⟨rfl, z, rfl, hZ⟩ rfl (Nat.le_refl _) (Nat.le_refl _) hd)

def wp_Air_isGood : List Cond := .code yX0_isGood cX0_isGood 5 (some .boolean) :: (([.fieldLink RX0 42 "LowEnergy$Air" "count" "I", .fieldLink RX0 13 "LowEnergy$Air" "packets" "[LLowEnergy$Row;", .fieldLink RX0 35 "LowEnergy$Air" "plain" "LLowEnergy$Row;", .methodLink RX0 90 yX9_become, .instanceMethod yX9_become, .selects RX9 yX9_become yX9_become, .initialized RX9, .code yX9_become cX9_become 2 none, .fieldLink RX9 21 "LowEnergy$Row" "size" "I", .methodLink RX9 27 yX9_putPart, .instanceMethod yX9_putPart, .selects RX9 yX9_putPart yX9_putPart, .code yX9_putPart cX9_putPart 6 none, .fieldLink RX9 15 "LowEnergy$Row" "bytes" "[I", .methodLink RX9 9 Lib.Math.max.name, .static Lib.Math.max.name, .initialized "java/lang/Math", .code Lib.Math.max.name Lib.Math.max.code 2 (some .int), .methodLink RX0 71 yX0_whiten, .static yX0_whiten, .initialized RX0, .code yX0_whiten cX0_whiten 7 none, .methodLink RX0 49 yX9_at, .instanceMethod yX9_at, .selects RX9 yX9_at yX9_at, .code yX9_at cX9_at 2 (some .int), .fieldLink RX0 94 "LowEnergy$Air" "first" "I", .fieldLink RX0 39 "LowEnergy$Air" "payload" "LLowEnergy$Row;", .methodLink RX0 53 yX9_clear, .instanceMethod yX9_clear, .selects RX9 yX9_clear yX9_clear, .code yX9_clear cX9_clear 1 none, .methodLink RX0 63 yX9_putPart, .methodLink RX0 86 yX9_numberAt, .instanceMethod yX9_numberAt, .selects RX9 yX9_numberAt yX9_numberAt, .code yX9_numberAt cX9_numberAt 7 (some .long), .methodLink RX0 67 yX0_crcInOrder, .static yX0_crcInOrder, .code yX0_crcInOrder cX0_crcInOrder 7 (some .int), .constant RX0 100 (16777215)] : List Cond) ++ (wsX00 ++ (wsX90 ++ ([]))))
theorem hi_Air_isGood_X0 : ∀ x ∈ u_ws RX0 TX0 10, x ∈ wp_Air_isGood := fun _ h => List.mem_cons_of_mem _ (List.mem_append_right _ (List.mem_append_left _ h))
theorem hi_Air_isGood_X9 : ∀ x ∈ u_ws RX9 TX9 2, x ∈ wp_Air_isGood := fun _ h => List.mem_cons_of_mem _ (List.mem_append_right _ (List.mem_append_right _ (List.mem_append_left _ h)))
set_option maxRecDepth 100000 in
theorem gd_Air_isGood_Row_become_90 : GoodIn wp_Air_isGood (wsV RX0 90 RX9 yX9_become wp_Row_become) := goodIn_app (goodIn_r _ [4, 5, 6, 7] rfl rfl) (goodIn_ca (goodIn_r _ [8, 9, 10, 11, 12, 7, 13, 14, 15, 16, 17, 18] rfl rfl) (goodIn_app (goodIn_cls hi_Air_isGood_X9 gw_X9) (goodIn_nil)))
set_option maxRecDepth 100000 in
theorem gd_Air_isGood_Air_whiten_71 : GoodIn wp_Air_isGood (va_wsS RX0 71 yX0_whiten wp_Air_whiten) := goodIn_app (goodIn_r _ [19, 20, 21] rfl rfl) (goodIn_ca (goodIn_r _ [22] rfl rfl) (goodIn_app (goodIn_cls hi_Air_isGood_X9 gw_X9) (goodIn_nil)))
set_option maxRecDepth 100000 in
theorem gd_Air_isGood_Row_at_49 : GoodIn wp_Air_isGood (wsV RX0 49 RX9 yX9_at wp_Row_at) := goodIn_app (goodIn_r _ [23, 24, 25, 7] rfl rfl) (goodIn_ca (goodIn_r _ [26, 9, 14] rfl rfl) (goodIn_app (goodIn_cls hi_Air_isGood_X9 gw_X9) (goodIn_nil)))
set_option maxRecDepth 100000 in
theorem gd_Air_isGood_Row_clear_53 : GoodIn wp_Air_isGood (wsV RX0 53 RX9 yX9_clear wp_Row_clear) := goodIn_app (goodIn_r _ [29, 30, 31, 7] rfl rfl) (goodIn_ca (goodIn_r _ [32, 9] rfl rfl) (goodIn_app (goodIn_cls hi_Air_isGood_X9 gw_X9) (goodIn_nil)))
set_option maxRecDepth 100000 in
theorem gd_Air_isGood_Row_putPart_63 : GoodIn wp_Air_isGood (wsV RX0 63 RX9 yX9_putPart wp_Row_putPart) := goodIn_app (goodIn_r _ [33, 11, 12, 7] rfl rfl) (goodIn_ca (goodIn_r _ [13, 9, 14, 15, 16, 17, 18] rfl rfl) (goodIn_app (goodIn_cls hi_Air_isGood_X9 gw_X9) (goodIn_nil)))
set_option maxRecDepth 100000 in
theorem gd_Air_isGood_Row_numberAt_86 : GoodIn wp_Air_isGood (wsV RX0 86 RX9 yX9_numberAt wp_Row_numberAt) := goodIn_app (goodIn_r _ [34, 35, 36, 7] rfl rfl) (goodIn_ca (goodIn_r _ [37, 9, 14] rfl rfl) (goodIn_app (goodIn_cls hi_Air_isGood_X9 gw_X9) (goodIn_nil)))
set_option maxRecDepth 100000 in
theorem gd_Air_isGood_Air_crc_67 : GoodIn wp_Air_isGood (va_wsS RX0 67 yX0_crcInOrder wp_Air_crc) := goodIn_app (goodIn_r _ [38, 39, 21] rfl rfl) (goodIn_ca (goodIn_r _ [40, 41] rfl rfl) (goodIn_app (goodIn_cls hi_Air_isGood_X9 gw_X9) (goodIn_nil)))
set_option maxHeartbeats 4000000 in
set_option maxRecDepth 100000 in
theorem b_Air_isGood {p : Program} {l : Launch} {e : Env} {R : Room} {s : State} {m : MethodId} {args : Array Value} {below : List Frame} {meth : Method} {c : Code} {D : va_G} {K : Nat → ClassId} {A : Nat → Prop} {Q : State → Prop} {τ : Nat → Option Ty} {dom : List Nat} {zb zL : Nat} {zx : Nat → Int32} {zs : Nat → Nat} (hR : 3 ≤ R.frames ∧ 59 ≤ R.locals) (B : Bx p s m args c cX0_isGood 5 RX0 wp_Air_isGood D (tysA K) A) (Z : Sk τ dom) (hz : ZL zb zL zx zs A s s.heap) (h : Nat) (x1 : Int) (x2 : Int) (t_h : τ h = some (30, 0, 0)) (r_x1 : -2147483648 ≤ x1 ∧ x1 ≤ 2147483647) (r_x2 : -2147483648 ≤ x2 ∧ x2 ≤ 2147483647) (σ0 : Nat → va_E) (G0 : Good K τ σ0) (hend : ∀ (σ' : Nat → va_E) (z : Int) (lv : List (Nat × Value)) (pc : Nat), Good K τ σ' → Fr τ [(1, 4), (2, 4), (30, 0), (1, 5), (2, 5)] σ0 σ' → (0 ≤ z ∧ z ≤ 1) → decode cX0_isGood pc = .ok (.ireturn, 1) → V p l e R s m args below meth c 5 D A Q (0, 0) (fd dom σ') lv pc [.int (iI z)]) : V p l e R s m args below meth c 5 D A Q (0, 0) (fd dom σ0) [(0, .ref h), (1, .int (iI x1)), (2, .int (iI x2))] 0 [] := by
  have F0 : Fr τ [(1, 4), (2, 4), (30, 0), (1, 5), (2, 5)] σ0 σ0 := Fr.rf
  refine v_aload_n B dX0_isGood_0 rfl rfl ?_
  obtain ⟨a1, a2, a3, a4, a5, a6, a7, z8, z9, z10, h11, t12, t13, t14, t15, t16, t17, t18, r19, r20, r21⟩ : okAir τ (σ0 h) := G0 h _ t_h
  refine u_get B Z (C := RX0) (T := TX0) (N := 10) (ci := 0) hi_Air_isGood_X0 t_h h11 rfl 8 (by decide +kernel) (List.mem_of_getElem? (i := 1) rfl) rfl dX0_isGood_1 ?_
  refine v_iconst B (v := iI 1) dX0_isGood_4 rfl ?_
  refine v_isub B (v := iI (z9 + (-1))) dX0_isGood_5 ((iI_sub _ _).trans (congrArg iI (by omega))) ?_
  refine v_istore_n B (lv' := [(3, .int (iI (z9 + (-1)))), (0, .ref h), (1, .int (iI x1)), (2, .int (iI x2))]) dX0_isGood_6 rfl (by decide +kernel) rfl ?_
  refine v_iload_n B dX0_isGood_7 rfl rfl ?_
  refine u_if_lt B (tgt := 20) (by omega) dX0_isGood_8 (by decide +kernel) (fun c22 => ?_) (fun c22 => ?_)
  · refine v_iconst B (v := iI 0) dX0_isGood_20 rfl ?_
    exact hend σ0 0 _ _ G0 F0 ⟨by omega, by omega⟩ dX0_isGood_21
  · refine v_iload_n B dX0_isGood_11 rfl rfl ?_
    refine v_aload_n B dX0_isGood_12 rfl rfl ?_
    refine u_get B Z (C := RX0) (T := TX0) (N := 10) (ci := 0) hi_Air_isGood_X0 t_h h11 rfl 0 (by decide +kernel) (List.mem_of_getElem? (i := 2) rfl) rfl dX0_isGood_13 ?_
    obtain ⟨f23, h24, e25⟩ : okRA K τ 3 8 (σ0 a1) := G0 a1 _ t12
    refine u_alen B Z (t0 := 4) (v := 8) t12 h24 rfl (by first | rfl | omega) dX0_isGood_16 ?_
    refine u_icmp_lt B (tgt := 22) (by omega) (by omega) dX0_isGood_17 (by decide +kernel) (fun c26 => ?_) (fun c26 => by omega)
    refine v_aload_n B dX0_isGood_22 rfl rfl ?_
    refine u_get B Z (C := RX0) (T := TX0) (N := 10) (ci := 0) hi_Air_isGood_X0 t_h h11 rfl 5 (by decide +kernel) (List.mem_of_getElem? (i := 3) rfl) rfl dX0_isGood_23 ?_
    refine v_aload_n B dX0_isGood_26 rfl rfl ?_
    refine u_get B Z (C := RX0) (T := TX0) (N := 10) (ci := 0) hi_Air_isGood_X0 t_h h11 rfl 0 (by decide +kernel) (List.mem_of_getElem? (i := 2) rfl) rfl dX0_isGood_27 ?_
    refine v_iload_n B dX0_isGood_30 rfl rfl ?_
    obtain ⟨a27, e28, t29⟩ := e25 ((z9 + (-1)) : Int).toNat (by omega)
    refine u_aald B Z (t0 := 4) (v := .ref a27) t12 h24 rfl (by omega) (by rw [e28]; rfl) dX0_isGood_31 ?_
    refine u_callVv B Z hz (n := 1) (As := [.ref a27]) (rest := []) (c_Row_become l D K Z _ _ _ _ a6 a27 t17 t29 σ0 G0) gd_Air_isGood_Row_become_90 rfl rfl rfl (by decide +kernel) ⟨Nat.le_trans (by decide +kernel) hR.1, Nat.le_trans (by decide +kernel) hR.2⟩ t17 (cls_Row G0 t17) rfl rfl rfl rfl (Nat.le_of_ble_eq_true rfl) dX0_isGood_32 ⟨Nat.zero_le _, Nat.zero_le _⟩ (fun σ30 p31 => ?_)
    obtain ⟨G33, F34⟩ := p31
    have F35 := F0.call F34 (by first | rfl | simp)
    have h36 := (F34 h _ t_h (by first | rfl | simp)).trans h11
    have h37 := (F34 a1 _ t12 (by first | rfl | simp)).trans h24
    refine v_aload_n B dX0_isGood_35 rfl rfl ?_
    refine u_get B Z (C := RX0) (T := TX0) (N := 10) (ci := 0) hi_Air_isGood_X0 t_h h36 rfl 5 (by decide +kernel) (List.mem_of_getElem? (i := 3) rfl) rfl dX0_isGood_36 ?_
    refine v_iload_n B dX0_isGood_39 rfl rfl ?_
    refine u_callSv B Z hz (n := 2) (As := [.ref a6, .int (iI x1)]) (rest := []) (c_Air_whiten l D K Z _ _ _ _ a6 x1 t17 ⟨by omega, by omega⟩ σ30 G33) gd_Air_isGood_Air_whiten_71 rfl rfl rfl (by decide +kernel) ⟨Nat.le_trans (by decide +kernel) hR.1, Nat.le_trans (by decide +kernel) hR.2⟩ rfl rfl (Nat.le_of_ble_eq_true rfl) dX0_isGood_40 ⟨Nat.zero_le _, Nat.zero_le _⟩ (fun σ38 p39 => ?_)
    obtain ⟨G41, F42⟩ := p39
    have F43 := F35.call F42 (by first | rfl | simp)
    have h44 := (F42 h _ t_h (by first | rfl | simp)).trans h36
    have h45 := (F42 a1 _ t12 (by first | rfl | simp)).trans h37
    refine v_aload_n B dX0_isGood_43 rfl rfl ?_
    refine u_get B Z (C := RX0) (T := TX0) (N := 10) (ci := 0) hi_Air_isGood_X0 t_h h44 rfl 5 (by decide +kernel) (List.mem_of_getElem? (i := 3) rfl) rfl dX0_isGood_44 ?_
    obtain ⟨b46, N47, n48, h49, t50, r51⟩ : okRow τ 4 (σ38 a6) := G41 a6 _ t17
    refine u_getN B Z (C := RX9) (T := TX9) (N := 2) (ci := 9) hi_Air_isGood_X9 t17 h49 rfl 1 (by decide +kernel) (List.mem_of_getElem? (i := 71) rfl) rfl dX0_isGood_47 ?_
    refine v_iconst B (v := iI 3) dX0_isGood_50 rfl ?_
    refine v_isub B (v := iI (n48 + (-3))) dX0_isGood_51 ((iI_sub _ _).trans (congrArg iI (by omega))) ?_
    refine v_istore B (lv' := [(4, .int (iI (n48 + (-3)))), (3, .int (iI (z9 + (-1)))), (0, .ref h), (1, .int (iI x1)), (2, .int (iI x2))]) dX0_isGood_52 (by decide +kernel) rfl ?_
    refine v_aload_n B dX0_isGood_54 rfl rfl ?_
    refine v_aload_n B dX0_isGood_55 rfl rfl ?_
    refine u_get B Z (C := RX0) (T := TX0) (N := 10) (ci := 0) hi_Air_isGood_X0 t_h h44 rfl 5 (by decide +kernel) (List.mem_of_getElem? (i := 3) rfl) rfl dX0_isGood_56 ?_
    refine v_iconst B (v := iI 4) dX0_isGood_59 rfl ?_
    refine u_callVi B Z hz (n := 1) (As := [.int (iI 4)]) (rest := [.ref h]) (c_Row_at l D K Z _ _ _ _ a6 4 t17 ⟨by omega, by omega⟩ σ38 G41) gd_Air_isGood_Row_at_49 rfl rfl rfl (by decide +kernel) ⟨Nat.le_trans (by decide +kernel) hR.1, Nat.le_trans (by decide +kernel) hR.2⟩ t17 (cls_Row G41 t17) rfl rfl rfl rfl (Nat.le_of_ble_eq_true rfl) dX0_isGood_60 ⟨Nat.zero_le _, Nat.zero_le _⟩ (fun v54 σ52 p53 => ?_)
    obtain ⟨rfl, z58, e59, r60⟩ := p53
    subst e59
    refine u_put B Z (C := RX0) (T := TX0) (N := 10) (ci := 0) hi_Air_isGood_X0 t_h h44 rfl 7 (by decide +kernel) tyX0 tyX0_ok nmX0 (List.mem_of_getElem? (i := 27) rfl) rfl (ty := .int) (tyX0_ok 7 (by decide +kernel)) rfl rfl (Nat.le_of_ble_eq_true rfl) (fs' := [.ref a1, .ref a2, .ref a3, .ref a4, .ref a5, .ref a6, .ref a7, .int (iI z58), .int (iI z9), .int (iI z10)]) rfl dX0_isGood_63 (fun σ61 h62 n63 => ?_)
    have G64 := G41.put t_h (⟨a1, a2, a3, a4, a5, a6, a7, z58, z9, z10, h62, t12, t13, t14, t15, t16, t17, t18, ⟨by omega, by omega⟩, ⟨by omega, by omega⟩, ⟨by omega, by omega⟩⟩ : Ok K τ (30, 0, 0) (σ61 h)) n63
    have F65 := F43.put t_h (by simp) n63
    have h66 := (n63 a1 (ne_ty t12 t_h (by simp))).trans h45
    have h67 := (n63 a6 (ne_ty t17 t_h (by simp))).trans h49
    refine v_aload_n B dX0_isGood_66 rfl rfl ?_
    refine u_get B Z (C := RX0) (T := TX0) (N := 10) (ci := 0) hi_Air_isGood_X0 t_h h62 rfl 6 (by decide +kernel) (List.mem_of_getElem? (i := 28) rfl) rfl dX0_isGood_67 ?_
    refine u_callVv B Z hz (n := 0) (As := []) (rest := []) (c_Row_clear l D K Z _ _ _ _ a7 t18 σ61 G64) gd_Air_isGood_Row_clear_53 rfl rfl rfl (by decide +kernel) ⟨Nat.le_trans (by decide +kernel) hR.1, Nat.le_trans (by decide +kernel) hR.2⟩ t18 (cls_Row G64 t18) rfl rfl rfl rfl (Nat.le_of_ble_eq_true rfl) dX0_isGood_70 ⟨Nat.zero_le _, Nat.zero_le _⟩ (fun σ68 p69 => ?_)
    obtain ⟨G71, F72⟩ := p69
    have F73 := F65.call F72 (by first | rfl | simp)
    have h74 := (F72 h _ t_h (by first | rfl | simp)).trans h62
    have h75 := (F72 a1 _ t12 (by first | rfl | simp)).trans h66
    have h76 := (F72 a6 _ t17 (by first | rfl | simp)).trans h67
    refine v_aload_n B dX0_isGood_73 rfl rfl ?_
    refine u_get B Z (C := RX0) (T := TX0) (N := 10) (ci := 0) hi_Air_isGood_X0 t_h h74 rfl 6 (by decide +kernel) (List.mem_of_getElem? (i := 28) rfl) rfl dX0_isGood_74 ?_
    refine v_aload_n B dX0_isGood_77 rfl rfl ?_
    refine u_get B Z (C := RX0) (T := TX0) (N := 10) (ci := 0) hi_Air_isGood_X0 t_h h74 rfl 5 (by decide +kernel) (List.mem_of_getElem? (i := 3) rfl) rfl dX0_isGood_78 ?_
    refine v_bipush B (v := iI 6) dX0_isGood_81 (by decide +kernel) ?_
    refine v_iload B dX0_isGood_83 rfl ?_
    refine v_bipush B (v := iI 6) dX0_isGood_85 (by decide +kernel) ?_
    refine v_isub B (v := iI (n48 + (-9))) dX0_isGood_87 ((iI_sub _ _).trans (congrArg iI (by omega))) ?_
    refine u_callVv B Z hz (n := 3) (As := [.ref a6, .int (iI 6), .int (iI (n48 + (-9)))]) (rest := []) (c_Row_putPart l D K Z _ _ _ _ a7 a6 6 (n48 + (-9)) t18 t17 ⟨by omega, by omega⟩ ⟨by omega, by omega⟩ σ68 G71) gd_Air_isGood_Row_putPart_63 rfl rfl rfl (by decide +kernel) ⟨Nat.le_trans (by decide +kernel) hR.1, Nat.le_trans (by decide +kernel) hR.2⟩ t18 (cls_Row G71 t18) rfl rfl rfl rfl (Nat.le_of_ble_eq_true rfl) dX0_isGood_88 ⟨Nat.zero_le _, Nat.zero_le _⟩ (fun σ77 p78 => ?_)
    obtain ⟨G80, F81⟩ := p78
    have F82 := F73.call F81 (by first | rfl | simp)
    have h83 := (F81 h _ t_h (by first | rfl | simp)).trans h74
    have h84 := (F81 a1 _ t12 (by first | rfl | simp)).trans h75
    have h85 := (F81 a6 _ t17 (by first | rfl | simp)).trans h76
    refine v_aload_n B dX0_isGood_91 rfl rfl ?_
    refine u_get B Z (C := RX0) (T := TX0) (N := 10) (ci := 0) hi_Air_isGood_X0 t_h h83 rfl 5 (by decide +kernel) (List.mem_of_getElem? (i := 3) rfl) rfl dX0_isGood_92 ?_
    refine v_iconst B (v := iI 5) dX0_isGood_95 rfl ?_
    refine u_callVi B Z hz (n := 1) (As := [.int (iI 5)]) (rest := []) (c_Row_at l D K Z _ _ _ _ a6 5 t17 ⟨by omega, by omega⟩ σ77 G80) gd_Air_isGood_Row_at_49 rfl rfl rfl (by decide +kernel) ⟨Nat.le_trans (by decide +kernel) hR.1, Nat.le_trans (by decide +kernel) hR.2⟩ t17 (cls_Row G80 t17) rfl rfl rfl rfl (Nat.le_of_ble_eq_true rfl) dX0_isGood_96 ⟨Nat.zero_le _, Nat.zero_le _⟩ (fun v88 σ86 p87 => ?_)
    obtain ⟨rfl, z92, e93, r94⟩ := p87
    subst e93
    refine v_aload_n B dX0_isGood_99 rfl rfl ?_
    refine u_get B Z (C := RX0) (T := TX0) (N := 10) (ci := 0) hi_Air_isGood_X0 t_h h83 rfl 6 (by decide +kernel) (List.mem_of_getElem? (i := 28) rfl) rfl dX0_isGood_100 ?_
    obtain ⟨b95, N96, n97, h98, t99, r100⟩ : okRow τ 5 (σ77 a7) := G80 a7 _ t18
    refine u_getN B Z (C := RX9) (T := TX9) (N := 2) (ci := 9) hi_Air_isGood_X9 t18 h98 rfl 1 (by decide +kernel) (List.mem_of_getElem? (i := 71) rfl) rfl dX0_isGood_103 ?_
    refine u_icmp_ne B (tgt := 138) (by omega) (by omega) dX0_isGood_106 (by decide +kernel) (fun c101 => ?_) (fun c101 => ?_)
    · refine v_iconst B (v := iI 0) dX0_isGood_138 rfl ?_
      exact hend σ77 0 _ _ G80 F82 ⟨by omega, by omega⟩ dX0_isGood_139
    · refine v_aload_n B dX0_isGood_109 rfl rfl ?_
      refine u_get B Z (C := RX0) (T := TX0) (N := 10) (ci := 0) hi_Air_isGood_X0 t_h h83 rfl 5 (by decide +kernel) (List.mem_of_getElem? (i := 3) rfl) rfl dX0_isGood_110 ?_
      refine v_iload B dX0_isGood_113 rfl ?_
      refine v_iconst B (v := iI 3) dX0_isGood_115 rfl ?_
      refine u_callVl B Z hz (n := 2) (As := [.int (iI (n48 + (-3))), .int (iI 3)]) (rest := []) (c_Row_numberAt l D K Z _ _ _ _ a6 (n48 + (-3)) 3 t17 ⟨by omega, by omega⟩ ⟨by omega, by omega⟩ σ77 G80) gd_Air_isGood_Row_numberAt_86 rfl rfl rfl (by decide +kernel) ⟨Nat.le_trans (by decide +kernel) hR.1, Nat.le_trans (by decide +kernel) hR.2⟩ t17 (cls_Row G80 t17) rfl rfl rfl rfl (Nat.le_of_ble_eq_true rfl) dX0_isGood_116 ⟨Nat.zero_le _, Nat.zero_le _⟩ (fun v104 σ102 p103 => ?_)
      obtain ⟨rfl, yy108, e109, r110⟩ := p103
      subst e109
      refine v_aload_n B dX0_isGood_119 rfl rfl ?_
      refine u_get B Z (C := RX0) (T := TX0) (N := 10) (ci := 0) hi_Air_isGood_X0 t_h h83 rfl 5 (by decide +kernel) (List.mem_of_getElem? (i := 3) rfl) rfl dX0_isGood_120 ?_
      refine v_iload B dX0_isGood_123 rfl ?_
      refine v_iload_n B dX0_isGood_125 rfl rfl ?_
      refine u_callSi B Z hz (n := 3) (As := [.ref a6, .int (iI (n48 + (-3))), .int (iI x2)]) (rest := [.long (lI yy108)]) (c_Air_crc l D K Z _ _ _ _ a6 (n48 + (-3)) x2 t17 ⟨by omega, by omega⟩ ⟨by omega, by omega⟩ σ77 G80) gd_Air_isGood_Air_crc_67 rfl rfl rfl (by decide +kernel) ⟨Nat.le_trans (by decide +kernel) hR.1, Nat.le_trans (by decide +kernel) hR.2⟩ rfl rfl (Nat.le_of_ble_eq_true rfl) dX0_isGood_126 ⟨Nat.zero_le _, Nat.zero_le _⟩ (fun v113 σ111 p112 => ?_)
      obtain ⟨rfl, z117, e118, r119⟩ := p112
      subst e118
      refine v_i2l B (v := lI z117) dX0_isGood_129 (lI_i (by omega)) ?_
      obtain ⟨z120, e121, r122⟩ := iI_any (lg_cmp (lI yy108) (lI z117))
      refine v_lcmp B (v := iI z120) dX0_isGood_130 e121 ?_
      refine u_if_ne B (tgt := 138) (by omega) dX0_isGood_131 (by decide +kernel) (fun c123 => ?_) (fun c123 => ?_)
      · refine v_iconst B (v := iI 0) dX0_isGood_138 rfl ?_
        exact hend σ77 0 _ _ G80 F82 ⟨by omega, by omega⟩ dX0_isGood_139
      · refine v_iconst B (v := iI 1) dX0_isGood_134 rfl ?_
        refine v_goto B (tgt := 139) dX0_isGood_135 (by decide +kernel) ?_
        exact hend σ77 1 _ _ G80 F82 ⟨by omega, by omega⟩ dX0_isGood_139
set_option maxRecDepth 100000 in
theorem c_Air_isGood (l : Launch) (D : va_G) (K : Nat → ClassId) {τ : Nat → Option Ty} {dom : List Nat} (Z : Sk τ dom) (zb zL : Nat) (zx : Nat → Int32) (zs : Nat → Nat) (h : Nat) (x1 : Int) (x2 : Int) (t_h : τ h = some (30, 0, 0)) (r_x1 : -2147483648 ≤ x1 ∧ x1 ≤ 2147483647) (r_x2 : -2147483648 ≤ x2 ∧ x2 ≤ 2147483647) (σ0 : Nat → va_E) (G0 : Good K τ σ0) : MZ l yX0_isGood wp_Air_isGood ({ frames := 3, cells := 0, slots := 0, locals := 59 }) D (tysA K) [.ref h, .int (iI x1), .int (iI x2)] (fd dom σ0) zb zL zx zs (Qi D (fun r σ' => Good K τ σ' ∧ Fr τ [(1, 4), (2, 4), (30, 0), (1, 5), (2, 5)] σ0 σ' ∧ ∃ z : Int, r = iI z ∧ (0 ≤ z ∧ z ≤ 1)) (fun σ' => fd dom σ')) 0 0 := by
  refine mz_of (cc := cX0_isGood) (maxL := 5) (ret := (some .boolean)) (by decide +kernel) rfl (Nat.le_of_ble_eq_true rfl) ?_
  intro p e s m below meth c A B hr hlk _ hz
  exact b_Air_isGood ⟨Nat.le_refl _, Nat.le_refl _⟩ B Z hz h x1 x2 t_h r_x1 r_x2 σ0 G0 (fun σ' z lv pc G F hZ hd => v_zret B hr hlk (nar01 (by omega)) σ' ⟨G, F, z, rfl, hZ⟩ rfl (Nat.le_refl _) (Nat.le_refl _) hd)
