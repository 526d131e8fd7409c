def wp_Client_begin : List Cond := .code yX2_begin cX2_begin 4 none :: (([.fieldLink RX2 9 "LowEnergy$Client" "kind" "I", .fieldLink RX2 24 "LowEnergy$Client" "a" "I", .fieldLink RX2 27 "LowEnergy$Client" "b" "I", .fieldLink RX2 30 "LowEnergy$Client" "askedOp" "I", .fieldLink RX2 33 "LowEnergy$Client" "done" "I", .fieldLink RX2 20 "LowEnergy$Client" "bytes" "LLowEnergy$Row;", .methodLink RX2 36 yX9_clear, .instanceMethod yX9_clear, .selects RX9 yX9_clear yX9_clear, .initialized RX9, .code yX9_clear cX9_clear 1 none, .fieldLink RX9 21 "LowEnergy$Row" "size" "I"] : List Cond) ++ (wsX20 ++ (wsX90 ++ ([]))))
theorem hi_Client_begin_X2 : ∀ x ∈ u_ws RX2 TX2 6, x ∈ wp_Client_begin := fun _ h => List.mem_cons_of_mem _ (List.mem_append_right _ (List.mem_append_left _ h))
theorem hi_Client_begin_X9 : ∀ x ∈ u_ws RX9 TX9 2, x ∈ wp_Client_begin := fun _ h => List.mem_cons_of_mem _ (List.mem_append_right _ (List.mem_append_right _ (List.mem_append_left _ h)))
set_option maxRecDepth 100000 in
theorem gd_Client_begin_Row_clear_36 : GoodIn wp_Client_begin (wsV RX2 36 RX9 yX9_clear wp_Row_clear) := goodIn_app (goodIn_r _ [7, 8, 9, 10] rfl rfl) (goodIn_ca (goodIn_r _ [11, 12] rfl rfl) (goodIn_app (goodIn_cls hi_Client_begin_X9 gw_X9) (goodIn_nil)))
set_option maxHeartbeats 4000000 in
set_option maxRecDepth 100000 in
theorem b_Client_begin {p : Program} {l : Launch} {e : Env} {R : Room} {s : State} {m : MethodId} {args : Array Value} {below : List Frame} {meth : Method} {c : Code} {D : va_G} {K : Nat → ClassId} {A : Nat → Prop} {Q : State → Prop} {τ : Nat → Option Ty} {dom : List Nat} {zb zL : Nat} {zx : Nat → Int32} {zs : Nat → Nat} (hR : 1 ≤ R.frames ∧ 20 ≤ R.locals) (B : Bx p s m args c cX2_begin 4 RX2 wp_Client_begin D (tysA K) A) (Z : Sk τ dom) (hz : ZL zb zL zx zs A s s.heap) (h : Nat) (x1 : Int) (x2 : Int) (x3 : Int) (t_h : τ h = some (32, 0, 0)) (r_x1 : -2147483648 ≤ x1 ∧ x1 ≤ 2147483647) (r_x2 : -2147483648 ≤ x2 ∧ x2 ≤ 2147483647) (r_x3 : -2147483648 ≤ x3 ∧ x3 ≤ 2147483647) (σ0 : Nat → va_E) (G0 : Good K τ σ0) (hend : ∀ (σ' : Nat → va_E) (lv : List (Nat × Value)) (pc : Nat), Good K τ σ' → Fr τ [(32, 0), (1, 15)] σ0 σ' → decode cX2_begin pc = .ok (.return_, 1) → V p l e R s m args below meth c 4 D A Q (0, 0) (fd dom σ') lv pc []) : V p l e R s m args below meth c 4 D A Q (0, 0) (fd dom σ0) [(0, .ref h), (1, .int (iI x1)), (2, .int (iI x2)), (3, .int (iI x3))] 0 [] := by
  have F0 : Fr τ [(32, 0), (1, 15)] σ0 σ0 := Fr.rf
  refine v_aload_n B dX2_begin_0 rfl rfl ?_
  refine v_iload_n B dX2_begin_1 rfl rfl ?_
  obtain ⟨z1, z2, z3, z4, z5, a6, h7, r8, r9, r10, r11, r12, t13⟩ : okClient τ (σ0 h) := G0 h _ t_h
  refine u_put B Z (C := RX2) (T := TX2) (N := 6) (ci := 2) hi_Client_begin_X2 t_h h7 rfl 0 (by decide +kernel) tyX2 tyX2_ok nmX2 (List.mem_of_getElem? (i := 1) rfl) rfl (ty := .int) (tyX2_ok 0 (by decide +kernel)) rfl rfl (Nat.le_of_ble_eq_true rfl) (fs' := [.int (iI x1), .int (iI z2), .int (iI z3), .int (iI z4), .int (iI z5), .ref a6]) rfl dX2_begin_2 (fun σ14 h15 n16 => ?_)
  have G17 := G0.put t_h (⟨x1, z2, z3, z4, z5, a6, h15, ⟨by omega, by omega⟩, ⟨by omega, by omega⟩, ⟨by omega, by omega⟩, ⟨by omega, by omega⟩, ⟨by omega, by omega⟩, t13⟩ : Ok K τ (32, 0, 0) (σ14 h)) n16
  have F18 := F0.put t_h (by simp) n16
  refine v_aload_n B dX2_begin_5 rfl rfl ?_
  refine v_iload_n B dX2_begin_6 rfl rfl ?_
  refine u_put B Z (C := RX2) (T := TX2) (N := 6) (ci := 2) hi_Client_begin_X2 t_h h15 rfl 1 (by decide +kernel) tyX2 tyX2_ok nmX2 (List.mem_of_getElem? (i := 2) rfl) rfl (ty := .int) (tyX2_ok 1 (by decide +kernel)) rfl rfl (Nat.le_of_ble_eq_true rfl) (fs' := [.int (iI x1), .int (iI x2), .int (iI z3), .int (iI z4), .int (iI z5), .ref a6]) rfl dX2_begin_7 (fun σ19 h20 n21 => ?_)
  have G22 := G17.put t_h (⟨x1, x2, z3, z4, z5, a6, h20, ⟨by omega, by omega⟩, ⟨by omega, by omega⟩, ⟨by omega, by omega⟩, ⟨by omega, by omega⟩, ⟨by omega, by omega⟩, t13⟩ : Ok K τ (32, 0, 0) (σ19 h)) n21
  have F23 := F18.put t_h (by simp) n21
  refine v_aload_n B dX2_begin_10 rfl rfl ?_
  refine v_iload_n B dX2_begin_11 rfl rfl ?_
  refine u_put B Z (C := RX2) (T := TX2) (N := 6) (ci := 2) hi_Client_begin_X2 t_h h20 rfl 2 (by decide +kernel) tyX2 tyX2_ok nmX2 (List.mem_of_getElem? (i := 3) rfl) rfl (ty := .int) (tyX2_ok 2 (by decide +kernel)) rfl rfl (Nat.le_of_ble_eq_true rfl) (fs' := [.int (iI x1), .int (iI x2), .int (iI x3), .int (iI z4), .int (iI z5), .ref a6]) rfl dX2_begin_12 (fun σ24 h25 n26 => ?_)
  have G27 := G22.put t_h (⟨x1, x2, x3, z4, z5, a6, h25, ⟨by omega, by omega⟩, ⟨by omega, by omega⟩, ⟨by omega, by omega⟩, ⟨by omega, by omega⟩, ⟨by omega, by omega⟩, t13⟩ : Ok K τ (32, 0, 0) (σ24 h)) n26
  have F28 := F23.put t_h (by simp) n26
  refine v_aload_n B dX2_begin_15 rfl rfl ?_
  refine v_iconst B (v := iI 0) dX2_begin_16 rfl ?_
  refine u_put B Z (C := RX2) (T := TX2) (N := 6) (ci := 2) hi_Client_begin_X2 t_h h25 rfl 3 (by decide +kernel) tyX2 tyX2_ok nmX2 (List.mem_of_getElem? (i := 4) rfl) rfl (ty := .int) (tyX2_ok 3 (by decide +kernel)) rfl rfl (Nat.le_of_ble_eq_true rfl) (fs' := [.int (iI x1), .int (iI x2), .int (iI x3), .int (iI 0), .int (iI z5), .ref a6]) rfl dX2_begin_17 (fun σ29 h30 n31 => ?_)
  have G32 := G27.put t_h (⟨x1, x2, x3, 0, z5, a6, h30, ⟨by omega, by omega⟩, ⟨by omega, by omega⟩, ⟨by omega, by omega⟩, ⟨by omega, by omega⟩, ⟨by omega, by omega⟩, t13⟩ : Ok K τ (32, 0, 0) (σ29 h)) n31
  have F33 := F28.put t_h (by simp) n31
  refine v_aload_n B dX2_begin_20 rfl rfl ?_
  refine v_iconst B (v := iI 0) dX2_begin_21 rfl ?_
  refine u_put B Z (C := RX2) (T := TX2) (N := 6) (ci := 2) hi_Client_begin_X2 t_h h30 rfl 4 (by decide +kernel) tyX2 tyX2_ok nmX2 (List.mem_of_getElem? (i := 5) rfl) rfl (ty := .int) (tyX2_ok 4 (by decide +kernel)) rfl rfl (Nat.le_of_ble_eq_true rfl) (fs' := [.int (iI x1), .int (iI x2), .int (iI x3), .int (iI 0), .int (iI 0), .ref a6]) rfl dX2_begin_22 (fun σ34 h35 n36 => ?_)
  have G37 := G32.put t_h (⟨x1, x2, x3, 0, 0, a6, h35, ⟨by omega, by omega⟩, ⟨by omega, by omega⟩, ⟨by omega, by omega⟩, ⟨by omega, by omega⟩, ⟨by omega, by omega⟩, t13⟩ : Ok K τ (32, 0, 0) (σ34 h)) n36
  have F38 := F33.put t_h (by simp) n36
  refine v_aload_n B dX2_begin_25 rfl rfl ?_
  refine u_get B Z (C := RX2) (T := TX2) (N := 6) (ci := 2) hi_Client_begin_X2 t_h h35 rfl 5 (by decide +kernel) (List.mem_of_getElem? (i := 6) rfl) rfl dX2_begin_26 ?_
  refine u_callVv B Z hz (n := 0) (As := []) (rest := []) (c_Row_clear l D K Z _ _ _ _ a6 t13 σ34 G37) gd_Client_begin_Row_clear_36 rfl rfl rfl (by decide +kernel) ⟨Nat.le_trans (by decide +kernel) hR.1, Nat.le_trans (by decide +kernel) hR.2⟩ t13 (cls_Row G37 t13) rfl rfl rfl rfl (Nat.le_of_ble_eq_true rfl) dX2_begin_29 ⟨Nat.zero_le _, Nat.zero_le _⟩ (fun σ39 p40 => ?_)
  obtain ⟨G42, F43⟩ := p40
  have F44 := F38.call F43 (by first | rfl | simp)
  have h45 := (F43 h _ t_h (by first | rfl | simp)).trans h35
  exact hend σ39 _ _ G42 F44 dX2_begin_32
set_option maxRecDepth 100000 in
theorem c_Client_begin (l : Launch) (D : va_G) (K : Nat → ClassId) {τ : Nat → Option Ty} {dom : List Nat} (Z : Sk τ dom) (zb zL : Nat) (zx : Nat → Int32) (zs : Nat → Nat) (h : Nat) (x1 : Int) (x2 : Int) (x3 : Int) (t_h : τ h = some (32, 0, 0)) (r_x1 : -2147483648 ≤ x1 ∧ x1 ≤ 2147483647) (r_x2 : -2147483648 ≤ x2 ∧ x2 ≤ 2147483647) (r_x3 : -2147483648 ≤ x3 ∧ x3 ≤ 2147483647) (σ0 : Nat → va_E) (G0 : Good K τ σ0) : MZ l yX2_begin wp_Client_begin ({ frames := 1, cells := 0, slots := 0, locals := 20 }) D (tysA K) [.ref h, .int (iI x1), .int (iI x2), .int (iI x3)] (fd dom σ0) zb zL zx zs (Qv D (fun σ' => Good K τ σ' ∧ Fr τ [(32, 0), (1, 15)] σ0 σ') (fun σ' => fd dom σ')) 0 0 := by
  refine mz_of (cc := cX2_begin) (maxL := 4) (ret := none) (by decide +kernel) rfl (Nat.le_of_ble_eq_true rfl) ?_
  intro p e s m below meth c A B hr hlk _ hz
  exact b_Client_begin ⟨Nat.le_refl _, Nat.le_refl _⟩ B Z hz h x1 x2 x3 t_h r_x1 r_x2 r_x3 σ0 G0 (fun σ' lv pc G F hd => v_vret B hr hlk σ' ⟨G, F⟩ rfl (Nat.le_refl _) (Nat.le_refl _) hd)

def wp_Client_firstHandle : List Cond := .code yX2_firstHandle cX2_firstHandle 1 (some .int) :: (([.fieldLink RX2 24 "LowEnergy$Client" "a" "I", .fieldLink RX2 9 "LowEnergy$Client" "kind" "I"] : List Cond) ++ (wsX20 ++ ([])))
theorem hi_Client_firstHandle_X2 : ∀ x ∈ u_ws RX2 TX2 6, x ∈ wp_Client_firstHandle := fun _ h => List.mem_cons_of_mem _ (List.mem_append_right _ (List.mem_append_left _ h))
set_option maxHeartbeats 4000000 in
set_option maxRecDepth 100000 in
theorem b_Client_firstHandle {p : Program} {l : Launch} {e : Env} {R : Room} {s : State} {m : MethodId} {args : Array Value} {below : List Frame} {meth : Method} {c : Code} {D : va_G} {K : Nat → ClassId} {A : Nat → Prop} {Q : State → Prop} {τ : Nat → Option Ty} {dom : List Nat} {zb zL : Nat} {zx : Nat → Int32} {zs : Nat → Nat} (hR : 0 ≤ R.frames ∧ 0 ≤ R.locals) (B : Bx p s m args c cX2_firstHandle 1 RX2 wp_Client_firstHandle D (tysA K) A) (Z : Sk τ dom) (hz : ZL zb zL zx zs A s s.heap) (h : Nat) (t_h : τ h = some (32, 0, 0)) (σ0 : Nat → va_E) (G0 : Good K τ σ0) (hend : ∀ (z : Int) (lv : List (Nat × Value)) (pc : Nat), (-2147483648 ≤ z ∧ z ≤ 2147483647) → decode cX2_firstHandle pc = .ok (.ireturn, 1) → V p l e R s m args below meth c 1 D A Q (0, 0) (fd dom σ0) lv pc [.int (iI z)]) : V p l e R s m args below meth c 1 D A Q (0, 0) (fd dom σ0) [(0, .ref h)] 0 [] := by
  have F0 : Fr τ [] σ0 σ0 := Fr.rf
  have J16 : V p l e R s m args below meth c 1 D A Q (0, 0) (fd dom σ0) [(0, .ref h)] 16 [] := by
    refine v_aload_n B dX2_firstHandle_16 rfl rfl ?_
    obtain ⟨z1, z2, z3, z4, z5, a6, h7, r8, r9, r10, r11, r12, t13⟩ : okClient τ (σ0 h) := G0 h _ t_h
    refine u_get B Z (C := RX2) (T := TX2) (N := 6) (ci := 2) hi_Client_firstHandle_X2 t_h h7 rfl 1 (by decide +kernel) (List.mem_of_getElem? (i := 1) rfl) rfl dX2_firstHandle_17 ?_
    refine v_goto B (tgt := 24) dX2_firstHandle_20 (by decide +kernel) ?_
    exact hend z2 _ _ ⟨by omega, by omega⟩ dX2_firstHandle_24
  refine v_aload_n B dX2_firstHandle_0 rfl rfl ?_
  obtain ⟨z14, z15, z16, z17, z18, a19, h20, r21, r22, r23, r24, r25, t26⟩ : okClient τ (σ0 h) := G0 h _ t_h
  refine u_get B Z (C := RX2) (T := TX2) (N := 6) (ci := 2) hi_Client_firstHandle_X2 t_h h20 rfl 0 (by decide +kernel) (List.mem_of_getElem? (i := 2) rfl) rfl dX2_firstHandle_1 ?_
  refine v_iconst B (v := iI 2) dX2_firstHandle_4 rfl ?_
  refine u_icmp_eq B (tgt := 16) (by omega) (by omega) dX2_firstHandle_5 (by decide +kernel) (fun c27 => ?_) (fun c27 => ?_)
  · exact J16
  · refine v_aload_n B dX2_firstHandle_8 rfl rfl ?_
    refine u_get B Z (C := RX2) (T := TX2) (N := 6) (ci := 2) hi_Client_firstHandle_X2 t_h h20 rfl 0 (by decide +kernel) (List.mem_of_getElem? (i := 2) rfl) rfl dX2_firstHandle_9 ?_
    refine v_iconst B (v := iI 3) dX2_firstHandle_12 rfl ?_
    refine u_icmp_ne B (tgt := 23) (by omega) (by omega) dX2_firstHandle_13 (by decide +kernel) (fun c28 => ?_) (fun c28 => ?_)
    · refine v_iconst B (v := iI 1) dX2_firstHandle_23 rfl ?_
      exact hend 1 _ _ ⟨by omega, by omega⟩ dX2_firstHandle_24
    · exact J16
set_option maxRecDepth 100000 in
theorem c_Client_firstHandle (l : Launch) (D : va_G) (K : Nat → ClassId) {τ : Nat → Option Ty} {dom : List Nat} (Z : Sk τ dom) (zb zL : Nat) (zx : Nat → Int32) (zs : Nat → Nat) (h : Nat) (t_h : τ h = some (32, 0, 0)) (σ0 : Nat → va_E) (G0 : Good K τ σ0) : MZ l yX2_firstHandle wp_Client_firstHandle ({ frames := 0, cells := 0, slots := 0, locals := 0 }) D (tysA K) [.ref h] (fd dom σ0) zb zL zx zs (Qi D (fun r σ' => σ0 = σ' ∧ ∃ z : Int, r = iI z ∧ (-2147483648 ≤ z ∧ z ≤ 2147483647)) (fun σ' => fd dom σ')) 0 0 := by
  refine mz_of (cc := cX2_firstHandle) (maxL := 1) (ret := (some .int)) (by decide +kernel) rfl (Nat.le_of_ble_eq_true rfl) ?_
  intro p e s m below meth c A B hr hlk _ hz
  exact b_Client_firstHandle ⟨Nat.le_refl _, Nat.le_refl _⟩ B Z hz h t_h σ0 G0 (fun z lv pc hZ hd => v_iret B hr hlk σ0 ⟨rfl, z, rfl, hZ⟩ rfl (Nat.le_refl _) (Nat.le_refl _) hd)

def wp_Client_lastHandle : List Cond := .code yX2_lastHandle cX2_lastHandle 1 (some .int) :: (([.fieldLink RX2 27 "LowEnergy$Client" "b" "I", .fieldLink RX2 9 "LowEnergy$Client" "kind" "I", .constant RX2 39 (65535)] : List Cond) ++ (wsX20 ++ ([])))
theorem hi_Client_lastHandle_X2 : ∀ x ∈ u_ws RX2 TX2 6, x ∈ wp_Client_lastHandle := fun _ h => List.mem_cons_of_mem _ (List.mem_append_right _ (List.mem_append_left _ h))
set_option maxHeartbeats 4000000 in
set_option maxRecDepth 100000 in
theorem b_Client_lastHandle {p : Program} {l : Launch} {e : Env} {R : Room} {s : State} {m : MethodId} {args : Array Value} {below : List Frame} {meth : Method} {c : Code} {D : va_G} {K : Nat → ClassId} {A : Nat → Prop} {Q : State → Prop} {τ : Nat → Option Ty} {dom : List Nat} {zb zL : Nat} {zx : Nat → Int32} {zs : Nat → Nat} (hR : 0 ≤ R.frames ∧ 0 ≤ R.locals) (B : Bx p s m args c cX2_lastHandle 1 RX2 wp_Client_lastHandle D (tysA K) A) (Z : Sk τ dom) (hz : ZL zb zL zx zs A s s.heap) (h : Nat) (t_h : τ h = some (32, 0, 0)) (σ0 : Nat → va_E) (G0 : Good K τ σ0) (hend : ∀ (z : Int) (lv : List (Nat × Value)) (pc : Nat), (-2147483648 ≤ z ∧ z ≤ 2147483647) → decode cX2_lastHandle pc = .ok (.ireturn, 1) → V p l e R s m args below meth c 1 D A Q (0, 0) (fd dom σ0) lv pc [.int (iI z)]) : V p l e R s m args below meth c 1 D A Q (0, 0) (fd dom σ0) [(0, .ref h)] 0 [] := by
  have F0 : Fr τ [] σ0 σ0 := Fr.rf
  have J16 : V p l e R s m args below meth c 1 D A Q (0, 0) (fd dom σ0) [(0, .ref h)] 16 [] := by
    refine v_aload_n B dX2_lastHandle_16 rfl rfl ?_
    obtain ⟨z1, z2, z3, z4, z5, a6, h7, r8, r9, r10, r11, r12, t13⟩ : okClient τ (σ0 h) := G0 h _ t_h
    refine u_get B Z (C := RX2) (T := TX2) (N := 6) (ci := 2) hi_Client_lastHandle_X2 t_h h7 rfl 2 (by decide +kernel) (List.mem_of_getElem? (i := 1) rfl) rfl dX2_lastHandle_17 ?_
    refine v_goto B (tgt := 25) dX2_lastHandle_20 (by decide +kernel) ?_
    exact hend z3 _ _ ⟨by omega, by omega⟩ dX2_lastHandle_25
  refine v_aload_n B dX2_lastHandle_0 rfl rfl ?_
  obtain ⟨z14, z15, z16, z17, z18, a19, h20, r21, r22, r23, r24, r25, t26⟩ : okClient τ (σ0 h) := G0 h _ t_h
  refine u_get B Z (C := RX2) (T := TX2) (N := 6) (ci := 2) hi_Client_lastHandle_X2 t_h h20 rfl 0 (by decide +kernel) (List.mem_of_getElem? (i := 2) rfl) rfl dX2_lastHandle_1 ?_
  refine v_iconst B (v := iI 2) dX2_lastHandle_4 rfl ?_
  refine u_icmp_eq B (tgt := 16) (by omega) (by omega) dX2_lastHandle_5 (by decide +kernel) (fun c27 => ?_) (fun c27 => ?_)
  · exact J16
  · refine v_aload_n B dX2_lastHandle_8 rfl rfl ?_
    refine u_get B Z (C := RX2) (T := TX2) (N := 6) (ci := 2) hi_Client_lastHandle_X2 t_h h20 rfl 0 (by decide +kernel) (List.mem_of_getElem? (i := 2) rfl) rfl dX2_lastHandle_9 ?_
    refine v_iconst B (v := iI 3) dX2_lastHandle_12 rfl ?_
    refine u_icmp_ne B (tgt := 23) (by omega) (by omega) dX2_lastHandle_13 (by decide +kernel) (fun c28 => ?_) (fun c28 => ?_)
    · refine v_ldc B (v := iI 65535) (u_ci (List.mem_of_getElem? (i := 3) rfl) (by decide +kernel)) dX2_lastHandle_23 ?_
      exact hend 65535 _ _ ⟨by omega, by omega⟩ dX2_lastHandle_25
    · exact J16
set_option maxRecDepth 100000 in
theorem c_Client_lastHandle (l : Launch) (D : va_G) (K : Nat → ClassId) {τ : Nat → Option Ty} {dom : List Nat} (Z : Sk τ dom) (zb zL : Nat) (zx : Nat → Int32) (zs : Nat → Nat) (h : Nat) (t_h : τ h = some (32, 0, 0)) (σ0 : Nat → va_E) (G0 : Good K τ σ0) : MZ l yX2_lastHandle wp_Client_lastHandle ({ frames := 0, cells := 0, slots := 0, locals := 0 }) D (tysA K) [.ref h] (fd dom σ0) zb zL zx zs (Qi D (fun r σ' => σ0 = σ' ∧ ∃ z : Int, r = iI z ∧ (-2147483648 ≤ z ∧ z ≤ 2147483647)) (fun σ' => fd dom σ')) 0 0 := by
  refine mz_of (cc := cX2_lastHandle) (maxL := 1) (ret := (some .int)) (by decide +kernel) rfl (Nat.le_of_ble_eq_true rfl) ?_
  intro p e s m below meth c A B hr hlk _ hz
  exact b_Client_lastHandle ⟨Nat.le_refl _, Nat.le_refl _⟩ B Z hz h t_h σ0 G0 (fun z lv pc hZ hd => v_iret B hr hlk σ0 ⟨rfl, z, rfl, hZ⟩ rfl (Nat.le_refl _) (Nat.le_refl _) hd)

def wp_Client_putRange : List Cond := .code yX2_putRange cX2_putRange 5 none :: (([.methodLink RX2 40 yX9_put, .instanceMethod yX9_put, .selects RX9 yX9_put yX9_put, .initialized RX9, .code yX9_put cX9_put 2 none, .fieldLink RX9 21 "LowEnergy$Row" "size" "I", .fieldLink RX9 15 "LowEnergy$Row" "bytes" "[I", .methodLink RX2 48 yX9_putNumber, .instanceMethod yX9_putNumber, .selects RX9 yX9_putNumber yX9_putNumber, .code yX9_putNumber cX9_putNumber 5 none, .constantLong RX9 25 (255), .methodLink RX2 74 yX2_lastHandle, .instanceMethod yX2_lastHandle, .selects RX2 yX2_lastHandle yX2_lastHandle, .initialized RX2, .code yX2_lastHandle cX2_lastHandle 1 (some .int), .fieldLink RX2 27 "LowEnergy$Client" "b" "I", .fieldLink RX2 9 "LowEnergy$Client" "kind" "I", .constant RX2 39 (65535)] : List Cond) ++ (wsX90 ++ (wsX20 ++ ([]))))
theorem hi_Client_putRange_X9 : ∀ x ∈ u_ws RX9 TX9 2, x ∈ wp_Client_putRange := fun _ h => List.mem_cons_of_mem _ (List.mem_append_right _ (List.mem_append_left _ h))
theorem hi_Client_putRange_X2 : ∀ x ∈ u_ws RX2 TX2 6, x ∈ wp_Client_putRange := fun _ h => List.mem_cons_of_mem _ (List.mem_append_right _ (List.mem_append_right _ (List.mem_append_left _ h)))
set_option maxRecDepth 100000 in
theorem gd_Client_putRange_Row_put_40 : GoodIn wp_Client_putRange (wsV RX2 40 RX9 yX9_put wp_Row_put) := goodIn_app (goodIn_r _ [1, 2, 3, 4] rfl rfl) (goodIn_ca (goodIn_r _ [5, 6, 7] rfl rfl) (goodIn_app (goodIn_cls hi_Client_putRange_X9 gw_X9) (goodIn_nil)))
set_option maxRecDepth 100000 in
theorem gd_Client_putRange_Row_putNumber_48 : GoodIn wp_Client_putRange (wsV RX2 48 RX9 yX9_putNumber wp_Row_putNumber) := goodIn_app (goodIn_r _ [8, 9, 10, 4] rfl rfl) (goodIn_ca (goodIn_r _ [11, 6, 7, 12] rfl rfl) (goodIn_app (goodIn_cls hi_Client_putRange_X9 gw_X9) (goodIn_nil)))
set_option maxRecDepth 100000 in
theorem gd_Client_putRange_Client_lastHandle_74 : GoodIn wp_Client_putRange (wsV RX2 74 RX2 yX2_lastHandle wp_Client_lastHandle) := goodIn_app (goodIn_r _ [13, 14, 15, 16] rfl rfl) (goodIn_ca (goodIn_r _ [17, 18, 19, 20] rfl rfl) (goodIn_app (goodIn_cls hi_Client_putRange_X2 gw_X2) (goodIn_nil)))
set_option maxHeartbeats 4000000 in
set_option maxRecDepth 100000 in
theorem b_Client_putRange {p : Program} {l : Launch} {e : Env} {R : Room} {s : State} {m : MethodId} {args : Array Value} {below : List Frame} {meth : Method} {c : Code} {D : va_G} {K : Nat → ClassId} {A : Nat → Prop} {Q : State → Prop} {τ : Nat → Option Ty} {dom : List Nat} {zb zL : Nat} {zx : Nat → Int32} {zs : Nat → Nat} (hR : 1 ≤ R.frames ∧ 24 ≤ R.locals) (B : Bx p s m args c cX2_putRange 5 RX2 wp_Client_putRange D (tysA K) A) (Z : Sk τ dom) (hz : ZL zb zL zx zs A s s.heap) (h : Nat) (x1 : Int) (x2 : Int) (x3 : Int) (g : Nat) (t_h : τ h = some (32, 0, 0)) (r_x1 : -2147483648 ≤ x1 ∧ x1 ≤ 2147483647) (r_x2 : -2147483648 ≤ x2 ∧ x2 ≤ 2147483647) (r_x3 : -2147483648 ≤ x3 ∧ x3 ≤ 2147483647) (t_g : τ g = some (1, 8, 0)) (σ0 : Nat → va_E) (G0 : Good K τ σ0) (hend : ∀ (σ' : Nat → va_E) (lv : List (Nat × Value)) (pc : Nat), Good K τ σ' → Fr τ [(2, 8), (1, 8)] σ0 σ' → decode cX2_putRange pc = .ok (.return_, 1) → V p l e R s m args below meth c 5 D A Q (0, 0) (fd dom σ') lv pc []) : V p l e R s m args below meth c 5 D A Q (0, 0) (fd dom σ0) [(0, .ref h), (1, .int (iI x1)), (2, .int (iI x2)), (3, .int (iI x3)), (4, .ref g)] 0 [] := by
  have F0 : Fr τ [(2, 8), (1, 8)] σ0 σ0 := Fr.rf
  refine v_aload B dX2_putRange_0 rfl ?_
  refine v_iload_n B dX2_putRange_2 rfl rfl ?_
  refine u_callVv B Z hz (n := 1) (As := [.int (iI x1)]) (rest := []) (c_Row_put l D K Z _ _ _ _ g x1 t_g ⟨by omega, by omega⟩ σ0 G0) gd_Client_putRange_Row_put_40 rfl rfl rfl (by decide +kernel) ⟨Nat.le_trans (by decide +kernel) hR.1, Nat.le_trans (by decide +kernel) hR.2⟩ t_g (cls_Row G0 t_g) rfl rfl rfl rfl (Nat.le_of_ble_eq_true rfl) dX2_putRange_3 ⟨Nat.zero_le _, Nat.zero_le _⟩ (fun σ1 p2 => ?_)
  obtain ⟨G4, F5⟩ := p2
  have F6 := F0.call F5 (by first | rfl | simp)
  refine v_aload B dX2_putRange_6 rfl ?_
  refine v_iload_n B dX2_putRange_8 rfl rfl ?_
  refine v_i2l B (v := lI x2) dX2_putRange_9 (lI_i (by omega)) ?_
  refine v_iconst B (v := iI 2) dX2_putRange_10 rfl ?_
  refine u_callVv B Z hz (n := 2) (As := [.long (lI x2), .int (iI 2)]) (rest := []) (c_Row_putNumber l D K Z _ _ _ _ g x2 2 t_g ⟨by omega, by omega⟩ ⟨by omega, by omega⟩ σ1 G4) gd_Client_putRange_Row_putNumber_48 rfl rfl rfl (by decide +kernel) ⟨Nat.le_trans (by decide +kernel) hR.1, Nat.le_trans (by decide +kernel) hR.2⟩ t_g (cls_Row G4 t_g) rfl rfl rfl rfl (Nat.le_of_ble_eq_true rfl) dX2_putRange_11 ⟨Nat.zero_le _, Nat.zero_le _⟩ (fun σ7 p8 => ?_)
  obtain ⟨G10, F11⟩ := p8
  have F12 := F6.call F11 (by first | rfl | simp)
  refine v_aload B dX2_putRange_14 rfl ?_
  refine v_aload_n B dX2_putRange_16 rfl rfl ?_
  refine u_callVi B Z hz (n := 0) (As := []) (rest := [.ref g]) (c_Client_lastHandle l D K Z _ _ _ _ h t_h σ7 G10) gd_Client_putRange_Client_lastHandle_74 rfl rfl rfl (by decide +kernel) ⟨Nat.le_trans (by decide +kernel) hR.1, Nat.le_trans (by decide +kernel) hR.2⟩ t_h (cls_Client G10 t_h) rfl rfl rfl rfl (Nat.le_of_ble_eq_true rfl) dX2_putRange_17 ⟨Nat.zero_le _, Nat.zero_le _⟩ (fun v15 σ13 p14 => ?_)
  obtain ⟨rfl, z19, e20, r21⟩ := p14
  subst e20
  refine v_i2l B (v := lI z19) dX2_putRange_20 (lI_i (by omega)) ?_
  refine v_iconst B (v := iI 2) dX2_putRange_21 rfl ?_
  refine u_callVv B Z hz (n := 2) (As := [.long (lI z19), .int (iI 2)]) (rest := []) (c_Row_putNumber l D K Z _ _ _ _ g z19 2 t_g ⟨by omega, by omega⟩ ⟨by omega, by omega⟩ σ7 G10) gd_Client_putRange_Row_putNumber_48 rfl rfl rfl (by decide +kernel) ⟨Nat.le_trans (by decide +kernel) hR.1, Nat.le_trans (by decide +kernel) hR.2⟩ t_g (cls_Row G10 t_g) rfl rfl rfl rfl (Nat.le_of_ble_eq_true rfl) dX2_putRange_22 ⟨Nat.zero_le _, Nat.zero_le _⟩ (fun σ22 p23 => ?_)
  obtain ⟨G25, F26⟩ := p23
  have F27 := F12.call F26 (by first | rfl | simp)
  refine v_iload_n B dX2_putRange_25 rfl rfl ?_
  refine v_iconst B (v := iI (-1)) dX2_putRange_26 rfl ?_
  refine u_icmp_eq B (tgt := 38) (by omega) (by omega) dX2_putRange_27 (by decide +kernel) (fun c28 => ?_) (fun c28 => ?_)
  · exact hend σ22 _ _ G25 F27 dX2_putRange_38
  · refine v_aload B dX2_putRange_30 rfl ?_
    refine v_iload_n B dX2_putRange_32 rfl rfl ?_
    refine v_i2l B (v := lI x3) dX2_putRange_33 (lI_i (by omega)) ?_
    refine v_iconst B (v := iI 2) dX2_putRange_34 rfl ?_
    refine u_callVv B Z hz (n := 2) (As := [.long (lI x3), .int (iI 2)]) (rest := []) (c_Row_putNumber l D K Z _ _ _ _ g x3 2 t_g ⟨by omega, by omega⟩ ⟨by omega, by omega⟩ σ22 G25) gd_Client_putRange_Row_putNumber_48 rfl rfl rfl (by decide +kernel) ⟨Nat.le_trans (by decide +kernel) hR.1, Nat.le_trans (by decide +kernel) hR.2⟩ t_g (cls_Row G25 t_g) rfl rfl rfl rfl (Nat.le_of_ble_eq_true rfl) dX2_putRange_35 ⟨Nat.zero_le _, Nat.zero_le _⟩ (fun σ29 p30 => ?_)
    obtain ⟨G32, F33⟩ := p30
    have F34 := F27.call F33 (by first | rfl | simp)
    exact hend σ29 _ _ G32 F34 dX2_putRange_38
set_option maxRecDepth 100000 in
theorem c_Client_putRange (l : Launch) (D : va_G) (K : Nat → ClassId) {τ : Nat → Option Ty} {dom : List Nat} (Z : Sk τ dom) (zb zL : Nat) (zx : Nat → Int32) (zs : Nat → Nat) (h : Nat) (x1 : Int) (x2 : Int) (x3 : Int) (g : Nat) (t_h : τ h = some (32, 0, 0)) (r_x1 : -2147483648 ≤ x1 ∧ x1 ≤ 2147483647) (r_x2 : -2147483648 ≤ x2 ∧ x2 ≤ 2147483647) (r_x3 : -2147483648 ≤ x3 ∧ x3 ≤ 2147483647) (t_g : τ g = some (1, 8, 0)) (σ0 : Nat → va_E) (G0 : Good K τ σ0) : MZ l yX2_putRange wp_Client_putRange ({ frames := 1, cells := 0, slots := 0, locals := 24 }) D (tysA K) [.ref h, .int (iI x1), .int (iI x2), .int (iI x3), .ref g] (fd dom σ0) zb zL zx zs (Qv D (fun σ' => Good K τ σ' ∧ Fr τ [(2, 8), (1, 8)] σ0 σ') (fun σ' => fd dom σ')) 0 0 := by
  refine mz_of (cc := cX2_putRange) (maxL := 5) (ret := none) (by decide +kernel) rfl (Nat.le_of_ble_eq_true rfl) ?_
  intro p e s m below meth c A B hr hlk _ hz
  exact b_Client_putRange ⟨Nat.le_refl _, Nat.le_refl _⟩ B Z hz h x1 x2 x3 g t_h r_x1 r_x2 r_x3 t_g σ0 G0 (fun σ' lv pc G F hd => v_vret B hr hlk σ' ⟨G, F⟩ rfl (Nat.le_refl _) (Nat.le_refl _) hd)

def wp_Client_askToWrite : List Cond := .code yX2_askToWrite cX2_askToWrite 3 none :: (([.fieldLink RX2 33 "LowEnergy$Client" "done" "I", .fieldLink RX2 20 "LowEnergy$Client" "bytes" "LLowEnergy$Row;", .methodLink RX2 40 yX9_put, .instanceMethod yX9_put, .selects RX9 yX9_put yX9_put, .initialized RX9, .code yX9_put cX9_put 2 none, .fieldLink RX9 21 "LowEnergy$Row" "size" "I", .fieldLink RX9 15 "LowEnergy$Row" "bytes" "[I", .fieldLink RX2 24 "LowEnergy$Client" "a" "I", .methodLink RX2 48 yX9_putNumber, .instanceMethod yX9_putNumber, .selects RX9 yX9_putNumber yX9_putNumber, .code yX9_putNumber cX9_putNumber 5 none, .constantLong RX9 25 (255), .methodLink RX2 66 yX9_putPart, .instanceMethod yX9_putPart, .selects RX9 yX9_putPart yX9_putPart, .code yX9_putPart cX9_putPart 6 none, .methodLink RX9 9 Lib.Math.max.name, .static Lib.Math.max.name, .initialized "java/lang/Math", .code Lib.Math.max.name Lib.Math.max.code 2 (some .int), .methodLink RX2 78 Lib.Math.min.name, .static Lib.Math.min.name, .code Lib.Math.min.name Lib.Math.min.code 2 (some .int)] : List Cond) ++ (wsX20 ++ (wsX90 ++ ([]))))
theorem hi_Client_askToWrite_X2 : ∀ x ∈ u_ws RX2 TX2 6, x ∈ wp_Client_askToWrite := fun _ h => List.mem_cons_of_mem _ (List.mem_append_right _ (List.mem_append_left _ h))
theorem hi_Client_askToWrite_X9 : ∀ x ∈ u_ws RX9 TX9 2, x ∈ wp_Client_askToWrite := fun _ h => List.mem_cons_of_mem _ (List.mem_append_right _ (List.mem_append_right _ (List.mem_append_left _ h)))
set_option maxRecDepth 100000 in
theorem gd_Client_askToWrite_Row_put_40 : GoodIn wp_Client_askToWrite (wsV RX2 40 RX9 yX9_put wp_Row_put) := goodIn_app (goodIn_r _ [3, 4, 5, 6] rfl rfl) (goodIn_ca (goodIn_r _ [7, 8, 9] rfl rfl) (goodIn_app (goodIn_cls hi_Client_askToWrite_X9 gw_X9) (goodIn_nil)))
set_option maxRecDepth 100000 in
theorem gd_Client_askToWrite_Row_putNumber_48 : GoodIn wp_Client_askToWrite (wsV RX2 48 RX9 yX9_putNumber wp_Row_putNumber) := goodIn_app (goodIn_r _ [11, 12, 13, 6] rfl rfl) (goodIn_ca (goodIn_r _ [14, 8, 9, 15] rfl rfl) (goodIn_app (goodIn_cls hi_Client_askToWrite_X9 gw_X9) (goodIn_nil)))
set_option maxRecDepth 100000 in
theorem gd_Client_askToWrite_Row_putPart_66 : GoodIn wp_Client_askToWrite (wsV RX2 66 RX9 yX9_putPart wp_Row_putPart) := goodIn_app (goodIn_r _ [16, 17, 18, 6] rfl rfl) (goodIn_ca (goodIn_r _ [19, 8, 9, 20, 21, 22, 23] rfl rfl) (goodIn_app (goodIn_cls hi_Client_askToWrite_X9 gw_X9) (goodIn_nil)))
set_option maxHeartbeats 4000000 in
set_option maxRecDepth 100000 in
theorem b_Client_askToWrite {p : Program} {l : Launch} {e : Env} {R : Room} {s : State} {m : MethodId} {args : Array Value} {below : List Frame} {meth : Method} {c : Code} {D : va_G} {K : Nat → ClassId} {A : Nat → Prop} {Q : State → Prop} {τ : Nat → Option Ty} {dom : List Nat} {zb zL : Nat} {zx : Nat → Int32} {zs : Nat → Nat} (hR : 2 ≤ R.frames ∧ 38 ≤ R.locals) (B : Bx p s m args c cX2_askToWrite 3 RX2 wp_Client_askToWrite D (tysA K) A) (Z : Sk τ dom) (hz : ZL zb zL zx zs A s s.heap) (h : Nat) (x1 : Int) (g : Nat) (t_h : τ h = some (32, 0, 0)) (r_x1 : -2147483648 ≤ x1 ∧ x1 ≤ 2147483647) (t_g : τ g = some (1, 8, 0)) (σ0 : Nat → va_E) (G0 : Good K τ σ0) (hend : ∀ (σ' : Nat → va_E) (lv : List (Nat × Value)) (pc : Nat), Good K τ σ' → Fr τ [(2, 8), (1, 8), (32, 0)] σ0 σ' → decode cX2_askToWrite pc = .ok (.return_, 1) → V p l e R s m args below meth c 3 D A Q (0, 0) (fd dom σ') lv pc []) : V p l e R s m args below meth c 3 D A Q (0, 0) (fd dom σ0) [(0, .ref h), (1, .int (iI x1)), (2, .ref g)] 0 [] := by
  have F0 : Fr τ [(2, 8), (1, 8), (32, 0)] σ0 σ0 := Fr.rf
  have J55 : ∀ (σ_55 : Nat → va_E), Good K τ σ_55 → Fr τ [(2, 8), (1, 8), (32, 0)] σ0 σ_55 → V p l e R s m args below meth c 3 D A Q (0, 0) (fd dom σ_55) [(0, .ref h), (1, .int (iI x1)), (2, .ref g)] 55 [] := by
    intro σ_55 G_55 F_55
    refine v_aload_n B dX2_askToWrite_55 rfl rfl ?_
    obtain ⟨z1, z2, z3, z4, z5, a6, h7, r8, r9, r10, r11, r12, t13⟩ : okClient τ (σ_55 h) := G_55 h _ t_h
    refine u_get B Z (C := RX2) (T := TX2) (N := 6) (ci := 2) hi_Client_askToWrite_X2 t_h h7 rfl 4 (by decide +kernel) (List.mem_of_getElem? (i := 1) rfl) rfl dX2_askToWrite_56 ?_
    refine v_aload_n B dX2_askToWrite_59 rfl rfl ?_
    refine u_get B Z (C := RX2) (T := TX2) (N := 6) (ci := 2) hi_Client_askToWrite_X2 t_h h7 rfl 5 (by decide +kernel) (List.mem_of_getElem? (i := 2) rfl) rfl dX2_askToWrite_60 ?_
    obtain ⟨b14, N15, n16, h17, t18, r19⟩ : okRow τ 15 (σ_55 a6) := G_55 a6 _ t13
    refine u_getN B Z (C := RX9) (T := TX9) (N := 2) (ci := 9) hi_Client_askToWrite_X9 t13 h17 rfl 1 (by decide +kernel) (List.mem_of_getElem? (i := 74) rfl) rfl dX2_askToWrite_63 ?_
    refine u_icmp_ge B (tgt := 135) (by omega) (by omega) dX2_askToWrite_66 (by decide +kernel) (fun c20 => ?_) (fun c20 => ?_)
    · refine v_aload_n B dX2_askToWrite_135 rfl rfl ?_
      refine v_bipush B (v := iI 24) dX2_askToWrite_136 (by decide +kernel) ?_
      refine u_callVv B Z hz (n := 1) (As := [.int (iI 24)]) (rest := []) (c_Row_put l D K Z _ _ _ _ g 24 t_g ⟨by omega, by omega⟩ σ_55 G_55) gd_Client_askToWrite_Row_put_40 rfl rfl rfl (by decide +kernel) ⟨Nat.le_trans (by decide +kernel) hR.1, Nat.le_trans (by decide +kernel) hR.2⟩ t_g (cls_Row G_55 t_g) rfl rfl rfl rfl (Nat.le_of_ble_eq_true rfl) dX2_askToWrite_138 ⟨Nat.zero_le _, Nat.zero_le _⟩ (fun σ21 p22 => ?_)
      obtain ⟨G24, F25⟩ := p22
      have F26 := F_55.call F25 (by first | rfl | simp)
      have h27 := (F25 h _ t_h (by first | rfl | simp)).trans h7
      have h28 := (F25 a6 _ t13 (by first | rfl | simp)).trans h17
      refine v_aload_n B dX2_askToWrite_141 rfl rfl ?_
      refine v_iconst B (v := iI 1) dX2_askToWrite_142 rfl ?_
      refine u_callVv B Z hz (n := 1) (As := [.int (iI 1)]) (rest := []) (c_Row_put l D K Z _ _ _ _ g 1 t_g ⟨by omega, by omega⟩ σ21 G24) gd_Client_askToWrite_Row_put_40 rfl rfl rfl (by decide +kernel) ⟨Nat.le_trans (by decide +kernel) hR.1, Nat.le_trans (by decide +kernel) hR.2⟩ t_g (cls_Row G24 t_g) rfl rfl rfl rfl (Nat.le_of_ble_eq_true rfl) dX2_askToWrite_143 ⟨Nat.zero_le _, Nat.zero_le _⟩ (fun σ29 p30 => ?_)
      obtain ⟨G32, F33⟩ := p30
      have F34 := F26.call F33 (by first | rfl | simp)
      have h35 := (F33 h _ t_h (by first | rfl | simp)).trans h27
      have h36 := (F33 a6 _ t13 (by first | rfl | simp)).trans h28
      exact hend σ29 _ _ G32 F34 dX2_askToWrite_146
    · refine v_aload_n B dX2_askToWrite_69 rfl rfl ?_
      refine v_bipush B (v := iI 22) dX2_askToWrite_70 (by decide +kernel) ?_
      refine u_callVv B Z hz (n := 1) (As := [.int (iI 22)]) (rest := []) (c_Row_put l D K Z _ _ _ _ g 22 t_g ⟨by omega, by omega⟩ σ_55 G_55) gd_Client_askToWrite_Row_put_40 rfl rfl rfl (by decide +kernel) ⟨Nat.le_trans (by decide +kernel) hR.1, Nat.le_trans (by decide +kernel) hR.2⟩ t_g (cls_Row G_55 t_g) rfl rfl rfl rfl (Nat.le_of_ble_eq_true rfl) dX2_askToWrite_72 ⟨Nat.zero_le _, Nat.zero_le _⟩ (fun σ37 p38 => ?_)
      obtain ⟨G40, F41⟩ := p38
      have F42 := F_55.call F41 (by first | rfl | simp)
      have h43 := (F41 h _ t_h (by first | rfl | simp)).trans h7
      have h44 := (F41 a6 _ t13 (by first | rfl | simp)).trans h17
      refine v_aload_n B dX2_askToWrite_75 rfl rfl ?_
      refine v_aload_n B dX2_askToWrite_76 rfl rfl ?_
      refine u_get B Z (C := RX2) (T := TX2) (N := 6) (ci := 2) hi_Client_askToWrite_X2 t_h h43 rfl 1 (by decide +kernel) (List.mem_of_getElem? (i := 10) rfl) rfl dX2_askToWrite_77 ?_
      refine v_i2l B (v := lI z2) dX2_askToWrite_80 (lI_i (by omega)) ?_
      refine v_iconst B (v := iI 2) dX2_askToWrite_81 rfl ?_
      refine u_callVv B Z hz (n := 2) (As := [.long (lI z2), .int (iI 2)]) (rest := []) (c_Row_putNumber l D K Z _ _ _ _ g z2 2 t_g ⟨by omega, by omega⟩ ⟨by omega, by omega⟩ σ37 G40) gd_Client_askToWrite_Row_putNumber_48 rfl rfl rfl (by decide +kernel) ⟨Nat.le_trans (by decide +kernel) hR.1, Nat.le_trans (by decide +kernel) hR.2⟩ t_g (cls_Row G40 t_g) rfl rfl rfl rfl (Nat.le_of_ble_eq_true rfl) dX2_askToWrite_82 ⟨Nat.zero_le _, Nat.zero_le _⟩ (fun σ45 p46 => ?_)
      obtain ⟨G48, F49⟩ := p46
      have F50 := F42.call F49 (by first | rfl | simp)
      have h51 := (F49 h _ t_h (by first | rfl | simp)).trans h43
      have h52 := (F49 a6 _ t13 (by first | rfl | simp)).trans h44
      refine v_aload_n B dX2_askToWrite_85 rfl rfl ?_
      refine v_aload_n B dX2_askToWrite_86 rfl rfl ?_
      refine u_get B Z (C := RX2) (T := TX2) (N := 6) (ci := 2) hi_Client_askToWrite_X2 t_h h51 rfl 4 (by decide +kernel) (List.mem_of_getElem? (i := 1) rfl) rfl dX2_askToWrite_87 ?_
      refine v_i2l B (v := lI z5) dX2_askToWrite_90 (lI_i (by omega)) ?_
      refine v_iconst B (v := iI 2) dX2_askToWrite_91 rfl ?_
      refine u_callVv B Z hz (n := 2) (As := [.long (lI z5), .int (iI 2)]) (rest := []) (c_Row_putNumber l D K Z _ _ _ _ g z5 2 t_g ⟨by omega, by omega⟩ ⟨by omega, by omega⟩ σ45 G48) gd_Client_askToWrite_Row_putNumber_48 rfl rfl rfl (by decide +kernel) ⟨Nat.le_trans (by decide +kernel) hR.1, Nat.le_trans (by decide +kernel) hR.2⟩ t_g (cls_Row G48 t_g) rfl rfl rfl rfl (Nat.le_of_ble_eq_true rfl) dX2_askToWrite_92 ⟨Nat.zero_le _, Nat.zero_le _⟩ (fun σ53 p54 => ?_)
      obtain ⟨G56, F57⟩ := p54
      have F58 := F50.call F57 (by first | rfl | simp)
      have h59 := (F57 h _ t_h (by first | rfl | simp)).trans h51
      have h60 := (F57 a6 _ t13 (by first | rfl | simp)).trans h52
      refine v_aload_n B dX2_askToWrite_95 rfl rfl ?_
      refine v_aload_n B dX2_askToWrite_96 rfl rfl ?_
      refine u_get B Z (C := RX2) (T := TX2) (N := 6) (ci := 2) hi_Client_askToWrite_X2 t_h h59 rfl 5 (by decide +kernel) (List.mem_of_getElem? (i := 2) rfl) rfl dX2_askToWrite_97 ?_
      refine v_aload_n B dX2_askToWrite_100 rfl rfl ?_
      refine u_get B Z (C := RX2) (T := TX2) (N := 6) (ci := 2) hi_Client_askToWrite_X2 t_h h59 rfl 4 (by decide +kernel) (List.mem_of_getElem? (i := 1) rfl) rfl dX2_askToWrite_101 ?_
      refine v_iload_n B dX2_askToWrite_104 rfl rfl ?_
      refine v_iconst B (v := iI 5) dX2_askToWrite_105 rfl ?_
      obtain ⟨z61, e62, r63⟩ := iI_any (iI x1 - iI 5)
      refine v_isub B (v := iI z61) dX2_askToWrite_106 e62 ?_
      refine u_callVv B Z hz (n := 3) (As := [.ref a6, .int (iI z5), .int (iI z61)]) (rest := []) (c_Row_putPart l D K Z _ _ _ _ g a6 z5 z61 t_g t13 ⟨by omega, by omega⟩ ⟨by omega, by omega⟩ σ53 G56) gd_Client_askToWrite_Row_putPart_66 rfl rfl rfl (by decide +kernel) ⟨Nat.le_trans (by decide +kernel) hR.1, Nat.le_trans (by decide +kernel) hR.2⟩ t_g (cls_Row G56 t_g) rfl rfl rfl rfl (Nat.le_of_ble_eq_true rfl) dX2_askToWrite_107 ⟨Nat.zero_le _, Nat.zero_le _⟩ (fun σ64 p65 => ?_)
      obtain ⟨G67, F68⟩ := p65
      have F69 := F58.call F68 (by first | rfl | simp)
      have h70 := (F68 h _ t_h (by first | rfl | simp)).trans h59
      have h71 := (F68 a6 _ t13 (by first | rfl | simp)).trans h60
      refine v_aload_n B dX2_askToWrite_110 rfl rfl ?_
      refine v_aload_n B dX2_askToWrite_111 rfl rfl ?_
      refine u_get B Z (C := RX2) (T := TX2) (N := 6) (ci := 2) hi_Client_askToWrite_X2 t_h h70 rfl 5 (by decide +kernel) (List.mem_of_getElem? (i := 2) rfl) rfl dX2_askToWrite_112 ?_
      refine u_getN B Z (C := RX9) (T := TX9) (N := 2) (ci := 9) hi_Client_askToWrite_X9 t13 h71 rfl 1 (by decide +kernel) (List.mem_of_getElem? (i := 74) rfl) rfl dX2_askToWrite_115 ?_
      refine v_aload_n B dX2_askToWrite_118 rfl rfl ?_
      refine u_get B Z (C := RX2) (T := TX2) (N := 6) (ci := 2) hi_Client_askToWrite_X2 t_h h70 rfl 4 (by decide +kernel) (List.mem_of_getElem? (i := 1) rfl) rfl dX2_askToWrite_119 ?_
      refine v_iload_n B dX2_askToWrite_122 rfl rfl ?_
      obtain ⟨z72, e73, r74⟩ := iI_any (iI z5 + iI x1)
      refine v_iadd B (v := iI z72) dX2_askToWrite_123 e73 ?_
      refine v_iconst B (v := iI 5) dX2_askToWrite_124 rfl ?_
      obtain ⟨z75, e76, r77⟩ := iI_any (iI z72 - iI 5)
      refine v_isub B (v := iI z75) dX2_askToWrite_125 e76 ?_
      obtain ⟨z78, e79, r80⟩ := iI_min (a := n16) (b := z75) (by omega) (by omega)
      refine v_mmin B (v := iI z78) (List.mem_of_getElem? (i := 24) rfl) (List.mem_of_getElem? (i := 25) rfl) (List.mem_of_getElem? (i := 22) rfl) (List.mem_of_getElem? (i := 26) rfl) (Nat.le_trans (by decide +kernel) hR.1) (Nat.le_trans (Nat.le_of_ble_eq_true rfl) hR.2) (Nat.zero_le _) (Nat.zero_le _) e79 dX2_askToWrite_126 ?_
      refine u_put B Z (C := RX2) (T := TX2) (N := 6) (ci := 2) hi_Client_askToWrite_X2 t_h h70 rfl 4 (by decide +kernel) tyX2 tyX2_ok nmX2 (List.mem_of_getElem? (i := 1) rfl) rfl (ty := .int) (tyX2_ok 4 (by decide +kernel)) rfl rfl (Nat.le_of_ble_eq_true rfl) (fs' := [.int (iI z1), .int (iI z2), .int (iI z3), .int (iI z4), .int (iI z78), .ref a6]) rfl dX2_askToWrite_129 (fun σ81 h82 n83 => ?_)
      have G84 := G67.put t_h (⟨z1, z2, z3, z4, z78, a6, h82, ⟨by omega, by omega⟩, ⟨by omega, by omega⟩, ⟨by omega, by omega⟩, ⟨by omega, by omega⟩, ⟨by omega, by omega⟩, t13⟩ : Ok K τ (32, 0, 0) (σ81 h)) n83
      have F85 := F69.put t_h (by simp) n83
      have h86 := (n83 a6 (ne_ty t13 t_h (by simp))).trans h71
      refine v_goto B (tgt := 146) dX2_askToWrite_132 (by decide +kernel) ?_
      exact hend σ81 _ _ G84 F85 dX2_askToWrite_146
  refine v_aload_n B dX2_askToWrite_0 rfl rfl ?_
  obtain ⟨z87, z88, z89, z90, z91, a92, h93, r94, r95, r96, r97, r98, t99⟩ : okClient τ (σ0 h) := G0 h _ t_h
  refine u_get B Z (C := RX2) (T := TX2) (N := 6) (ci := 2) hi_Client_askToWrite_X2 t_h h93 rfl 4 (by decide +kernel) (List.mem_of_getElem? (i := 1) rfl) rfl dX2_askToWrite_1 ?_
  refine u_if_ne B (tgt := 55) (by omega) dX2_askToWrite_4 (by decide +kernel) (fun c100 => ?_) (fun c100 => ?_)
  · exact J55 σ0 G0 F0
  · refine v_aload_n B dX2_askToWrite_7 rfl rfl ?_
    refine u_get B Z (C := RX2) (T := TX2) (N := 6) (ci := 2) hi_Client_askToWrite_X2 t_h h93 rfl 5 (by decide +kernel) (List.mem_of_getElem? (i := 2) rfl) rfl dX2_askToWrite_8 ?_
    obtain ⟨b101, N102, n103, h104, t105, r106⟩ : okRow τ 15 (σ0 a92) := G0 a92 _ t99
    refine u_getN B Z (C := RX9) (T := TX9) (N := 2) (ci := 9) hi_Client_askToWrite_X9 t99 h104 rfl 1 (by decide +kernel) (List.mem_of_getElem? (i := 74) rfl) rfl dX2_askToWrite_11 ?_
    refine v_iload_n B dX2_askToWrite_14 rfl rfl ?_
    refine v_iconst B (v := iI 3) dX2_askToWrite_15 rfl ?_
    obtain ⟨z107, e108, r109⟩ := iI_any (iI x1 - iI 3)
    refine v_isub B (v := iI z107) dX2_askToWrite_16 e108 ?_
    refine u_icmp_gt B (tgt := 55) (by omega) (by omega) dX2_askToWrite_17 (by decide +kernel) (fun c110 => ?_) (fun c110 => ?_)
    · exact J55 σ0 G0 F0
    · refine v_aload_n B dX2_askToWrite_20 rfl rfl ?_
      refine v_bipush B (v := iI 18) dX2_askToWrite_21 (by decide +kernel) ?_
      refine u_callVv B Z hz (n := 1) (As := [.int (iI 18)]) (rest := []) (c_Row_put l D K Z _ _ _ _ g 18 t_g ⟨by omega, by omega⟩ σ0 G0) gd_Client_askToWrite_Row_put_40 rfl rfl rfl (by decide +kernel) ⟨Nat.le_trans (by decide +kernel) hR.1, Nat.le_trans (by decide +kernel) hR.2⟩ t_g (cls_Row G0 t_g) rfl rfl rfl rfl (Nat.le_of_ble_eq_true rfl) dX2_askToWrite_23 ⟨Nat.zero_le _, Nat.zero_le _⟩ (fun σ111 p112 => ?_)
      obtain ⟨G114, F115⟩ := p112
      have F116 := F0.call F115 (by first | rfl | simp)
      have h117 := (F115 h _ t_h (by first | rfl | simp)).trans h93
      have h118 := (F115 a92 _ t99 (by first | rfl | simp)).trans h104
      refine v_aload_n B dX2_askToWrite_26 rfl rfl ?_
      refine v_aload_n B dX2_askToWrite_27 rfl rfl ?_
      refine u_get B Z (C := RX2) (T := TX2) (N := 6) (ci := 2) hi_Client_askToWrite_X2 t_h h117 rfl 1 (by decide +kernel) (List.mem_of_getElem? (i := 10) rfl) rfl dX2_askToWrite_28 ?_
      refine v_i2l B (v := lI z88) dX2_askToWrite_31 (lI_i (by omega)) ?_
      refine v_iconst B (v := iI 2) dX2_askToWrite_32 rfl ?_
      refine u_callVv B Z hz (n := 2) (As := [.long (lI z88), .int (iI 2)]) (rest := []) (c_Row_putNumber l D K Z _ _ _ _ g z88 2 t_g ⟨by omega, by omega⟩ ⟨by omega, by omega⟩ σ111 G114) gd_Client_askToWrite_Row_putNumber_48 rfl rfl rfl (by decide +kernel) ⟨Nat.le_trans (by decide +kernel) hR.1, Nat.le_trans (by decide +kernel) hR.2⟩ t_g (cls_Row G114 t_g) rfl rfl rfl rfl (Nat.le_of_ble_eq_true rfl) dX2_askToWrite_33 ⟨Nat.zero_le _, Nat.zero_le _⟩ (fun σ119 p120 => ?_)
      obtain ⟨G122, F123⟩ := p120
      have F124 := F116.call F123 (by first | rfl | simp)
      have h125 := (F123 h _ t_h (by first | rfl | simp)).trans h117
      have h126 := (F123 a92 _ t99 (by first | rfl | simp)).trans h118
      refine v_aload_n B dX2_askToWrite_36 rfl rfl ?_
      refine v_aload_n B dX2_askToWrite_37 rfl rfl ?_
      refine u_get B Z (C := RX2) (T := TX2) (N := 6) (ci := 2) hi_Client_askToWrite_X2 t_h h125 rfl 5 (by decide +kernel) (List.mem_of_getElem? (i := 2) rfl) rfl dX2_askToWrite_38 ?_
      refine v_iconst B (v := iI 0) dX2_askToWrite_41 rfl ?_
      refine v_aload_n B dX2_askToWrite_42 rfl rfl ?_
      refine u_get B Z (C := RX2) (T := TX2) (N := 6) (ci := 2) hi_Client_askToWrite_X2 t_h h125 rfl 5 (by decide +kernel) (List.mem_of_getElem? (i := 2) rfl) rfl dX2_askToWrite_43 ?_
      refine u_getN B Z (C := RX9) (T := TX9) (N := 2) (ci := 9) hi_Client_askToWrite_X9 t99 h126 rfl 1 (by decide +kernel) (List.mem_of_getElem? (i := 74) rfl) rfl dX2_askToWrite_46 ?_
      refine u_callVv B Z hz (n := 3) (As := [.ref a92, .int (iI 0), .int (iI n103)]) (rest := []) (c_Row_putPart l D K Z _ _ _ _ g a92 0 n103 t_g t99 ⟨by omega, by omega⟩ ⟨by omega, by omega⟩ σ119 G122) gd_Client_askToWrite_Row_putPart_66 rfl rfl rfl (by decide +kernel) ⟨Nat.le_trans (by decide +kernel) hR.1, Nat.le_trans (by decide +kernel) hR.2⟩ t_g (cls_Row G122 t_g) rfl rfl rfl rfl (Nat.le_of_ble_eq_true rfl) dX2_askToWrite_49 ⟨Nat.zero_le _, Nat.zero_le _⟩ (fun σ127 p128 => ?_)
      obtain ⟨G130, F131⟩ := p128
      have F132 := F124.call F131 (by first | rfl | simp)
      have h133 := (F131 h _ t_h (by first | rfl | simp)).trans h125
      have h134 := (F131 a92 _ t99 (by first | rfl | simp)).trans h126
      refine v_goto B (tgt := 146) dX2_askToWrite_52 (by decide +kernel) ?_
      exact hend σ127 _ _ G130 F132 dX2_askToWrite_146
set_option maxRecDepth 100000 in
theorem c_Client_askToWrite (l : Launch) (D : va_G) (K : Nat → ClassId) {τ : Nat → Option Ty} {dom : List Nat} (Z : Sk τ dom) (zb zL : Nat) (zx : Nat → Int32) (zs : Nat → Nat) (h : Nat) (x1 : Int) (g : Nat) (t_h : τ h = some (32, 0, 0)) (r_x1 : -2147483648 ≤ x1 ∧ x1 ≤ 2147483647) (t_g : τ g = some (1, 8, 0)) (σ0 : Nat → va_E) (G0 : Good K τ σ0) : MZ l yX2_askToWrite wp_Client_askToWrite ({ frames := 2, cells := 0, slots := 0, locals := 38 }) D (tysA K) [.ref h, .int (iI x1), .ref g] (fd dom σ0) zb zL zx zs (Qv D (fun σ' => Good K τ σ' ∧ Fr τ [(2, 8), (1, 8), (32, 0)] σ0 σ') (fun σ' => fd dom σ')) 0 0 := by
  refine mz_of (cc := cX2_askToWrite) (maxL := 3) (ret := none) (by decide +kernel) rfl (Nat.le_of_ble_eq_true rfl) ?_
  intro p e s m below meth c A B hr hlk _ hz
  exact b_Client_askToWrite ⟨Nat.le_refl _, Nat.le_refl _⟩ B Z hz h x1 g t_h r_x1 t_g σ0 G0 (fun σ' lv pc G F hd => v_vret B hr hlk σ' ⟨G, F⟩ rfl (Nat.le_refl _) (Nat.le_refl _) hd)

def wp_Client_ask : List Cond := .code yX2_ask cX2_ask 4 none :: (([.methodLink RX2 70 yX9_at, .instanceMethod yX9_at, .selects RX9 yX9_at yX9_at, .initialized RX9, .code yX9_at cX9_at 2 (some .int), .fieldLink RX9 21 "LowEnergy$Row" "size" "I", .fieldLink RX9 15 "LowEnergy$Row" "bytes" "[I", .fieldLink RX2 30 "LowEnergy$Client" "askedOp" "I", .methodLink RX2 40 yX9_put, .instanceMethod yX9_put, .selects RX9 yX9_put yX9_put, .code yX9_put cX9_put 2 none, .fieldLink RX2 24 "LowEnergy$Client" "a" "I", .methodLink RX2 48 yX9_putNumber, .instanceMethod yX9_putNumber, .selects RX9 yX9_putNumber yX9_putNumber, .code yX9_putNumber cX9_putNumber 5 none, .constantLong RX9 25 (255), .fieldLink RX2 20 "LowEnergy$Client" "bytes" "LLowEnergy$Row;", .fieldLink RX2 9 "LowEnergy$Client" "kind" "I", .methodLink RX2 52 yX2_putRange, .instanceMethod yX2_putRange, .selects RX2 yX2_putRange yX2_putRange, .initialized RX2, .code yX2_putRange cX2_putRange 5 none, .methodLink RX2 74 yX2_lastHandle, .instanceMethod yX2_lastHandle, .selects RX2 yX2_lastHandle yX2_lastHandle, .code yX2_lastHandle cX2_lastHandle 1 (some .int), .fieldLink RX2 27 "LowEnergy$Client" "b" "I", .constant RX2 39 (65535), .methodLink RX2 62 yX2_askToWrite, .instanceMethod yX2_askToWrite, .selects RX2 yX2_askToWrite yX2_askToWrite, .code yX2_askToWrite cX2_askToWrite 3 none, .fieldLink RX2 33 "LowEnergy$Client" "done" "I", .methodLink RX2 66 yX9_putPart, .instanceMethod yX9_putPart, .selects RX9 yX9_putPart yX9_putPart, .code yX9_putPart cX9_putPart 6 none, .methodLink RX9 9 Lib.Math.max.name, .static Lib.Math.max.name, .initialized "java/lang/Math", .code Lib.Math.max.name Lib.Math.max.code 2 (some .int), .methodLink RX2 78 Lib.Math.min.name, .static Lib.Math.min.name, .code Lib.Math.min.name Lib.Math.min.code 2 (some .int)] : List Cond) ++ (wsX90 ++ (wsX20 ++ (wsX100 ++ ([])))))
theorem hi_Client_ask_X9 : ∀ x ∈ u_ws RX9 TX9 2, x ∈ wp_Client_ask := fun _ h => List.mem_cons_of_mem _ (List.mem_append_right _ (List.mem_append_left _ h))
theorem hi_Client_ask_X2 : ∀ x ∈ u_ws RX2 TX2 6, x ∈ wp_Client_ask := fun _ h => List.mem_cons_of_mem _ (List.mem_append_right _ (List.mem_append_right _ (List.mem_append_left _ h)))
theorem hi_Client_ask_X10 : ∀ x ∈ u_ws RX10 TX10 10, x ∈ wp_Client_ask := fun _ h => List.mem_cons_of_mem _ (List.mem_append_right _ (List.mem_append_right _ (List.mem_append_right _ (List.mem_append_left _ h))))
set_option maxRecDepth 100000 in
theorem gd_Client_ask_Row_at_70 : GoodIn wp_Client_ask (wsV RX2 70 RX9 yX9_at wp_Row_at) := goodIn_app (goodIn_r _ [1, 2, 3, 4] rfl rfl) (goodIn_ca (goodIn_r _ [5, 6, 7] rfl rfl) (goodIn_app (goodIn_cls hi_Client_ask_X9 gw_X9) (goodIn_nil)))
set_option maxRecDepth 100000 in
theorem gd_Client_ask_Row_put_40 : GoodIn wp_Client_ask (wsV RX2 40 RX9 yX9_put wp_Row_put) := goodIn_app (goodIn_r _ [9, 10, 11, 4] rfl rfl) (goodIn_ca (goodIn_r _ [12, 6, 7] rfl rfl) (goodIn_app (goodIn_cls hi_Client_ask_X9 gw_X9) (goodIn_nil)))
set_option maxRecDepth 100000 in
theorem gd_Client_ask_Row_putNumber_48 : GoodIn wp_Client_ask (wsV RX2 48 RX9 yX9_putNumber wp_Row_putNumber) := goodIn_app (goodIn_r _ [14, 15, 16, 4] rfl rfl) (goodIn_ca (goodIn_r _ [17, 6, 7, 18] rfl rfl) (goodIn_app (goodIn_cls hi_Client_ask_X9 gw_X9) (goodIn_nil)))
set_option maxRecDepth 100000 in
theorem gd_Client_ask_Client_putRange_52 : GoodIn wp_Client_ask (wsV RX2 52 RX2 yX2_putRange wp_Client_putRange) := goodIn_app (goodIn_r _ [21, 22, 23, 24] rfl rfl) (goodIn_ca (goodIn_r _ [25, 9, 10, 11, 4, 12, 6, 7, 14, 15, 16, 17, 18, 26, 27, 28, 24, 29, 30, 20, 31] rfl rfl) (goodIn_app (goodIn_cls hi_Client_ask_X9 gw_X9) (goodIn_app (goodIn_cls hi_Client_ask_X2 gw_X2) (goodIn_nil))))
set_option maxRecDepth 100000 in
theorem gd_Client_ask_Client_askToWrite_62 : GoodIn wp_Client_ask (wsV RX2 62 RX2 yX2_askToWrite wp_Client_askToWrite) := goodIn_app (goodIn_r _ [32, 33, 34, 24] rfl rfl) (goodIn_ca (goodIn_r _ [35, 36, 19, 9, 10, 11, 4, 12, 6, 7, 13, 14, 15, 16, 17, 18, 37, 38, 39, 40, 41, 42, 43, 44, 45, 46, 47] rfl rfl) (goodIn_app (goodIn_cls hi_Client_ask_X2 gw_X2) (goodIn_app (goodIn_cls hi_Client_ask_X9 gw_X9) (goodIn_nil))))
set_option maxRecDepth 100000 in
theorem gd_Client_ask_Row_putPart_66 : GoodIn wp_Client_ask (wsV RX2 66 RX9 yX9_putPart wp_Row_putPart) := goodIn_app (goodIn_r _ [37, 38, 39, 4] rfl rfl) (goodIn_ca (goodIn_r _ [40, 6, 7, 41, 42, 43, 44] rfl rfl) (goodIn_app (goodIn_cls hi_Client_ask_X9 gw_X9) (goodIn_nil)))
set_option maxHeartbeats 4000000 in
set_option maxRecDepth 100000 in
theorem b_Client_ask {p : Program} {l : Launch} {e : Env} {R : Room} {s : State} {m : MethodId} {args : Array Value} {below : List Frame} {meth : Method} {c : Code} {D : va_G} {K : Nat → ClassId} {A : Nat → Prop} {Q : State → Prop} {τ : Nat → Option Ty} {dom : List Nat} {zb zL : Nat} {zx : Nat → Int32} {zs : Nat → Nat} (hR : 3 ≤ R.frames ∧ 60 ≤ R.locals) (B : Bx p s m args c cX2_ask 4 RX2 wp_Client_ask D (tysA K) A) (Z : Sk τ dom) (hz : ZL zb zL zx zs A s s.heap) (h : Nat) (x1 : Int) (w1 : Nat) (g : Nat) (t_h : τ h = some (32, 0, 0)) (r_x1 : -2147483648 ≤ x1 ∧ x1 ≤ 2147483647) (t_w1 : τ w1 = some (40, 0, 0)) (t_g : τ g = some (1, 8, 0)) (σ0 : Nat → va_E) (G0 : Good K τ σ0) (hend : ∀ (σ' : Nat → va_E) (lv : List (Nat × Value)) (pc : Nat), Good K τ σ' → Fr τ [(2, 8), (1, 8), (32, 0)] σ0 σ' → decode cX2_ask pc = .ok (.return_, 1) → V p l e R s m args below meth c 4 D A Q (0, 0) (fd dom σ') lv pc []) : V p l e R s m args below meth c 4 D A Q (0, 0) (fd dom σ0) [(0, .ref h), (1, .int (iI x1)), (2, .ref w1), (3, .ref g)] 0 [] := by
  have F0 : Fr τ [(2, 8), (1, 8), (32, 0)] σ0 σ0 := Fr.rf
  have J191 : ∀ (σ_191 : Nat → va_E), Good K τ σ_191 → Fr τ [(2, 8), (1, 8), (32, 0)] σ0 σ_191 → V p l e R s m args below meth c 4 D A Q (0, 0) (fd dom σ_191) [(0, .ref h), (3, .ref g)] 191 [] := by
    intro σ_191 G_191 F_191
    refine v_aload_n B dX2_ask_191 rfl rfl ?_
    refine v_aload_n B dX2_ask_192 rfl rfl ?_
    refine v_iconst B (v := iI 0) dX2_ask_193 rfl ?_
    refine u_callVi B Z hz (n := 1) (As := [.int (iI 0)]) (rest := [.ref h]) (c_Row_at l D K Z _ _ _ _ g 0 t_g ⟨by omega, by omega⟩ σ_191 G_191) gd_Client_ask_Row_at_70 rfl rfl rfl (by decide +kernel) ⟨Nat.le_trans (by decide +kernel) hR.1, Nat.le_trans (by decide +kernel) hR.2⟩ t_g (cls_Row G_191 t_g) rfl rfl rfl rfl (Nat.le_of_ble_eq_true rfl) dX2_ask_194 ⟨Nat.zero_le _, Nat.zero_le _⟩ (fun v3 σ1 p2 => ?_)
    obtain ⟨rfl, z7, e8, r9⟩ := p2
    subst e8
    obtain ⟨z10, z11, z12, z13, z14, a15, h16, r17, r18, r19, r20, r21, t22⟩ : okClient τ (σ_191 h) := G_191 h _ t_h
    refine u_put B Z (C := RX2) (T := TX2) (N := 6) (ci := 2) hi_Client_ask_X2 t_h h16 rfl 3 (by decide +kernel) tyX2 tyX2_ok nmX2 (List.mem_of_getElem? (i := 8) rfl) rfl (ty := .int) (tyX2_ok 3 (by decide +kernel)) rfl rfl (Nat.le_of_ble_eq_true rfl) (fs' := [.int (iI z10), .int (iI z11), .int (iI z12), .int (iI z7), .int (iI z14), .ref a15]) rfl dX2_ask_197 (fun σ23 h24 n25 => ?_)
    have G26 := G_191.put t_h (⟨z10, z11, z12, z7, z14, a15, h24, ⟨by omega, by omega⟩, ⟨by omega, by omega⟩, ⟨by omega, by omega⟩, ⟨by omega, by omega⟩, ⟨by omega, by omega⟩, t22⟩ : Ok K τ (32, 0, 0) (σ23 h)) n25
    have F27 := F_191.put t_h (by simp) n25
    exact hend σ23 _ _ G26 F27 dX2_ask_200
  have J116 : ∀ (σ_116 : Nat → va_E) (z116_s0 : Int), Good K τ σ_116 → Fr τ [(2, 8), (1, 8), (32, 0)] σ0 σ_116 → (10 ≤ z116_s0 ∧ z116_s0 ≤ 12) → V p l e R s m args below meth c 4 D A Q (0, 0) (fd dom σ_116) [(0, .ref h), (3, .ref g)] 116 [.int (iI z116_s0), .ref g] := by
    intro σ_116 z116_s0 G_116 F_116 r116_s0
    refine u_callVv B Z hz (n := 1) (As := [.int (iI z116_s0)]) (rest := []) (c_Row_put l D K Z _ _ _ _ g z116_s0 t_g ⟨by omega, by omega⟩ σ_116 G_116) gd_Client_ask_Row_put_40 rfl rfl rfl (by decide +kernel) ⟨Nat.le_trans (by decide +kernel) hR.1, Nat.le_trans (by decide +kernel) hR.2⟩ t_g (cls_Row G_116 t_g) rfl rfl rfl rfl (Nat.le_of_ble_eq_true rfl) dX2_ask_116 ⟨Nat.zero_le _, Nat.zero_le _⟩ (fun σ28 p29 => ?_)
    obtain ⟨G31, F32⟩ := p29
    have F33 := F_116.call F32 (by first | rfl | simp)
    refine v_aload_n B dX2_ask_119 rfl rfl ?_
    refine v_aload_n B dX2_ask_120 rfl rfl ?_
    obtain ⟨z34, z35, z36, z37, z38, a39, h40, r41, r42, r43, r44, r45, t46⟩ : okClient τ (σ28 h) := G31 h _ t_h
    refine u_get B Z (C := RX2) (T := TX2) (N := 6) (ci := 2) hi_Client_ask_X2 t_h h40 rfl 1 (by decide +kernel) (List.mem_of_getElem? (i := 13) rfl) rfl dX2_ask_121 ?_
    refine v_i2l B (v := lI z35) dX2_ask_124 (lI_i (by omega)) ?_
    refine v_iconst B (v := iI 2) dX2_ask_125 rfl ?_
    refine u_callVv B Z hz (n := 2) (As := [.long (lI z35), .int (iI 2)]) (rest := []) (c_Row_putNumber l D K Z _ _ _ _ g z35 2 t_g ⟨by omega, by omega⟩ ⟨by omega, by omega⟩ σ28 G31) gd_Client_ask_Row_putNumber_48 rfl rfl rfl (by decide +kernel) ⟨Nat.le_trans (by decide +kernel) hR.1, Nat.le_trans (by decide +kernel) hR.2⟩ t_g (cls_Row G31 t_g) rfl rfl rfl rfl (Nat.le_of_ble_eq_true rfl) dX2_ask_126 ⟨Nat.zero_le _, Nat.zero_le _⟩ (fun σ47 p48 => ?_)
    obtain ⟨G50, F51⟩ := p48
    have F52 := F33.call F51 (by first | rfl | simp)
    have h53 := (F51 h _ t_h (by first | rfl | simp)).trans h40
    refine v_aload_n B dX2_ask_129 rfl rfl ?_
    refine u_get B Z (C := RX2) (T := TX2) (N := 6) (ci := 2) hi_Client_ask_X2 t_h h53 rfl 3 (by decide +kernel) (List.mem_of_getElem? (i := 8) rfl) rfl dX2_ask_130 ?_
    refine u_if_eq B (tgt := 191) (by omega) dX2_ask_133 (by decide +kernel) (fun c54 => ?_) (fun c54 => ?_)
    · exact J191 σ47 G50 F52
    · refine v_aload_n B dX2_ask_136 rfl rfl ?_
      refine v_aload_n B dX2_ask_137 rfl rfl ?_
      refine u_get B Z (C := RX2) (T := TX2) (N := 6) (ci := 2) hi_Client_ask_X2 t_h h53 rfl 5 (by decide +kernel) (List.mem_of_getElem? (i := 19) rfl) rfl dX2_ask_138 ?_
      obtain ⟨b55, N56, n57, h58, t59, r60⟩ : okRow τ 15 (σ47 a39) := G50 a39 _ t46
      refine u_getN B Z (C := RX9) (T := TX9) (N := 2) (ci := 9) hi_Client_ask_X9 t46 h58 rfl 1 (by decide +kernel) (List.mem_of_getElem? (i := 74) rfl) rfl dX2_ask_141 ?_
      refine v_i2l B (v := lI n57) dX2_ask_144 (lI_i (by omega)) ?_
      refine v_iconst B (v := iI 2) dX2_ask_145 rfl ?_
      refine u_callVv B Z hz (n := 2) (As := [.long (lI n57), .int (iI 2)]) (rest := []) (c_Row_putNumber l D K Z _ _ _ _ g n57 2 t_g ⟨by omega, by omega⟩ ⟨by omega, by omega⟩ σ47 G50) gd_Client_ask_Row_putNumber_48 rfl rfl rfl (by decide +kernel) ⟨Nat.le_trans (by decide +kernel) hR.1, Nat.le_trans (by decide +kernel) hR.2⟩ t_g (cls_Row G50 t_g) rfl rfl rfl rfl (Nat.le_of_ble_eq_true rfl) dX2_ask_146 ⟨Nat.zero_le _, Nat.zero_le _⟩ (fun σ61 p62 => ?_)
      obtain ⟨G64, F65⟩ := p62
      have F66 := F52.call F65 (by first | rfl | simp)
      have h67 := (F65 h _ t_h (by first | rfl | simp)).trans h53
      have h68 := (F65 a39 _ t46 (by first | rfl | simp)).trans h58
      refine v_goto B (tgt := 191) dX2_ask_149 (by decide +kernel) ?_
      exact J191 σ61 G64 F66
  refine v_aload_n B dX2_ask_0 rfl rfl ?_
  obtain ⟨z69, z70, z71, z72, z73, a74, h75, r76, r77, r78, r79, r80, t81⟩ : okClient τ (σ0 h) := G0 h _ t_h
  refine u_get B Z (C := RX2) (T := TX2) (N := 6) (ci := 2) hi_Client_ask_X2 t_h h75 rfl 0 (by decide +kernel) (List.mem_of_getElem? (i := 20) rfl) rfl dX2_ask_1 ?_
  refine u_tsw B (tgtd := 164) (by omega) dX2_ask_4 (by decide +kernel) ?_ ?_ (tsw_ok (by decide +kernel)) (by decide +kernel)
  · intro i82 o83 g84 o85 x86 t87
    match i82, o85, x86 with
    | 0, o85, x86 =>
      replace o85 : o83 = 40 := by simp at o85; omega
      obtain rfl : g84 = 44 := by omega
      refine v_aload_n B dX2_ask_44 rfl rfl ?_
      refine v_iconst B (v := iI 2) dX2_ask_45 rfl ?_
      refine u_callVv B Z hz (n := 1) (As := [.int (iI 2)]) (rest := []) (c_Row_put l D K Z _ _ _ _ g 2 t_g ⟨by omega, by omega⟩ σ0 G0) gd_Client_ask_Row_put_40 rfl rfl rfl (by decide +kernel) ⟨Nat.le_trans (by decide +kernel) hR.1, Nat.le_trans (by decide +kernel) hR.2⟩ t_g (cls_Row G0 t_g) rfl rfl rfl rfl (Nat.le_of_ble_eq_true rfl) dX2_ask_46 ⟨Nat.zero_le _, Nat.zero_le _⟩ (fun σ88 p89 => ?_)
      obtain ⟨G91, F92⟩ := p89
      have F93 := F0.call F92 (by first | rfl | simp)
      have h94 := (F92 h _ t_h (by first | rfl | simp)).trans h75
      refine v_aload_n B dX2_ask_49 rfl rfl ?_
      refine v_aload_n B dX2_ask_50 rfl rfl ?_
      obtain ⟨a95, a96, a97, z98, z99, z100, a101, z102, z103, a104, h105, t106, t107, t108, r109, r110, r111, t112, r113, r114, t115⟩ : okServer τ (σ88 w1) := G91 w1 _ t_w1
      refine u_getN B Z (C := RX10) (T := TX10) (N := 10) (ci := 10) hi_Client_ask_X10 t_w1 h105 rfl 4 (by decide +kernel) (List.mem_of_getElem? (i := 73) rfl) rfl dX2_ask_51 ?_
      refine v_i2l B (v := lI z99) dX2_ask_54 (lI_i (by omega)) ?_
      refine v_iconst B (v := iI 2) dX2_ask_55 rfl ?_
      refine u_callVv B Z hz (n := 2) (As := [.long (lI z99), .int (iI 2)]) (rest := []) (c_Row_putNumber l D K Z _ _ _ _ g z99 2 t_g ⟨by omega, by omega⟩ ⟨by omega, by omega⟩ σ88 G91) gd_Client_ask_Row_putNumber_48 rfl rfl rfl (by decide +kernel) ⟨Nat.le_trans (by decide +kernel) hR.1, Nat.le_trans (by decide +kernel) hR.2⟩ t_g (cls_Row G91 t_g) rfl rfl rfl rfl (Nat.le_of_ble_eq_true rfl) dX2_ask_56 ⟨Nat.zero_le _, Nat.zero_le _⟩ (fun σ116 p117 => ?_)
      obtain ⟨G119, F120⟩ := p117
      have F121 := F93.call F120 (by first | rfl | simp)
      have h122 := (F120 h _ t_h (by first | rfl | simp)).trans h94
      have h123 := (F120 w1 _ t_w1 (by first | rfl | simp)).trans h105
      refine v_goto B (tgt := 191) dX2_ask_59 (by decide +kernel) ?_
      refine v_lv [0, 3] rfl ?_
      exact J191 σ116 G119 F121
    | 1, o85, x86 =>
      replace o85 : o83 = 58 := by simp at o85; omega
      obtain rfl : g84 = 62 := by omega
      refine v_aload_n B dX2_ask_62 rfl rfl ?_
      refine v_bipush B (v := iI 16) dX2_ask_63 (by decide +kernel) ?_
      refine v_iload_n B dX2_ask_65 rfl rfl ?_
      refine v_sipush B (v := iI 10240) dX2_ask_66 (by decide +kernel) ?_
      refine v_aload_n B dX2_ask_69 rfl rfl ?_
      refine u_callVv B Z hz (n := 4) (As := [.int (iI 16), .int (iI x1), .int (iI 10240), .ref g]) (rest := []) (c_Client_putRange l D K Z _ _ _ _ h 16 x1 10240 g t_h ⟨by omega, by omega⟩ ⟨by omega, by omega⟩ ⟨by omega, by omega⟩ t_g σ0 G0) gd_Client_ask_Client_putRange_52 rfl rfl rfl (by decide +kernel) ⟨Nat.le_trans (by decide +kernel) hR.1, Nat.le_trans (by decide +kernel) hR.2⟩ t_h (cls_Client G0 t_h) rfl rfl rfl rfl (Nat.le_of_ble_eq_true rfl) dX2_ask_70 ⟨Nat.zero_le _, Nat.zero_le _⟩ (fun σ124 p125 => ?_)
      obtain ⟨G127, F128⟩ := p125
      have F129 := F0.call F128 (by first | rfl | simp)
      have h130 := (F128 h _ t_h (by first | rfl | simp)).trans h75
      refine v_goto B (tgt := 191) dX2_ask_73 (by decide +kernel) ?_
      refine v_lv [0, 3] rfl ?_
      exact J191 σ124 G127 F129
    | 2, o85, x86 =>
      replace o85 : o83 = 72 := by simp at o85; omega
      obtain rfl : g84 = 76 := by omega
      refine v_aload_n B dX2_ask_76 rfl rfl ?_
      refine v_bipush B (v := iI 8) dX2_ask_77 (by decide +kernel) ?_
      refine v_iload_n B dX2_ask_79 rfl rfl ?_
      refine v_sipush B (v := iI 10243) dX2_ask_80 (by decide +kernel) ?_
      refine v_aload_n B dX2_ask_83 rfl rfl ?_
      refine u_callVv B Z hz (n := 4) (As := [.int (iI 8), .int (iI x1), .int (iI 10243), .ref g]) (rest := []) (c_Client_putRange l D K Z _ _ _ _ h 8 x1 10243 g t_h ⟨by omega, by omega⟩ ⟨by omega, by omega⟩ ⟨by omega, by omega⟩ t_g σ0 G0) gd_Client_ask_Client_putRange_52 rfl rfl rfl (by decide +kernel) ⟨Nat.le_trans (by decide +kernel) hR.1, Nat.le_trans (by decide +kernel) hR.2⟩ t_h (cls_Client G0 t_h) rfl rfl rfl rfl (Nat.le_of_ble_eq_true rfl) dX2_ask_84 ⟨Nat.zero_le _, Nat.zero_le _⟩ (fun σ131 p132 => ?_)
      obtain ⟨G134, F135⟩ := p132
      have F136 := F0.call F135 (by first | rfl | simp)
      have h137 := (F135 h _ t_h (by first | rfl | simp)).trans h75
      refine v_goto B (tgt := 191) dX2_ask_87 (by decide +kernel) ?_
      refine v_lv [0, 3] rfl ?_
      exact J191 σ131 G134 F136
    | 3, o85, x86 =>
      replace o85 : o83 = 86 := by simp at o85; omega
      obtain rfl : g84 = 90 := by omega
      refine v_aload_n B dX2_ask_90 rfl rfl ?_
      refine v_iconst B (v := iI 4) dX2_ask_91 rfl ?_
      refine v_iload_n B dX2_ask_92 rfl rfl ?_
      refine v_iconst B (v := iI (-1)) dX2_ask_93 rfl ?_
      refine v_aload_n B dX2_ask_94 rfl rfl ?_
      refine u_callVv B Z hz (n := 4) (As := [.int (iI 4), .int (iI x1), .int (iI (-1)), .ref g]) (rest := []) (c_Client_putRange l D K Z _ _ _ _ h 4 x1 (-1) g t_h ⟨by omega, by omega⟩ ⟨by omega, by omega⟩ ⟨by omega, by omega⟩ t_g σ0 G0) gd_Client_ask_Client_putRange_52 rfl rfl rfl (by decide +kernel) ⟨Nat.le_trans (by decide +kernel) hR.1, Nat.le_trans (by decide +kernel) hR.2⟩ t_h (cls_Client G0 t_h) rfl rfl rfl rfl (Nat.le_of_ble_eq_true rfl) dX2_ask_95 ⟨Nat.zero_le _, Nat.zero_le _⟩ (fun σ138 p139 => ?_)
      obtain ⟨G141, F142⟩ := p139
      have F143 := F0.call F142 (by first | rfl | simp)
      have h144 := (F142 h _ t_h (by first | rfl | simp)).trans h75
      refine v_goto B (tgt := 191) dX2_ask_98 (by decide +kernel) ?_
      refine v_lv [0, 3] rfl ?_
      exact J191 σ138 G141 F143
    | 4, o85, x86 =>
      replace o85 : o83 = 97 := by simp at o85; omega
      obtain rfl : g84 = 101 := by omega
      refine v_aload_n B dX2_ask_101 rfl rfl ?_
      refine v_aload_n B dX2_ask_102 rfl rfl ?_
      refine u_get B Z (C := RX2) (T := TX2) (N := 6) (ci := 2) hi_Client_ask_X2 t_h h75 rfl 3 (by decide +kernel) (List.mem_of_getElem? (i := 8) rfl) rfl dX2_ask_103 ?_
      refine u_if_ne B (tgt := 114) (by omega) dX2_ask_106 (by decide +kernel) (fun c145 => ?_) (fun c145 => ?_)
      · refine v_bipush B (v := iI 12) dX2_ask_114 (by decide +kernel) ?_
        refine v_lv [0, 3] rfl ?_
        exact J116 σ0 12 G0 F0 ⟨by omega, by omega⟩
      · refine v_bipush B (v := iI 10) dX2_ask_109 (by decide +kernel) ?_
        refine v_goto B (tgt := 116) dX2_ask_111 (by decide +kernel) ?_
        refine v_lv [0, 3] rfl ?_
        exact J116 σ0 10 G0 F0 ⟨by omega, by omega⟩
    | 5, o85, x86 =>
      replace o85 : o83 = 148 := by simp at o85; omega
      obtain rfl : g84 = 152 := by omega
      refine v_aload_n B dX2_ask_152 rfl rfl ?_
      refine v_aload_n B dX2_ask_153 rfl rfl ?_
      obtain ⟨a146, a147, a148, z149, z150, z151, a152, z153, z154, a155, h156, t157, t158, t159, r160, r161, r162, t163, r164, r165, t166⟩ : okServer τ (σ0 w1) := G0 w1 _ t_w1
      refine u_getN B Z (C := RX10) (T := TX10) (N := 10) (ci := 10) hi_Client_ask_X10 t_w1 h156 rfl 5 (by decide +kernel) (List.mem_of_getElem? (i := 75) rfl) rfl dX2_ask_154 ?_
      refine v_aload_n B dX2_ask_157 rfl rfl ?_
      refine u_callVv B Z hz (n := 2) (As := [.int (iI z151), .ref g]) (rest := []) (c_Client_askToWrite l D K Z _ _ _ _ h z151 g t_h ⟨by omega, by omega⟩ t_g σ0 G0) gd_Client_ask_Client_askToWrite_62 rfl rfl rfl (by decide +kernel) ⟨Nat.le_trans (by decide +kernel) hR.1, Nat.le_trans (by decide +kernel) hR.2⟩ t_h (cls_Client G0 t_h) rfl rfl rfl rfl (Nat.le_of_ble_eq_true rfl) dX2_ask_158 ⟨Nat.zero_le _, Nat.zero_le _⟩ (fun σ167 p168 => ?_)
      obtain ⟨G170, F171⟩ := p168
      have F172 := F0.call F171 (by first | rfl | simp)
      have h173 := (F171 w1 _ t_w1 (by first | rfl | simp)).trans h156
      refine v_goto B (tgt := 191) dX2_ask_161 (by decide +kernel) ?_
      refine v_lv [0, 3] rfl ?_
      exact J191 σ167 G170 F172
    | i82 + 6, o85, x86 => exact absurd (o85.symm.trans (Array.getElem?_eq_none (by simp))) (by simp)
  · intro x86
    refine v_aload_n B dX2_ask_164 rfl rfl ?_
    refine v_bipush B (v := iI 6) dX2_ask_165 (by decide +kernel) ?_
    refine v_iload_n B dX2_ask_167 rfl rfl ?_
    refine v_sipush B (v := iI 10240) dX2_ask_168 (by decide +kernel) ?_
    refine v_aload_n B dX2_ask_171 rfl rfl ?_
    refine u_callVv B Z hz (n := 4) (As := [.int (iI 6), .int (iI x1), .int (iI 10240), .ref g]) (rest := []) (c_Client_putRange l D K Z _ _ _ _ h 6 x1 10240 g t_h ⟨by omega, by omega⟩ ⟨by omega, by omega⟩ ⟨by omega, by omega⟩ t_g σ0 G0) gd_Client_ask_Client_putRange_52 rfl rfl rfl (by decide +kernel) ⟨Nat.le_trans (by decide +kernel) hR.1, Nat.le_trans (by decide +kernel) hR.2⟩ t_h (cls_Client G0 t_h) rfl rfl rfl rfl (Nat.le_of_ble_eq_true rfl) dX2_ask_172 ⟨Nat.zero_le _, Nat.zero_le _⟩ (fun σ174 p175 => ?_)
    obtain ⟨G177, F178⟩ := p175
    have F179 := F0.call F178 (by first | rfl | simp)
    have h180 := (F178 h _ t_h (by first | rfl | simp)).trans h75
    refine v_aload_n B dX2_ask_175 rfl rfl ?_
    refine v_aload_n B dX2_ask_176 rfl rfl ?_
    refine u_get B Z (C := RX2) (T := TX2) (N := 6) (ci := 2) hi_Client_ask_X2 t_h h180 rfl 5 (by decide +kernel) (List.mem_of_getElem? (i := 19) rfl) rfl dX2_ask_177 ?_
    refine v_iconst B (v := iI 0) dX2_ask_180 rfl ?_
    refine v_aload_n B dX2_ask_181 rfl rfl ?_
    refine u_get B Z (C := RX2) (T := TX2) (N := 6) (ci := 2) hi_Client_ask_X2 t_h h180 rfl 5 (by decide +kernel) (List.mem_of_getElem? (i := 19) rfl) rfl dX2_ask_182 ?_
    obtain ⟨b181, N182, n183, h184, t185, r186⟩ : okRow τ 15 (σ174 a74) := G177 a74 _ t81
    refine u_getN B Z (C := RX9) (T := TX9) (N := 2) (ci := 9) hi_Client_ask_X9 t81 h184 rfl 1 (by decide +kernel) (List.mem_of_getElem? (i := 74) rfl) rfl dX2_ask_185 ?_
    refine u_callVv B Z hz (n := 3) (As := [.ref a74, .int (iI 0), .int (iI n183)]) (rest := []) (c_Row_putPart l D K Z _ _ _ _ g a74 0 n183 t_g t81 ⟨by omega, by omega⟩ ⟨by omega, by omega⟩ σ174 G177) gd_Client_ask_Row_putPart_66 rfl rfl rfl (by decide +kernel) ⟨Nat.le_trans (by decide +kernel) hR.1, Nat.le_trans (by decide +kernel) hR.2⟩ t_g (cls_Row G177 t_g) rfl rfl rfl rfl (Nat.le_of_ble_eq_true rfl) dX2_ask_188 ⟨Nat.zero_le _, Nat.zero_le _⟩ (fun σ187 p188 => ?_)
    obtain ⟨G190, F191⟩ := p188
    have F192 := F179.call F191 (by first | rfl | simp)
    have h193 := (F191 h _ t_h (by first | rfl | simp)).trans h180
    have h194 := (F191 a74 _ t81 (by first | rfl | simp)).trans h184
    refine v_lv [0, 3] rfl ?_
    exact J191 σ187 G190 F192
set_option maxRecDepth 100000 in
theorem c_Client_ask (l : Launch) (D : va_G) (K : Nat → ClassId) {τ : Nat → Option Ty} {dom : List Nat} (Z : Sk τ dom) (zb zL : Nat) (zx : Nat → Int32) (zs : Nat → Nat) (h : Nat) (x1 : Int) (w1 : Nat) (g : Nat) (t_h : τ h = some (32, 0, 0)) (r_x1 : -2147483648 ≤ x1 ∧ x1 ≤ 2147483647) (t_w1 : τ w1 = some (40, 0, 0)) (t_g : τ g = some (1, 8, 0)) (σ0 : Nat → va_E) (G0 : Good K τ σ0) : MZ l yX2_ask wp_Client_ask ({ frames := 3, cells := 0, slots := 0, locals := 60 }) D (tysA K) [.ref h, .int (iI x1), .ref w1, .ref g] (fd dom σ0) zb zL zx zs (Qv D (fun σ' => Good K τ σ' ∧ Fr τ [(2, 8), (1, 8), (32, 0)] σ0 σ') (fun σ' => fd dom σ')) 0 0 := by
  refine mz_of (cc := cX2_ask) (maxL := 4) (ret := none) (by decide +kernel) rfl (Nat.le_of_ble_eq_true rfl) ?_
  intro p e s m below meth c A B hr hlk _ hz
  exact b_Client_ask ⟨Nat.le_refl _, Nat.le_refl _⟩ B Z hz h x1 w1 g t_h r_x1 t_w1 t_g σ0 G0 (fun σ' lv pc G F hd => v_vret B hr hlk σ' ⟨G, F⟩ rfl (Nat.le_refl _) (Nat.le_refl _) hd)

def wp_Client_areRows : List Cond := .code yX2_areRows cX2_areRows 2 (some .boolean) :: (([] : List Cond) ++ ([]))
set_option maxHeartbeats 4000000 in
set_option maxRecDepth 100000 in
theorem b_Client_areRows {p : Program} {l : Launch} {e : Env} {R : Room} {s : State} {m : MethodId} {args : Array Value} {below : List Frame} {meth : Method} {c : Code} {D : va_G} {K : Nat → ClassId} {A : Nat → Prop} {Q : State → Prop} {τ : Nat → Option Ty} {dom : List Nat} {zb zL : Nat} {zx : Nat → Int32} {zs : Nat → Nat} (hR : 0 ≤ R.frames ∧ 0 ≤ R.locals) (B : Bx p s m args c cX2_areRows 2 RX2 wp_Client_areRows D (tysA K) A) (Z : Sk τ dom) (hz : ZL zb zL zx zs A s s.heap) (x0 : Int) (x1 : Int) (r_x0 : -2147483648 ≤ x0 ∧ x0 ≤ 2147483647) (r_x1 : -2147483648 ≤ x1 ∧ x1 ≤ 2147483647) (σ0 : Nat → va_E) (G0 : Good K τ σ0) (hend : ∀ (z : Int) (lv : List (Nat × Value)) (pc : Nat), (0 ≤ z ∧ z ≤ 1) → decode cX2_areRows pc = .ok (.ireturn, 1) → V p l e R s m args below meth c 2 D A Q (0, 0) (fd dom σ0) lv pc [.int (iI z)]) : V p l e R s m args below meth c 2 D A Q (0, 0) (fd dom σ0) [(0, .int (iI x0)), (1, .int (iI x1))] 0 [] := by
  have F0 : Fr τ [] σ0 σ0 := Fr.rf
  refine v_iload_n B dX2_areRows_0 rfl rfl ?_
  refine u_if_le B (tgt := 19) (by omega) dX2_areRows_1 (by decide +kernel) (fun c1 => ?_) (fun c1 => ?_)
  · refine v_iconst B (v := iI 0) dX2_areRows_19 rfl ?_
    exact hend 0 _ _ ⟨by omega, by omega⟩ dX2_areRows_20
  · refine v_iload_n B dX2_areRows_4 rfl rfl ?_
    refine v_iload_n B dX2_areRows_5 rfl rfl ?_
    refine u_icmp_lt B (tgt := 19) (by omega) (by omega) dX2_areRows_6 (by decide +kernel) (fun c2 => ?_) (fun c2 => ?_)
    · refine v_iconst B (v := iI 0) dX2_areRows_19 rfl ?_
      exact hend 0 _ _ ⟨by omega, by omega⟩ dX2_areRows_20
    · refine v_iload_n B dX2_areRows_9 rfl rfl ?_
      refine v_iload_n B dX2_areRows_10 rfl rfl ?_
      obtain ⟨z3, e4, q6, q7⟩ := iI_remt (a := x0) (b := x1) (by omega) (by omega)
      refine v_irem B (v := iI z3) dX2_areRows_11 (fun q => absurd ((iI_eq (a := x1) (b := 0) (by omega) (by omega)).mp q) (by omega)) e4 ?_
      refine u_if_ne B (tgt := 19) (by omega) dX2_areRows_12 (by decide +kernel) (fun c8 => ?_) (fun c8 => ?_)
      · refine v_iconst B (v := iI 0) dX2_areRows_19 rfl ?_
        exact hend 0 _ _ ⟨by omega, by omega⟩ dX2_areRows_20
      · refine v_iconst B (v := iI 1) dX2_areRows_15 rfl ?_
        refine v_goto B (tgt := 20) dX2_areRows_16 (by decide +kernel) ?_
        exact hend 1 _ _ ⟨by omega, by omega⟩ dX2_areRows_20
set_option maxRecDepth 100000 in
theorem c_Client_areRows (l : Launch) (D : va_G) (K : Nat → ClassId) {τ : Nat → Option Ty} {dom : List Nat} (Z : Sk τ dom) (zb zL : Nat) (zx : Nat → Int32) (zs : Nat → Nat) (x0 : Int) (x1 : Int) (r_x0 : -2147483648 ≤ x0 ∧ x0 ≤ 2147483647) (r_x1 : -2147483648 ≤ x1 ∧ x1 ≤ 2147483647) (σ0 : Nat → va_E) (G0 : Good K τ σ0) : MZ l yX2_areRows wp_Client_areRows ({ frames := 0, cells := 0, slots := 0, locals := 0 }) D (tysA K) [.int (iI x0), .int (iI x1)] (fd dom σ0) zb zL zx zs (Qi D (fun r σ' => σ0 = σ' ∧ ∃ z : Int, r = iI z ∧ (0 ≤ z ∧ z ≤ 1)) (fun σ' => fd dom σ')) 0 0 := by
  refine mz_of (cc := cX2_areRows) (maxL := 2) (ret := (some .boolean)) (by decide +kernel) rfl (Nat.le_of_ble_eq_true rfl) ?_
  intro p e s m below meth c A B hr hlk _ hz
  exact b_Client_areRows ⟨Nat.le_refl _, Nat.le_refl _⟩ B Z hz x0 x1 r_x0 r_x1 σ0 G0 (fun z lv pc hZ hd => v_zret B hr hlk (nar01 (by omega)) σ0 ⟨rfl, z, rfl, hZ⟩ rfl (Nat.le_refl _) (Nat.le_refl _) hd)

def wp_Client_isWhole : List Cond := .code yX2_isWhole cX2_isWhole 2 (some .boolean) :: (([.methodLink RX2 70 yX9_at, .instanceMethod yX9_at, .selects RX9 yX9_at yX9_at, .initialized RX9, .code yX9_at cX9_at 2 (some .int), .fieldLink RX9 21 "LowEnergy$Row" "size" "I", .fieldLink RX9 15 "LowEnergy$Row" "bytes" "[I", .methodLink RX2 119 yX2_areRows, .static yX2_areRows, .initialized RX2, .code yX2_areRows cX2_areRows 2 (some .boolean)] : List Cond) ++ (wsX90 ++ ([])))
theorem hi_Client_isWhole_X9 : ∀ x ∈ u_ws RX9 TX9 2, x ∈ wp_Client_isWhole := fun _ h => List.mem_cons_of_mem _ (List.mem_append_right _ (List.mem_append_left _ h))
set_option maxRecDepth 100000 in
theorem gd_Client_isWhole_Row_at_70 : GoodIn wp_Client_isWhole (wsV RX2 70 RX9 yX9_at wp_Row_at) := goodIn_app (goodIn_r _ [1, 2, 3, 4] rfl rfl) (goodIn_ca (goodIn_r _ [5, 6, 7] rfl rfl) (goodIn_app (goodIn_cls hi_Client_isWhole_X9 gw_X9) (goodIn_nil)))
set_option maxRecDepth 100000 in
theorem gd_Client_isWhole_Client_areRows_119 : GoodIn wp_Client_isWhole (va_wsS RX2 119 yX2_areRows wp_Client_areRows) := goodIn_app (goodIn_r _ [8, 9, 10] rfl rfl) (goodIn_ca (goodIn_r _ [11] rfl rfl) (goodIn_nil))
set_option maxHeartbeats 4000000 in
set_option maxRecDepth 100000 in
theorem b_Client_isWhole {p : Program} {l : Launch} {e : Env} {R : Room} {s : State} {m : MethodId} {args : Array Value} {below : List Frame} {meth : Method} {c : Code} {D : va_G} {K : Nat → ClassId} {A : Nat → Prop} {Q : State → Prop} {τ : Nat → Option Ty} {dom : List Nat} {zb zL : Nat} {zx : Nat → Int32} {zs : Nat → Nat} (hR : 1 ≤ R.frames ∧ 21 ≤ R.locals) (B : Bx p s m args c cX2_isWhole 2 RX2 wp_Client_isWhole D (tysA K) A) (Z : Sk τ dom) (hz : ZL zb zL zx zs A s s.heap) (x0 : Int) (w0 : Nat) (r_x0 : -2147483648 ≤ x0 ∧ x0 ≤ 2147483647) (t_w0 : τ w0 = some (1, 12, 0)) (σ0 : Nat → va_E) (G0 : Good K τ σ0) (hend : ∀ (z : Int) (lv : List (Nat × Value)) (pc : Nat), (0 ≤ z ∧ z ≤ 1) → decode cX2_isWhole pc = .ok (.ireturn, 1) → V p l e R s m args below meth c 2 D A Q (0, 0) (fd dom σ0) lv pc [.int (iI z)]) : V p l e R s m args below meth c 2 D A Q (0, 0) (fd dom σ0) [(0, .int (iI x0)), (1, .ref w0)] 0 [] := by
  have F0 : Fr τ [] σ0 σ0 := Fr.rf
  refine v_iload_n B dX2_isWhole_0 rfl rfl ?_
  refine u_tsw B (tgtd := 267) (by omega) dX2_isWhole_1 (by decide +kernel) ?_ ?_ (tsw_ok (by decide +kernel)) (by decide +kernel)
  · intro i1 o2 g3 o4 x5 t6
    match i1, o4, x5 with
    | 0, o4, x5 =>
      replace o4 : o2 = 107 := by simp at o4; omega
      obtain rfl : g3 = 108 := by omega
      refine v_aload_n B dX2_isWhole_108 rfl rfl ?_
      obtain ⟨b7, N8, n9, h10, t11, r12⟩ : okRow τ 12 (σ0 w0) := G0 w0 _ t_w0
      refine u_getN B Z (C := RX9) (T := TX9) (N := 2) (ci := 9) hi_Client_isWhole_X9 t_w0 h10 rfl 1 (by decide +kernel) (List.mem_of_getElem? (i := 74) rfl) rfl dX2_isWhole_109 ?_
      refine v_iconst B (v := iI 3) dX2_isWhole_112 rfl ?_
      refine u_icmp_ne B (tgt := 120) (by omega) (by omega) dX2_isWhole_113 (by decide +kernel) (fun c13 => ?_) (fun c13 => ?_)
      · refine v_iconst B (v := iI 0) dX2_isWhole_120 rfl ?_
        exact hend 0 _ _ ⟨by omega, by omega⟩ dX2_isWhole_121
      · refine v_iconst B (v := iI 1) dX2_isWhole_116 rfl ?_
        refine v_goto B (tgt := 121) dX2_isWhole_117 (by decide +kernel) ?_
        exact hend 1 _ _ ⟨by omega, by omega⟩ dX2_isWhole_121
    | 1, o4, x5 =>
      replace o4 : o2 = 266 := by simp at o4; omega
      obtain rfl : g3 = 267 := by omega
      refine v_iconst B (v := iI 1) dX2_isWhole_267 rfl ?_
      exact hend 1 _ _ ⟨by omega, by omega⟩ dX2_isWhole_268
    | 2, o4, x5 =>
      replace o4 : o2 = 121 := by simp at o4; omega
      obtain rfl : g3 = 122 := by omega
      refine v_aload_n B dX2_isWhole_122 rfl rfl ?_
      refine v_iconst B (v := iI 1) dX2_isWhole_123 rfl ?_
      refine u_callVi B Z hz (n := 1) (As := [.int (iI 1)]) (rest := []) (c_Row_at l D K Z _ _ _ _ w0 1 t_w0 ⟨by omega, by omega⟩ σ0 G0) gd_Client_isWhole_Row_at_70 rfl rfl rfl (by decide +kernel) ⟨Nat.le_trans (by decide +kernel) hR.1, Nat.le_trans (by decide +kernel) hR.2⟩ t_w0 (cls_Row G0 t_w0) rfl rfl rfl rfl (Nat.le_of_ble_eq_true rfl) dX2_isWhole_124 ⟨Nat.zero_le _, Nat.zero_le _⟩ (fun v16 σ14 p15 => ?_)
      obtain ⟨rfl, z20, e21, r22⟩ := p15
      subst e21
      refine v_iconst B (v := iI 1) dX2_isWhole_127 rfl ?_
      refine u_icmp_ne B (tgt := 148) (by omega) (by omega) dX2_isWhole_128 (by decide +kernel) (fun c23 => ?_) (fun c23 => ?_)
      · refine v_iconst B (v := iI 0) dX2_isWhole_148 rfl ?_
        exact hend 0 _ _ ⟨by omega, by omega⟩ dX2_isWhole_149
      · refine v_aload_n B dX2_isWhole_131 rfl rfl ?_
        obtain ⟨b24, N25, n26, h27, t28, r29⟩ : okRow τ 12 (σ0 w0) := G0 w0 _ t_w0
        refine u_getN B Z (C := RX9) (T := TX9) (N := 2) (ci := 9) hi_Client_isWhole_X9 t_w0 h27 rfl 1 (by decide +kernel) (List.mem_of_getElem? (i := 74) rfl) rfl dX2_isWhole_132 ?_
        refine v_iconst B (v := iI 2) dX2_isWhole_135 rfl ?_
        refine v_isub B (v := iI (n26 + (-2))) dX2_isWhole_136 ((iI_sub _ _).trans (congrArg iI (by omega))) ?_
        refine v_iconst B (v := iI 4) dX2_isWhole_137 rfl ?_
        refine u_callSi B Z hz (n := 2) (As := [.int (iI (n26 + (-2))), .int (iI 4)]) (rest := []) (c_Client_areRows l D K Z _ _ _ _ (n26 + (-2)) 4 ⟨by omega, by omega⟩ ⟨by omega, by omega⟩ σ0 G0) gd_Client_isWhole_Client_areRows_119 rfl rfl rfl (by decide +kernel) ⟨Nat.le_trans (by decide +kernel) hR.1, Nat.le_trans (by decide +kernel) hR.2⟩ rfl rfl (Nat.le_of_ble_eq_true rfl) dX2_isWhole_138 ⟨Nat.zero_le _, Nat.zero_le _⟩ (fun v32 σ30 p31 => ?_)
        obtain ⟨rfl, z36, e37, r38⟩ := p31
        subst e37
        refine u_if_eq B (tgt := 148) (by omega) dX2_isWhole_141 (by decide +kernel) (fun c39 => ?_) (fun c39 => ?_)
        · refine v_iconst B (v := iI 0) dX2_isWhole_148 rfl ?_
          exact hend 0 _ _ ⟨by omega, by omega⟩ dX2_isWhole_149
        · refine v_iconst B (v := iI 1) dX2_isWhole_144 rfl ?_
          refine v_goto B (tgt := 149) dX2_isWhole_145 (by decide +kernel) ?_
          exact hend 1 _ _ ⟨by omega, by omega⟩ dX2_isWhole_149
    | 3, o4, x5 =>
      replace o4 : o2 = 266 := by simp at o4; omega
      obtain rfl : g3 = 267 := by omega
      refine v_iconst B (v := iI 1) dX2_isWhole_267 rfl ?_
      exact hend 1 _ _ ⟨by omega, by omega⟩ dX2_isWhole_268
    | 4, o4, x5 =>
      replace o4 : o2 = 149 := by simp at o4; omega
      obtain rfl : g3 = 150 := by omega
      refine v_aload_n B dX2_isWhole_150 rfl rfl ?_
      obtain ⟨b40, N41, n42, h43, t44, r45⟩ : okRow τ 12 (σ0 w0) := G0 w0 _ t_w0
      refine u_getN B Z (C := RX9) (T := TX9) (N := 2) (ci := 9) hi_Client_isWhole_X9 t_w0 h43 rfl 1 (by decide +kernel) (List.mem_of_getElem? (i := 74) rfl) rfl dX2_isWhole_151 ?_
      refine v_iconst B (v := iI 1) dX2_isWhole_154 rfl ?_
      refine v_isub B (v := iI (n42 + (-1))) dX2_isWhole_155 ((iI_sub _ _).trans (congrArg iI (by omega))) ?_
      refine v_iconst B (v := iI 4) dX2_isWhole_156 rfl ?_
      refine u_callSi B Z hz (n := 2) (As := [.int (iI (n42 + (-1))), .int (iI 4)]) (rest := []) (c_Client_areRows l D K Z _ _ _ _ (n42 + (-1)) 4 ⟨by omega, by omega⟩ ⟨by omega, by omega⟩ σ0 G0) gd_Client_isWhole_Client_areRows_119 rfl rfl rfl (by decide +kernel) ⟨Nat.le_trans (by decide +kernel) hR.1, Nat.le_trans (by decide +kernel) hR.2⟩ rfl rfl (Nat.le_of_ble_eq_true rfl) dX2_isWhole_157 ⟨Nat.zero_le _, Nat.zero_le _⟩ (fun v48 σ46 p47 => ?_)
      obtain ⟨rfl, z52, e53, r54⟩ := p47
      subst e53
      exact hend z52 _ _ ⟨by omega, by omega⟩ dX2_isWhole_160
    | 5, o4, x5 =>
      replace o4 : o2 = 266 := by simp at o4; omega
      obtain rfl : g3 = 267 := by omega
      refine v_iconst B (v := iI 1) dX2_isWhole_267 rfl ?_
      exact hend 1 _ _ ⟨by omega, by omega⟩ dX2_isWhole_268
    | 6, o4, x5 =>
      replace o4 : o2 = 160 := by simp at o4; omega
      obtain rfl : g3 = 161 := by omega
      refine v_aload_n B dX2_isWhole_161 rfl rfl ?_
      refine v_iconst B (v := iI 1) dX2_isWhole_162 rfl ?_
      refine u_callVi B Z hz (n := 1) (As := [.int (iI 1)]) (rest := []) (c_Row_at l D K Z _ _ _ _ w0 1 t_w0 ⟨by omega, by omega⟩ σ0 G0) gd_Client_isWhole_Row_at_70 rfl rfl rfl (by decide +kernel) ⟨Nat.le_trans (by decide +kernel) hR.1, Nat.le_trans (by decide +kernel) hR.2⟩ t_w0 (cls_Row G0 t_w0) rfl rfl rfl rfl (Nat.le_of_ble_eq_true rfl) dX2_isWhole_163 ⟨Nat.zero_le _, Nat.zero_le _⟩ (fun v57 σ55 p56 => ?_)
      obtain ⟨rfl, z61, e62, r63⟩ := p56
      subst e62
      refine v_iconst B (v := iI 2) dX2_isWhole_166 rfl ?_
      refine u_icmp_lt B (tgt := 191) (by omega) (by omega) dX2_isWhole_167 (by decide +kernel) (fun c64 => ?_) (fun c64 => ?_)
      · refine v_iconst B (v := iI 0) dX2_isWhole_191 rfl ?_
        exact hend 0 _ _ ⟨by omega, by omega⟩ dX2_isWhole_192
      · refine v_aload_n B dX2_isWhole_170 rfl rfl ?_
        obtain ⟨b65, N66, n67, h68, t69, r70⟩ : okRow τ 12 (σ0 w0) := G0 w0 _ t_w0
        refine u_getN B Z (C := RX9) (T := TX9) (N := 2) (ci := 9) hi_Client_isWhole_X9 t_w0 h68 rfl 1 (by decide +kernel) (List.mem_of_getElem? (i := 74) rfl) rfl dX2_isWhole_171 ?_
        refine v_iconst B (v := iI 2) dX2_isWhole_174 rfl ?_
        refine v_isub B (v := iI (n67 + (-2))) dX2_isWhole_175 ((iI_sub _ _).trans (congrArg iI (by omega))) ?_
        refine v_aload_n B dX2_isWhole_176 rfl rfl ?_
        refine v_iconst B (v := iI 1) dX2_isWhole_177 rfl ?_
        refine u_callVi B Z hz (n := 1) (As := [.int (iI 1)]) (rest := [.int (iI (n67 + (-2)))]) (c_Row_at l D K Z _ _ _ _ w0 1 t_w0 ⟨by omega, by omega⟩ σ0 G0) gd_Client_isWhole_Row_at_70 rfl rfl rfl (by decide +kernel) ⟨Nat.le_trans (by decide +kernel) hR.1, Nat.le_trans (by decide +kernel) hR.2⟩ t_w0 (cls_Row G0 t_w0) rfl rfl rfl rfl (Nat.le_of_ble_eq_true rfl) dX2_isWhole_178 ⟨Nat.zero_le _, Nat.zero_le _⟩ (fun v73 σ71 p72 => ?_)
        obtain ⟨rfl, z77, e78, r79⟩ := p72
        subst e78
        refine u_callSi B Z hz (n := 2) (As := [.int (iI (n67 + (-2))), .int (iI z77)]) (rest := []) (c_Client_areRows l D K Z _ _ _ _ (n67 + (-2)) z77 ⟨by omega, by omega⟩ ⟨by omega, by omega⟩ σ0 G0) gd_Client_isWhole_Client_areRows_119 rfl rfl rfl (by decide +kernel) ⟨Nat.le_trans (by decide +kernel) hR.1, Nat.le_trans (by decide +kernel) hR.2⟩ rfl rfl (Nat.le_of_ble_eq_true rfl) dX2_isWhole_181 ⟨Nat.zero_le _, Nat.zero_le _⟩ (fun v82 σ80 p81 => ?_)
        obtain ⟨rfl, z86, e87, r88⟩ := p81
        subst e87
        refine u_if_eq B (tgt := 191) (by omega) dX2_isWhole_184 (by decide +kernel) (fun c89 => ?_) (fun c89 => ?_)
        · refine v_iconst B (v := iI 0) dX2_isWhole_191 rfl ?_
          exact hend 0 _ _ ⟨by omega, by omega⟩ dX2_isWhole_192
        · refine v_iconst B (v := iI 1) dX2_isWhole_187 rfl ?_
          refine v_goto B (tgt := 192) dX2_isWhole_188 (by decide +kernel) ?_
          exact hend 1 _ _ ⟨by omega, by omega⟩ dX2_isWhole_192
    | 7, o4, x5 =>
      replace o4 : o2 = 266 := by simp at o4; omega
      obtain rfl : g3 = 267 := by omega
      refine v_iconst B (v := iI 1) dX2_isWhole_267 rfl ?_
      exact hend 1 _ _ ⟨by omega, by omega⟩ dX2_isWhole_268
    | 8, o4, x5 =>
      replace o4 : o2 = 266 := by simp at o4; omega
      obtain rfl : g3 = 267 := by omega
      refine v_iconst B (v := iI 1) dX2_isWhole_267 rfl ?_
      exact hend 1 _ _ ⟨by omega, by omega⟩ dX2_isWhole_268
    | 9, o4, x5 =>
      replace o4 : o2 = 266 := by simp at o4; omega
      obtain rfl : g3 = 267 := by omega
      refine v_iconst B (v := iI 1) dX2_isWhole_267 rfl ?_
      exact hend 1 _ _ ⟨by omega, by omega⟩ dX2_isWhole_268
    | 10, o4, x5 =>
      replace o4 : o2 = 266 := by simp at o4; omega
      obtain rfl : g3 = 267 := by omega
      refine v_iconst B (v := iI 1) dX2_isWhole_267 rfl ?_
      exact hend 1 _ _ ⟨by omega, by omega⟩ dX2_isWhole_268
    | 11, o4, x5 =>
      replace o4 : o2 = 266 := by simp at o4; omega
      obtain rfl : g3 = 267 := by omega
      refine v_iconst B (v := iI 1) dX2_isWhole_267 rfl ?_
      exact hend 1 _ _ ⟨by omega, by omega⟩ dX2_isWhole_268
    | 12, o4, x5 =>
      replace o4 : o2 = 266 := by simp at o4; omega
      obtain rfl : g3 = 267 := by omega
      refine v_iconst B (v := iI 1) dX2_isWhole_267 rfl ?_
      exact hend 1 _ _ ⟨by omega, by omega⟩ dX2_isWhole_268
    | 13, o4, x5 =>
      replace o4 : o2 = 266 := by simp at o4; omega
      obtain rfl : g3 = 267 := by omega
      refine v_iconst B (v := iI 1) dX2_isWhole_267 rfl ?_
      exact hend 1 _ _ ⟨by omega, by omega⟩ dX2_isWhole_268
    | 14, o4, x5 =>
      replace o4 : o2 = 192 := by simp at o4; omega
      obtain rfl : g3 = 193 := by omega
      refine v_aload_n B dX2_isWhole_193 rfl rfl ?_
      refine v_iconst B (v := iI 1) dX2_isWhole_194 rfl ?_
      refine u_callVi B Z hz (n := 1) (As := [.int (iI 1)]) (rest := []) (c_Row_at l D K Z _ _ _ _ w0 1 t_w0 ⟨by omega, by omega⟩ σ0 G0) gd_Client_isWhole_Row_at_70 rfl rfl rfl (by decide +kernel) ⟨Nat.le_trans (by decide +kernel) hR.1, Nat.le_trans (by decide +kernel) hR.2⟩ t_w0 (cls_Row G0 t_w0) rfl rfl rfl rfl (Nat.le_of_ble_eq_true rfl) dX2_isWhole_195 ⟨Nat.zero_le _, Nat.zero_le _⟩ (fun v92 σ90 p91 => ?_)
      obtain ⟨rfl, z96, e97, r98⟩ := p91
      subst e97
      refine v_iconst B (v := iI 4) dX2_isWhole_198 rfl ?_
      refine u_icmp_lt B (tgt := 223) (by omega) (by omega) dX2_isWhole_199 (by decide +kernel) (fun c99 => ?_) (fun c99 => ?_)
      · refine v_iconst B (v := iI 0) dX2_isWhole_223 rfl ?_
        exact hend 0 _ _ ⟨by omega, by omega⟩ dX2_isWhole_224
      · refine v_aload_n B dX2_isWhole_202 rfl rfl ?_
        obtain ⟨b100, N101, n102, h103, t104, r105⟩ : okRow τ 12 (σ0 w0) := G0 w0 _ t_w0
        refine u_getN B Z (C := RX9) (T := TX9) (N := 2) (ci := 9) hi_Client_isWhole_X9 t_w0 h103 rfl 1 (by decide +kernel) (List.mem_of_getElem? (i := 74) rfl) rfl dX2_isWhole_203 ?_
        refine v_iconst B (v := iI 2) dX2_isWhole_206 rfl ?_
        refine v_isub B (v := iI (n102 + (-2))) dX2_isWhole_207 ((iI_sub _ _).trans (congrArg iI (by omega))) ?_
        refine v_aload_n B dX2_isWhole_208 rfl rfl ?_
        refine v_iconst B (v := iI 1) dX2_isWhole_209 rfl ?_
        refine u_callVi B Z hz (n := 1) (As := [.int (iI 1)]) (rest := [.int (iI (n102 + (-2)))]) (c_Row_at l D K Z _ _ _ _ w0 1 t_w0 ⟨by omega, by omega⟩ σ0 G0) gd_Client_isWhole_Row_at_70 rfl rfl rfl (by decide +kernel) ⟨Nat.le_trans (by decide +kernel) hR.1, Nat.le_trans (by decide +kernel) hR.2⟩ t_w0 (cls_Row G0 t_w0) rfl rfl rfl rfl (Nat.le_of_ble_eq_true rfl) dX2_isWhole_210 ⟨Nat.zero_le _, Nat.zero_le _⟩ (fun v108 σ106 p107 => ?_)
        obtain ⟨rfl, z112, e113, r114⟩ := p107
        subst e113
        refine u_callSi B Z hz (n := 2) (As := [.int (iI (n102 + (-2))), .int (iI z112)]) (rest := []) (c_Client_areRows l D K Z _ _ _ _ (n102 + (-2)) z112 ⟨by omega, by omega⟩ ⟨by omega, by omega⟩ σ0 G0) gd_Client_isWhole_Client_areRows_119 rfl rfl rfl (by decide +kernel) ⟨Nat.le_trans (by decide +kernel) hR.1, Nat.le_trans (by decide +kernel) hR.2⟩ rfl rfl (Nat.le_of_ble_eq_true rfl) dX2_isWhole_213 ⟨Nat.zero_le _, Nat.zero_le _⟩ (fun v117 σ115 p116 => ?_)
        obtain ⟨rfl, z121, e122, r123⟩ := p116
        subst e122
        refine u_if_eq B (tgt := 223) (by omega) dX2_isWhole_216 (by decide +kernel) (fun c124 => ?_) (fun c124 => ?_)
        · refine v_iconst B (v := iI 0) dX2_isWhole_223 rfl ?_
          exact hend 0 _ _ ⟨by omega, by omega⟩ dX2_isWhole_224
        · refine v_iconst B (v := iI 1) dX2_isWhole_219 rfl ?_
          refine v_goto B (tgt := 224) dX2_isWhole_220 (by decide +kernel) ?_
          exact hend 1 _ _ ⟨by omega, by omega⟩ dX2_isWhole_224
    | 15, o4, x5 =>
      replace o4 : o2 = 266 := by simp at o4; omega
      obtain rfl : g3 = 267 := by omega
      refine v_iconst B (v := iI 1) dX2_isWhole_267 rfl ?_
      exact hend 1 _ _ ⟨by omega, by omega⟩ dX2_isWhole_268
    | 16, o4, x5 =>
      replace o4 : o2 = 224 := by simp at o4; omega
      obtain rfl : g3 = 225 := by omega
      refine v_aload_n B dX2_isWhole_225 rfl rfl ?_
      obtain ⟨b125, N126, n127, h128, t129, r130⟩ : okRow τ 12 (σ0 w0) := G0 w0 _ t_w0
      refine u_getN B Z (C := RX9) (T := TX9) (N := 2) (ci := 9) hi_Client_isWhole_X9 t_w0 h128 rfl 1 (by decide +kernel) (List.mem_of_getElem? (i := 74) rfl) rfl dX2_isWhole_226 ?_
      refine v_iconst B (v := iI 1) dX2_isWhole_229 rfl ?_
      refine u_icmp_ne B (tgt := 237) (by omega) (by omega) dX2_isWhole_230 (by decide +kernel) (fun c131 => ?_) (fun c131 => ?_)
      · refine v_iconst B (v := iI 0) dX2_isWhole_237 rfl ?_
        exact hend 0 _ _ ⟨by omega, by omega⟩ dX2_isWhole_238
      · refine v_iconst B (v := iI 1) dX2_isWhole_233 rfl ?_
        refine v_goto B (tgt := 238) dX2_isWhole_234 (by decide +kernel) ?_
        exact hend 1 _ _ ⟨by omega, by omega⟩ dX2_isWhole_238
    | 17, o4, x5 =>
      replace o4 : o2 = 266 := by simp at o4; omega
      obtain rfl : g3 = 267 := by omega
      refine v_iconst B (v := iI 1) dX2_isWhole_267 rfl ?_
      exact hend 1 _ _ ⟨by omega, by omega⟩ dX2_isWhole_268
    | 18, o4, x5 =>
      replace o4 : o2 = 266 := by simp at o4; omega
      obtain rfl : g3 = 267 := by omega
      refine v_iconst B (v := iI 1) dX2_isWhole_267 rfl ?_
      exact hend 1 _ _ ⟨by omega, by omega⟩ dX2_isWhole_268
    | 19, o4, x5 =>
      replace o4 : o2 = 266 := by simp at o4; omega
      obtain rfl : g3 = 267 := by omega
      refine v_iconst B (v := iI 1) dX2_isWhole_267 rfl ?_
      exact hend 1 _ _ ⟨by omega, by omega⟩ dX2_isWhole_268
    | 20, o4, x5 =>
      replace o4 : o2 = 238 := by simp at o4; omega
      obtain rfl : g3 = 239 := by omega
      refine v_aload_n B dX2_isWhole_239 rfl rfl ?_
      obtain ⟨b132, N133, n134, h135, t136, r137⟩ : okRow τ 12 (σ0 w0) := G0 w0 _ t_w0
      refine u_getN B Z (C := RX9) (T := TX9) (N := 2) (ci := 9) hi_Client_isWhole_X9 t_w0 h135 rfl 1 (by decide +kernel) (List.mem_of_getElem? (i := 74) rfl) rfl dX2_isWhole_240 ?_
      refine v_iconst B (v := iI 5) dX2_isWhole_243 rfl ?_
      refine u_icmp_lt B (tgt := 251) (by omega) (by omega) dX2_isWhole_244 (by decide +kernel) (fun c138 => ?_) (fun c138 => ?_)
      · refine v_iconst B (v := iI 0) dX2_isWhole_251 rfl ?_
        exact hend 0 _ _ ⟨by omega, by omega⟩ dX2_isWhole_252
      · refine v_iconst B (v := iI 1) dX2_isWhole_247 rfl ?_
        refine v_goto B (tgt := 252) dX2_isWhole_248 (by decide +kernel) ?_
        exact hend 1 _ _ ⟨by omega, by omega⟩ dX2_isWhole_252
    | 21, o4, x5 =>
      replace o4 : o2 = 266 := by simp at o4; omega
      obtain rfl : g3 = 267 := by omega
      refine v_iconst B (v := iI 1) dX2_isWhole_267 rfl ?_
      exact hend 1 _ _ ⟨by omega, by omega⟩ dX2_isWhole_268
    | 22, o4, x5 =>
      replace o4 : o2 = 252 := by simp at o4; omega
      obtain rfl : g3 = 253 := by omega
      refine v_aload_n B dX2_isWhole_253 rfl rfl ?_
      obtain ⟨b139, N140, n141, h142, t143, r144⟩ : okRow τ 12 (σ0 w0) := G0 w0 _ t_w0
      refine u_getN B Z (C := RX9) (T := TX9) (N := 2) (ci := 9) hi_Client_isWhole_X9 t_w0 h142 rfl 1 (by decide +kernel) (List.mem_of_getElem? (i := 74) rfl) rfl dX2_isWhole_254 ?_
      refine v_iconst B (v := iI 1) dX2_isWhole_257 rfl ?_
      refine u_icmp_ne B (tgt := 265) (by omega) (by omega) dX2_isWhole_258 (by decide +kernel) (fun c145 => ?_) (fun c145 => ?_)
      · refine v_iconst B (v := iI 0) dX2_isWhole_265 rfl ?_
        exact hend 0 _ _ ⟨by omega, by omega⟩ dX2_isWhole_266
      · refine v_iconst B (v := iI 1) dX2_isWhole_261 rfl ?_
        refine v_goto B (tgt := 266) dX2_isWhole_262 (by decide +kernel) ?_
        exact hend 1 _ _ ⟨by omega, by omega⟩ dX2_isWhole_266
    | i1 + 23, o4, x5 => exact absurd (o4.symm.trans (Array.getElem?_eq_none (by simp))) (by simp)
  · intro x5
    refine v_iconst B (v := iI 1) dX2_isWhole_267 rfl ?_
    exact hend 1 _ _ ⟨by omega, by omega⟩ dX2_isWhole_268
set_option maxRecDepth 100000 in
theorem c_Client_isWhole (l : Launch) (D : va_G) (K : Nat → ClassId) {τ : Nat → Option Ty} {dom : List Nat} (Z : Sk τ dom) (zb zL : Nat) (zx : Nat → Int32) (zs : Nat → Nat) (x0 : Int) (w0 : Nat) (r_x0 : -2147483648 ≤ x0 ∧ x0 ≤ 2147483647) (t_w0 : τ w0 = some (1, 12, 0)) (σ0 : Nat → va_E) (G0 : Good K τ σ0) : MZ l yX2_isWhole wp_Client_isWhole ({ frames := 1, cells := 0, slots := 0, locals := 21 }) D (tysA K) [.int (iI x0), .ref w0] (fd dom σ0) zb zL zx zs (Qi D (fun r σ' => σ0 = σ' ∧ ∃ z : Int, r = iI z ∧ (0 ≤ z ∧ z ≤ 1)) (fun σ' => fd dom σ')) 0 0 := by
  refine mz_of (cc := cX2_isWhole) (maxL := 2) (ret := (some .boolean)) (by decide +kernel) rfl (Nat.le_of_ble_eq_true rfl) ?_
  intro p e s m below meth c A B hr hlk _ hz
  exact b_Client_isWhole ⟨Nat.le_refl _, Nat.le_refl _⟩ B Z hz x0 w0 r_x0 t_w0 σ0 G0 (fun z lv pc hZ hd => v_zret B hr hlk (nar01 (by omega)) σ0 ⟨rfl, z, rfl, hZ⟩ rfl (Nat.le_refl _) (Nat.le_refl _) hd)

def wp_Client_finish : List Cond := .code yX2_finish cX2_finish 2 none :: (([.fieldLink RX2 9 "LowEnergy$Client" "kind" "I", .methodLink RX2 110 yX4_note, .instanceMethod yX4_note, .selects RX4 yX4_note yX4_note, .initialized RX4, .code yX4_note cX4_note 6 none, .fieldLink RX4 29 "LowEnergy$Diary" "count" "I", .fieldLink RX4 36 "LowEnergy$Diary" "head" "I", .fieldLink RX4 11 "LowEnergy$Diary" "kinds" "[I", .fieldLink RX4 17 "LowEnergy$Diary" "numbers" "[[I", .fieldLink RX4 22 "LowEnergy$Diary" "rows" "[LLowEnergy$Row;", .methodLink RX4 39 yX9_clear, .instanceMethod yX9_clear, .selects RX9 yX9_clear yX9_clear, .initialized RX9, .code yX9_clear cX9_clear 1 none, .fieldLink RX9 21 "LowEnergy$Row" "size" "I", .fieldLink RX4 33 "LowEnergy$Diary" "lost" "I"] : List Cond) ++ (wsX20 ++ (wsX40 ++ (wsX90 ++ ([])))))
theorem hi_Client_finish_X2 : ∀ x ∈ u_ws RX2 TX2 6, x ∈ wp_Client_finish := fun _ h => List.mem_cons_of_mem _ (List.mem_append_right _ (List.mem_append_left _ h))
theorem hi_Client_finish_X4 : ∀ x ∈ u_ws RX4 TX4 6, x ∈ wp_Client_finish := fun _ h => List.mem_cons_of_mem _ (List.mem_append_right _ (List.mem_append_right _ (List.mem_append_left _ h)))
theorem hi_Client_finish_X9 : ∀ x ∈ u_ws RX9 TX9 2, x ∈ wp_Client_finish := fun _ h => List.mem_cons_of_mem _ (List.mem_append_right _ (List.mem_append_right _ (List.mem_append_right _ (List.mem_append_left _ h))))
set_option maxRecDepth 100000 in
theorem gd_Client_finish_Diary_note_110 : GoodIn wp_Client_finish (wsV RX2 110 RX4 yX4_note wp_Diary_note) := goodIn_app (goodIn_r _ [2, 3, 4, 5] rfl rfl) (goodIn_ca (goodIn_r _ [6, 7, 8, 9, 10, 11, 12, 13, 14, 15, 16, 17, 18] rfl rfl) (goodIn_app (goodIn_cls hi_Client_finish_X4 gw_X4) (goodIn_app (goodIn_cls hi_Client_finish_X9 gw_X9) (goodIn_nil))))
set_option maxHeartbeats 4000000 in
set_option maxRecDepth 100000 in
theorem b_Client_finish {p : Program} {l : Launch} {e : Env} {R : Room} {s : State} {m : MethodId} {args : Array Value} {below : List Frame} {meth : Method} {c : Code} {D : va_G} {K : Nat → ClassId} {A : Nat → Prop} {Q : State → Prop} {τ : Nat → Option Ty} {dom : List Nat} {zb zL : Nat} {zx : Nat → Int32} {zs : Nat → Nat} (hR : 2 ≤ R.frames ∧ 45 ≤ R.locals) (B : Bx p s m args c cX2_finish 2 RX2 wp_Client_finish D (tysA K) A) (Z : Sk τ dom) (hz : ZL zb zL zx zs A s s.heap) (h : Nat) (d : Nat) (t_h : τ h = some (32, 0, 0)) (t_d : τ d = some (34, 0, 0)) (σ0 : Nat → va_E) (G0 : Good K τ σ0) (hend : ∀ (σ' : Nat → va_E) (lv : List (Nat × Value)) (pc : Nat), Good K τ σ' → Fr τ [(3, 23), (3, 22), (1, 16), (34, 0), (32, 0)] σ0 σ' → decode cX2_finish pc = .ok (.return_, 1) → V p l e R s m args below meth c 2 D A Q (0, 0) (fd dom σ') lv pc []) : V p l e R s m args below meth c 2 D A Q (0, 0) (fd dom σ0) [(0, .ref h), (1, .ref d)] 0 [] := by
  have F0 : Fr τ [(3, 23), (3, 22), (1, 16), (34, 0), (32, 0)] σ0 σ0 := Fr.rf
  refine v_aload_n B dX2_finish_0 rfl rfl ?_
  refine v_bipush B (v := iI 8) dX2_finish_1 (by decide +kernel) ?_
  refine v_aload_n B dX2_finish_3 rfl rfl ?_
  obtain ⟨z1, z2, z3, z4, z5, a6, h7, r8, r9, r10, r11, r12, t13⟩ : okClient τ (σ0 h) := G0 h _ t_h
  refine u_get B Z (C := RX2) (T := TX2) (N := 6) (ci := 2) hi_Client_finish_X2 t_h h7 rfl 0 (by decide +kernel) (List.mem_of_getElem? (i := 1) rfl) rfl dX2_finish_4 ?_
  refine v_iconst B (v := iI 0) dX2_finish_7 rfl ?_
  refine v_iconst B (v := iI 0) dX2_finish_8 rfl ?_
  refine u_callVv B Z hz (n := 4) (As := [.int (iI 8), .int (iI z1), .int (iI 0), .int (iI 0)]) (rest := []) (c_Diary_note l D K Z _ _ _ _ d 8 z1 0 0 t_d ⟨by omega, by omega⟩ ⟨by omega, by omega⟩ ⟨by omega, by omega⟩ ⟨by omega, by omega⟩ σ0 G0) gd_Client_finish_Diary_note_110 rfl rfl rfl (by decide +kernel) ⟨Nat.le_trans (by decide +kernel) hR.1, Nat.le_trans (by decide +kernel) hR.2⟩ t_d (cls_Diary G0 t_d) rfl rfl rfl rfl (Nat.le_of_ble_eq_true rfl) dX2_finish_9 ⟨Nat.zero_le _, Nat.zero_le _⟩ (fun σ14 p15 => ?_)
  obtain ⟨G17, F18⟩ := p15
  have F19 := F0.call F18 (by first | rfl | simp)
  have h20 := (F18 h _ t_h (by first | rfl | simp)).trans h7
  refine v_aload_n B dX2_finish_12 rfl rfl ?_
  refine v_iconst B (v := iI (-1)) dX2_finish_13 rfl ?_
  refine u_put B Z (C := RX2) (T := TX2) (N := 6) (ci := 2) hi_Client_finish_X2 t_h h20 rfl 0 (by decide +kernel) tyX2 tyX2_ok nmX2 (List.mem_of_getElem? (i := 1) rfl) rfl (ty := .int) (tyX2_ok 0 (by decide +kernel)) rfl rfl (Nat.le_of_ble_eq_true rfl) (fs' := [.int (iI (-1)), .int (iI z2), .int (iI z3), .int (iI z4), .int (iI z5), .ref a6]) rfl dX2_finish_14 (fun σ21 h22 n23 => ?_)
  have G24 := G17.put t_h (⟨(-1), z2, z3, z4, z5, a6, h22, ⟨by omega, by omega⟩, ⟨by omega, by omega⟩, ⟨by omega, by omega⟩, ⟨by omega, by omega⟩, ⟨by omega, by omega⟩, t13⟩ : Ok K τ (32, 0, 0) (σ21 h)) n23
  have F25 := F19.put t_h (by simp) n23
  exact hend σ21 _ _ G24 F25 dX2_finish_17
set_option maxRecDepth 100000 in
theorem c_Client_finish (l : Launch) (D : va_G) (K : Nat → ClassId) {τ : Nat → Option Ty} {dom : List Nat} (Z : Sk τ dom) (zb zL : Nat) (zx : Nat → Int32) (zs : Nat → Nat) (h : Nat) (d : Nat) (t_h : τ h = some (32, 0, 0)) (t_d : τ d = some (34, 0, 0)) (σ0 : Nat → va_E) (G0 : Good K τ σ0) : MZ l yX2_finish wp_Client_finish ({ frames := 2, cells := 0, slots := 0, locals := 45 }) D (tysA K) [.ref h, .ref d] (fd dom σ0) zb zL zx zs (Qv D (fun σ' => Good K τ σ' ∧ Fr τ [(3, 23), (3, 22), (1, 16), (34, 0), (32, 0)] σ0 σ') (fun σ' => fd dom σ')) 0 0 := by
  refine mz_of (cc := cX2_finish) (maxL := 2) (ret := none) (by decide +kernel) rfl (Nat.le_of_ble_eq_true rfl) ?_
  intro p e s m below meth c A B hr hlk _ hz
  exact b_Client_finish ⟨Nat.le_refl _, Nat.le_refl _⟩ B Z hz h d t_h t_d σ0 G0 (fun σ' lv pc G F hd => v_vret B hr hlk σ' ⟨G, F⟩ rfl (Nat.le_refl _) (Nat.le_refl _) hd)

def wp_Client_hearError : List Cond := .code yX2_hearError cX2_hearError 4 none :: (([.methodLink RX2 70 yX9_at, .instanceMethod yX9_at, .selects RX9 yX9_at yX9_at, .initialized RX9, .code yX9_at cX9_at 2 (some .int), .fieldLink RX9 21 "LowEnergy$Row" "size" "I", .fieldLink RX9 15 "LowEnergy$Row" "bytes" "[I", .methodLink RX2 92 yX9_two, .instanceMethod yX9_two, .selects RX9 yX9_two yX9_two, .code yX9_two cX9_two 2 (some .int), .methodLink RX2 110 yX4_note, .instanceMethod yX4_note, .selects RX4 yX4_note yX4_note, .initialized RX4, .code yX4_note cX4_note 6 none, .fieldLink RX4 29 "LowEnergy$Diary" "count" "I", .fieldLink RX4 36 "LowEnergy$Diary" "head" "I", .fieldLink RX4 11 "LowEnergy$Diary" "kinds" "[I", .fieldLink RX4 17 "LowEnergy$Diary" "numbers" "[[I", .fieldLink RX4 22 "LowEnergy$Diary" "rows" "[LLowEnergy$Row;", .methodLink RX4 39 yX9_clear, .instanceMethod yX9_clear, .selects RX9 yX9_clear yX9_clear, .code yX9_clear cX9_clear 1 none, .fieldLink RX4 33 "LowEnergy$Diary" "lost" "I", .fieldLink RX2 9 "LowEnergy$Client" "kind" "I", .methodLink RX2 98 yX2_finish, .instanceMethod yX2_finish, .selects RX2 yX2_finish yX2_finish, .initialized RX2, .code yX2_finish cX2_finish 2 none] : List Cond) ++ (wsX90 ++ (wsX40 ++ (wsX20 ++ ([])))))
theorem hi_Client_hearError_X9 : ∀ x ∈ u_ws RX9 TX9 2, x ∈ wp_Client_hearError := fun _ h => List.mem_cons_of_mem _ (List.mem_append_right _ (List.mem_append_left _ h))
theorem hi_Client_hearError_X4 : ∀ x ∈ u_ws RX4 TX4 6, x ∈ wp_Client_hearError := fun _ h => List.mem_cons_of_mem _ (List.mem_append_right _ (List.mem_append_right _ (List.mem_append_left _ h)))
theorem hi_Client_hearError_X2 : ∀ x ∈ u_ws RX2 TX2 6, x ∈ wp_Client_hearError := fun _ h => List.mem_cons_of_mem _ (List.mem_append_right _ (List.mem_append_right _ (List.mem_append_right _ (List.mem_append_left _ h))))
set_option maxRecDepth 100000 in
theorem gd_Client_hearError_Row_at_70 : GoodIn wp_Client_hearError (wsV RX2 70 RX9 yX9_at wp_Row_at) := goodIn_app (goodIn_r _ [1, 2, 3, 4] rfl rfl) (goodIn_ca (goodIn_r _ [5, 6, 7] rfl rfl) (goodIn_app (goodIn_cls hi_Client_hearError_X9 gw_X9) (goodIn_nil)))
set_option maxRecDepth 100000 in
theorem gd_Client_hearError_Row_two_92 : GoodIn wp_Client_hearError (wsV RX2 92 RX9 yX9_two wp_Row_two) := goodIn_app (goodIn_r _ [8, 9, 10, 4] rfl rfl) (goodIn_ca (goodIn_r _ [11, 6, 7] rfl rfl) (goodIn_app (goodIn_cls hi_Client_hearError_X9 gw_X9) (goodIn_nil)))
set_option maxRecDepth 100000 in
theorem gd_Client_hearError_Diary_note_110 : GoodIn wp_Client_hearError (wsV RX2 110 RX4 yX4_note wp_Diary_note) := goodIn_app (goodIn_r _ [12, 13, 14, 15] rfl rfl) (goodIn_ca (goodIn_r _ [16, 17, 18, 19, 20, 21, 22, 23, 24, 4, 25, 6, 26] rfl rfl) (goodIn_app (goodIn_cls hi_Client_hearError_X4 gw_X4) (goodIn_app (goodIn_cls hi_Client_hearError_X9 gw_X9) (goodIn_nil))))
set_option maxRecDepth 100000 in
theorem gd_Client_hearError_Client_finish_98 : GoodIn wp_Client_hearError (wsV RX2 98 RX2 yX2_finish wp_Client_finish) := goodIn_app (goodIn_r _ [28, 29, 30, 31] rfl rfl) (goodIn_ca (goodIn_r _ [32, 27, 12, 13, 14, 15, 16, 17, 18, 19, 20, 21, 22, 23, 24, 4, 25, 6, 26] rfl rfl) (goodIn_app (goodIn_cls hi_Client_hearError_X2 gw_X2) (goodIn_app (goodIn_cls hi_Client_hearError_X4 gw_X4) (goodIn_app (goodIn_cls hi_Client_hearError_X9 gw_X9) (goodIn_nil)))))
set_option maxHeartbeats 4000000 in
set_option maxRecDepth 100000 in
theorem b_Client_hearError {p : Program} {l : Launch} {e : Env} {R : Room} {s : State} {m : MethodId} {args : Array Value} {below : List Frame} {meth : Method} {c : Code} {D : va_G} {K : Nat → ClassId} {A : Nat → Prop} {Q : State → Prop} {τ : Nat → Option Ty} {dom : List Nat} {zb zL : Nat} {zx : Nat → Int32} {zs : Nat → Nat} (hR : 3 ≤ R.frames ∧ 66 ≤ R.locals) (B : Bx p s m args c cX2_hearError 4 RX2 wp_Client_hearError D (tysA K) A) (Z : Sk τ dom) (hz : ZL zb zL zx zs A s s.heap) (h : Nat) (w0 : Nat) (d : Nat) (t_h : τ h = some (32, 0, 0)) (t_w0 : τ w0 = some (1, 12, 0)) (t_d : τ d = some (34, 0, 0)) (σ0 : Nat → va_E) (G0 : Good K τ σ0) (hend : ∀ (σ' : Nat → va_E) (lv : List (Nat × Value)) (pc : Nat), Good K τ σ' → Fr τ [(3, 23), (3, 22), (1, 16), (34, 0), (32, 0)] σ0 σ' → decode cX2_hearError pc = .ok (.return_, 1) → V p l e R s m args below meth c 4 D A Q (0, 0) (fd dom σ') lv pc []) : V p l e R s m args below meth c 4 D A Q (0, 0) (fd dom σ0) [(0, .ref h), (1, .ref w0), (2, .ref d)] 0 [] := by
  have F0 : Fr τ [(3, 23), (3, 22), (1, 16), (34, 0), (32, 0)] σ0 σ0 := Fr.rf
  have J59 : ∀ (σ_59 : Nat → va_E), Good K τ σ_59 → Fr τ [(3, 23), (3, 22), (1, 16), (34, 0), (32, 0)] σ0 σ_59 → V p l e R s m args below meth c 4 D A Q (0, 0) (fd dom σ_59) [(0, .ref h), (1, .ref w0), (2, .ref d)] 59 [] := by
    intro σ_59 G_59 F_59
    refine v_aload_n B dX2_hearError_59 rfl rfl ?_
    refine v_bipush B (v := iI 9) dX2_hearError_60 (by decide +kernel) ?_
    refine v_aload_n B dX2_hearError_62 rfl rfl ?_
    refine v_iconst B (v := iI 1) dX2_hearError_63 rfl ?_
    refine u_callVi B Z hz (n := 1) (As := [.int (iI 1)]) (rest := [.int (iI 9), .ref d]) (c_Row_at l D K Z _ _ _ _ w0 1 t_w0 ⟨by omega, by omega⟩ σ_59 G_59) gd_Client_hearError_Row_at_70 rfl rfl rfl (by decide +kernel) ⟨Nat.le_trans (by decide +kernel) hR.1, Nat.le_trans (by decide +kernel) hR.2⟩ t_w0 (cls_Row G_59 t_w0) rfl rfl rfl rfl (Nat.le_of_ble_eq_true rfl) dX2_hearError_64 ⟨Nat.zero_le _, Nat.zero_le _⟩ (fun v3 σ1 p2 => ?_)
    obtain ⟨rfl, z7, e8, r9⟩ := p2
    subst e8
    refine v_aload_n B dX2_hearError_67 rfl rfl ?_
    refine v_iconst B (v := iI 2) dX2_hearError_68 rfl ?_
    refine u_callVi B Z hz (n := 1) (As := [.int (iI 2)]) (rest := [.int (iI z7), .int (iI 9), .ref d]) (c_Row_two l D K Z _ _ _ _ w0 2 t_w0 ⟨by omega, by omega⟩ σ_59 G_59) gd_Client_hearError_Row_two_92 rfl rfl rfl (by decide +kernel) ⟨Nat.le_trans (by decide +kernel) hR.1, Nat.le_trans (by decide +kernel) hR.2⟩ t_w0 (cls_Row G_59 t_w0) rfl rfl rfl rfl (Nat.le_of_ble_eq_true rfl) dX2_hearError_69 ⟨Nat.zero_le _, Nat.zero_le _⟩ (fun v12 σ10 p11 => ?_)
    obtain ⟨rfl, z16, e17, r18⟩ := p11
    subst e17
    refine v_aload_n B dX2_hearError_72 rfl rfl ?_
    refine v_iconst B (v := iI 4) dX2_hearError_73 rfl ?_
    refine u_callVi B Z hz (n := 1) (As := [.int (iI 4)]) (rest := [.int (iI z16), .int (iI z7), .int (iI 9), .ref d]) (c_Row_at l D K Z _ _ _ _ w0 4 t_w0 ⟨by omega, by omega⟩ σ_59 G_59) gd_Client_hearError_Row_at_70 rfl rfl rfl (by decide +kernel) ⟨Nat.le_trans (by decide +kernel) hR.1, Nat.le_trans (by decide +kernel) hR.2⟩ t_w0 (cls_Row G_59 t_w0) rfl rfl rfl rfl (Nat.le_of_ble_eq_true rfl) dX2_hearError_74 ⟨Nat.zero_le _, Nat.zero_le _⟩ (fun v21 σ19 p20 => ?_)
    obtain ⟨rfl, z25, e26, r27⟩ := p20
    subst e26
    refine u_callVv B Z hz (n := 4) (As := [.int (iI 9), .int (iI z7), .int (iI z16), .int (iI z25)]) (rest := []) (c_Diary_note l D K Z _ _ _ _ d 9 z7 z16 z25 t_d ⟨by omega, by omega⟩ ⟨by omega, by omega⟩ ⟨by omega, by omega⟩ ⟨by omega, by omega⟩ σ_59 G_59) gd_Client_hearError_Diary_note_110 rfl rfl rfl (by decide +kernel) ⟨Nat.le_trans (by decide +kernel) hR.1, Nat.le_trans (by decide +kernel) hR.2⟩ t_d (cls_Diary G_59 t_d) rfl rfl rfl rfl (Nat.le_of_ble_eq_true rfl) dX2_hearError_77 ⟨Nat.zero_le _, Nat.zero_le _⟩ (fun σ28 p29 => ?_)
    obtain ⟨G31, F32⟩ := p29
    have F33 := F_59.call F32 (by first | rfl | simp)
    refine v_aload_n B dX2_hearError_80 rfl rfl ?_
    refine v_iconst B (v := iI (-1)) dX2_hearError_81 rfl ?_
    obtain ⟨z34, z35, z36, z37, z38, a39, h40, r41, r42, r43, r44, r45, t46⟩ : okClient τ (σ28 h) := G31 h _ t_h
    refine u_put B Z (C := RX2) (T := TX2) (N := 6) (ci := 2) hi_Client_hearError_X2 t_h h40 rfl 0 (by decide +kernel) tyX2 tyX2_ok nmX2 (List.mem_of_getElem? (i := 27) rfl) rfl (ty := .int) (tyX2_ok 0 (by decide +kernel)) rfl rfl (Nat.le_of_ble_eq_true rfl) (fs' := [.int (iI (-1)), .int (iI z35), .int (iI z36), .int (iI z37), .int (iI z38), .ref a39]) rfl dX2_hearError_82 (fun σ47 h48 n49 => ?_)
    have G50 := G31.put t_h (⟨(-1), z35, z36, z37, z38, a39, h48, ⟨by omega, by omega⟩, ⟨by omega, by omega⟩, ⟨by omega, by omega⟩, ⟨by omega, by omega⟩, ⟨by omega, by omega⟩, t46⟩ : Ok K τ (32, 0, 0) (σ47 h)) n49
    have F51 := F33.put t_h (by simp) n49
    exact hend σ47 _ _ G50 F51 dX2_hearError_85
  have J38 : ∀ (z38_s0 : Int), (0 ≤ z38_s0 ∧ z38_s0 ≤ 1) → V p l e R s m args below meth c 4 D A Q (0, 0) (fd dom σ0) [(0, .ref h), (1, .ref w0), (2, .ref d)] 38 [.int (iI z38_s0)] := by
    intro z38_s0 r38_s0
    refine v_istore_n B (lv' := [(3, .int (iI z38_s0)), (0, .ref h), (1, .ref w0), (2, .ref d)]) dX2_hearError_38 rfl (by decide +kernel) rfl ?_
    refine v_iload_n B dX2_hearError_39 rfl rfl ?_
    refine u_if_eq B (tgt := 59) (by omega) dX2_hearError_40 (by decide +kernel) (fun c52 => ?_) (fun c52 => ?_)
    · refine v_lv [1, 2, 3] rfl ?_
      exact J59 σ0 G0 F0
    · refine v_aload_n B dX2_hearError_43 rfl rfl ?_
      refine v_iconst B (v := iI 4) dX2_hearError_44 rfl ?_
      refine u_callVi B Z hz (n := 1) (As := [.int (iI 4)]) (rest := []) (c_Row_at l D K Z _ _ _ _ w0 4 t_w0 ⟨by omega, by omega⟩ σ0 G0) gd_Client_hearError_Row_at_70 rfl rfl rfl (by decide +kernel) ⟨Nat.le_trans (by decide +kernel) hR.1, Nat.le_trans (by decide +kernel) hR.2⟩ t_w0 (cls_Row G0 t_w0) rfl rfl rfl rfl (Nat.le_of_ble_eq_true rfl) dX2_hearError_45 ⟨Nat.zero_le _, Nat.zero_le _⟩ (fun v55 σ53 p54 => ?_)
      obtain ⟨rfl, z59, e60, r61⟩ := p54
      subst e60
      refine v_bipush B (v := iI 10) dX2_hearError_48 (by decide +kernel) ?_
      refine u_icmp_ne B (tgt := 59) (by omega) (by omega) dX2_hearError_50 (by decide +kernel) (fun c62 => ?_) (fun c62 => ?_)
      · refine v_lv [1, 2, 3] rfl ?_
        exact J59 σ0 G0 F0
      · refine v_aload_n B dX2_hearError_53 rfl rfl ?_
        refine v_aload_n B dX2_hearError_54 rfl rfl ?_
        refine u_callVv B Z hz (n := 1) (As := [.ref d]) (rest := []) (c_Client_finish l D K Z _ _ _ _ h d t_h t_d σ0 G0) gd_Client_hearError_Client_finish_98 rfl rfl rfl (by decide +kernel) ⟨Nat.le_trans (by decide +kernel) hR.1, Nat.le_trans (by decide +kernel) hR.2⟩ t_h (cls_Client G0 t_h) rfl rfl rfl rfl (Nat.le_of_ble_eq_true rfl) dX2_hearError_55 ⟨Nat.zero_le _, Nat.zero_le _⟩ (fun σ63 p64 => ?_)
        obtain ⟨G66, F67⟩ := p64
        have F68 := F0.call F67 (by first | rfl | simp)
        exact hend σ63 _ _ G66 F68 dX2_hearError_58
  have J33 : V p l e R s m args below meth c 4 D A Q (0, 0) (fd dom σ0) [(0, .ref h), (1, .ref w0), (2, .ref d)] 33 [] := by
    refine v_iconst B (v := iI 1) dX2_hearError_33 rfl ?_
    refine v_goto B (tgt := 38) dX2_hearError_34 (by decide +kernel) ?_
    exact J38 1 ⟨by omega, by omega⟩
  refine v_aload_n B dX2_hearError_0 rfl rfl ?_
  obtain ⟨z69, z70, z71, z72, z73, a74, h75, r76, r77, r78, r79, r80, t81⟩ : okClient τ (σ0 h) := G0 h _ t_h
  refine u_get B Z (C := RX2) (T := TX2) (N := 6) (ci := 2) hi_Client_hearError_X2 t_h h75 rfl 0 (by decide +kernel) (List.mem_of_getElem? (i := 27) rfl) rfl dX2_hearError_1 ?_
  refine v_iconst B (v := iI 1) dX2_hearError_4 rfl ?_
  refine u_icmp_eq B (tgt := 33) (by omega) (by omega) dX2_hearError_5 (by decide +kernel) (fun c82 => ?_) (fun c82 => ?_)
  · exact J33
  · refine v_aload_n B dX2_hearError_8 rfl rfl ?_
    refine u_get B Z (C := RX2) (T := TX2) (N := 6) (ci := 2) hi_Client_hearError_X2 t_h h75 rfl 0 (by decide +kernel) (List.mem_of_getElem? (i := 27) rfl) rfl dX2_hearError_9 ?_
    refine v_iconst B (v := iI 2) dX2_hearError_12 rfl ?_
    refine u_icmp_eq B (tgt := 33) (by omega) (by omega) dX2_hearError_13 (by decide +kernel) (fun c83 => ?_) (fun c83 => ?_)
    · exact J33
    · refine v_aload_n B dX2_hearError_16 rfl rfl ?_
      refine u_get B Z (C := RX2) (T := TX2) (N := 6) (ci := 2) hi_Client_hearError_X2 t_h h75 rfl 0 (by decide +kernel) (List.mem_of_getElem? (i := 27) rfl) rfl dX2_hearError_17 ?_
      refine v_iconst B (v := iI 3) dX2_hearError_20 rfl ?_
      refine u_icmp_eq B (tgt := 33) (by omega) (by omega) dX2_hearError_21 (by decide +kernel) (fun c84 => ?_) (fun c84 => ?_)
      · exact J33
      · refine v_aload_n B dX2_hearError_24 rfl rfl ?_
        refine u_get B Z (C := RX2) (T := TX2) (N := 6) (ci := 2) hi_Client_hearError_X2 t_h h75 rfl 0 (by decide +kernel) (List.mem_of_getElem? (i := 27) rfl) rfl dX2_hearError_25 ?_
        refine v_bipush B (v := iI 6) dX2_hearError_28 (by decide +kernel) ?_
        refine u_icmp_ne B (tgt := 37) (by omega) (by omega) dX2_hearError_30 (by decide +kernel) (fun c85 => ?_) (fun c85 => ?_)
        · refine v_iconst B (v := iI 0) dX2_hearError_37 rfl ?_
          exact J38 0 ⟨by omega, by omega⟩
        · exact J33
set_option maxRecDepth 100000 in
theorem c_Client_hearError (l : Launch) (D : va_G) (K : Nat → ClassId) {τ : Nat → Option Ty} {dom : List Nat} (Z : Sk τ dom) (zb zL : Nat) (zx : Nat → Int32) (zs : Nat → Nat) (h : Nat) (w0 : Nat) (d : Nat) (t_h : τ h = some (32, 0, 0)) (t_w0 : τ w0 = some (1, 12, 0)) (t_d : τ d = some (34, 0, 0)) (σ0 : Nat → va_E) (G0 : Good K τ σ0) : MZ l yX2_hearError wp_Client_hearError ({ frames := 3, cells := 0, slots := 0, locals := 66 }) D (tysA K) [.ref h, .ref w0, .ref d] (fd dom σ0) zb zL zx zs (Qv D (fun σ' => Good K τ σ' ∧ Fr τ [(3, 23), (3, 22), (1, 16), (34, 0), (32, 0)] σ0 σ') (fun σ' => fd dom σ')) 0 0 := by
  refine mz_of (cc := cX2_hearError) (maxL := 4) (ret := none) (by decide +kernel) rfl (Nat.le_of_ble_eq_true rfl) ?_
  intro p e s m below meth c A B hr hlk _ hz
  exact b_Client_hearError ⟨Nat.le_refl _, Nat.le_refl _⟩ B Z hz h w0 d t_h t_w0 t_d σ0 G0 (fun σ' lv pc G F hd => v_vret B hr hlk σ' ⟨G, F⟩ rfl (Nat.le_refl _) (Nat.le_refl _) hd)

def wp_Client_hearValue : List Cond := .code yX2_hearValue cX2_hearValue 5 none :: (([.fieldLink RX2 20 "LowEnergy$Client" "bytes" "LLowEnergy$Row;", .methodLink RX2 66 yX9_putPart, .instanceMethod yX9_putPart, .selects RX9 yX9_putPart yX9_putPart, .initialized RX9, .code yX9_putPart cX9_putPart 6 none, .fieldLink RX9 21 "LowEnergy$Row" "size" "I", .fieldLink RX9 15 "LowEnergy$Row" "bytes" "[I", .methodLink RX9 9 Lib.Math.max.name, .static Lib.Math.max.name, .initialized "java/lang/Math", .code Lib.Math.max.name Lib.Math.max.code 2 (some .int), .fieldLink RX2 24 "LowEnergy$Client" "a" "I", .methodLink RX2 123 yX4_noteBytes, .instanceMethod yX4_noteBytes, .selects RX4 yX4_noteBytes yX4_noteBytes, .initialized RX4, .code yX4_noteBytes cX4_noteBytes 8 none, .fieldLink RX4 29 "LowEnergy$Diary" "count" "I", .fieldLink RX4 33 "LowEnergy$Diary" "lost" "I", .fieldLink RX4 22 "LowEnergy$Diary" "rows" "[LLowEnergy$Row;", .fieldLink RX4 36 "LowEnergy$Diary" "head" "I", .methodLink RX4 42 yX4_note, .instanceMethod yX4_note, .selects RX4 yX4_note yX4_note, .code yX4_note cX4_note 6 none, .fieldLink RX4 11 "LowEnergy$Diary" "kinds" "[I", .fieldLink RX4 17 "LowEnergy$Diary" "numbers" "[[I", .methodLink RX4 39 yX9_clear, .instanceMethod yX9_clear, .selects RX9 yX9_clear yX9_clear, .code yX9_clear cX9_clear 1 none, .methodLink RX4 46 yX9_putPart, .methodLink RX2 98 yX2_finish, .instanceMethod yX2_finish, .selects RX2 yX2_finish yX2_finish, .initialized RX2, .code yX2_finish cX2_finish 2 none, .fieldLink RX2 9 "LowEnergy$Client" "kind" "I", .methodLink RX2 110 yX4_note, .methodLink RX2 106 yX2_ask, .instanceMethod yX2_ask, .selects RX2 yX2_ask yX2_ask, .code yX2_ask cX2_ask 4 none, .methodLink RX2 70 yX9_at, .instanceMethod yX9_at, .selects RX9 yX9_at yX9_at, .code yX9_at cX9_at 2 (some .int), .fieldLink RX2 30 "LowEnergy$Client" "askedOp" "I", .methodLink RX2 40 yX9_put, .instanceMethod yX9_put, .selects RX9 yX9_put yX9_put, .code yX9_put cX9_put 2 none, .methodLink RX2 48 yX9_putNumber, .instanceMethod yX9_putNumber, .selects RX9 yX9_putNumber yX9_putNumber, .code yX9_putNumber cX9_putNumber 5 none, .constantLong RX9 25 (255), .methodLink RX2 52 yX2_putRange, .instanceMethod yX2_putRange, .selects RX2 yX2_putRange yX2_putRange, .code yX2_putRange cX2_putRange 5 none, .methodLink RX2 74 yX2_lastHandle, .instanceMethod yX2_lastHandle, .selects RX2 yX2_lastHandle yX2_lastHandle, .code yX2_lastHandle cX2_lastHandle 1 (some .int), .fieldLink RX2 27 "LowEnergy$Client" "b" "I", .constant RX2 39 (65535), .methodLink RX2 62 yX2_askToWrite, .instanceMethod yX2_askToWrite, .selects RX2 yX2_askToWrite yX2_askToWrite, .code yX2_askToWrite cX2_askToWrite 3 none, .fieldLink RX2 33 "LowEnergy$Client" "done" "I", .methodLink RX2 78 Lib.Math.min.name, .static Lib.Math.min.name, .code Lib.Math.min.name Lib.Math.min.code 2 (some .int)] : List Cond) ++ (wsX20 ++ (wsX90 ++ (wsX100 ++ (wsX40 ++ ([]))))))
theorem hi_Client_hearValue_X2 : ∀ x ∈ u_ws RX2 TX2 6, x ∈ wp_Client_hearValue := fun _ h => List.mem_cons_of_mem _ (List.mem_append_right _ (List.mem_append_left _ h))
theorem hi_Client_hearValue_X9 : ∀ x ∈ u_ws RX9 TX9 2, x ∈ wp_Client_hearValue := fun _ h => List.mem_cons_of_mem _ (List.mem_append_right _ (List.mem_append_right _ (List.mem_append_left _ h)))
theorem hi_Client_hearValue_X10 : ∀ x ∈ u_ws RX10 TX10 10, x ∈ wp_Client_hearValue := fun _ h => List.mem_cons_of_mem _ (List.mem_append_right _ (List.mem_append_right _ (List.mem_append_right _ (List.mem_append_left _ h))))
theorem hi_Client_hearValue_X4 : ∀ x ∈ u_ws RX4 TX4 6, x ∈ wp_Client_hearValue := fun _ h => List.mem_cons_of_mem _ (List.mem_append_right _ (List.mem_append_right _ (List.mem_append_right _ (List.mem_append_right _ (List.mem_append_left _ h)))))
set_option maxRecDepth 100000 in
theorem gd_Client_hearValue_Row_putPart_66 : GoodIn wp_Client_hearValue (wsV RX2 66 RX9 yX9_putPart wp_Row_putPart) := goodIn_app (goodIn_r _ [2, 3, 4, 5] rfl rfl) (goodIn_ca (goodIn_r _ [6, 7, 8, 9, 10, 11, 12] rfl rfl) (goodIn_app (goodIn_cls hi_Client_hearValue_X9 gw_X9) (goodIn_nil)))
set_option maxRecDepth 100000 in
theorem gd_Client_hearValue_Diary_noteBytes_123 : GoodIn wp_Client_hearValue (wsV RX2 123 RX4 yX4_noteBytes wp_Diary_noteBytes) := goodIn_app (goodIn_r _ [14, 15, 16, 17] rfl rfl) (goodIn_ca (goodIn_r _ [18, 19, 20, 21, 22, 23, 24, 25, 17, 26, 27, 28, 29, 30, 31, 5, 32, 7, 33, 3, 4, 6, 8, 9, 10, 11, 12] rfl rfl) (goodIn_app (goodIn_cls hi_Client_hearValue_X4 gw_X4) (goodIn_app (goodIn_cls hi_Client_hearValue_X9 gw_X9) (goodIn_nil))))
set_option maxRecDepth 100000 in
theorem gd_Client_hearValue_Client_finish_98 : GoodIn wp_Client_hearValue (wsV RX2 98 RX2 yX2_finish wp_Client_finish) := goodIn_app (goodIn_r _ [34, 35, 36, 37] rfl rfl) (goodIn_ca (goodIn_r _ [38, 39, 40, 24, 25, 17, 26, 19, 22, 27, 28, 21, 29, 30, 31, 5, 32, 7, 20] rfl rfl) (goodIn_app (goodIn_cls hi_Client_hearValue_X2 gw_X2) (goodIn_app (goodIn_cls hi_Client_hearValue_X4 gw_X4) (goodIn_app (goodIn_cls hi_Client_hearValue_X9 gw_X9) (goodIn_nil)))))
set_option maxRecDepth 100000 in
theorem gd_Client_hearValue_Client_ask_106 : GoodIn wp_Client_hearValue (wsV RX2 106 RX2 yX2_ask wp_Client_ask) := goodIn_app (goodIn_r _ [41, 42, 43, 37] rfl rfl) (goodIn_ca (goodIn_r _ [44, 45, 46, 47, 5, 48, 7, 8, 49, 50, 51, 52, 53, 13, 54, 55, 56, 57, 58, 1, 39, 59, 60, 61, 37, 62, 63, 64, 65, 66, 67, 68, 69, 70, 71, 72, 73, 2, 3, 4, 6, 9, 10, 11, 12, 74, 75, 76] rfl rfl) (goodIn_app (goodIn_cls hi_Client_hearValue_X9 gw_X9) (goodIn_app (goodIn_cls hi_Client_hearValue_X2 gw_X2) (goodIn_app (goodIn_cls hi_Client_hearValue_X10 gw_X10) (goodIn_nil)))))
set_option maxHeartbeats 4000000 in
set_option maxRecDepth 100000 in
theorem b_Client_hearValue {p : Program} {l : Launch} {e : Env} {R : Room} {s : State} {m : MethodId} {args : Array Value} {below : List Frame} {meth : Method} {c : Code} {D : va_G} {K : Nat → ClassId} {A : Nat → Prop} {Q : State → Prop} {τ : Nat → Option Ty} {dom : List Nat} {zb zL : Nat} {zx : Nat → Int32} {zs : Nat → Nat} (hR : 4 ≤ R.frames ∧ 83 ≤ R.locals) (B : Bx p s m args c cX2_hearValue 5 RX2 wp_Client_hearValue D (tysA K) A) (Z : Sk τ dom) (hz : ZL zb zL zx zs A s s.heap) (h : Nat) (w0 : Nat) (w1 : Nat) (d : Nat) (g : Nat) (t_h : τ h = some (32, 0, 0)) (t_w0 : τ w0 = some (1, 12, 0)) (t_w1 : τ w1 = some (40, 0, 0)) (t_d : τ d = some (34, 0, 0)) (t_g : τ g = some (1, 8, 0)) (σ0 : Nat → va_E) (G0 : Good K τ σ0) (hend : ∀ (σ' : Nat → va_E) (lv : List (Nat × Value)) (pc : Nat), Good K τ σ' → Fr τ [(2, 15), (1, 15), (34, 0), (3, 23), (3, 22), (1, 16), (2, 16), (32, 0), (2, 8), (1, 8)] σ0 σ' → decode cX2_hearValue pc = .ok (.return_, 1) → V p l e R s m args below meth c 5 D A Q (0, 0) (fd dom σ') lv pc []) : V p l e R s m args below meth c 5 D A Q (0, 0) (fd dom σ0) [(0, .ref h), (1, .ref w0), (2, .ref w1), (3, .ref d), (4, .ref g)] 0 [] := by
  have F0 : Fr τ [(2, 15), (1, 15), (34, 0), (3, 23), (3, 22), (1, 16), (2, 16), (32, 0), (2, 8), (1, 8)] σ0 σ0 := Fr.rf
  refine v_aload_n B dX2_hearValue_0 rfl rfl ?_
  obtain ⟨z1, z2, z3, z4, z5, a6, h7, r8, r9, r10, r11, r12, t13⟩ : okClient τ (σ0 h) := G0 h _ t_h
  refine u_get B Z (C := RX2) (T := TX2) (N := 6) (ci := 2) hi_Client_hearValue_X2 t_h h7 rfl 5 (by decide +kernel) (List.mem_of_getElem? (i := 1) rfl) rfl dX2_hearValue_1 ?_
  refine v_aload_n B dX2_hearValue_4 rfl rfl ?_
  refine v_iconst B (v := iI 1) dX2_hearValue_5 rfl ?_
  refine v_aload_n B dX2_hearValue_6 rfl rfl ?_
  obtain ⟨b14, N15, n16, h17, t18, r19⟩ : okRow τ 12 (σ0 w0) := G0 w0 _ t_w0
  refine u_getN B Z (C := RX9) (T := TX9) (N := 2) (ci := 9) hi_Client_hearValue_X9 t_w0 h17 rfl 1 (by decide +kernel) (List.mem_of_getElem? (i := 74) rfl) rfl dX2_hearValue_7 ?_
  refine u_callVv B Z hz (n := 3) (As := [.ref w0, .int (iI 1), .int (iI n16)]) (rest := []) (c_Row_putPart l D K Z _ _ _ _ a6 w0 1 n16 t13 t_w0 ⟨by omega, by omega⟩ ⟨by omega, by omega⟩ σ0 G0) gd_Client_hearValue_Row_putPart_66 rfl rfl rfl (by decide +kernel) ⟨Nat.le_trans (by decide +kernel) hR.1, Nat.le_trans (by decide +kernel) hR.2⟩ t13 (cls_Row G0 t13) rfl rfl rfl rfl (Nat.le_of_ble_eq_true rfl) dX2_hearValue_10 ⟨Nat.zero_le _, Nat.zero_le _⟩ (fun σ20 p21 => ?_)
  obtain ⟨G23, F24⟩ := p21
  have F25 := F0.call F24 (by first | rfl | simp)
  have h26 := (F24 h _ t_h (by first | rfl | simp)).trans h7
  have h27 := (F24 w0 _ t_w0 (by first | rfl | simp)).trans h17
  refine v_aload_n B dX2_hearValue_13 rfl rfl ?_
  refine u_getN B Z (C := RX9) (T := TX9) (N := 2) (ci := 9) hi_Client_hearValue_X9 t_w0 h27 rfl 1 (by decide +kernel) (List.mem_of_getElem? (i := 74) rfl) rfl dX2_hearValue_14 ?_
  refine v_aload_n B dX2_hearValue_17 rfl rfl ?_
  obtain ⟨a28, a29, a30, z31, z32, z33, a34, z35, z36, a37, h38, t39, t40, t41, r42, r43, r44, t45, r46, r47, t48⟩ : okServer τ (σ20 w1) := G23 w1 _ t_w1
  refine u_getN B Z (C := RX10) (T := TX10) (N := 10) (ci := 10) hi_Client_hearValue_X10 t_w1 h38 rfl 5 (by decide +kernel) (List.mem_of_getElem? (i := 75) rfl) rfl dX2_hearValue_18 ?_
  refine u_icmp_ne B (tgt := 33) (by omega) (by omega) dX2_hearValue_21 (by decide +kernel) (fun c49 => ?_) (fun c49 => ?_)
  · refine v_aload_n B dX2_hearValue_33 rfl rfl ?_
    refine v_iconst B (v := iI 4) dX2_hearValue_34 rfl ?_
    refine v_aload_n B dX2_hearValue_35 rfl rfl ?_
    refine u_get B Z (C := RX2) (T := TX2) (N := 6) (ci := 2) hi_Client_hearValue_X2 t_h h26 rfl 1 (by decide +kernel) (List.mem_of_getElem? (i := 13) rfl) rfl dX2_hearValue_36 ?_
    refine v_iconst B (v := iI 0) dX2_hearValue_39 rfl ?_
    refine v_aload_n B dX2_hearValue_40 rfl rfl ?_
    refine u_get B Z (C := RX2) (T := TX2) (N := 6) (ci := 2) hi_Client_hearValue_X2 t_h h26 rfl 5 (by decide +kernel) (List.mem_of_getElem? (i := 1) rfl) rfl dX2_hearValue_41 ?_
    refine v_iconst B (v := iI 0) dX2_hearValue_44 rfl ?_
    refine v_aload_n B dX2_hearValue_45 rfl rfl ?_
    refine u_get B Z (C := RX2) (T := TX2) (N := 6) (ci := 2) hi_Client_hearValue_X2 t_h h26 rfl 5 (by decide +kernel) (List.mem_of_getElem? (i := 1) rfl) rfl dX2_hearValue_46 ?_
    obtain ⟨b50, N51, n52, h53, t54, r55⟩ : okRow τ 15 (σ20 a6) := G23 a6 _ t13
    refine u_getN B Z (C := RX9) (T := TX9) (N := 2) (ci := 9) hi_Client_hearValue_X9 t13 h53 rfl 1 (by decide +kernel) (List.mem_of_getElem? (i := 74) rfl) rfl dX2_hearValue_49 ?_
    refine u_callVv B Z hz (n := 6) (As := [.int (iI 4), .int (iI z2), .int (iI 0), .ref a6, .int (iI 0), .int (iI n52)]) (rest := []) (c_Diary_noteBytes l D K Z _ _ _ _ d 4 z2 0 a6 0 n52 t_d ⟨by omega, by omega⟩ ⟨by omega, by omega⟩ ⟨by omega, by omega⟩ t13 ⟨by omega, by omega⟩ ⟨by omega, by omega⟩ σ20 G23) gd_Client_hearValue_Diary_noteBytes_123 rfl rfl rfl (by decide +kernel) ⟨Nat.le_trans (by decide +kernel) hR.1, Nat.le_trans (by decide +kernel) hR.2⟩ t_d (cls_Diary G23 t_d) rfl rfl rfl rfl (Nat.le_of_ble_eq_true rfl) dX2_hearValue_52 ⟨Nat.zero_le _, Nat.zero_le _⟩ (fun σ56 p57 => ?_)
    obtain ⟨G59, F60⟩ := p57
    have F61 := F25.call F60 (by first | rfl | simp)
    have h62 := (F60 h _ t_h (by first | rfl | simp)).trans h26
    have h63 := (F60 w0 _ t_w0 (by first | rfl | simp)).trans h27
    have h64 := (F60 w1 _ t_w1 (by first | rfl | simp)).trans h38
    have h65 := (F60 a6 _ t13 (by first | rfl | simp)).trans h53
    refine v_aload_n B dX2_hearValue_55 rfl rfl ?_
    refine v_aload_n B dX2_hearValue_56 rfl rfl ?_
    refine u_callVv B Z hz (n := 1) (As := [.ref d]) (rest := []) (c_Client_finish l D K Z _ _ _ _ h d t_h t_d σ56 G59) gd_Client_hearValue_Client_finish_98 rfl rfl rfl (by decide +kernel) ⟨Nat.le_trans (by decide +kernel) hR.1, Nat.le_trans (by decide +kernel) hR.2⟩ t_h (cls_Client G59 t_h) rfl rfl rfl rfl (Nat.le_of_ble_eq_true rfl) dX2_hearValue_57 ⟨Nat.zero_le _, Nat.zero_le _⟩ (fun σ66 p67 => ?_)
    obtain ⟨G69, F70⟩ := p67
    have F71 := F61.call F70 (by first | rfl | simp)
    have h72 := (F70 w0 _ t_w0 (by first | rfl | simp)).trans h63
    have h73 := (F70 w1 _ t_w1 (by first | rfl | simp)).trans h64
    have h74 := (F70 a6 _ t13 (by first | rfl | simp)).trans h65
    exact hend σ66 _ _ G69 F71 dX2_hearValue_60
  · refine v_aload_n B dX2_hearValue_24 rfl rfl ?_
    refine v_iconst B (v := iI 0) dX2_hearValue_25 rfl ?_
    refine v_aload_n B dX2_hearValue_26 rfl rfl ?_
    refine v_aload B dX2_hearValue_27 rfl ?_
    refine u_callVv B Z hz (n := 3) (As := [.int (iI 0), .ref w1, .ref g]) (rest := []) (c_Client_ask l D K Z _ _ _ _ h 0 w1 g t_h ⟨by omega, by omega⟩ t_w1 t_g σ20 G23) gd_Client_hearValue_Client_ask_106 rfl rfl rfl (by decide +kernel) ⟨Nat.le_trans (by decide +kernel) hR.1, Nat.le_trans (by decide +kernel) hR.2⟩ t_h (cls_Client G23 t_h) rfl rfl rfl rfl (Nat.le_of_ble_eq_true rfl) dX2_hearValue_29 ⟨Nat.zero_le _, Nat.zero_le _⟩ (fun σ75 p76 => ?_)
    obtain ⟨G78, F79⟩ := p76
    have F80 := F25.call F79 (by first | rfl | simp)
    have h81 := (F79 w0 _ t_w0 (by first | rfl | simp)).trans h27
    have h82 := (F79 w1 _ t_w1 (by first | rfl | simp)).trans h38
    exact hend σ75 _ _ G78 F80 dX2_hearValue_32
set_option maxRecDepth 100000 in
theorem c_Client_hearValue (l : Launch) (D : va_G) (K : Nat → ClassId) {τ : Nat → Option Ty} {dom : List Nat} (Z : Sk τ dom) (zb zL : Nat) (zx : Nat → Int32) (zs : Nat → Nat) (h : Nat) (w0 : Nat) (w1 : Nat) (d : Nat) (g : Nat) (t_h : τ h = some (32, 0, 0)) (t_w0 : τ w0 = some (1, 12, 0)) (t_w1 : τ w1 = some (40, 0, 0)) (t_d : τ d = some (34, 0, 0)) (t_g : τ g = some (1, 8, 0)) (σ0 : Nat → va_E) (G0 : Good K τ σ0) : MZ l yX2_hearValue wp_Client_hearValue ({ frames := 4, cells := 0, slots := 0, locals := 83 }) D (tysA K) [.ref h, .ref w0, .ref w1, .ref d, .ref g] (fd dom σ0) zb zL zx zs (Qv D (fun σ' => Good K τ σ' ∧ Fr τ [(2, 15), (1, 15), (34, 0), (3, 23), (3, 22), (1, 16), (2, 16), (32, 0), (2, 8), (1, 8)] σ0 σ') (fun σ' => fd dom σ')) 0 0 := by
  refine mz_of (cc := cX2_hearValue) (maxL := 5) (ret := none) (by decide +kernel) rfl (Nat.le_of_ble_eq_true rfl) ?_
  intro p e s m below meth c A B hr hlk _ hz
  exact b_Client_hearValue ⟨Nat.le_refl _, Nat.le_refl _⟩ B Z hz h w0 w1 d g t_h t_w0 t_w1 t_d t_g σ0 G0 (fun σ' lv pc G F hd => v_vret B hr hlk σ' ⟨G, F⟩ rfl (Nat.le_refl _) (Nat.le_refl _) hd)

def wp_Client_hearRows : List Cond := .code yX2_hearRows cX2_hearRows 12 none :: (([.methodLink RX2 74 yX2_lastHandle, .instanceMethod yX2_lastHandle, .selects RX2 yX2_lastHandle yX2_lastHandle, .initialized RX2, .code yX2_lastHandle cX2_lastHandle 1 (some .int), .fieldLink RX2 27 "LowEnergy$Client" "b" "I", .fieldLink RX2 9 "LowEnergy$Client" "kind" "I", .constant RX2 39 (65535), .methodLink RX2 98 yX2_finish, .instanceMethod yX2_finish, .selects RX2 yX2_finish yX2_finish, .code yX2_finish cX2_finish 2 none, .methodLink RX2 110 yX4_note, .instanceMethod yX4_note, .selects RX4 yX4_note yX4_note, .initialized RX4, .code yX4_note cX4_note 6 none, .fieldLink RX4 29 "LowEnergy$Diary" "count" "I", .fieldLink RX4 36 "LowEnergy$Diary" "head" "I", .fieldLink RX4 11 "LowEnergy$Diary" "kinds" "[I", .fieldLink RX4 17 "LowEnergy$Diary" "numbers" "[[I", .fieldLink RX4 22 "LowEnergy$Diary" "rows" "[LLowEnergy$Row;", .methodLink RX4 39 yX9_clear, .instanceMethod yX9_clear, .selects RX9 yX9_clear yX9_clear, .initialized RX9, .code yX9_clear cX9_clear 1 none, .fieldLink RX9 21 "LowEnergy$Row" "size" "I", .fieldLink RX4 33 "LowEnergy$Diary" "lost" "I", .methodLink RX2 106 yX2_ask, .instanceMethod yX2_ask, .selects RX2 yX2_ask yX2_ask, .code yX2_ask cX2_ask 4 none, .methodLink RX2 70 yX9_at, .instanceMethod yX9_at, .selects RX9 yX9_at yX9_at, .code yX9_at cX9_at 2 (some .int), .fieldLink RX9 15 "LowEnergy$Row" "bytes" "[I", .fieldLink RX2 30 "LowEnergy$Client" "askedOp" "I", .methodLink RX2 40 yX9_put, .instanceMethod yX9_put, .selects RX9 yX9_put yX9_put, .code yX9_put cX9_put 2 none, .fieldLink RX2 24 "LowEnergy$Client" "a" "I", .methodLink RX2 48 yX9_putNumber, .instanceMethod yX9_putNumber, .selects RX9 yX9_putNumber yX9_putNumber, .code yX9_putNumber cX9_putNumber 5 none, .constantLong RX9 25 (255), .fieldLink RX2 20 "LowEnergy$Client" "bytes" "LLowEnergy$Row;", .methodLink RX2 52 yX2_putRange, .instanceMethod yX2_putRange, .selects RX2 yX2_putRange yX2_putRange, .code yX2_putRange cX2_putRange 5 none, .methodLink RX2 62 yX2_askToWrite, .instanceMethod yX2_askToWrite, .selects RX2 yX2_askToWrite yX2_askToWrite, .code yX2_askToWrite cX2_askToWrite 3 none, .fieldLink RX2 33 "LowEnergy$Client" "done" "I", .methodLink RX2 66 yX9_putPart, .instanceMethod yX9_putPart, .selects RX9 yX9_putPart yX9_putPart, .code yX9_putPart cX9_putPart 6 none, .methodLink RX9 9 Lib.Math.max.name, .static Lib.Math.max.name, .initialized "java/lang/Math", .code Lib.Math.max.name Lib.Math.max.code 2 (some .int), .methodLink RX2 78 Lib.Math.min.name, .static Lib.Math.min.name, .code Lib.Math.min.name Lib.Math.min.code 2 (some .int), .methodLink RX2 123 yX4_noteBytes, .instanceMethod yX4_noteBytes, .selects RX4 yX4_noteBytes yX4_noteBytes, .code yX4_noteBytes cX4_noteBytes 8 none, .methodLink RX4 42 yX4_note, .methodLink RX4 46 yX9_putPart, .methodLink RX2 92 yX9_two, .instanceMethod yX9_two, .selects RX9 yX9_two yX9_two, .code yX9_two cX9_two 2 (some .int)] : List Cond) ++ (wsX20 ++ (wsX40 ++ (wsX90 ++ (wsX100 ++ ([]))))))
theorem hi_Client_hearRows_X2 : ∀ x ∈ u_ws RX2 TX2 6, x ∈ wp_Client_hearRows := fun _ h => List.mem_cons_of_mem _ (List.mem_append_right _ (List.mem_append_left _ h))
theorem hi_Client_hearRows_X4 : ∀ x ∈ u_ws RX4 TX4 6, x ∈ wp_Client_hearRows := fun _ h => List.mem_cons_of_mem _ (List.mem_append_right _ (List.mem_append_right _ (List.mem_append_left _ h)))
theorem hi_Client_hearRows_X9 : ∀ x ∈ u_ws RX9 TX9 2, x ∈ wp_Client_hearRows := fun _ h => List.mem_cons_of_mem _ (List.mem_append_right _ (List.mem_append_right _ (List.mem_append_right _ (List.mem_append_left _ h))))
theorem hi_Client_hearRows_X10 : ∀ x ∈ u_ws RX10 TX10 10, x ∈ wp_Client_hearRows := fun _ h => List.mem_cons_of_mem _ (List.mem_append_right _ (List.mem_append_right _ (List.mem_append_right _ (List.mem_append_right _ (List.mem_append_left _ h)))))
set_option maxRecDepth 100000 in
theorem gd_Client_hearRows_Client_lastHandle_74 : GoodIn wp_Client_hearRows (wsV RX2 74 RX2 yX2_lastHandle wp_Client_lastHandle) := goodIn_app (goodIn_r _ [1, 2, 3, 4] rfl rfl) (goodIn_ca (goodIn_r _ [5, 6, 7, 8] rfl rfl) (goodIn_app (goodIn_cls hi_Client_hearRows_X2 gw_X2) (goodIn_nil)))
set_option maxRecDepth 100000 in
theorem gd_Client_hearRows_Client_finish_98 : GoodIn wp_Client_hearRows (wsV RX2 98 RX2 yX2_finish wp_Client_finish) := goodIn_app (goodIn_r _ [9, 10, 11, 4] rfl rfl) (goodIn_ca (goodIn_r _ [12, 7, 13, 14, 15, 16, 17, 18, 19, 20, 21, 22, 23, 24, 25, 26, 27, 28, 29] rfl rfl) (goodIn_app (goodIn_cls hi_Client_hearRows_X2 gw_X2) (goodIn_app (goodIn_cls hi_Client_hearRows_X4 gw_X4) (goodIn_app (goodIn_cls hi_Client_hearRows_X9 gw_X9) (goodIn_nil)))))
set_option maxRecDepth 100000 in
theorem gd_Client_hearRows_Client_ask_106 : GoodIn wp_Client_hearRows (wsV RX2 106 RX2 yX2_ask wp_Client_ask) := goodIn_app (goodIn_r _ [30, 31, 32, 4] rfl rfl) (goodIn_ca (goodIn_r _ [33, 34, 35, 36, 26, 37, 28, 38, 39, 40, 41, 42, 43, 44, 45, 46, 47, 48, 49, 50, 7, 51, 52, 53, 4, 54, 1, 2, 3, 5, 6, 8, 55, 56, 57, 58, 59, 60, 61, 62, 63, 64, 65, 66, 67, 68, 69, 70] rfl rfl) (goodIn_app (goodIn_cls hi_Client_hearRows_X9 gw_X9) (goodIn_app (goodIn_cls hi_Client_hearRows_X2 gw_X2) (goodIn_app (goodIn_cls hi_Client_hearRows_X10 gw_X10) (goodIn_nil)))))
set_option maxRecDepth 100000 in
theorem gd_Client_hearRows_Diary_noteBytes_123 : GoodIn wp_Client_hearRows (wsV RX2 123 RX4 yX4_noteBytes wp_Diary_noteBytes) := goodIn_app (goodIn_r _ [71, 72, 73, 16] rfl rfl) (goodIn_ca (goodIn_r _ [74, 18, 29, 22, 19, 75, 14, 15, 16, 17, 20, 21, 23, 24, 25, 26, 27, 28, 76, 61, 62, 63, 38, 64, 65, 66, 67] rfl rfl) (goodIn_app (goodIn_cls hi_Client_hearRows_X4 gw_X4) (goodIn_app (goodIn_cls hi_Client_hearRows_X9 gw_X9) (goodIn_nil))))
set_option maxRecDepth 100000 in
theorem gd_Client_hearRows_Row_two_92 : GoodIn wp_Client_hearRows (wsV RX2 92 RX9 yX9_two wp_Row_two) := goodIn_app (goodIn_r _ [77, 78, 79, 26] rfl rfl) (goodIn_ca (goodIn_r _ [80, 28, 38] rfl rfl) (goodIn_app (goodIn_cls hi_Client_hearRows_X9 gw_X9) (goodIn_nil)))
set_option maxRecDepth 100000 in
theorem gd_Client_hearRows_Row_at_70 : GoodIn wp_Client_hearRows (wsV RX2 70 RX9 yX9_at wp_Row_at) := goodIn_app (goodIn_r _ [34, 35, 36, 26] rfl rfl) (goodIn_ca (goodIn_r _ [37, 28, 38] rfl rfl) (goodIn_app (goodIn_cls hi_Client_hearRows_X9 gw_X9) (goodIn_nil)))
set_option maxHeartbeats 4000000 in
set_option maxRecDepth 100000 in
theorem b_Client_hearRows {p : Program} {l : Launch} {e : Env} {R : Room} {s : State} {m : MethodId} {args : Array Value} {below : List Frame} {meth : Method} {c : Code} {D : va_G} {K : Nat → ClassId} {A : Nat → Prop} {Q : State → Prop} {τ : Nat → Option Ty} {dom : List Nat} {zb zL : Nat} {zx : Nat → Int32} {zs : Nat → Nat} (hR : 4 ≤ R.frames ∧ 83 ≤ R.locals) (B : Bx p s m args c cX2_hearRows 12 RX2 wp_Client_hearRows D (tysA K) A) (Z : Sk τ dom) (hz : ZL zb zL zx zs A s s.heap) (h : Nat) (w0 : Nat) (w1 : Nat) (d : Nat) (g : Nat) (t_h : τ h = some (32, 0, 0)) (t_w0 : τ w0 = some (1, 12, 0)) (t_w1 : τ w1 = some (40, 0, 0)) (t_d : τ d = some (34, 0, 0)) (t_g : τ g = some (1, 8, 0)) (σ0 : Nat → va_E) (G0 : Good K τ σ0) (hend : ∀ (σ' : Nat → va_E) (lv : List (Nat × Value)) (pc : Nat), Good K τ σ' → Fr τ [(34, 0), (3, 23), (3, 22), (1, 16), (2, 16), (32, 0), (2, 8), (1, 8)] σ0 σ' → decode cX2_hearRows pc = .ok (.return_, 1) → V p l e R s m args below meth c 12 D A Q (0, 0) (fd dom σ') lv pc []) : V p l e R s m args below meth c 12 D A Q (0, 0) (fd dom σ0) [(0, .ref h), (1, .ref w0), (2, .ref w1), (3, .ref d), (4, .ref g)] 0 [] := by
  have F0 : Fr τ [(34, 0), (3, 23), (3, 22), (1, 16), (2, 16), (32, 0), (2, 8), (1, 8)] σ0 σ0 := Fr.rf
  have J164 : ∀ (σ_164 : Nat → va_E) (z164_7 : Int), Good K τ σ_164 → Fr τ [(34, 0), (3, 23), (3, 22), (1, 16), (2, 16), (32, 0), (2, 8), (1, 8)] σ0 σ_164 → (0 ≤ z164_7 ∧ z164_7 ≤ 65535) → V p l e R s m args below meth c 12 D A Q (0, 0) (fd dom σ_164) [(0, .ref h), (2, .ref w1), (3, .ref d), (4, .ref g), (7, .int (iI z164_7))] 164 [] := by
    intro σ_164 z164_7 G_164 F_164 r164_7
    refine v_iload B dX2_hearRows_164 rfl ?_
    refine v_aload_n B dX2_hearRows_166 rfl rfl ?_
    refine u_callVi B Z hz (n := 0) (As := []) (rest := [.int (iI z164_7)]) (c_Client_lastHandle l D K Z _ _ _ _ h t_h σ_164 G_164) gd_Client_hearRows_Client_lastHandle_74 rfl rfl rfl (by decide +kernel) ⟨Nat.le_trans (by decide +kernel) hR.1, Nat.le_trans (by decide +kernel) hR.2⟩ t_h (cls_Client G_164 t_h) rfl rfl rfl rfl (Nat.le_of_ble_eq_true rfl) dX2_hearRows_167 ⟨Nat.zero_le _, Nat.zero_le _⟩ (fun v3 σ1 p2 => ?_)
    obtain ⟨rfl, z7, e8, r9⟩ := p2
    subst e8
    refine u_icmp_ge B (tgt := 187) (by omega) (by omega) dX2_hearRows_170 (by decide +kernel) (fun c10 => ?_) (fun c10 => ?_)
    · refine v_aload_n B dX2_hearRows_187 rfl rfl ?_
      refine v_aload_n B dX2_hearRows_188 rfl rfl ?_
      refine u_callVv B Z hz (n := 1) (As := [.ref d]) (rest := []) (c_Client_finish l D K Z _ _ _ _ h d t_h t_d σ_164 G_164) gd_Client_hearRows_Client_finish_98 rfl rfl rfl (by decide +kernel) ⟨Nat.le_trans (by decide +kernel) hR.1, Nat.le_trans (by decide +kernel) hR.2⟩ t_h (cls_Client G_164 t_h) rfl rfl rfl rfl (Nat.le_of_ble_eq_true rfl) dX2_hearRows_189 ⟨Nat.zero_le _, Nat.zero_le _⟩ (fun σ11 p12 => ?_)
      obtain ⟨G14, F15⟩ := p12
      have F16 := F_164.call F15 (by first | rfl | simp)
      exact hend σ11 _ _ G14 F16 dX2_hearRows_192
    · refine v_aload_n B dX2_hearRows_173 rfl rfl ?_
      refine v_iload B dX2_hearRows_174 rfl ?_
      refine v_iconst B (v := iI 1) dX2_hearRows_176 rfl ?_
      refine v_iadd B (v := iI (z164_7 + 1)) dX2_hearRows_177 ((iI_add _ _).trans (congrArg iI (by omega))) ?_
      refine v_aload_n B dX2_hearRows_178 rfl rfl ?_
      refine v_aload B dX2_hearRows_179 rfl ?_
      refine u_callVv B Z hz (n := 3) (As := [.int (iI (z164_7 + 1)), .ref w1, .ref g]) (rest := []) (c_Client_ask l D K Z _ _ _ _ h (z164_7 + 1) w1 g t_h ⟨by omega, by omega⟩ t_w1 t_g σ_164 G_164) gd_Client_hearRows_Client_ask_106 rfl rfl rfl (by decide +kernel) ⟨Nat.le_trans (by decide +kernel) hR.1, Nat.le_trans (by decide +kernel) hR.2⟩ t_h (cls_Client G_164 t_h) rfl rfl rfl rfl (Nat.le_of_ble_eq_true rfl) dX2_hearRows_181 ⟨Nat.zero_le _, Nat.zero_le _⟩ (fun σ17 p18 => ?_)
      obtain ⟨G20, F21⟩ := p18
      have F22 := F_164.call F21 (by first | rfl | simp)
      refine v_goto B (tgt := 192) dX2_hearRows_184 (by decide +kernel) ?_
      exact hend σ17 _ _ G20 F22 dX2_hearRows_192
  have J48 : ∀ (k48 : Nat) (σ_48 : Nat → va_E) (z48_5 : Int) (z48_6 : Int) (z48_7 : Int) (z48_8 : Int), (2147483648 - z48_8).toNat ≤ k48 → Good K τ σ_48 → Fr τ [(34, 0), (3, 23), (3, 22), (1, 16), (2, 16), (32, 0), (2, 8), (1, 8)] σ0 σ_48 → (-1 ≤ z48_5 ∧ z48_5 ≤ 255) → (-1 ≤ z48_6 ∧ z48_6 ≤ 255) → (0 ≤ z48_7 ∧ z48_7 ≤ 65535) → (1 ≤ z48_8 ∧ z48_8 ≤ 510) → V p l e R s m args below meth c 12 D A Q (0, 0) (fd dom σ_48) [(0, .ref h), (1, .ref w0), (2, .ref w1), (3, .ref d), (4, .ref g), (5, .int (iI z48_5)), (6, .int (iI z48_6)), (7, .int (iI z48_7)), (8, .int (iI z48_8))] 48 [] := by
    intro k48
    induction k48 with
    | zero => intro σ_48 z48_5 z48_6 z48_7 z48_8 m48 G_48 F_48 r48_5 r48_6 r48_7 r48_8; omega
    | succ k48 IH48 =>
      intro σ_48 z48_5 z48_6 z48_7 z48_8 m48 G_48 F_48 r48_5 r48_6 r48_7 r48_8
      have J152 : ∀ (σ_152 : Nat → va_E) (z152_s0 : Int), Good K τ σ_152 → Fr τ [(34, 0), (3, 23), (3, 22), (1, 16), (2, 16), (32, 0), (2, 8), (1, 8)] σ0 σ_152 → (1 ≤ z48_6 ∧ z48_6 ≤ 255) → (1 ≤ z48_8 ∧ z48_8 ≤ 255) → (0 ≤ z152_s0 ∧ z152_s0 ≤ 65535) → V p l e R s m args below meth c 12 D A Q (0, 0) (fd dom σ_152) [(0, .ref h), (1, .ref w0), (2, .ref w1), (3, .ref d), (4, .ref g), (5, .int (iI z48_5)), (6, .int (iI z48_6)), (8, .int (iI z48_8))] 152 [.int (iI z152_s0)] := by
        intro σ_152 z152_s0 G_152 F_152 r152_6 r152_8 r152_s0
        refine v_istore B (lv' := [(7, .int (iI z152_s0)), (0, .ref h), (1, .ref w0), (2, .ref w1), (3, .ref d), (4, .ref g), (5, .int (iI z48_5)), (6, .int (iI z48_6)), (8, .int (iI z48_8))]) dX2_hearRows_152 (by decide +kernel) rfl ?_
        refine v_iload B dX2_hearRows_154 rfl ?_
        refine v_iload B dX2_hearRows_156 rfl ?_
        refine v_iadd B (v := iI (z48_8 + z48_6)) dX2_hearRows_158 ((iI_add _ _).trans (congrArg iI (by omega))) ?_
        refine v_istore B (lv' := [(8, .int (iI (z48_8 + z48_6))), (7, .int (iI z152_s0)), (0, .ref h), (1, .ref w0), (2, .ref w1), (3, .ref d), (4, .ref g), (5, .int (iI z48_5)), (6, .int (iI z48_6))]) dX2_hearRows_159 (by decide +kernel) rfl ?_
        refine v_goto B (tgt := 48) dX2_hearRows_161 (by decide +kernel) ?_
        refine v_lv [2, 3, 4, 5, 6, 7, 8, 1, 0] rfl ?_
        exact IH48 σ_152 z48_5 z48_6 z152_s0 (z48_8 + z48_6) (by omega) G_152 F_152 ⟨by omega, by omega⟩ ⟨by omega, by omega⟩ ⟨by omega, by omega⟩ ⟨by omega, by omega⟩
      have J145 : ∀ (σ_145 : Nat → va_E) (z145_10 : Int), Good K τ σ_145 → Fr τ [(34, 0), (3, 23), (3, 22), (1, 16), (2, 16), (32, 0), (2, 8), (1, 8)] σ0 σ_145 → (7 ≤ z48_5 ∧ z48_5 ≤ 17) → (1 ≤ z48_6 ∧ z48_6 ≤ 255) → (1 ≤ z48_8 ∧ z48_8 ≤ 255) → (0 ≤ z145_10 ∧ z145_10 ≤ 65535) → V p l e R s m args below meth c 12 D A Q (0, 0) (fd dom σ_145) [(0, .ref h), (1, .ref w0), (2, .ref w1), (3, .ref d), (4, .ref g), (5, .int (iI z48_5)), (6, .int (iI z48_6)), (8, .int (iI z48_8)), (10, .int (iI z145_10))] 145 [] := by
        intro σ_145 z145_10 G_145 F_145 r145_5 r145_6 r145_8 r145_10
        refine v_iload B dX2_hearRows_145 rfl ?_
        refine v_goto B (tgt := 152) dX2_hearRows_147 (by decide +kernel) ?_
        refine v_lv [0, 1, 2, 3, 4, 5, 6, 7] rfl ?_
        exact J152 σ_145 z145_10 G_145 F_145 ⟨by omega, by omega⟩ ⟨by omega, by omega⟩ ⟨by omega, by omega⟩
      have J106 : ∀ (z106_9 : Int) (z106_10 : Int) (z106_s0 : Int), (1 ≤ z48_6 ∧ z48_6 ≤ 255) → (1 ≤ z48_8 ∧ z48_8 ≤ 255) → (0 ≤ z106_9 ∧ z106_9 ≤ 65535) → (0 ≤ z106_10 ∧ z106_10 ≤ 65535) → (2 ≤ z106_s0 ∧ z106_s0 ≤ 4) → V p l e R s m args below meth c 12 D A Q (0, 0) (fd dom σ_48) [(0, .ref h), (1, .ref w0), (2, .ref w1), (3, .ref d), (4, .ref g), (5, .int (iI z48_5)), (6, .int (iI z48_6)), (8, .int (iI z48_8)), (9, .int (iI z106_9)), (10, .int (iI z106_10))] 106 [.int (iI z106_s0)] := by
        intro z106_9 z106_10 z106_s0 r106_6 r106_8 r106_9 r106_10 r106_s0
        refine v_istore B (lv' := [(11, .int (iI z106_s0)), (0, .ref h), (1, .ref w0), (2, .ref w1), (3, .ref d), (4, .ref g), (5, .int (iI z48_5)), (6, .int (iI z48_6)), (8, .int (iI z48_8)), (9, .int (iI z106_9)), (10, .int (iI z106_10))]) dX2_hearRows_106 (by decide +kernel) rfl ?_
        refine v_aload_n B dX2_hearRows_108 rfl rfl ?_
        refine v_aload_n B dX2_hearRows_109 rfl rfl ?_
        obtain ⟨z23, z24, z25, z26, z27, a28, h29, r30, r31, r32, r33, r34, t35⟩ : okClient τ (σ_48 h) := G_48 h _ t_h
        refine u_get B Z (C := RX2) (T := TX2) (N := 6) (ci := 2) hi_Client_hearRows_X2 t_h h29 rfl 0 (by decide +kernel) (List.mem_of_getElem? (i := 7) rfl) rfl dX2_hearRows_110 ?_
        refine v_iload B dX2_hearRows_113 rfl ?_
        refine v_iload B dX2_hearRows_115 rfl ?_
        refine v_aload_n B dX2_hearRows_117 rfl rfl ?_
        refine v_iload B dX2_hearRows_118 rfl ?_
        refine v_iload B dX2_hearRows_120 rfl ?_
        refine v_iadd B (v := iI (z48_8 + z106_s0)) dX2_hearRows_122 ((iI_add _ _).trans (congrArg iI (by omega))) ?_
        refine v_iload B dX2_hearRows_123 rfl ?_
        refine v_iload B dX2_hearRows_125 rfl ?_
        refine v_isub B (v := iI (z48_6 + (-1) * z106_s0)) dX2_hearRows_127 ((iI_sub _ _).trans (congrArg iI (by omega))) ?_
        refine u_callVv B Z hz (n := 6) (As := [.int (iI z23), .int (iI z106_9), .int (iI z106_10), .ref w0, .int (iI (z48_8 + z106_s0)), .int (iI (z48_6 + (-1) * z106_s0))]) (rest := []) (c_Diary_noteBytes l D K Z _ _ _ _ d z23 z106_9 z106_10 w0 (z48_8 + z106_s0) (z48_6 + (-1) * z106_s0) t_d ⟨by omega, by omega⟩ ⟨by omega, by omega⟩ ⟨by omega, by omega⟩ t_w0 ⟨by omega, by omega⟩ ⟨by omega, by omega⟩ σ_48 G_48) gd_Client_hearRows_Diary_noteBytes_123 rfl rfl rfl (by decide +kernel) ⟨Nat.le_trans (by decide +kernel) hR.1, Nat.le_trans (by decide +kernel) hR.2⟩ t_d (cls_Diary G_48 t_d) rfl rfl rfl rfl (Nat.le_of_ble_eq_true rfl) dX2_hearRows_128 ⟨Nat.zero_le _, Nat.zero_le _⟩ (fun σ36 p37 => ?_)
        obtain ⟨G39, F40⟩ := p37
        have F41 := F_48.call F40 (by first | rfl | simp)
        have h42 := (F40 h _ t_h (by first | rfl | simp)).trans h29
        refine v_iload B dX2_hearRows_131 rfl ?_
        refine v_bipush B (v := iI 17) dX2_hearRows_133 (by decide +kernel) ?_
        refine u_icmp_eq B (tgt := 145) (by omega) (by omega) dX2_hearRows_135 (by decide +kernel) (fun c43 => ?_) (fun c43 => ?_)
        · refine v_lv [1, 2, 3, 4, 5, 6, 7, 8, 10] rfl ?_
          exact J145 σ36 z106_10 G39 F41 ⟨by omega, by omega⟩ ⟨by omega, by omega⟩ ⟨by omega, by omega⟩ ⟨by omega, by omega⟩
        · refine v_iload B dX2_hearRows_138 rfl ?_
          refine v_bipush B (v := iI 7) dX2_hearRows_140 (by decide +kernel) ?_
          refine u_icmp_ne B (tgt := 150) (by omega) (by omega) dX2_hearRows_142 (by decide +kernel) (fun c44 => ?_) (fun c44 => ?_)
          · refine v_iload B dX2_hearRows_150 rfl ?_
            refine v_lv [1, 2, 3, 4, 5, 6, 7, 8] rfl ?_
            exact J152 σ36 z106_9 G39 F41 ⟨by omega, by omega⟩ ⟨by omega, by omega⟩ ⟨by omega, by omega⟩
          · refine v_lv [1, 2, 3, 4, 5, 6, 7, 8, 10] rfl ?_
            exact J145 σ36 z106_10 G39 F41 ⟨by omega, by omega⟩ ⟨by omega, by omega⟩ ⟨by omega, by omega⟩ ⟨by omega, by omega⟩
      have J92 : ∀ (z92_9 : Int) (z92_s0 : Int), (1 ≤ z48_6 ∧ z48_6 ≤ 255) → (1 ≤ z48_8 ∧ z48_8 ≤ 255) → (0 ≤ z92_9 ∧ z92_9 ≤ 65535) → (0 ≤ z92_s0 ∧ z92_s0 ≤ 65535) → V p l e R s m args below meth c 12 D A Q (0, 0) (fd dom σ_48) [(0, .ref h), (1, .ref w0), (2, .ref w1), (3, .ref d), (4, .ref g), (5, .int (iI z48_5)), (6, .int (iI z48_6)), (8, .int (iI z48_8)), (9, .int (iI z92_9))] 92 [.int (iI z92_s0)] := by
        intro z92_9 z92_s0 r92_6 r92_8 r92_9 r92_s0
        refine v_istore B (lv' := [(10, .int (iI z92_s0)), (0, .ref h), (1, .ref w0), (2, .ref w1), (3, .ref d), (4, .ref g), (5, .int (iI z48_5)), (6, .int (iI z48_6)), (8, .int (iI z48_8)), (9, .int (iI z92_9))]) dX2_hearRows_92 (by decide +kernel) rfl ?_
        refine v_iload B dX2_hearRows_94 rfl ?_
        refine v_bipush B (v := iI 9) dX2_hearRows_96 (by decide +kernel) ?_
        refine u_icmp_ne B (tgt := 105) (by omega) (by omega) dX2_hearRows_98 (by decide +kernel) (fun c45 => ?_) (fun c45 => ?_)
        · refine v_iconst B (v := iI 4) dX2_hearRows_105 rfl ?_
          refine v_lv [1, 2, 3, 4, 5, 6, 7, 8, 9, 0] rfl ?_
          exact J106 z92_9 z92_s0 4 ⟨by omega, by omega⟩ ⟨by omega, by omega⟩ ⟨by omega, by omega⟩ ⟨by omega, by omega⟩ ⟨by omega, by omega⟩
        · refine v_iconst B (v := iI 2) dX2_hearRows_101 rfl ?_
          refine v_goto B (tgt := 106) dX2_hearRows_102 (by decide +kernel) ?_
          refine v_lv [1, 2, 3, 4, 5, 6, 7, 8, 9, 0] rfl ?_
          exact J106 z92_9 z92_s0 2 ⟨by omega, by omega⟩ ⟨by omega, by omega⟩ ⟨by omega, by omega⟩ ⟨by omega, by omega⟩ ⟨by omega, by omega⟩
      refine v_iload B dX2_hearRows_48 rfl ?_
      refine u_if_le B (tgt := 164) (by omega) dX2_hearRows_50 (by decide +kernel) (fun c46 => ?_) (fun c46 => ?_)
      · refine v_lv [0, 2, 3, 4, 7] rfl ?_
        exact J164 σ_48 z48_7 G_48 F_48 ⟨by omega, by omega⟩
      · refine v_iload B dX2_hearRows_53 rfl ?_
        refine v_iload B dX2_hearRows_55 rfl ?_
        refine v_iadd B (v := iI (z48_8 + z48_6)) dX2_hearRows_57 ((iI_add _ _).trans (congrArg iI (by omega))) ?_
        refine v_aload_n B dX2_hearRows_58 rfl rfl ?_
        obtain ⟨b47, N48, n49, h50, t51, r52⟩ : okRow τ 12 (σ_48 w0) := G_48 w0 _ t_w0
        refine u_getN B Z (C := RX9) (T := TX9) (N := 2) (ci := 9) hi_Client_hearRows_X9 t_w0 h50 rfl 1 (by decide +kernel) (List.mem_of_getElem? (i := 74) rfl) rfl dX2_hearRows_59 ?_
        refine u_icmp_gt B (tgt := 164) (by omega) (by omega) dX2_hearRows_62 (by decide +kernel) (fun c53 => ?_) (fun c53 => ?_)
        · refine v_lv [0, 2, 3, 4, 7] rfl ?_
          exact J164 σ_48 z48_7 G_48 F_48 ⟨by omega, by omega⟩
        · refine v_aload_n B dX2_hearRows_65 rfl rfl ?_
          refine v_iload B dX2_hearRows_66 rfl ?_
          refine u_callVi B Z hz (n := 1) (As := [.int (iI z48_8)]) (rest := []) (c_Row_two l D K Z _ _ _ _ w0 z48_8 t_w0 ⟨by omega, by omega⟩ σ_48 G_48) gd_Client_hearRows_Row_two_92 rfl rfl rfl (by decide +kernel) ⟨Nat.le_trans (by decide +kernel) hR.1, Nat.le_trans (by decide +kernel) hR.2⟩ t_w0 (cls_Row G_48 t_w0) rfl rfl rfl rfl (Nat.le_of_ble_eq_true rfl) dX2_hearRows_68 ⟨Nat.zero_le _, Nat.zero_le _⟩ (fun v56 σ54 p55 => ?_)
          obtain ⟨rfl, z60, e61, r62⟩ := p55
          subst e61
          refine v_istore B (lv' := [(9, .int (iI z60)), (0, .ref h), (1, .ref w0), (2, .ref w1), (3, .ref d), (4, .ref g), (5, .int (iI z48_5)), (6, .int (iI z48_6)), (7, .int (iI z48_7)), (8, .int (iI z48_8))]) dX2_hearRows_71 (by decide +kernel) rfl ?_
          refine v_iload B dX2_hearRows_73 rfl ?_
          refine v_bipush B (v := iI 9) dX2_hearRows_75 (by decide +kernel) ?_
          refine u_icmp_ne B (tgt := 84) (by omega) (by omega) dX2_hearRows_77 (by decide +kernel) (fun c63 => ?_) (fun c63 => ?_)
          · refine v_aload_n B dX2_hearRows_84 rfl rfl ?_
            refine v_iload B dX2_hearRows_85 rfl ?_
            refine v_iconst B (v := iI 2) dX2_hearRows_87 rfl ?_
            refine v_iadd B (v := iI (z48_8 + 2)) dX2_hearRows_88 ((iI_add _ _).trans (congrArg iI (by omega))) ?_
            refine u_callVi B Z hz (n := 1) (As := [.int (iI (z48_8 + 2))]) (rest := []) (c_Row_two l D K Z _ _ _ _ w0 (z48_8 + 2) t_w0 ⟨by omega, by omega⟩ σ_48 G_48) gd_Client_hearRows_Row_two_92 rfl rfl rfl (by decide +kernel) ⟨Nat.le_trans (by decide +kernel) hR.1, Nat.le_trans (by decide +kernel) hR.2⟩ t_w0 (cls_Row G_48 t_w0) rfl rfl rfl rfl (Nat.le_of_ble_eq_true rfl) dX2_hearRows_89 ⟨Nat.zero_le _, Nat.zero_le _⟩ (fun v66 σ64 p65 => ?_)
            obtain ⟨rfl, z70, e71, r72⟩ := p65
            subst e71
            refine v_lv [1, 2, 3, 4, 5, 6, 7, 9, 0] rfl ?_
            exact J92 z60 z70 ⟨by omega, by omega⟩ ⟨by omega, by omega⟩ ⟨by omega, by omega⟩ ⟨by omega, by omega⟩
          · refine v_iconst B (v := iI 0) dX2_hearRows_80 rfl ?_
            refine v_goto B (tgt := 92) dX2_hearRows_81 (by decide +kernel) ?_
            refine v_lv [1, 2, 3, 4, 5, 6, 7, 9, 0] rfl ?_
            exact J92 z60 0 ⟨by omega, by omega⟩ ⟨by omega, by omega⟩ ⟨by omega, by omega⟩ ⟨by omega, by omega⟩
  have J46 : ∀ (z46_5 : Int) (z46_6 : Int) (z46_7 : Int) (z46_s0 : Int), (-1 ≤ z46_5 ∧ z46_5 ≤ 255) → (-1 ≤ z46_6 ∧ z46_6 ≤ 255) → (0 ≤ z46_7 ∧ z46_7 ≤ 0) → (1 ≤ z46_s0 ∧ z46_s0 ≤ 2) → V p l e R s m args below meth c 12 D A Q (0, 0) (fd dom σ0) [(0, .ref h), (1, .ref w0), (2, .ref w1), (3, .ref d), (4, .ref g), (5, .int (iI z46_5)), (6, .int (iI z46_6)), (7, .int (iI z46_7))] 46 [.int (iI z46_s0)] := by
    intro z46_5 z46_6 z46_7 z46_s0 r46_5 r46_6 r46_7 r46_s0
    refine v_istore B (lv' := [(8, .int (iI z46_s0)), (0, .ref h), (1, .ref w0), (2, .ref w1), (3, .ref d), (4, .ref g), (5, .int (iI z46_5)), (6, .int (iI z46_6)), (7, .int (iI z46_7))]) dX2_hearRows_46 (by decide +kernel) rfl ?_
    refine v_lv [1, 2, 3, 4, 5, 6, 7, 8, 0] rfl ?_
    exact J48 _ σ0 z46_5 z46_6 z46_7 z46_s0 (Nat.le_refl _) G0 F0 ⟨by omega, by omega⟩ ⟨by omega, by omega⟩ ⟨by omega, by omega⟩ ⟨by omega, by omega⟩
  have J29 : ∀ (z29_5 : Int) (z29_s0 : Int), (-1 ≤ z29_5 ∧ z29_5 ≤ 255) → (-1 ≤ z29_s0 ∧ z29_s0 ≤ 255) → V p l e R s m args below meth c 12 D A Q (0, 0) (fd dom σ0) [(0, .ref h), (1, .ref w0), (2, .ref w1), (3, .ref d), (4, .ref g), (5, .int (iI z29_5))] 29 [.int (iI z29_s0)] := by
    intro z29_5 z29_s0 r29_5 r29_s0
    refine v_istore B (lv' := [(6, .int (iI z29_s0)), (0, .ref h), (1, .ref w0), (2, .ref w1), (3, .ref d), (4, .ref g), (5, .int (iI z29_5))]) dX2_hearRows_29 (by decide +kernel) rfl ?_
    refine v_iconst B (v := iI 0) dX2_hearRows_31 rfl ?_
    refine v_istore B (lv' := [(7, .int (iI 0)), (6, .int (iI z29_s0)), (0, .ref h), (1, .ref w0), (2, .ref w1), (3, .ref d), (4, .ref g), (5, .int (iI z29_5))]) dX2_hearRows_32 (by decide +kernel) rfl ?_
    refine v_iload B dX2_hearRows_34 rfl ?_
    refine v_bipush B (v := iI 7) dX2_hearRows_36 (by decide +kernel) ?_
    refine u_icmp_ne B (tgt := 45) (by omega) (by omega) dX2_hearRows_38 (by decide +kernel) (fun c73 => ?_) (fun c73 => ?_)
    · refine v_iconst B (v := iI 2) dX2_hearRows_45 rfl ?_
      refine v_lv [2, 3, 4, 5, 6, 7, 1, 0] rfl ?_
      exact J46 z29_5 z29_s0 0 2 ⟨by omega, by omega⟩ ⟨by omega, by omega⟩ ⟨by omega, by omega⟩ ⟨by omega, by omega⟩
    · refine v_iconst B (v := iI 1) dX2_hearRows_41 rfl ?_
      refine v_goto B (tgt := 46) dX2_hearRows_42 (by decide +kernel) ?_
      refine v_lv [2, 3, 4, 5, 6, 7, 1, 0] rfl ?_
      exact J46 z29_5 z29_s0 0 1 ⟨by omega, by omega⟩ ⟨by omega, by omega⟩ ⟨by omega, by omega⟩ ⟨by omega, by omega⟩
  have J20 : ∀ (z20_5 : Int), (5 ≤ z20_5 ∧ z20_5 ≤ 7) → V p l e R s m args below meth c 12 D A Q (0, 0) (fd dom σ0) [(0, .ref h), (1, .ref w0), (2, .ref w1), (3, .ref d), (4, .ref g), (5, .int (iI z20_5))] 20 [] := by
    intro z20_5 r20_5
    refine v_iconst B (v := iI 4) dX2_hearRows_20 rfl ?_
    refine v_goto B (tgt := 29) dX2_hearRows_21 (by decide +kernel) ?_
    exact J29 z20_5 4 ⟨by omega, by omega⟩ ⟨by omega, by omega⟩
  refine v_aload_n B dX2_hearRows_0 rfl rfl ?_
  refine v_iconst B (v := iI 0) dX2_hearRows_1 rfl ?_
  refine u_callVi B Z hz (n := 1) (As := [.int (iI 0)]) (rest := []) (c_Row_at l D K Z _ _ _ _ w0 0 t_w0 ⟨by omega, by omega⟩ σ0 G0) gd_Client_hearRows_Row_at_70 rfl rfl rfl (by decide +kernel) ⟨Nat.le_trans (by decide +kernel) hR.1, Nat.le_trans (by decide +kernel) hR.2⟩ t_w0 (cls_Row G0 t_w0) rfl rfl rfl rfl (Nat.le_of_ble_eq_true rfl) dX2_hearRows_2 ⟨Nat.zero_le _, Nat.zero_le _⟩ (fun v76 σ74 p75 => ?_)
  obtain ⟨rfl, z80, e81, r82⟩ := p75
  subst e81
  refine v_istore B (lv' := [(5, .int (iI z80)), (0, .ref h), (1, .ref w0), (2, .ref w1), (3, .ref d), (4, .ref g)]) dX2_hearRows_5 (by decide +kernel) rfl ?_
  refine v_iload B dX2_hearRows_7 rfl ?_
  refine v_iconst B (v := iI 5) dX2_hearRows_9 rfl ?_
  refine u_icmp_eq B (tgt := 20) (by omega) (by omega) dX2_hearRows_10 (by decide +kernel) (fun c83 => ?_) (fun c83 => ?_)
  · refine v_lv [1, 2, 3, 4, 5, 0] rfl ?_
    exact J20 z80 ⟨by omega, by omega⟩
  · refine v_iload B dX2_hearRows_13 rfl ?_
    refine v_bipush B (v := iI 7) dX2_hearRows_15 (by decide +kernel) ?_
    refine u_icmp_ne B (tgt := 24) (by omega) (by omega) dX2_hearRows_17 (by decide +kernel) (fun c84 => ?_) (fun c84 => ?_)
    · refine v_aload_n B dX2_hearRows_24 rfl rfl ?_
      refine v_iconst B (v := iI 1) dX2_hearRows_25 rfl ?_
      refine u_callVi B Z hz (n := 1) (As := [.int (iI 1)]) (rest := []) (c_Row_at l D K Z _ _ _ _ w0 1 t_w0 ⟨by omega, by omega⟩ σ0 G0) gd_Client_hearRows_Row_at_70 rfl rfl rfl (by decide +kernel) ⟨Nat.le_trans (by decide +kernel) hR.1, Nat.le_trans (by decide +kernel) hR.2⟩ t_w0 (cls_Row G0 t_w0) rfl rfl rfl rfl (Nat.le_of_ble_eq_true rfl) dX2_hearRows_26 ⟨Nat.zero_le _, Nat.zero_le _⟩ (fun v87 σ85 p86 => ?_)
      obtain ⟨rfl, z91, e92, r93⟩ := p86
      subst e92
      refine v_lv [1, 2, 3, 4, 5, 0] rfl ?_
      exact J29 z80 z91 ⟨by omega, by omega⟩ ⟨by omega, by omega⟩
    · refine v_lv [1, 2, 3, 4, 5, 0] rfl ?_
      exact J20 z80 ⟨by omega, by omega⟩
set_option maxRecDepth 100000 in
theorem c_Client_hearRows (l : Launch) (D : va_G) (K : Nat → ClassId) {τ : Nat → Option Ty} {dom : List Nat} (Z : Sk τ dom) (zb zL : Nat) (zx : Nat → Int32) (zs : Nat → Nat) (h : Nat) (w0 : Nat) (w1 : Nat) (d : Nat) (g : Nat) (t_h : τ h = some (32, 0, 0)) (t_w0 : τ w0 = some (1, 12, 0)) (t_w1 : τ w1 = some (40, 0, 0)) (t_d : τ d = some (34, 0, 0)) (t_g : τ g = some (1, 8, 0)) (σ0 : Nat → va_E) (G0 : Good K τ σ0) : MZ l yX2_hearRows wp_Client_hearRows ({ frames := 4, cells := 0, slots := 0, locals := 83 }) D (tysA K) [.ref h, .ref w0, .ref w1, .ref d, .ref g] (fd dom σ0) zb zL zx zs (Qv D (fun σ' => Good K τ σ' ∧ Fr τ [(34, 0), (3, 23), (3, 22), (1, 16), (2, 16), (32, 0), (2, 8), (1, 8)] σ0 σ') (fun σ' => fd dom σ')) 0 0 := by
  refine mz_of (cc := cX2_hearRows) (maxL := 12) (ret := none) (by decide +kernel) rfl (Nat.le_of_ble_eq_true rfl) ?_
  intro p e s m below meth c A B hr hlk _ hz
  exact b_Client_hearRows ⟨Nat.le_refl _, Nat.le_refl _⟩ B Z hz h w0 w1 d g t_h t_w0 t_w1 t_d t_g σ0 G0 (fun σ' lv pc G F hd => v_vret B hr hlk σ' ⟨G, F⟩ rfl (Nat.le_refl _) (Nat.le_refl _) hd)

def wp_Client_goOn : List Cond := .code yX2_goOn cX2_goOn 6 none :: (([.fieldLink RX2 9 "LowEnergy$Client" "kind" "I", .methodLink RX2 70 yX9_at, .instanceMethod yX9_at, .selects RX9 yX9_at yX9_at, .initialized RX9, .code yX9_at cX9_at 2 (some .int), .fieldLink RX9 21 "LowEnergy$Row" "size" "I", .fieldLink RX9 15 "LowEnergy$Row" "bytes" "[I", .fieldLink RX2 30 "LowEnergy$Client" "askedOp" "I", .methodLink RX2 88 yX2_isWhole, .static yX2_isWhole, .initialized RX2, .code yX2_isWhole cX2_isWhole 2 (some .boolean), .methodLink RX2 119 yX2_areRows, .static yX2_areRows, .code yX2_areRows cX2_areRows 2 (some .boolean), .methodLink RX2 92 yX9_two, .instanceMethod yX9_two, .selects RX9 yX9_two yX9_two, .code yX9_two cX9_two 2 (some .int), .methodLink RX2 95 yX10_agreeOnMtu, .instanceMethod yX10_agreeOnMtu, .selects RX10 yX10_agreeOnMtu yX10_agreeOnMtu, .initialized RX10, .code yX10_agreeOnMtu cX10_agreeOnMtu 2 none, .fieldLink RX10 24 "LowEnergy$Server" "ownMtu" "I", .methodLink RX10 47 Lib.Math.min.name, .static Lib.Math.min.name, .initialized "java/lang/Math", .code Lib.Math.min.name Lib.Math.min.code 2 (some .int), .methodLink RX10 53 Lib.Math.max.name, .static Lib.Math.max.name, .code Lib.Math.max.name Lib.Math.max.code 2 (some .int), .fieldLink RX10 28 "LowEnergy$Server" "linkMtu" "I", .methodLink RX2 98 yX2_finish, .instanceMethod yX2_finish, .selects RX2 yX2_finish yX2_finish, .code yX2_finish cX2_finish 2 none, .methodLink RX2 110 yX4_note, .instanceMethod yX4_note, .selects RX4 yX4_note yX4_note, .initialized RX4, .code yX4_note cX4_note 6 none, .fieldLink RX4 29 "LowEnergy$Diary" "count" "I", .fieldLink RX4 36 "LowEnergy$Diary" "head" "I", .fieldLink RX4 11 "LowEnergy$Diary" "kinds" "[I", .fieldLink RX4 17 "LowEnergy$Diary" "numbers" "[[I", .fieldLink RX4 22 "LowEnergy$Diary" "rows" "[LLowEnergy$Row;", .methodLink RX4 39 yX9_clear, .instanceMethod yX9_clear, .selects RX9 yX9_clear yX9_clear, .code yX9_clear cX9_clear 1 none, .fieldLink RX4 33 "LowEnergy$Diary" "lost" "I", .methodLink RX2 102 yX2_hearValue, .instanceMethod yX2_hearValue, .selects RX2 yX2_hearValue yX2_hearValue, .code yX2_hearValue cX2_hearValue 5 none, .fieldLink RX2 20 "LowEnergy$Client" "bytes" "LLowEnergy$Row;", .methodLink RX2 66 yX9_putPart, .instanceMethod yX9_putPart, .selects RX9 yX9_putPart yX9_putPart, .code yX9_putPart cX9_putPart 6 none, .methodLink RX9 9 Lib.Math.max.name, .fieldLink RX2 24 "LowEnergy$Client" "a" "I", .methodLink RX2 123 yX4_noteBytes, .instanceMethod yX4_noteBytes, .selects RX4 yX4_noteBytes yX4_noteBytes, .code yX4_noteBytes cX4_noteBytes 8 none, .methodLink RX4 42 yX4_note, .methodLink RX4 46 yX9_putPart, .methodLink RX2 106 yX2_ask, .instanceMethod yX2_ask, .selects RX2 yX2_ask yX2_ask, .code yX2_ask cX2_ask 4 none, .methodLink RX2 40 yX9_put, .instanceMethod yX9_put, .selects RX9 yX9_put yX9_put, .code yX9_put cX9_put 2 none, .methodLink RX2 48 yX9_putNumber, .instanceMethod yX9_putNumber, .selects RX9 yX9_putNumber yX9_putNumber, .code yX9_putNumber cX9_putNumber 5 none, .constantLong RX9 25 (255), .methodLink RX2 52 yX2_putRange, .instanceMethod yX2_putRange, .selects RX2 yX2_putRange yX2_putRange, .code yX2_putRange cX2_putRange 5 none, .methodLink RX2 74 yX2_lastHandle, .instanceMethod yX2_lastHandle, .selects RX2 yX2_lastHandle yX2_lastHandle, .code yX2_lastHandle cX2_lastHandle 1 (some .int), .fieldLink RX2 27 "LowEnergy$Client" "b" "I", .constant RX2 39 (65535), .methodLink RX2 62 yX2_askToWrite, .instanceMethod yX2_askToWrite, .selects RX2 yX2_askToWrite yX2_askToWrite, .code yX2_askToWrite cX2_askToWrite 3 none, .fieldLink RX2 33 "LowEnergy$Client" "done" "I", .methodLink RX2 78 Lib.Math.min.name, .methodLink RX2 116 yX2_hearRows, .instanceMethod yX2_hearRows, .selects RX2 yX2_hearRows yX2_hearRows, .code yX2_hearRows cX2_hearRows 12 none, .methodLink RX2 84 yX2_hearError, .instanceMethod yX2_hearError, .selects RX2 yX2_hearError yX2_hearError, .code yX2_hearError cX2_hearError 4 none] : List Cond) ++ (wsX20 ++ (wsX90 ++ (wsX100 ++ (wsX40 ++ ([]))))))
theorem hi_Client_goOn_X2 : ∀ x ∈ u_ws RX2 TX2 6, x ∈ wp_Client_goOn := fun _ h => List.mem_cons_of_mem _ (List.mem_append_right _ (List.mem_append_left _ h))
theorem hi_Client_goOn_X9 : ∀ x ∈ u_ws RX9 TX9 2, x ∈ wp_Client_goOn := fun _ h => List.mem_cons_of_mem _ (List.mem_append_right _ (List.mem_append_right _ (List.mem_append_left _ h)))
theorem hi_Client_goOn_X10 : ∀ x ∈ u_ws RX10 TX10 10, x ∈ wp_Client_goOn := fun _ h => List.mem_cons_of_mem _ (List.mem_append_right _ (List.mem_append_right _ (List.mem_append_right _ (List.mem_append_left _ h))))
theorem hi_Client_goOn_X4 : ∀ x ∈ u_ws RX4 TX4 6, x ∈ wp_Client_goOn := fun _ h => List.mem_cons_of_mem _ (List.mem_append_right _ (List.mem_append_right _ (List.mem_append_right _ (List.mem_append_right _ (List.mem_append_left _ h)))))
set_option maxRecDepth 100000 in
theorem gd_Client_goOn_Row_at_70 : GoodIn wp_Client_goOn (wsV RX2 70 RX9 yX9_at wp_Row_at) := goodIn_app (goodIn_r _ [2, 3, 4, 5] rfl rfl) (goodIn_ca (goodIn_r _ [6, 7, 8] rfl rfl) (goodIn_app (goodIn_cls hi_Client_goOn_X9 gw_X9) (goodIn_nil)))
set_option maxRecDepth 100000 in
theorem gd_Client_goOn_Client_isWhole_88 : GoodIn wp_Client_goOn (va_wsS RX2 88 yX2_isWhole wp_Client_isWhole) := goodIn_app (goodIn_r _ [10, 11, 12] rfl rfl) (goodIn_ca (goodIn_r _ [13, 2, 3, 4, 5, 6, 7, 8, 14, 15, 12, 16] rfl rfl) (goodIn_app (goodIn_cls hi_Client_goOn_X9 gw_X9) (goodIn_nil)))
set_option maxRecDepth 100000 in
theorem gd_Client_goOn_Row_two_92 : GoodIn wp_Client_goOn (wsV RX2 92 RX9 yX9_two wp_Row_two) := goodIn_app (goodIn_r _ [17, 18, 19, 5] rfl rfl) (goodIn_ca (goodIn_r _ [20, 7, 8] rfl rfl) (goodIn_app (goodIn_cls hi_Client_goOn_X9 gw_X9) (goodIn_nil)))
set_option maxRecDepth 100000 in
theorem gd_Client_goOn_Server_agreeOnMtu_95 : GoodIn wp_Client_goOn (wsV RX2 95 RX10 yX10_agreeOnMtu wp_Server_agreeOnMtu) := goodIn_app (goodIn_r _ [21, 22, 23, 24] rfl rfl) (goodIn_ca (goodIn_r _ [25, 26, 27, 28, 29, 30, 31, 32, 33, 34] rfl rfl) (goodIn_app (goodIn_cls hi_Client_goOn_X10 gw_X10) (goodIn_nil)))
set_option maxRecDepth 100000 in
theorem gd_Client_goOn_Client_finish_98 : GoodIn wp_Client_goOn (wsV RX2 98 RX2 yX2_finish wp_Client_finish) := goodIn_app (goodIn_r _ [35, 36, 37, 12] rfl rfl) (goodIn_ca (goodIn_r _ [38, 1, 39, 40, 41, 42, 43, 44, 45, 46, 47, 48, 49, 50, 51, 5, 52, 7, 53] rfl rfl) (goodIn_app (goodIn_cls hi_Client_goOn_X2 gw_X2) (goodIn_app (goodIn_cls hi_Client_goOn_X4 gw_X4) (goodIn_app (goodIn_cls hi_Client_goOn_X9 gw_X9) (goodIn_nil)))))
set_option maxRecDepth 100000 in
theorem gd_Client_goOn_Client_hearValue_102 : GoodIn wp_Client_goOn (wsV RX2 102 RX2 yX2_hearValue wp_Client_hearValue) := goodIn_app (goodIn_r _ [54, 55, 56, 12] rfl rfl) (goodIn_ca (goodIn_r _ [57, 58, 59, 60, 61, 5, 62, 7, 8, 63, 32, 29, 33, 64, 65, 66, 67, 42, 68, 44, 53, 48, 45, 69, 40, 41, 43, 46, 47, 49, 50, 51, 52, 70, 35, 36, 37, 12, 38, 1, 39, 71, 72, 73, 74, 2, 3, 4, 6, 9, 75, 76, 77, 78, 79, 80, 81, 82, 83, 84, 85, 86, 87, 88, 89, 90, 91, 92, 93, 94, 95, 96, 97, 98, 99, 28, 30] rfl rfl) (goodIn_app (goodIn_cls hi_Client_goOn_X2 gw_X2) (goodIn_app (goodIn_cls hi_Client_goOn_X9 gw_X9) (goodIn_app (goodIn_cls hi_Client_goOn_X10 gw_X10) (goodIn_app (goodIn_cls hi_Client_goOn_X4 gw_X4) (goodIn_nil))))))
set_option maxRecDepth 100000 in
theorem gd_Client_goOn_Diary_note_110 : GoodIn wp_Client_goOn (wsV RX2 110 RX4 yX4_note wp_Diary_note) := goodIn_app (goodIn_r _ [39, 40, 41, 42] rfl rfl) (goodIn_ca (goodIn_r _ [43, 44, 45, 46, 47, 48, 49, 50, 51, 5, 52, 7, 53] rfl rfl) (goodIn_app (goodIn_cls hi_Client_goOn_X4 gw_X4) (goodIn_app (goodIn_cls hi_Client_goOn_X9 gw_X9) (goodIn_nil))))
set_option maxRecDepth 100000 in
theorem gd_Client_goOn_Client_ask_106 : GoodIn wp_Client_goOn (wsV RX2 106 RX2 yX2_ask wp_Client_ask) := goodIn_app (goodIn_r _ [71, 72, 73, 12] rfl rfl) (goodIn_ca (goodIn_r _ [74, 2, 3, 4, 5, 6, 7, 8, 9, 75, 76, 77, 78, 64, 79, 80, 81, 82, 83, 58, 1, 84, 85, 86, 12, 87, 88, 89, 90, 91, 92, 93, 94, 95, 96, 97, 98, 59, 60, 61, 62, 63, 32, 29, 33, 99, 28, 30] rfl rfl) (goodIn_app (goodIn_cls hi_Client_goOn_X9 gw_X9) (goodIn_app (goodIn_cls hi_Client_goOn_X2 gw_X2) (goodIn_app (goodIn_cls hi_Client_goOn_X10 gw_X10) (goodIn_nil)))))
set_option maxRecDepth 100000 in
theorem gd_Client_goOn_Client_hearRows_116 : GoodIn wp_Client_goOn (wsV RX2 116 RX2 yX2_hearRows wp_Client_hearRows) := goodIn_app (goodIn_r _ [100, 101, 102, 12] rfl rfl) (goodIn_ca (goodIn_r _ [103, 88, 89, 90, 12, 91, 92, 1, 93, 35, 36, 37, 38, 39, 40, 41, 42, 43, 44, 45, 46, 47, 48, 49, 50, 51, 5, 52, 7, 53, 71, 72, 73, 74, 2, 3, 4, 6, 8, 9, 75, 76, 77, 78, 64, 79, 80, 81, 82, 83, 58, 84, 85, 86, 87, 94, 95, 96, 97, 98, 59, 60, 61, 62, 63, 32, 29, 33, 99, 28, 30, 65, 66, 67, 68, 69, 70, 17, 18, 19, 20] rfl rfl) (goodIn_app (goodIn_cls hi_Client_goOn_X2 gw_X2) (goodIn_app (goodIn_cls hi_Client_goOn_X4 gw_X4) (goodIn_app (goodIn_cls hi_Client_goOn_X9 gw_X9) (goodIn_app (goodIn_cls hi_Client_goOn_X10 gw_X10) (goodIn_nil))))))
set_option maxRecDepth 100000 in
theorem gd_Client_goOn_Client_hearError_84 : GoodIn wp_Client_goOn (wsV RX2 84 RX2 yX2_hearError wp_Client_hearError) := goodIn_app (goodIn_r _ [104, 105, 106, 12] rfl rfl) (goodIn_ca (goodIn_r _ [107, 2, 3, 4, 5, 6, 7, 8, 17, 18, 19, 20, 39, 40, 41, 42, 43, 44, 45, 46, 47, 48, 49, 50, 51, 52, 53, 1, 35, 36, 37, 12, 38] rfl rfl) (goodIn_app (goodIn_cls hi_Client_goOn_X9 gw_X9) (goodIn_app (goodIn_cls hi_Client_goOn_X4 gw_X4) (goodIn_app (goodIn_cls hi_Client_goOn_X2 gw_X2) (goodIn_nil)))))
set_option maxHeartbeats 4000000 in
set_option maxRecDepth 100000 in
theorem b_Client_goOn {p : Program} {l : Launch} {e : Env} {R : Room} {s : State} {m : MethodId} {args : Array Value} {below : List Frame} {meth : Method} {c : Code} {D : va_G} {K : Nat → ClassId} {A : Nat → Prop} {Q : State → Prop} {τ : Nat → Option Ty} {dom : List Nat} {zb zL : Nat} {zx : Nat → Int32} {zs : Nat → Nat} (hR : 5 ≤ R.frames ∧ 114 ≤ R.locals) (B : Bx p s m args c cX2_goOn 6 RX2 wp_Client_goOn D (tysA K) A) (Z : Sk τ dom) (hz : ZL zb zL zx zs A s s.heap) (h : Nat) (w0 : Nat) (w1 : Nat) (d : Nat) (g : Nat) (t_h : τ h = some (32, 0, 0)) (t_w0 : τ w0 = some (1, 12, 0)) (t_w1 : τ w1 = some (40, 0, 0)) (t_d : τ d = some (34, 0, 0)) (t_g : τ g = some (1, 8, 0)) (σ0 : Nat → va_E) (G0 : Good K τ σ0) (hend : ∀ (σ' : Nat → va_E) (lv : List (Nat × Value)) (pc : Nat), Good K τ σ' → Fr τ [(40, 0), (3, 23), (3, 22), (1, 16), (34, 0), (32, 0), (2, 15), (1, 15), (2, 16), (2, 8), (1, 8)] σ0 σ' → decode cX2_goOn pc = .ok (.return_, 1) → V p l e R s m args below meth c 6 D A Q (0, 0) (fd dom σ') lv pc []) : V p l e R s m args below meth c 6 D A Q (0, 0) (fd dom σ0) [(0, .ref h), (1, .ref w0), (2, .ref w1), (3, .ref d), (4, .ref g)] 0 [] := by
  have F0 : Fr τ [(40, 0), (3, 23), (3, 22), (1, 16), (34, 0), (32, 0), (2, 15), (1, 15), (2, 16), (2, 8), (1, 8)] σ0 σ0 := Fr.rf
  refine v_aload_n B dX2_goOn_0 rfl rfl ?_
  obtain ⟨z1, z2, z3, z4, z5, a6, h7, r8, r9, r10, r11, r12, t13⟩ : okClient τ (σ0 h) := G0 h _ t_h
  refine u_get B Z (C := RX2) (T := TX2) (N := 6) (ci := 2) hi_Client_goOn_X2 t_h h7 rfl 0 (by decide +kernel) (List.mem_of_getElem? (i := 1) rfl) rfl dX2_goOn_1 ?_
  refine v_iconst B (v := iI (-1)) dX2_goOn_4 rfl ?_
  refine u_icmp_ne B (tgt := 9) (by omega) (by omega) dX2_goOn_5 (by decide +kernel) (fun c14 => ?_) (fun c14 => ?_)
  · refine v_aload_n B dX2_goOn_9 rfl rfl ?_
    refine v_iconst B (v := iI 0) dX2_goOn_10 rfl ?_
    refine u_callVi B Z hz (n := 1) (As := [.int (iI 0)]) (rest := []) (c_Row_at l D K Z _ _ _ _ w0 0 t_w0 ⟨by omega, by omega⟩ σ0 G0) gd_Client_goOn_Row_at_70 rfl rfl rfl (by decide +kernel) ⟨Nat.le_trans (by decide +kernel) hR.1, Nat.le_trans (by decide +kernel) hR.2⟩ t_w0 (cls_Row G0 t_w0) rfl rfl rfl rfl (Nat.le_of_ble_eq_true rfl) dX2_goOn_11 ⟨Nat.zero_le _, Nat.zero_le _⟩ (fun v17 σ15 p16 => ?_)
    obtain ⟨rfl, z21, e22, r23⟩ := p16
    subst e22
    refine v_istore B (lv' := [(5, .int (iI z21)), (0, .ref h), (1, .ref w0), (2, .ref w1), (3, .ref d), (4, .ref g)]) dX2_goOn_14 (by decide +kernel) rfl ?_
    refine v_iload B dX2_goOn_16 rfl ?_
    refine v_iconst B (v := iI 1) dX2_goOn_18 rfl ?_
    refine u_icmp_ne B (tgt := 49) (by omega) (by omega) dX2_goOn_19 (by decide +kernel) (fun c24 => ?_) (fun c24 => ?_)
    · refine v_iload B dX2_goOn_49 rfl ?_
      refine v_aload_n B dX2_goOn_51 rfl rfl ?_
      refine u_get B Z (C := RX2) (T := TX2) (N := 6) (ci := 2) hi_Client_goOn_X2 t_h h7 rfl 3 (by decide +kernel) (List.mem_of_getElem? (i := 9) rfl) rfl dX2_goOn_52 ?_
      refine v_iconst B (v := iI 1) dX2_goOn_55 rfl ?_
      obtain ⟨z25, e26, r27⟩ := iI_any (iI z4 + iI 1)
      refine v_iadd B (v := iI z25) dX2_goOn_56 e26 ?_
      refine u_icmp_ne B (tgt := 69) (by omega) (by omega) dX2_goOn_57 (by decide +kernel) (fun c28 => ?_) (fun c28 => ?_)
      · exact hend σ0 _ _ G0 F0 dX2_goOn_69
      · refine v_iload B dX2_goOn_60 rfl ?_
        refine v_aload_n B dX2_goOn_62 rfl rfl ?_
        refine u_callSi B Z hz (n := 2) (As := [.int (iI z21), .ref w0]) (rest := []) (c_Client_isWhole l D K Z _ _ _ _ z21 w0 ⟨by omega, by omega⟩ t_w0 σ0 G0) gd_Client_goOn_Client_isWhole_88 rfl rfl rfl (by decide +kernel) ⟨Nat.le_trans (by decide +kernel) hR.1, Nat.le_trans (by decide +kernel) hR.2⟩ rfl rfl (Nat.le_of_ble_eq_true rfl) dX2_goOn_63 ⟨Nat.zero_le _, Nat.zero_le _⟩ (fun v31 σ29 p30 => ?_)
        obtain ⟨rfl, z35, e36, r37⟩ := p30
        subst e36
        refine u_if_ne B (tgt := 70) (by omega) dX2_goOn_66 (by decide +kernel) (fun c38 => ?_) (fun c38 => ?_)
        · refine v_aload_n B dX2_goOn_70 rfl rfl ?_
          refine u_get B Z (C := RX2) (T := TX2) (N := 6) (ci := 2) hi_Client_goOn_X2 t_h h7 rfl 0 (by decide +kernel) (List.mem_of_getElem? (i := 1) rfl) rfl dX2_goOn_71 ?_
          by_cases c39 : z1 = 0
          · refine u_lookup B (off := 34) (tgt := 108) (by omega) dX2_goOn_74 (by decide +kernel) (by rw [c39]; decide +kernel) (by decide +kernel) ?_
            refine v_aload_n B dX2_goOn_108 rfl rfl ?_
            refine v_aload_n B dX2_goOn_109 rfl rfl ?_
            refine v_iconst B (v := iI 1) dX2_goOn_110 rfl ?_
            refine u_callVi B Z hz (n := 1) (As := [.int (iI 1)]) (rest := [.ref w1]) (c_Row_two l D K Z _ _ _ _ w0 1 t_w0 ⟨by omega, by omega⟩ σ0 G0) gd_Client_goOn_Row_two_92 rfl rfl rfl (by decide +kernel) ⟨Nat.le_trans (by decide +kernel) hR.1, Nat.le_trans (by decide +kernel) hR.2⟩ t_w0 (cls_Row G0 t_w0) rfl rfl rfl rfl (Nat.le_of_ble_eq_true rfl) dX2_goOn_111 ⟨Nat.zero_le _, Nat.zero_le _⟩ (fun v42 σ40 p41 => ?_)
            obtain ⟨rfl, z46, e47, r48⟩ := p41
            subst e47
            refine u_callVv B Z hz (n := 1) (As := [.int (iI z46)]) (rest := []) (c_Server_agreeOnMtu l D K Z _ _ _ _ w1 z46 t_w1 ⟨by omega, by omega⟩ σ0 G0) gd_Client_goOn_Server_agreeOnMtu_95 rfl rfl rfl (by decide +kernel) ⟨Nat.le_trans (by decide +kernel) hR.1, Nat.le_trans (by decide +kernel) hR.2⟩ t_w1 (cls_Server G0 t_w1) rfl rfl rfl rfl (Nat.le_of_ble_eq_true rfl) dX2_goOn_114 ⟨Nat.zero_le _, Nat.zero_le _⟩ (fun σ49 p50 => ?_)
            obtain ⟨G52, F53⟩ := p50
            have F54 := F0.call F53 (by first | rfl | simp)
            have h55 := (F53 h _ t_h (by first | rfl | simp)).trans h7
            refine v_aload_n B dX2_goOn_117 rfl rfl ?_
            refine v_aload_n B dX2_goOn_118 rfl rfl ?_
            refine u_callVv B Z hz (n := 1) (As := [.ref d]) (rest := []) (c_Client_finish l D K Z _ _ _ _ h d t_h t_d σ49 G52) gd_Client_goOn_Client_finish_98 rfl rfl rfl (by decide +kernel) ⟨Nat.le_trans (by decide +kernel) hR.1, Nat.le_trans (by decide +kernel) hR.2⟩ t_h (cls_Client G52 t_h) rfl rfl rfl rfl (Nat.le_of_ble_eq_true rfl) dX2_goOn_119 ⟨Nat.zero_le _, Nat.zero_le _⟩ (fun σ56 p57 => ?_)
            obtain ⟨G59, F60⟩ := p57
            have F61 := F54.call F60 (by first | rfl | simp)
            refine v_goto B (tgt := 183) dX2_goOn_122 (by decide +kernel) ?_
            exact hend σ56 _ _ G59 F61 dX2_goOn_183
          by_cases c62 : z1 = 4
          · refine u_lookup B (off := 51) (tgt := 125) (by omega) dX2_goOn_74 (by decide +kernel) (by rw [c62]; decide +kernel) (by decide +kernel) ?_
            refine v_aload_n B dX2_goOn_125 rfl rfl ?_
            refine v_aload_n B dX2_goOn_126 rfl rfl ?_
            refine v_aload_n B dX2_goOn_127 rfl rfl ?_
            refine v_aload_n B dX2_goOn_128 rfl rfl ?_
            refine v_aload B dX2_goOn_129 rfl ?_
            refine u_callVv B Z hz (n := 4) (As := [.ref w0, .ref w1, .ref d, .ref g]) (rest := []) (c_Client_hearValue l D K Z _ _ _ _ h w0 w1 d g t_h t_w0 t_w1 t_d t_g σ0 G0) gd_Client_goOn_Client_hearValue_102 rfl rfl rfl (by decide +kernel) ⟨Nat.le_trans (by decide +kernel) hR.1, Nat.le_trans (by decide +kernel) hR.2⟩ t_h (cls_Client G0 t_h) rfl rfl rfl rfl (Nat.le_of_ble_eq_true rfl) dX2_goOn_131 ⟨Nat.zero_le _, Nat.zero_le _⟩ (fun σ63 p64 => ?_)
            obtain ⟨G66, F67⟩ := p64
            have F68 := F0.call F67 (by first | rfl | simp)
            refine v_goto B (tgt := 183) dX2_goOn_134 (by decide +kernel) ?_
            exact hend σ63 _ _ G66 F68 dX2_goOn_183
          by_cases c69 : z1 = 5
          · refine u_lookup B (off := 63) (tgt := 137) (by omega) dX2_goOn_74 (by decide +kernel) (by rw [c69]; decide +kernel) (by decide +kernel) ?_
            refine v_iload B dX2_goOn_137 rfl ?_
            refine v_bipush B (v := iI 23) dX2_goOn_139 (by decide +kernel) ?_
            refine u_icmp_ne B (tgt := 155) (by omega) (by omega) dX2_goOn_141 (by decide +kernel) (fun c70 => ?_) (fun c70 => ?_)
            · refine v_aload_n B dX2_goOn_155 rfl rfl ?_
              refine v_iconst B (v := iI 5) dX2_goOn_156 rfl ?_
              refine v_aload_n B dX2_goOn_157 rfl rfl ?_
              refine u_get B Z (C := RX2) (T := TX2) (N := 6) (ci := 2) hi_Client_goOn_X2 t_h h7 rfl 1 (by decide +kernel) (List.mem_of_getElem? (i := 64) rfl) rfl dX2_goOn_158 ?_
              refine v_iconst B (v := iI 0) dX2_goOn_161 rfl ?_
              refine v_iconst B (v := iI 0) dX2_goOn_162 rfl ?_
              refine u_callVv B Z hz (n := 4) (As := [.int (iI 5), .int (iI z2), .int (iI 0), .int (iI 0)]) (rest := []) (c_Diary_note l D K Z _ _ _ _ d 5 z2 0 0 t_d ⟨by omega, by omega⟩ ⟨by omega, by omega⟩ ⟨by omega, by omega⟩ ⟨by omega, by omega⟩ σ0 G0) gd_Client_goOn_Diary_note_110 rfl rfl rfl (by decide +kernel) ⟨Nat.le_trans (by decide +kernel) hR.1, Nat.le_trans (by decide +kernel) hR.2⟩ t_d (cls_Diary G0 t_d) rfl rfl rfl rfl (Nat.le_of_ble_eq_true rfl) dX2_goOn_163 ⟨Nat.zero_le _, Nat.zero_le _⟩ (fun σ71 p72 => ?_)
              obtain ⟨G74, F75⟩ := p72
              have F76 := F0.call F75 (by first | rfl | simp)
              have h77 := (F75 h _ t_h (by first | rfl | simp)).trans h7
              refine v_aload_n B dX2_goOn_166 rfl rfl ?_
              refine v_aload_n B dX2_goOn_167 rfl rfl ?_
              refine u_callVv B Z hz (n := 1) (As := [.ref d]) (rest := []) (c_Client_finish l D K Z _ _ _ _ h d t_h t_d σ71 G74) gd_Client_goOn_Client_finish_98 rfl rfl rfl (by decide +kernel) ⟨Nat.le_trans (by decide +kernel) hR.1, Nat.le_trans (by decide +kernel) hR.2⟩ t_h (cls_Client G74 t_h) rfl rfl rfl rfl (Nat.le_of_ble_eq_true rfl) dX2_goOn_168 ⟨Nat.zero_le _, Nat.zero_le _⟩ (fun σ78 p79 => ?_)
              obtain ⟨G81, F82⟩ := p79
              have F83 := F76.call F82 (by first | rfl | simp)
              refine v_goto B (tgt := 183) dX2_goOn_171 (by decide +kernel) ?_
              exact hend σ78 _ _ G81 F83 dX2_goOn_183
            · refine v_aload_n B dX2_goOn_144 rfl rfl ?_
              refine v_iconst B (v := iI 0) dX2_goOn_145 rfl ?_
              refine v_aload_n B dX2_goOn_146 rfl rfl ?_
              refine v_aload B dX2_goOn_147 rfl ?_
              refine u_callVv B Z hz (n := 3) (As := [.int (iI 0), .ref w1, .ref g]) (rest := []) (c_Client_ask l D K Z _ _ _ _ h 0 w1 g t_h ⟨by omega, by omega⟩ t_w1 t_g σ0 G0) gd_Client_goOn_Client_ask_106 rfl rfl rfl (by decide +kernel) ⟨Nat.le_trans (by decide +kernel) hR.1, Nat.le_trans (by decide +kernel) hR.2⟩ t_h (cls_Client G0 t_h) rfl rfl rfl rfl (Nat.le_of_ble_eq_true rfl) dX2_goOn_149 ⟨Nat.zero_le _, Nat.zero_le _⟩ (fun σ84 p85 => ?_)
              obtain ⟨G87, F88⟩ := p85
              have F89 := F0.call F88 (by first | rfl | simp)
              refine v_goto B (tgt := 183) dX2_goOn_152 (by decide +kernel) ?_
              exact hend σ84 _ _ G87 F89 dX2_goOn_183
          refine u_lookup B (off := 100) (tgt := 174) (by omega) dX2_goOn_74 (by decide +kernel) (by simp [Op.lookupswitch.offset, c39, Ne.symm c39, c62, Ne.symm c62, c69, Ne.symm c69]) (by decide +kernel) ?_
          refine v_aload_n B dX2_goOn_174 rfl rfl ?_
          refine v_aload_n B dX2_goOn_175 rfl rfl ?_
          refine v_aload_n B dX2_goOn_176 rfl rfl ?_
          refine v_aload_n B dX2_goOn_177 rfl rfl ?_
          refine v_aload B dX2_goOn_178 rfl ?_
          refine u_callVv B Z hz (n := 4) (As := [.ref w0, .ref w1, .ref d, .ref g]) (rest := []) (c_Client_hearRows l D K Z _ _ _ _ h w0 w1 d g t_h t_w0 t_w1 t_d t_g σ0 G0) gd_Client_goOn_Client_hearRows_116 rfl rfl rfl (by decide +kernel) ⟨Nat.le_trans (by decide +kernel) hR.1, Nat.le_trans (by decide +kernel) hR.2⟩ t_h (cls_Client G0 t_h) rfl rfl rfl rfl (Nat.le_of_ble_eq_true rfl) dX2_goOn_180 ⟨Nat.zero_le _, Nat.zero_le _⟩ (fun σ90 p91 => ?_)
          obtain ⟨G93, F94⟩ := p91
          have F95 := F0.call F94 (by first | rfl | simp)
          exact hend σ90 _ _ G93 F95 dX2_goOn_183
        · exact hend σ0 _ _ G0 F0 dX2_goOn_69
    · refine v_aload_n B dX2_goOn_22 rfl rfl ?_
      obtain ⟨b96, N97, n98, h99, t100, r101⟩ : okRow τ 12 (σ0 w0) := G0 w0 _ t_w0
      refine u_getN B Z (C := RX9) (T := TX9) (N := 2) (ci := 9) hi_Client_goOn_X9 t_w0 h99 rfl 1 (by decide +kernel) (List.mem_of_getElem? (i := 74) rfl) rfl dX2_goOn_23 ?_
      refine v_iconst B (v := iI 5) dX2_goOn_26 rfl ?_
      refine u_icmp_ne B (tgt := 48) (by omega) (by omega) dX2_goOn_27 (by decide +kernel) (fun c102 => ?_) (fun c102 => ?_)
      · exact hend σ0 _ _ G0 F0 dX2_goOn_48
      · refine v_aload_n B dX2_goOn_30 rfl rfl ?_
        refine v_iconst B (v := iI 1) dX2_goOn_31 rfl ?_
        refine u_callVi B Z hz (n := 1) (As := [.int (iI 1)]) (rest := []) (c_Row_at l D K Z _ _ _ _ w0 1 t_w0 ⟨by omega, by omega⟩ σ0 G0) gd_Client_goOn_Row_at_70 rfl rfl rfl (by decide +kernel) ⟨Nat.le_trans (by decide +kernel) hR.1, Nat.le_trans (by decide +kernel) hR.2⟩ t_w0 (cls_Row G0 t_w0) rfl rfl rfl rfl (Nat.le_of_ble_eq_true rfl) dX2_goOn_32 ⟨Nat.zero_le _, Nat.zero_le _⟩ (fun v105 σ103 p104 => ?_)
        obtain ⟨rfl, z109, e110, r111⟩ := p104
        subst e110
        refine v_aload_n B dX2_goOn_35 rfl rfl ?_
        refine u_get B Z (C := RX2) (T := TX2) (N := 6) (ci := 2) hi_Client_goOn_X2 t_h h7 rfl 3 (by decide +kernel) (List.mem_of_getElem? (i := 9) rfl) rfl dX2_goOn_36 ?_
        refine u_icmp_ne B (tgt := 48) (by omega) (by omega) dX2_goOn_39 (by decide +kernel) (fun c112 => ?_) (fun c112 => ?_)
        · exact hend σ0 _ _ G0 F0 dX2_goOn_48
        · refine v_aload_n B dX2_goOn_42 rfl rfl ?_
          refine v_aload_n B dX2_goOn_43 rfl rfl ?_
          refine v_aload_n B dX2_goOn_44 rfl rfl ?_
          refine u_callVv B Z hz (n := 2) (As := [.ref w0, .ref d]) (rest := []) (c_Client_hearError l D K Z _ _ _ _ h w0 d t_h t_w0 t_d σ0 G0) gd_Client_goOn_Client_hearError_84 rfl rfl rfl (by decide +kernel) ⟨Nat.le_trans (by decide +kernel) hR.1, Nat.le_trans (by decide +kernel) hR.2⟩ t_h (cls_Client G0 t_h) rfl rfl rfl rfl (Nat.le_of_ble_eq_true rfl) dX2_goOn_45 ⟨Nat.zero_le _, Nat.zero_le _⟩ (fun σ113 p114 => ?_)
          obtain ⟨G116, F117⟩ := p114
          have F118 := F0.call F117 (by first | rfl | simp)
          have h119 := (F117 w0 _ t_w0 (by first | rfl | simp)).trans h99
          exact hend σ113 _ _ G116 F118 dX2_goOn_48
  · exact hend σ0 _ _ G0 F0 dX2_goOn_8
set_option maxRecDepth 100000 in
theorem c_Client_goOn (l : Launch) (D : va_G) (K : Nat → ClassId) {τ : Nat → Option Ty} {dom : List Nat} (Z : Sk τ dom) (zb zL : Nat) (zx : Nat → Int32) (zs : Nat → Nat) (h : Nat) (w0 : Nat) (w1 : Nat) (d : Nat) (g : Nat) (t_h : τ h = some (32, 0, 0)) (t_w0 : τ w0 = some (1, 12, 0)) (t_w1 : τ w1 = some (40, 0, 0)) (t_d : τ d = some (34, 0, 0)) (t_g : τ g = some (1, 8, 0)) (σ0 : Nat → va_E) (G0 : Good K τ σ0) : MZ l yX2_goOn wp_Client_goOn ({ frames := 5, cells := 0, slots := 0, locals := 114 }) D (tysA K) [.ref h, .ref w0, .ref w1, .ref d, .ref g] (fd dom σ0) zb zL zx zs (Qv D (fun σ' => Good K τ σ' ∧ Fr τ [(40, 0), (3, 23), (3, 22), (1, 16), (34, 0), (32, 0), (2, 15), (1, 15), (2, 16), (2, 8), (1, 8)] σ0 σ') (fun σ' => fd dom σ')) 0 0 := by
  refine mz_of (cc := cX2_goOn) (maxL := 6) (ret := none) (by decide +kernel) rfl (Nat.le_of_ble_eq_true rfl) ?_
  intro p e s m below meth c A B hr hlk _ hz
  exact b_Client_goOn ⟨Nat.le_refl _, Nat.le_refl _⟩ B Z hz h w0 w1 d g t_h t_w0 t_w1 t_d t_g σ0 G0 (fun σ' lv pc G F hd => v_vret B hr hlk σ' ⟨G, F⟩ rfl (Nat.le_refl _) (Nat.le_refl _) hd)
