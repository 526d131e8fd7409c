def wp_Server_leaveLink : List Cond := .code yX10_leaveLink cX10_leaveLink 1 none :: (([.fieldLink RX10 28 "LowEnergy$Server" "linkMtu" "I", .fieldLink RX10 40 "LowEnergy$Server" "partCount" "I", .fieldLink RX10 43 "LowEnergy$Server" "waitsForConfirmation" "Z"] : List Cond) ++ (wsX100 ++ ([])))
theorem hi_Server_leaveLink_X10 : ∀ x ∈ u_ws RX10 TX10 10, x ∈ wp_Server_leaveLink := fun _ h => List.mem_cons_of_mem _ (List.mem_append_right _ (List.mem_append_left _ h))
set_option maxHeartbeats 4000000 in
set_option maxRecDepth 100000 in
theorem b_Server_leaveLink {p : Program} {l : Launch} {e : Env} {R : Room} {s : State} {m : MethodId} {args : Array Value} {below : List Frame} {meth : Method} {c : Code} {D : va_G} {K : Nat → ClassId} {A : Nat → Prop} {Q : State → Prop} {τ : Nat → Option Ty} {dom : List Nat} {zb zL : Nat} {zx : Nat → Int32} {zs : Nat → Nat} (hR : 0 ≤ R.frames ∧ 0 ≤ R.locals) (B : Bx p s m args c cX10_leaveLink 1 RX10 wp_Server_leaveLink D (tysA K) A) (Z : Sk τ dom) (hz : ZL zb zL zx zs A s s.heap) (h : Nat) (t_h : τ h = some (40, 0, 0)) (σ0 : Nat → va_E) (G0 : Good K τ σ0) (hend : ∀ (σ' : Nat → va_E) (lv : List (Nat × Value)) (pc : Nat), Good K τ σ' → Fr τ [(40, 0)] σ0 σ' → decode cX10_leaveLink pc = .ok (.return_, 1) → V p l e R s m args below meth c 1 D A Q (0, 0) (fd dom σ') lv pc []) : V p l e R s m args below meth c 1 D A Q (0, 0) (fd dom σ0) [(0, .ref h)] 0 [] := by
  have F0 : Fr τ [(40, 0)] σ0 σ0 := Fr.rf
  refine v_aload_n B dX10_leaveLink_0 rfl rfl ?_
  refine v_bipush B (v := iI 23) dX10_leaveLink_1 (by decide +kernel) ?_
  obtain ⟨a1, a2, a3, z4, z5, z6, a7, z8, z9, a10, h11, t12, t13, t14, r15, r16, r17, t18, r19, r20, t21⟩ : okServer τ (σ0 h) := G0 h _ t_h
  refine u_put B Z (C := RX10) (T := TX10) (N := 10) (ci := 10) hi_Server_leaveLink_X10 t_h h11 rfl 5 (by decide +kernel) tyX10 tyX10_ok nmX10 (List.mem_of_getElem? (i := 1) rfl) rfl (ty := .int) (tyX10_ok 5 (by decide +kernel)) rfl rfl (Nat.le_of_ble_eq_true rfl) (fs' := [.ref a1, .ref a2, .ref a3, .int (iI z4), .int (iI z5), .int (iI 23), .ref a7, .int (iI z8), .int (iI z9), .ref a10]) rfl dX10_leaveLink_3 (fun σ22 h23 n24 => ?_)
  have G25 := G0.put t_h (⟨a1, a2, a3, z4, z5, 23, a7, z8, z9, a10, h23, t12, t13, t14, ⟨by omega, by omega⟩, ⟨by omega, by omega⟩, ⟨by omega, by omega⟩, t18, ⟨by omega, by omega⟩, ⟨by omega, by omega⟩, t21⟩ : Ok K τ (40, 0, 0) (σ22 h)) n24
  have F26 := F0.put t_h (by simp) n24
  refine v_aload_n B dX10_leaveLink_6 rfl rfl ?_
  refine v_iconst B (v := iI 0) dX10_leaveLink_7 rfl ?_
  refine u_put B Z (C := RX10) (T := TX10) (N := 10) (ci := 10) hi_Server_leaveLink_X10 t_h h23 rfl 7 (by decide +kernel) tyX10 tyX10_ok nmX10 (List.mem_of_getElem? (i := 2) rfl) rfl (ty := .int) (tyX10_ok 7 (by decide +kernel)) rfl rfl (Nat.le_of_ble_eq_true rfl) (fs' := [.ref a1, .ref a2, .ref a3, .int (iI z4), .int (iI z5), .int (iI 23), .ref a7, .int (iI 0), .int (iI z9), .ref a10]) rfl dX10_leaveLink_8 (fun σ27 h28 n29 => ?_)
  have G30 := G25.put t_h (⟨a1, a2, a3, z4, z5, 23, a7, 0, z9, a10, h28, t12, t13, t14, ⟨by omega, by omega⟩, ⟨by omega, by omega⟩, ⟨by omega, by omega⟩, t18, ⟨by omega, by omega⟩, ⟨by omega, by omega⟩, t21⟩ : Ok K τ (40, 0, 0) (σ27 h)) n29
  have F31 := F26.put t_h (by simp) n29
  refine v_aload_n B dX10_leaveLink_11 rfl rfl ?_
  refine v_iconst B (v := iI 0) dX10_leaveLink_12 rfl ?_
  refine u_put B Z (C := RX10) (T := TX10) (N := 10) (ci := 10) hi_Server_leaveLink_X10 t_h h28 rfl 8 (by decide +kernel) tyX10 tyX10_ok nmX10 (List.mem_of_getElem? (i := 3) rfl) rfl (ty := .boolean) (tyX10_ok 8 (by decide +kernel)) (nar01 (by omega)) (fit01 (by omega)) (Nat.le_of_ble_eq_true rfl) (fs' := [.ref a1, .ref a2, .ref a3, .int (iI z4), .int (iI z5), .int (iI 23), .ref a7, .int (iI 0), .int (iI 0), .ref a10]) rfl dX10_leaveLink_13 (fun σ32 h33 n34 => ?_)
  have G35 := G30.put t_h (⟨a1, a2, a3, z4, z5, 23, a7, 0, 0, a10, h33, t12, t13, t14, ⟨by omega, by omega⟩, ⟨by omega, by omega⟩, ⟨by omega, by omega⟩, t18, ⟨by omega, by omega⟩, ⟨by omega, by omega⟩, t21⟩ : Ok K τ (40, 0, 0) (σ32 h)) n34
  have F36 := F31.put t_h (by simp) n34
  exact hend σ32 _ _ G35 F36 dX10_leaveLink_16
set_option maxRecDepth 100000 in
theorem c_Server_leaveLink (l : Launch) (D : va_G) (K : Nat → ClassId) {τ : Nat → Option Ty} {dom : List Nat} (Z : Sk τ dom) (zb zL : Nat) (zx : Nat → Int32) (zs : Nat → Nat) (h : Nat) (t_h : τ h = some (40, 0, 0)) (σ0 : Nat → va_E) (G0 : Good K τ σ0) : MZ l yX10_leaveLink wp_Server_leaveLink ({ frames := 0, cells := 0, slots := 0, locals := 0 }) D (tysA K) [.ref h] (fd dom σ0) zb zL zx zs (Qv D (fun σ' => Good K τ σ' ∧ Fr τ [(40, 0)] σ0 σ') (fun σ' => fd dom σ')) 0 0 := by
  refine mz_of (cc := cX10_leaveLink) (maxL := 1) (ret := none) (by decide +kernel) rfl (Nat.le_of_ble_eq_true rfl) ?_
  intro p e s m below meth c A B hr hlk _ hz
  exact b_Server_leaveLink ⟨Nat.le_refl _, Nat.le_refl _⟩ B Z hz h t_h σ0 G0 (fun σ' lv pc G F hd => v_vret B hr hlk σ' ⟨G, F⟩ rfl (Nat.le_refl _) (Nat.le_refl _) hd)

def wp_Server_agreeOnMtu : List Cond := .code yX10_agreeOnMtu cX10_agreeOnMtu 2 none :: (([.fieldLink RX10 24 "LowEnergy$Server" "ownMtu" "I", .methodLink RX10 47 Lib.Math.min.name, .static Lib.Math.min.name, .initialized "java/lang/Math", .code Lib.Math.min.name Lib.Math.min.code 2 (some .int), .methodLink RX10 53 Lib.Math.max.name, .static Lib.Math.max.name, .code Lib.Math.max.name Lib.Math.max.code 2 (some .int), .fieldLink RX10 28 "LowEnergy$Server" "linkMtu" "I"] : List Cond) ++ (wsX100 ++ ([])))
theorem hi_Server_agreeOnMtu_X10 : ∀ x ∈ u_ws RX10 TX10 10, x ∈ wp_Server_agreeOnMtu := fun _ h => List.mem_cons_of_mem _ (List.mem_append_right _ (List.mem_append_left _ h))
set_option maxHeartbeats 4000000 in
set_option maxRecDepth 100000 in
theorem b_Server_agreeOnMtu {p : Program} {l : Launch} {e : Env} {R : Room} {s : State} {m : MethodId} {args : Array Value} {below : List Frame} {meth : Method} {c : Code} {D : va_G} {K : Nat → ClassId} {A : Nat → Prop} {Q : State → Prop} {τ : Nat → Option Ty} {dom : List Nat} {zb zL : Nat} {zx : Nat → Int32} {zs : Nat → Nat} (hR : 1 ≤ R.frames ∧ 15 ≤ R.locals) (B : Bx p s m args c cX10_agreeOnMtu 2 RX10 wp_Server_agreeOnMtu D (tysA K) A) (Z : Sk τ dom) (hz : ZL zb zL zx zs A s s.heap) (h : Nat) (x1 : Int) (t_h : τ h = some (40, 0, 0)) (r_x1 : -2147483648 ≤ x1 ∧ x1 ≤ 2147483647) (σ0 : Nat → va_E) (G0 : Good K τ σ0) (hend : ∀ (σ' : Nat → va_E) (lv : List (Nat × Value)) (pc : Nat), Good K τ σ' → Fr τ [(40, 0)] σ0 σ' → decode cX10_agreeOnMtu pc = .ok (.return_, 1) → V p l e R s m args below meth c 2 D A Q (0, 0) (fd dom σ') lv pc []) : V p l e R s m args below meth c 2 D A Q (0, 0) (fd dom σ0) [(0, .ref h), (1, .int (iI x1))] 0 [] := by
  have F0 : Fr τ [(40, 0)] σ0 σ0 := Fr.rf
  refine v_aload_n B dX10_agreeOnMtu_0 rfl rfl ?_
  refine v_bipush B (v := iI 23) dX10_agreeOnMtu_1 (by decide +kernel) ?_
  refine v_aload_n B dX10_agreeOnMtu_3 rfl rfl ?_
  obtain ⟨a1, a2, a3, z4, z5, z6, a7, z8, z9, a10, h11, t12, t13, t14, r15, r16, r17, t18, r19, r20, t21⟩ : okServer τ (σ0 h) := G0 h _ t_h
  refine u_get B Z (C := RX10) (T := TX10) (N := 10) (ci := 10) hi_Server_agreeOnMtu_X10 t_h h11 rfl 4 (by decide +kernel) (List.mem_of_getElem? (i := 1) rfl) rfl dX10_agreeOnMtu_4 ?_
  refine v_iload_n B dX10_agreeOnMtu_7 rfl rfl ?_
  obtain ⟨z22, e23, r24⟩ := iI_min (a := z5) (b := x1) (by omega) (by omega)
  refine v_mmin B (v := iI z22) (List.mem_of_getElem? (i := 2) rfl) (List.mem_of_getElem? (i := 3) rfl) (List.mem_of_getElem? (i := 4) rfl) (List.mem_of_getElem? (i := 5) rfl) (Nat.le_trans (by decide +kernel) hR.1) (Nat.le_trans (Nat.le_of_ble_eq_true rfl) hR.2) (Nat.zero_le _) (Nat.zero_le _) e23 dX10_agreeOnMtu_8 ?_
  obtain ⟨z25, e26, r27⟩ := iI_max (a := 23) (b := z22) (by omega) (by omega)
  refine v_mmax B (v := iI z25) (List.mem_of_getElem? (i := 6) rfl) (List.mem_of_getElem? (i := 7) rfl) (List.mem_of_getElem? (i := 4) rfl) (List.mem_of_getElem? (i := 8) rfl) (Nat.le_trans (by decide +kernel) hR.1) (Nat.le_trans (Nat.le_of_ble_eq_true rfl) hR.2) (Nat.zero_le _) (Nat.zero_le _) e26 dX10_agreeOnMtu_11 ?_
  refine u_put B Z (C := RX10) (T := TX10) (N := 10) (ci := 10) hi_Server_agreeOnMtu_X10 t_h h11 rfl 5 (by decide +kernel) tyX10 tyX10_ok nmX10 (List.mem_of_getElem? (i := 9) rfl) rfl (ty := .int) (tyX10_ok 5 (by decide +kernel)) rfl rfl (Nat.le_of_ble_eq_true rfl) (fs' := [.ref a1, .ref a2, .ref a3, .int (iI z4), .int (iI z5), .int (iI z25), .ref a7, .int (iI z8), .int (iI z9), .ref a10]) rfl dX10_agreeOnMtu_14 (fun σ28 h29 n30 => ?_)
  have G31 := G0.put t_h (⟨a1, a2, a3, z4, z5, z25, a7, z8, z9, a10, h29, t12, t13, t14, ⟨by omega, by omega⟩, ⟨by omega, by omega⟩, ⟨by omega, by omega⟩, t18, ⟨by omega, by omega⟩, ⟨by omega, by omega⟩, t21⟩ : Ok K τ (40, 0, 0) (σ28 h)) n30
  have F32 := F0.put t_h (by simp) n30
  exact hend σ28 _ _ G31 F32 dX10_agreeOnMtu_17
set_option maxRecDepth 100000 in
theorem c_Server_agreeOnMtu (l : Launch) (D : va_G) (K : Nat → ClassId) {τ : Nat → Option Ty} {dom : List Nat} (Z : Sk τ dom) (zb zL : Nat) (zx : Nat → Int32) (zs : Nat → Nat) (h : Nat) (x1 : Int) (t_h : τ h = some (40, 0, 0)) (r_x1 : -2147483648 ≤ x1 ∧ x1 ≤ 2147483647) (σ0 : Nat → va_E) (G0 : Good K τ σ0) : MZ l yX10_agreeOnMtu wp_Server_agreeOnMtu ({ frames := 1, cells := 0, slots := 0, locals := 15 }) D (tysA K) [.ref h, .int (iI x1)] (fd dom σ0) zb zL zx zs (Qv D (fun σ' => Good K τ σ' ∧ Fr τ [(40, 0)] σ0 σ') (fun σ' => fd dom σ')) 0 0 := by
  refine mz_of (cc := cX10_agreeOnMtu) (maxL := 2) (ret := none) (by decide +kernel) rfl (Nat.le_of_ble_eq_true rfl) ?_
  intro p e s m below meth c A B hr hlk _ hz
  exact b_Server_agreeOnMtu ⟨Nat.le_refl _, Nat.le_refl _⟩ B Z hz h x1 t_h r_x1 σ0 G0 (fun σ' lv pc G F hd => v_vret B hr hlk σ' ⟨G, F⟩ rfl (Nat.le_refl _) (Nat.le_refl _) hd)

def wp_Server_addAttribute : List Cond := .code yX10_addAttribute cX10_addAttribute 4 (some .int) :: (([.fieldLink RX10 56 "LowEnergy$Server" "count" "I", .fieldLink RX10 11 "LowEnergy$Server" "types" "[I", .fieldLink RX10 15 "LowEnergy$Server" "rights" "[I", .fieldLink RX10 20 "LowEnergy$Server" "values" "[LLowEnergy$Row;", .methodLink RX10 59 yX9_become, .instanceMethod yX9_become, .selects RX9 yX9_become yX9_become, .initialized RX9, .code yX9_become cX9_become 2 none, .fieldLink RX9 21 "LowEnergy$Row" "size" "I", .methodLink RX9 27 yX9_putPart, .instanceMethod yX9_putPart, .selects RX9 yX9_putPart yX9_putPart, .code yX9_putPart cX9_putPart 6 none, .fieldLink RX9 15 "LowEnergy$Row" "bytes" "[I", .methodLink RX9 9 Lib.Math.max.name, .static Lib.Math.max.name, .initialized "java/lang/Math", .code Lib.Math.max.name Lib.Math.max.code 2 (some .int)] : List Cond) ++ (wsX100 ++ (wsX90 ++ ([]))))
theorem hi_Server_addAttribute_X10 : ∀ x ∈ u_ws RX10 TX10 10, x ∈ wp_Server_addAttribute := fun _ h => List.mem_cons_of_mem _ (List.mem_append_right _ (List.mem_append_left _ h))
theorem hi_Server_addAttribute_X9 : ∀ x ∈ u_ws RX9 TX9 2, x ∈ wp_Server_addAttribute := fun _ h => List.mem_cons_of_mem _ (List.mem_append_right _ (List.mem_append_right _ (List.mem_append_left _ h)))
set_option maxRecDepth 100000 in
theorem gd_Server_addAttribute_Row_become_59 : GoodIn wp_Server_addAttribute (wsV RX10 59 RX9 yX9_become wp_Row_become) := goodIn_app (goodIn_r _ [5, 6, 7, 8] rfl rfl) (goodIn_ca (goodIn_r _ [9, 10, 11, 12, 13, 8, 14, 15, 16, 17, 18, 19] rfl rfl) (goodIn_app (goodIn_cls hi_Server_addAttribute_X9 gw_X9) (goodIn_nil)))
set_option maxHeartbeats 4000000 in
set_option maxRecDepth 100000 in
theorem b_Server_addAttribute {p : Program} {l : Launch} {e : Env} {R : Room} {s : State} {m : MethodId} {args : Array Value} {below : List Frame} {meth : Method} {c : Code} {D : va_G} {K : Nat → ClassId} {A : Nat → Prop} {Q : State → Prop} {τ : Nat → Option Ty} {dom : List Nat} {zb zL : Nat} {zx : Nat → Int32} {zs : Nat → Nat} (hR : 3 ≤ R.frames ∧ 59 ≤ R.locals) (B : Bx p s m args c cX10_addAttribute 4 RX10 wp_Server_addAttribute D (tysA K) A) (Z : Sk τ dom) (hz : ZL zb zL zx zs A s s.heap) (h : Nat) (x1 : Int) (x2 : Int) (g : Nat) (t_h : τ h = some (40, 0, 0)) (r_x1 : -2147483648 ≤ x1 ∧ x1 ≤ 2147483647) (r_x2 : -2147483648 ≤ x2 ∧ x2 ≤ 2147483647) (t_g : τ g = some (1, 1, 0)) (σ0 : Nat → va_E) (G0 : Good K τ σ0) (hend : ∀ (σ' : Nat → va_E) (z : Int) (lv : List (Nat × Value)) (pc : Nat), Good K τ σ' → Fr τ [(3, 26), (3, 27), (1, 13), (2, 13), (40, 0)] σ0 σ' → (-1 ≤ z ∧ z ≤ 20) → decode cX10_addAttribute pc = .ok (.ireturn, 1) → V p l e R s m args below meth c 4 D A Q (0, 0) (fd dom σ') lv pc [.int (iI z)]) : V p l e R s m args below meth c 4 D A Q (0, 0) (fd dom σ0) [(0, .ref h), (1, .int (iI x1)), (2, .int (iI x2)), (3, .ref g)] 0 [] := by
  have F0 : Fr τ [(3, 26), (3, 27), (1, 13), (2, 13), (40, 0)] σ0 σ0 := Fr.rf
  refine v_aload_n B dX10_addAttribute_0 rfl rfl ?_
  obtain ⟨a1, a2, a3, z4, z5, z6, a7, z8, z9, a10, h11, t12, t13, t14, r15, r16, r17, t18, r19, r20, t21⟩ : okServer τ (σ0 h) := G0 h _ t_h
  refine u_get B Z (C := RX10) (T := TX10) (N := 10) (ci := 10) hi_Server_addAttribute_X10 t_h h11 rfl 3 (by decide +kernel) (List.mem_of_getElem? (i := 1) rfl) rfl dX10_addAttribute_1 ?_
  refine v_bipush B (v := iI 20) dX10_addAttribute_4 (by decide +kernel) ?_
  refine u_icmp_lt B (tgt := 11) (by omega) (by omega) dX10_addAttribute_6 (by decide +kernel) (fun c22 => ?_) (fun c22 => ?_)
  · refine v_aload_n B dX10_addAttribute_11 rfl rfl ?_
    refine u_get B Z (C := RX10) (T := TX10) (N := 10) (ci := 10) hi_Server_addAttribute_X10 t_h h11 rfl 0 (by decide +kernel) (List.mem_of_getElem? (i := 2) rfl) rfl dX10_addAttribute_12 ?_
    refine v_aload_n B dX10_addAttribute_15 rfl rfl ?_
    refine u_get B Z (C := RX10) (T := TX10) (N := 10) (ci := 10) hi_Server_addAttribute_X10 t_h h11 rfl 3 (by decide +kernel) (List.mem_of_getElem? (i := 1) rfl) rfl dX10_addAttribute_16 ?_
    refine v_iload_n B dX10_addAttribute_19 rfl rfl ?_
    obtain ⟨f23, h24, r25⟩ : okP K 20 (σ0 a1) := G0 a1 _ t12
    refine u_iast B Z (t0 := 0) t12 h24 rfl (by omega) dX10_addAttribute_20 (fun σ26 h27 n28 => ?_)
    have G29 := G0.put t12 (⟨_, h27, r25⟩ : Ok K τ (3, 26, 20) (σ26 a1)) n28
    have F30 := F0.put t12 (by simp) n28
    have h31 := (n28 h (ne_ty t_h t12 (by simp))).trans h11
    refine v_aload_n B dX10_addAttribute_21 rfl rfl ?_
    refine u_get B Z (C := RX10) (T := TX10) (N := 10) (ci := 10) hi_Server_addAttribute_X10 t_h h31 rfl 1 (by decide +kernel) (List.mem_of_getElem? (i := 3) rfl) rfl dX10_addAttribute_22 ?_
    refine v_aload_n B dX10_addAttribute_25 rfl rfl ?_
    refine u_get B Z (C := RX10) (T := TX10) (N := 10) (ci := 10) hi_Server_addAttribute_X10 t_h h31 rfl 3 (by decide +kernel) (List.mem_of_getElem? (i := 1) rfl) rfl dX10_addAttribute_26 ?_
    refine v_iload_n B dX10_addAttribute_29 rfl rfl ?_
    obtain ⟨f32, h33, r34⟩ : okP K 20 (σ26 a2) := G29 a2 _ t13
    refine u_iast B Z (t0 := 0) t13 h33 rfl (by omega) dX10_addAttribute_30 (fun σ35 h36 n37 => ?_)
    have G38 := G29.put t13 (⟨_, h36, r34⟩ : Ok K τ (3, 27, 20) (σ35 a2)) n37
    have F39 := F30.put t13 (by simp) n37
    have h40 := (n37 h (ne_ty t_h t13 (by simp))).trans h31
    refine v_aload_n B dX10_addAttribute_31 rfl rfl ?_
    refine u_get B Z (C := RX10) (T := TX10) (N := 10) (ci := 10) hi_Server_addAttribute_X10 t_h h40 rfl 2 (by decide +kernel) (List.mem_of_getElem? (i := 4) rfl) rfl dX10_addAttribute_32 ?_
    refine v_aload_n B dX10_addAttribute_35 rfl rfl ?_
    refine u_get B Z (C := RX10) (T := TX10) (N := 10) (ci := 10) hi_Server_addAttribute_X10 t_h h40 rfl 3 (by decide +kernel) (List.mem_of_getElem? (i := 1) rfl) rfl dX10_addAttribute_36 ?_
    obtain ⟨f41, h42, e43⟩ : okRA K τ 13 20 (σ35 a3) := G38 a3 _ t14
    obtain ⟨a44, e45, t46⟩ := e43 (z4 : Int).toNat (by omega)
    refine u_aald B Z (t0 := 4) (v := .ref a44) t14 h42 rfl (by omega) (by rw [e45]; rfl) dX10_addAttribute_39 ?_
    refine v_aload_n B dX10_addAttribute_40 rfl rfl ?_
    refine u_callVv B Z hz (n := 1) (As := [.ref g]) (rest := []) (c_Row_become l D K Z _ _ _ _ a44 g t46 t_g σ35 G38) gd_Server_addAttribute_Row_become_59 rfl rfl rfl (by decide +kernel) ⟨Nat.le_trans (by decide +kernel) hR.1, Nat.le_trans (by decide +kernel) hR.2⟩ t46 (cls_Row G38 t46) rfl rfl rfl rfl (Nat.le_of_ble_eq_true rfl) dX10_addAttribute_41 ⟨Nat.zero_le _, Nat.zero_le _⟩ (fun σ47 p48 => ?_)
    obtain ⟨G50, F51⟩ := p48
    have F52 := F39.call F51 (by first | rfl | simp)
    have h53 := (F51 h _ t_h (by first | rfl | simp)).trans h40
    have h54 := (F51 a3 _ t14 (by first | rfl | simp)).trans h42
    refine v_aload_n B dX10_addAttribute_44 rfl rfl ?_
    refine v_dup B dX10_addAttribute_45 rfl ?_
    refine u_get B Z (C := RX10) (T := TX10) (N := 10) (ci := 10) hi_Server_addAttribute_X10 t_h h53 rfl 3 (by decide +kernel) (List.mem_of_getElem? (i := 1) rfl) rfl dX10_addAttribute_46 ?_
    refine v_iconst B (v := iI 1) dX10_addAttribute_49 rfl ?_
    refine v_iadd B (v := iI (z4 + 1)) dX10_addAttribute_50 ((iI_add _ _).trans (congrArg iI (by omega))) ?_
    refine u_put B Z (C := RX10) (T := TX10) (N := 10) (ci := 10) hi_Server_addAttribute_X10 t_h h53 rfl 3 (by decide +kernel) tyX10 tyX10_ok nmX10 (List.mem_of_getElem? (i := 1) rfl) rfl (ty := .int) (tyX10_ok 3 (by decide +kernel)) rfl rfl (Nat.le_of_ble_eq_true rfl) (fs' := [.ref a1, .ref a2, .ref a3, .int (iI (z4 + 1)), .int (iI z5), .int (iI z6), .ref a7, .int (iI z8), .int (iI z9), .ref a10]) rfl dX10_addAttribute_51 (fun σ55 h56 n57 => ?_)
    have G58 := G50.put t_h (⟨a1, a2, a3, (z4 + 1), z5, z6, a7, z8, z9, a10, h56, t12, t13, t14, ⟨by omega, by omega⟩, ⟨by omega, by omega⟩, ⟨by omega, by omega⟩, t18, ⟨by omega, by omega⟩, ⟨by omega, by omega⟩, t21⟩ : Ok K τ (40, 0, 0) (σ55 h)) n57
    have F59 := F52.put t_h (by simp) n57
    have h60 := (n57 a3 (ne_ty t14 t_h (by simp))).trans h54
    refine v_aload_n B dX10_addAttribute_54 rfl rfl ?_
    refine u_get B Z (C := RX10) (T := TX10) (N := 10) (ci := 10) hi_Server_addAttribute_X10 t_h h56 rfl 3 (by decide +kernel) (List.mem_of_getElem? (i := 1) rfl) rfl dX10_addAttribute_55 ?_
    exact hend σ55 (z4 + 1) _ _ G58 F59 ⟨by omega, by omega⟩ dX10_addAttribute_58
  · refine v_iconst B (v := iI (-1)) dX10_addAttribute_9 rfl ?_
    exact hend σ0 (-1) _ _ G0 F0 ⟨by omega, by omega⟩ dX10_addAttribute_10
set_option maxRecDepth 100000 in
theorem c_Server_addAttribute (l : Launch) (D : va_G) (K : Nat → ClassId) {τ : Nat → Option Ty} {dom : List Nat} (Z : Sk τ dom) (zb zL : Nat) (zx : Nat → Int32) (zs : Nat → Nat) (h : Nat) (x1 : Int) (x2 : Int) (g : Nat) (t_h : τ h = some (40, 0, 0)) (r_x1 : -2147483648 ≤ x1 ∧ x1 ≤ 2147483647) (r_x2 : -2147483648 ≤ x2 ∧ x2 ≤ 2147483647) (t_g : τ g = some (1, 1, 0)) (σ0 : Nat → va_E) (G0 : Good K τ σ0) : MZ l yX10_addAttribute wp_Server_addAttribute ({ frames := 3, cells := 0, slots := 0, locals := 59 }) D (tysA K) [.ref h, .int (iI x1), .int (iI x2), .ref g] (fd dom σ0) zb zL zx zs (Qi D (fun r σ' => Good K τ σ' ∧ Fr τ [(3, 26), (3, 27), (1, 13), (2, 13), (40, 0)] σ0 σ' ∧ ∃ z : Int, r = iI z ∧ (-1 ≤ z ∧ z ≤ 20)) (fun σ' => fd dom σ')) 0 0 := by
  refine mz_of (cc := cX10_addAttribute) (maxL := 4) (ret := (some .int)) (by decide +kernel) rfl (Nat.le_of_ble_eq_true rfl) ?_
  intro p e s m below meth c A B hr hlk _ hz
  exact b_Server_addAttribute ⟨Nat.le_refl _, Nat.le_refl _⟩ B Z hz h x1 x2 g t_h r_x1 r_x2 t_g σ0 G0 (fun σ' z lv pc G F hZ hd => v_iret B hr hlk σ' ⟨G, F, z, rfl, hZ⟩ rfl (Nat.le_refl _) (Nat.le_refl _) hd)

def wp_Server_valueOf : List Cond := .code yX10_valueOf cX10_valueOf 2 (some (.object "LowEnergy$Row")) :: (([.fieldLink RX10 56 "LowEnergy$Server" "count" "I", .fieldLink RX10 20 "LowEnergy$Server" "values" "[LLowEnergy$Row;"] : List Cond) ++ (wsX100 ++ ([])))
theorem hi_Server_valueOf_X10 : ∀ x ∈ u_ws RX10 TX10 10, x ∈ wp_Server_valueOf := fun _ h => List.mem_cons_of_mem _ (List.mem_append_right _ (List.mem_append_left _ h))
set_option maxHeartbeats 4000000 in
set_option maxRecDepth 100000 in
theorem b_Server_valueOf {p : Program} {l : Launch} {e : Env} {R : Room} {s : State} {m : MethodId} {args : Array Value} {below : List Frame} {meth : Method} {c : Code} {D : va_G} {K : Nat → ClassId} {A : Nat → Prop} {Q : State → Prop} {τ : Nat → Option Ty} {dom : List Nat} {zb zL : Nat} {zx : Nat → Int32} {zs : Nat → Nat} (hR : 0 ≤ R.frames ∧ 0 ≤ R.locals) (B : Bx p s m args c cX10_valueOf 2 RX10 wp_Server_valueOf D (tysA K) A) (Z : Sk τ dom) (hz : ZL zb zL zx zs A s s.heap) (h : Nat) (x1 : Int) (t_h : τ h = some (40, 0, 0)) (r_x1 : -2147483648 ≤ x1 ∧ x1 ≤ 2147483647) (σ0 : Nat → va_E) (G0 : Good K τ σ0) (hend : ∀ (r : Option Nat) (lv : List (Nat × Value)) (pc : Nat), (r = none ∨ ∃ a, r = some a ∧ τ a = some (1, 13, 0)) → decode cX10_valueOf pc = .ok (.areturn, 1) → V p l e R s m args below meth c 2 D A Q (0, 0) (fd dom σ0) lv pc [va_rf r]) : V p l e R s m args below meth c 2 D A Q (0, 0) (fd dom σ0) [(0, .ref h), (1, .int (iI x1))] 0 [] := by
  have F0 : Fr τ [] σ0 σ0 := Fr.rf
  have J33 : V p l e R s m args below meth c 2 D A Q (0, 0) (fd dom σ0) [] 33 [] := by
    refine v_null B dX10_valueOf_33 ?_
    exact hend none _ _ (Or.inl rfl) dX10_valueOf_34
  refine v_iload_n B dX10_valueOf_0 rfl rfl ?_
  refine v_iconst B (v := iI 1) dX10_valueOf_1 rfl ?_
  refine u_icmp_lt B (tgt := 33) (by omega) (by omega) dX10_valueOf_2 (by decide +kernel) (fun c1 => ?_) (fun c1 => ?_)
  · refine v_lv [] rfl ?_
    exact J33
  · refine v_iload_n B dX10_valueOf_5 rfl rfl ?_
    refine v_aload_n B dX10_valueOf_6 rfl rfl ?_
    obtain ⟨a2, a3, a4, z5, z6, z7, a8, z9, z10, a11, h12, t13, t14, t15, r16, r17, r18, t19, r20, r21, t22⟩ : okServer τ (σ0 h) := G0 h _ t_h
    refine u_get B Z (C := RX10) (T := TX10) (N := 10) (ci := 10) hi_Server_valueOf_X10 t_h h12 rfl 3 (by decide +kernel) (List.mem_of_getElem? (i := 1) rfl) rfl dX10_valueOf_7 ?_
    refine u_icmp_gt B (tgt := 33) (by omega) (by omega) dX10_valueOf_10 (by decide +kernel) (fun c23 => ?_) (fun c23 => ?_)
    · refine v_lv [] rfl ?_
      exact J33
    · refine v_iload_n B dX10_valueOf_13 rfl rfl ?_
      refine v_aload_n B dX10_valueOf_14 rfl rfl ?_
      refine u_get B Z (C := RX10) (T := TX10) (N := 10) (ci := 10) hi_Server_valueOf_X10 t_h h12 rfl 2 (by decide +kernel) (List.mem_of_getElem? (i := 2) rfl) rfl dX10_valueOf_15 ?_
      obtain ⟨f24, h25, e26⟩ : okRA K τ 13 20 (σ0 a4) := G0 a4 _ t15
      refine u_alen B Z (t0 := 4) (v := 20) t15 h25 rfl (by first | rfl | omega) dX10_valueOf_18 ?_
      refine u_icmp_gt B (tgt := 33) (by omega) (by omega) dX10_valueOf_19 (by decide +kernel) (fun c27 => by omega) (fun c27 => ?_)
      refine v_aload_n B dX10_valueOf_22 rfl rfl ?_
      refine u_get B Z (C := RX10) (T := TX10) (N := 10) (ci := 10) hi_Server_valueOf_X10 t_h h12 rfl 2 (by decide +kernel) (List.mem_of_getElem? (i := 2) rfl) rfl dX10_valueOf_23 ?_
      refine v_iload_n B dX10_valueOf_26 rfl rfl ?_
      refine v_iconst B (v := iI 1) dX10_valueOf_27 rfl ?_
      refine v_isub B (v := iI (x1 + (-1))) dX10_valueOf_28 ((iI_sub _ _).trans (congrArg iI (by omega))) ?_
      obtain ⟨a28, e29, t30⟩ := e26 ((x1 + (-1)) : Int).toNat (by omega)
      refine u_aald B Z (t0 := 4) (v := .ref a28) t15 h25 rfl (by omega) (by rw [e29]; rfl) dX10_valueOf_29 ?_
      refine v_goto B (tgt := 34) dX10_valueOf_30 (by decide +kernel) ?_
      exact hend (some a28) _ _ (Or.inr ⟨_, rfl, t30⟩) dX10_valueOf_34
set_option maxRecDepth 100000 in
theorem c_Server_valueOf (l : Launch) (D : va_G) (K : Nat → ClassId) {τ : Nat → Option Ty} {dom : List Nat} (Z : Sk τ dom) (zb zL : Nat) (zx : Nat → Int32) (zs : Nat → Nat) (h : Nat) (x1 : Int) (t_h : τ h = some (40, 0, 0)) (r_x1 : -2147483648 ≤ x1 ∧ x1 ≤ 2147483647) (σ0 : Nat → va_E) (G0 : Good K τ σ0) : MZ l yX10_valueOf wp_Server_valueOf ({ frames := 0, cells := 0, slots := 0, locals := 0 }) D (tysA K) [.ref h, .int (iI x1)] (fd dom σ0) zb zL zx zs (Qq D (fun r σ' => σ0 = σ' ∧ (r = none ∨ ∃ a, r = some a ∧ τ a = some (1, 13, 0))) (fun σ' => fd dom σ')) 0 0 := by
  refine mz_of (cc := cX10_valueOf) (maxL := 2) (ret := (some (.object "LowEnergy$Row"))) (by decide +kernel) rfl (Nat.le_of_ble_eq_true rfl) ?_
  intro p e s m below meth c A B hr hlk _ hz
  exact b_Server_valueOf ⟨Nat.le_refl _, Nat.le_refl _⟩ B Z hz h x1 t_h r_x1 σ0 G0 (fun r lv pc hQ hd => v_aret B r hr hlk σ0 ⟨rfl, hQ⟩ rfl (Nat.le_refl _) (Nat.le_refl _) hd)

def wp_Server_hearNotice : List Cond := .code yX10_hearNotice cX10_hearNotice 5 none :: (([.methodLink RX10 76 yX9_two, .instanceMethod yX9_two, .selects RX9 yX9_two yX9_two, .initialized RX9, .code yX9_two cX9_two 2 (some .int), .fieldLink RX9 21 "LowEnergy$Row" "size" "I", .fieldLink RX9 15 "LowEnergy$Row" "bytes" "[I", .methodLink RX10 79 yX4_noteBytes, .instanceMethod yX4_noteBytes, .selects RX4 yX4_noteBytes yX4_noteBytes, .initialized RX4, .code yX4_noteBytes cX4_noteBytes 8 none, .fieldLink RX4 29 "LowEnergy$Diary" "count" "I", .fieldLink RX4 33 "LowEnergy$Diary" "lost" "I", .fieldLink RX4 22 "LowEnergy$Diary" "rows" "[LLowEnergy$Row;", .fieldLink RX4 36 "LowEnergy$Diary" "head" "I", .methodLink RX4 42 yX4_note, .instanceMethod yX4_note, .selects RX4 yX4_note yX4_note, .code yX4_note cX4_note 6 none, .fieldLink RX4 11 "LowEnergy$Diary" "kinds" "[I", .fieldLink RX4 17 "LowEnergy$Diary" "numbers" "[[I", .methodLink RX4 39 yX9_clear, .instanceMethod yX9_clear, .selects RX9 yX9_clear yX9_clear, .code yX9_clear cX9_clear 1 none, .methodLink RX4 46 yX9_putPart, .instanceMethod yX9_putPart, .selects RX9 yX9_putPart yX9_putPart, .code yX9_putPart cX9_putPart 6 none, .methodLink RX9 9 Lib.Math.max.name, .static Lib.Math.max.name, .initialized "java/lang/Math", .code Lib.Math.max.name Lib.Math.max.code 2 (some .int), .methodLink RX10 83 yX9_put, .instanceMethod yX9_put, .selects RX9 yX9_put yX9_put, .code yX9_put cX9_put 2 none, .methodLink RX10 63 yX9_at, .instanceMethod yX9_at, .selects RX9 yX9_at yX9_at, .code yX9_at cX9_at 2 (some .int), .fieldLink RX10 28 "LowEnergy$Server" "linkMtu" "I", .fieldLink RX10 43 "LowEnergy$Server" "waitsForConfirmation" "Z", .methodLink RX10 70 yX4_note] : List Cond) ++ (wsX90 ++ (wsX40 ++ (wsX100 ++ ([])))))
theorem hi_Server_hearNotice_X9 : ∀ x ∈ u_ws RX9 TX9 2, x ∈ wp_Server_hearNotice := fun _ h => List.mem_cons_of_mem _ (List.mem_append_right _ (List.mem_append_left _ h))
theorem hi_Server_hearNotice_X4 : ∀ x ∈ u_ws RX4 TX4 6, x ∈ wp_Server_hearNotice := fun _ h => List.mem_cons_of_mem _ (List.mem_append_right _ (List.mem_append_right _ (List.mem_append_left _ h)))
theorem hi_Server_hearNotice_X10 : ∀ x ∈ u_ws RX10 TX10 10, x ∈ wp_Server_hearNotice := fun _ h => List.mem_cons_of_mem _ (List.mem_append_right _ (List.mem_append_right _ (List.mem_append_right _ (List.mem_append_left _ h))))
set_option maxRecDepth 100000 in
theorem gd_Server_hearNotice_Row_two_76 : GoodIn wp_Server_hearNotice (wsV RX10 76 RX9 yX9_two wp_Row_two) := goodIn_app (goodIn_r _ [1, 2, 3, 4] rfl rfl) (goodIn_ca (goodIn_r _ [5, 6, 7] rfl rfl) (goodIn_app (goodIn_cls hi_Server_hearNotice_X9 gw_X9) (goodIn_nil)))
set_option maxRecDepth 100000 in
theorem gd_Server_hearNotice_Diary_noteBytes_79 : GoodIn wp_Server_hearNotice (wsV RX10 79 RX4 yX4_noteBytes wp_Diary_noteBytes) := goodIn_app (goodIn_r _ [8, 9, 10, 11] rfl rfl) (goodIn_ca (goodIn_r _ [12, 13, 14, 15, 16, 17, 18, 19, 11, 20, 21, 22, 23, 24, 25, 4, 26, 6, 27, 28, 29, 30, 7, 31, 32, 33, 34] rfl rfl) (goodIn_app (goodIn_cls hi_Server_hearNotice_X4 gw_X4) (goodIn_app (goodIn_cls hi_Server_hearNotice_X9 gw_X9) (goodIn_nil))))
set_option maxRecDepth 100000 in
theorem gd_Server_hearNotice_Row_put_83 : GoodIn wp_Server_hearNotice (wsV RX10 83 RX9 yX9_put wp_Row_put) := goodIn_app (goodIn_r _ [35, 36, 37, 4] rfl rfl) (goodIn_ca (goodIn_r _ [38, 6, 7] rfl rfl) (goodIn_app (goodIn_cls hi_Server_hearNotice_X9 gw_X9) (goodIn_nil)))
set_option maxRecDepth 100000 in
theorem gd_Server_hearNotice_Row_at_63 : GoodIn wp_Server_hearNotice (wsV RX10 63 RX9 yX9_at wp_Row_at) := goodIn_app (goodIn_r _ [39, 40, 41, 4] rfl rfl) (goodIn_ca (goodIn_r _ [42, 6, 7] rfl rfl) (goodIn_app (goodIn_cls hi_Server_hearNotice_X9 gw_X9) (goodIn_nil)))
set_option maxRecDepth 100000 in
theorem gd_Server_hearNotice_Diary_note_70 : GoodIn wp_Server_hearNotice (wsV RX10 70 RX4 yX4_note wp_Diary_note) := goodIn_app (goodIn_r _ [45, 18, 19, 11] rfl rfl) (goodIn_ca (goodIn_r _ [20, 13, 16, 21, 22, 15, 23, 24, 25, 4, 26, 6, 14] rfl rfl) (goodIn_app (goodIn_cls hi_Server_hearNotice_X4 gw_X4) (goodIn_app (goodIn_cls hi_Server_hearNotice_X9 gw_X9) (goodIn_nil))))
set_option maxHeartbeats 4000000 in
set_option maxRecDepth 100000 in
theorem b_Server_hearNotice {p : Program} {l : Launch} {e : Env} {R : Room} {s : State} {m : MethodId} {args : Array Value} {below : List Frame} {meth : Method} {c : Code} {D : va_G} {K : Nat → ClassId} {A : Nat → Prop} {Q : State → Prop} {τ : Nat → Option Ty} {dom : List Nat} {zb zL : Nat} {zx : Nat → Int32} {zs : Nat → Nat} (hR : 3 ≤ R.frames ∧ 72 ≤ R.locals) (B : Bx p s m args c cX10_hearNotice 5 RX10 wp_Server_hearNotice D (tysA K) A) (Z : Sk τ dom) (hz : ZL zb zL zx zs A s s.heap) (h : Nat) (w0 : Nat) (d : Nat) (g : Nat) (t_h : τ h = some (40, 0, 0)) (t_w0 : τ w0 = some (1, 12, 0)) (t_d : τ d = some (34, 0, 0)) (t_g : τ g = some (1, 8, 0)) (σ0 : Nat → va_E) (G0 : Good K τ σ0) (hend : ∀ (σ' : Nat → va_E) (lv : List (Nat × Value)) (pc : Nat), Good K τ σ' → Fr τ [(40, 0), (3, 23), (3, 22), (1, 16), (34, 0), (2, 16), (2, 8), (1, 8)] σ0 σ' → decode cX10_hearNotice pc = .ok (.return_, 1) → V p l e R s m args below meth c 5 D A Q (0, 0) (fd dom σ') lv pc []) : V p l e R s m args below meth c 5 D A Q (0, 0) (fd dom σ0) [(0, .ref h), (1, .ref w0), (2, .ref d), (3, .ref g)] 0 [] := by
  have F0 : Fr τ [(40, 0), (3, 23), (3, 22), (1, 16), (34, 0), (2, 16), (2, 8), (1, 8)] σ0 σ0 := Fr.rf
  have J81 : ∀ (σ_81 : Nat → va_E) (z81_4 : Int) (z81_s0 : Int), Good K τ σ_81 → Fr τ [(40, 0), (3, 23), (3, 22), (1, 16), (34, 0), (2, 16), (2, 8), (1, 8)] σ0 σ_81 → (-1 ≤ z81_4 ∧ z81_4 ≤ 255) → (16 ≤ z81_s0 ∧ z81_s0 ≤ 17) → V p l e R s m args below meth c 5 D A Q (0, 0) (fd dom σ_81) [(1, .ref w0), (3, .ref g), (4, .int (iI z81_4))] 81 [.int (iI z81_s0), .ref d] := by
    intro σ_81 z81_4 z81_s0 G_81 F_81 r81_4 r81_s0
    refine v_aload_n B dX10_hearNotice_81 rfl rfl ?_
    refine v_iconst B (v := iI 1) dX10_hearNotice_82 rfl ?_
    refine u_callVi B Z hz (n := 1) (As := [.int (iI 1)]) (rest := [.int (iI z81_s0), .ref d]) (c_Row_two l D K Z _ _ _ _ w0 1 t_w0 ⟨by omega, by omega⟩ σ_81 G_81) gd_Server_hearNotice_Row_two_76 rfl rfl rfl (by decide +kernel) ⟨Nat.le_trans (by decide +kernel) hR.1, Nat.le_trans (by decide +kernel) hR.2⟩ t_w0 (cls_Row G_81 t_w0) rfl rfl rfl rfl (Nat.le_of_ble_eq_true rfl) dX10_hearNotice_83 ⟨Nat.zero_le _, Nat.zero_le _⟩ (fun v3 σ1 p2 => ?_)
    obtain ⟨rfl, z7, e8, r9⟩ := p2
    subst e8
    refine v_iconst B (v := iI 0) dX10_hearNotice_86 rfl ?_
    refine v_aload_n B dX10_hearNotice_87 rfl rfl ?_
    refine v_iconst B (v := iI 3) dX10_hearNotice_88 rfl ?_
    refine v_aload_n B dX10_hearNotice_89 rfl rfl ?_
    obtain ⟨b10, N11, n12, h13, t14, r15⟩ : okRow τ 12 (σ_81 w0) := G_81 w0 _ t_w0
    refine u_getN B Z (C := RX9) (T := TX9) (N := 2) (ci := 9) hi_Server_hearNotice_X9 t_w0 h13 rfl 1 (by decide +kernel) (List.mem_of_getElem? (i := 96) rfl) rfl dX10_hearNotice_90 ?_
    refine u_callVv B Z hz (n := 6) (As := [.int (iI z81_s0), .int (iI z7), .int (iI 0), .ref w0, .int (iI 3), .int (iI n12)]) (rest := []) (c_Diary_noteBytes l D K Z _ _ _ _ d z81_s0 z7 0 w0 3 n12 t_d ⟨by omega, by omega⟩ ⟨by omega, by omega⟩ ⟨by omega, by omega⟩ t_w0 ⟨by omega, by omega⟩ ⟨by omega, by omega⟩ σ_81 G_81) gd_Server_hearNotice_Diary_noteBytes_79 rfl rfl rfl (by decide +kernel) ⟨Nat.le_trans (by decide +kernel) hR.1, Nat.le_trans (by decide +kernel) hR.2⟩ t_d (cls_Diary G_81 t_d) rfl rfl rfl rfl (Nat.le_of_ble_eq_true rfl) dX10_hearNotice_93 ⟨Nat.zero_le _, Nat.zero_le _⟩ (fun σ16 p17 => ?_)
    obtain ⟨G19, F20⟩ := p17
    have F21 := F_81.call F20 (by first | rfl | simp)
    have h22 := (F20 w0 _ t_w0 (by first | rfl | simp)).trans h13
    refine v_iload B dX10_hearNotice_96 rfl ?_
    refine v_bipush B (v := iI 29) dX10_hearNotice_98 (by decide +kernel) ?_
    refine u_icmp_ne B (tgt := 109) (by omega) (by omega) dX10_hearNotice_100 (by decide +kernel) (fun c23 => ?_) (fun c23 => ?_)
    · exact hend σ16 _ _ G19 F21 dX10_hearNotice_109
    · refine v_aload_n B dX10_hearNotice_103 rfl rfl ?_
      refine v_bipush B (v := iI 30) dX10_hearNotice_104 (by decide +kernel) ?_
      refine u_callVv B Z hz (n := 1) (As := [.int (iI 30)]) (rest := []) (c_Row_put l D K Z _ _ _ _ g 30 t_g ⟨by omega, by omega⟩ σ16 G19) gd_Server_hearNotice_Row_put_83 rfl rfl rfl (by decide +kernel) ⟨Nat.le_trans (by decide +kernel) hR.1, Nat.le_trans (by decide +kernel) hR.2⟩ t_g (cls_Row G19 t_g) rfl rfl rfl rfl (Nat.le_of_ble_eq_true rfl) dX10_hearNotice_106 ⟨Nat.zero_le _, Nat.zero_le _⟩ (fun σ24 p25 => ?_)
      obtain ⟨G27, F28⟩ := p25
      have F29 := F21.call F28 (by first | rfl | simp)
      have h30 := (F28 w0 _ t_w0 (by first | rfl | simp)).trans h22
      exact hend σ24 _ _ G27 F29 dX10_hearNotice_109
  refine v_aload_n B dX10_hearNotice_0 rfl rfl ?_
  refine v_iconst B (v := iI 0) dX10_hearNotice_1 rfl ?_
  refine u_callVi B Z hz (n := 1) (As := [.int (iI 0)]) (rest := []) (c_Row_at l D K Z _ _ _ _ w0 0 t_w0 ⟨by omega, by omega⟩ σ0 G0) gd_Server_hearNotice_Row_at_63 rfl rfl rfl (by decide +kernel) ⟨Nat.le_trans (by decide +kernel) hR.1, Nat.le_trans (by decide +kernel) hR.2⟩ t_w0 (cls_Row G0 t_w0) rfl rfl rfl rfl (Nat.le_of_ble_eq_true rfl) dX10_hearNotice_2 ⟨Nat.zero_le _, Nat.zero_le _⟩ (fun v33 σ31 p32 => ?_)
  obtain ⟨rfl, z37, e38, r39⟩ := p32
  subst e38
  refine v_istore B (lv' := [(4, .int (iI z37)), (0, .ref h), (1, .ref w0), (2, .ref d), (3, .ref g)]) dX10_hearNotice_5 (by decide +kernel) rfl ?_
  refine v_aload_n B dX10_hearNotice_7 rfl rfl ?_
  obtain ⟨b40, N41, n42, h43, t44, r45⟩ : okRow τ 12 (σ0 w0) := G0 w0 _ t_w0
  refine u_getN B Z (C := RX9) (T := TX9) (N := 2) (ci := 9) hi_Server_hearNotice_X9 t_w0 h43 rfl 1 (by decide +kernel) (List.mem_of_getElem? (i := 96) rfl) rfl dX10_hearNotice_8 ?_
  refine v_aload_n B dX10_hearNotice_11 rfl rfl ?_
  obtain ⟨a46, a47, a48, z49, z50, z51, a52, z53, z54, a55, h56, t57, t58, t59, r60, r61, r62, t63, r64, r65, t66⟩ : okServer τ (σ0 h) := G0 h _ t_h
  refine u_get B Z (C := RX10) (T := TX10) (N := 10) (ci := 10) hi_Server_hearNotice_X10 t_h h56 rfl 5 (by decide +kernel) (List.mem_of_getElem? (i := 43) rfl) rfl dX10_hearNotice_12 ?_
  refine u_icmp_le B (tgt := 19) (by omega) (by omega) dX10_hearNotice_15 (by decide +kernel) (fun c67 => ?_) (fun c67 => ?_)
  · refine v_iload B dX10_hearNotice_19 rfl ?_
    refine v_bipush B (v := iI 30) dX10_hearNotice_21 (by decide +kernel) ?_
    refine u_icmp_ne B (tgt := 58) (by omega) (by omega) dX10_hearNotice_23 (by decide +kernel) (fun c68 => ?_) (fun c68 => ?_)
    · refine v_aload_n B dX10_hearNotice_58 rfl rfl ?_
      refine u_getN B Z (C := RX9) (T := TX9) (N := 2) (ci := 9) hi_Server_hearNotice_X9 t_w0 h43 rfl 1 (by decide +kernel) (List.mem_of_getElem? (i := 96) rfl) rfl dX10_hearNotice_59 ?_
      refine v_iconst B (v := iI 3) dX10_hearNotice_62 rfl ?_
      refine u_icmp_lt B (tgt := 109) (by omega) (by omega) dX10_hearNotice_63 (by decide +kernel) (fun c69 => ?_) (fun c69 => ?_)
      · exact hend σ0 _ _ G0 F0 dX10_hearNotice_109
      · refine v_aload_n B dX10_hearNotice_66 rfl rfl ?_
        refine v_iload B dX10_hearNotice_67 rfl ?_
        refine v_bipush B (v := iI 27) dX10_hearNotice_69 (by decide +kernel) ?_
        refine u_icmp_ne B (tgt := 79) (by omega) (by omega) dX10_hearNotice_71 (by decide +kernel) (fun c70 => ?_) (fun c70 => ?_)
        · refine v_bipush B (v := iI 17) dX10_hearNotice_79 (by decide +kernel) ?_
          refine v_lv [2, 4, 0] rfl ?_
          exact J81 σ0 z37 17 G0 F0 ⟨by omega, by omega⟩ ⟨by omega, by omega⟩
        · refine v_bipush B (v := iI 16) dX10_hearNotice_74 (by decide +kernel) ?_
          refine v_goto B (tgt := 81) dX10_hearNotice_76 (by decide +kernel) ?_
          refine v_lv [2, 4, 0] rfl ?_
          exact J81 σ0 z37 16 G0 F0 ⟨by omega, by omega⟩ ⟨by omega, by omega⟩
    · refine v_aload_n B dX10_hearNotice_26 rfl rfl ?_
      refine u_getN B Z (C := RX9) (T := TX9) (N := 2) (ci := 9) hi_Server_hearNotice_X9 t_w0 h43 rfl 1 (by decide +kernel) (List.mem_of_getElem? (i := 96) rfl) rfl dX10_hearNotice_27 ?_
      refine v_iconst B (v := iI 1) dX10_hearNotice_30 rfl ?_
      refine u_icmp_ne B (tgt := 109) (by omega) (by omega) dX10_hearNotice_31 (by decide +kernel) (fun c71 => ?_) (fun c71 => ?_)
      · exact hend σ0 _ _ G0 F0 dX10_hearNotice_109
      · refine v_aload_n B dX10_hearNotice_34 rfl rfl ?_
        refine u_get B Z (C := RX10) (T := TX10) (N := 10) (ci := 10) hi_Server_hearNotice_X10 t_h h56 rfl 8 (by decide +kernel) (List.mem_of_getElem? (i := 44) rfl) rfl dX10_hearNotice_35 ?_
        refine u_if_eq B (tgt := 109) (by omega) dX10_hearNotice_38 (by decide +kernel) (fun c72 => ?_) (fun c72 => ?_)
        · exact hend σ0 _ _ G0 F0 dX10_hearNotice_109
        · refine v_aload_n B dX10_hearNotice_41 rfl rfl ?_
          refine v_iconst B (v := iI 0) dX10_hearNotice_42 rfl ?_
          refine u_put B Z (C := RX10) (T := TX10) (N := 10) (ci := 10) hi_Server_hearNotice_X10 t_h h56 rfl 8 (by decide +kernel) tyX10 tyX10_ok nmX10 (List.mem_of_getElem? (i := 44) rfl) rfl (ty := .boolean) (tyX10_ok 8 (by decide +kernel)) (nar01 (by omega)) (fit01 (by omega)) (Nat.le_of_ble_eq_true rfl) (fs' := [.ref a46, .ref a47, .ref a48, .int (iI z49), .int (iI z50), .int (iI z51), .ref a52, .int (iI z53), .int (iI 0), .ref a55]) rfl dX10_hearNotice_43 (fun σ73 h74 n75 => ?_)
          have G76 := G0.put t_h (⟨a46, a47, a48, z49, z50, z51, a52, z53, 0, a55, h74, t57, t58, t59, ⟨by omega, by omega⟩, ⟨by omega, by omega⟩, ⟨by omega, by omega⟩, t63, ⟨by omega, by omega⟩, ⟨by omega, by omega⟩, t66⟩ : Ok K τ (40, 0, 0) (σ73 h)) n75
          have F77 := F0.put t_h (by simp) n75
          have h78 := (n75 w0 (ne_ty t_w0 t_h (by simp))).trans h43
          refine v_aload_n B dX10_hearNotice_46 rfl rfl ?_
          refine v_bipush B (v := iI 18) dX10_hearNotice_47 (by decide +kernel) ?_
          refine v_iconst B (v := iI 0) dX10_hearNotice_49 rfl ?_
          refine v_iconst B (v := iI 0) dX10_hearNotice_50 rfl ?_
          refine v_iconst B (v := iI 0) dX10_hearNotice_51 rfl ?_
          refine u_callVv B Z hz (n := 4) (As := [.int (iI 18), .int (iI 0), .int (iI 0), .int (iI 0)]) (rest := []) (c_Diary_note l D K Z _ _ _ _ d 18 0 0 0 t_d ⟨by omega, by omega⟩ ⟨by omega, by omega⟩ ⟨by omega, by omega⟩ ⟨by omega, by omega⟩ σ73 G76) gd_Server_hearNotice_Diary_note_70 rfl rfl rfl (by decide +kernel) ⟨Nat.le_trans (by decide +kernel) hR.1, Nat.le_trans (by decide +kernel) hR.2⟩ t_d (cls_Diary G76 t_d) rfl rfl rfl rfl (Nat.le_of_ble_eq_true rfl) dX10_hearNotice_52 ⟨Nat.zero_le _, Nat.zero_le _⟩ (fun σ79 p80 => ?_)
          obtain ⟨G82, F83⟩ := p80
          have F84 := F77.call F83 (by first | rfl | simp)
          have h85 := (F83 w0 _ t_w0 (by first | rfl | simp)).trans h78
          have h86 := (F83 h _ t_h (by first | rfl | simp)).trans h74
          refine v_goto B (tgt := 109) dX10_hearNotice_55 (by decide +kernel) ?_
          exact hend σ79 _ _ G82 F84 dX10_hearNotice_109
  · exact hend σ0 _ _ G0 F0 dX10_hearNotice_18
set_option maxRecDepth 100000 in
theorem c_Server_hearNotice (l : Launch) (D : va_G) (K : Nat → ClassId) {τ : Nat → Option Ty} {dom : List Nat} (Z : Sk τ dom) (zb zL : Nat) (zx : Nat → Int32) (zs : Nat → Nat) (h : Nat) (w0 : Nat) (d : Nat) (g : Nat) (t_h : τ h = some (40, 0, 0)) (t_w0 : τ w0 = some (1, 12, 0)) (t_d : τ d = some (34, 0, 0)) (t_g : τ g = some (1, 8, 0)) (σ0 : Nat → va_E) (G0 : Good K τ σ0) : MZ l yX10_hearNotice wp_Server_hearNotice ({ frames := 3, cells := 0, slots := 0, locals := 72 }) D (tysA K) [.ref h, .ref w0, .ref d, .ref g] (fd dom σ0) zb zL zx zs (Qv D (fun σ' => Good K τ σ' ∧ Fr τ [(40, 0), (3, 23), (3, 22), (1, 16), (34, 0), (2, 16), (2, 8), (1, 8)] σ0 σ') (fun σ' => fd dom σ')) 0 0 := by
  refine mz_of (cc := cX10_hearNotice) (maxL := 5) (ret := none) (by decide +kernel) rfl (Nat.le_of_ble_eq_true rfl) ?_
  intro p e s m below meth c A B hr hlk _ hz
  exact b_Server_hearNotice ⟨Nat.le_refl _, Nat.le_refl _⟩ B Z hz h w0 d g t_h t_w0 t_d t_g σ0 G0 (fun σ' lv pc G F hd => v_vret B hr hlk σ' ⟨G, F⟩ rfl (Nat.le_refl _) (Nat.le_refl _) hd)

def wp_Server_isRequest : List Cond := .code yX10_isRequest cX10_isRequest 1 (some .boolean) :: (([] : List Cond) ++ ([]))
set_option maxHeartbeats 4000000 in
set_option maxRecDepth 100000 in
theorem b_Server_isRequest {p : Program} {l : Launch} {e : Env} {R : Room} {s : State} {m : MethodId} {args : Array Value} {below : List Frame} {meth : Method} {c : Code} {D : va_G} {K : Nat → ClassId} {A : Nat → Prop} {Q : State → Prop} {τ : Nat → Option Ty} {dom : List Nat} {zb zL : Nat} {zx : Nat → Int32} {zs : Nat → Nat} (hR : 0 ≤ R.frames ∧ 0 ≤ R.locals) (B : Bx p s m args c cX10_isRequest 1 RX10 wp_Server_isRequest D (tysA K) A) (Z : Sk τ dom) (hz : ZL zb zL zx zs A s s.heap) (x0 : Int) (r_x0 : -2147483648 ≤ x0 ∧ x0 ≤ 2147483647) (σ0 : Nat → va_E) (G0 : Good K τ σ0) (hend : ∀ (z : Int) (lv : List (Nat × Value)) (pc : Nat), (0 ≤ z ∧ z ≤ 1) → decode cX10_isRequest pc = .ok (.ireturn, 1) → V p l e R s m args below meth c 1 D A Q (0, 0) (fd dom σ0) lv pc [.int (iI z)]) : V p l e R s m args below meth c 1 D A Q (0, 0) (fd dom σ0) [(0, .int (iI x0))] 0 [] := by
  have F0 : Fr τ [] σ0 σ0 := Fr.rf
  refine v_iload_n B dX10_isRequest_0 rfl rfl ?_
  refine u_tsw B (tgtd := 110) (by omega) dX10_isRequest_1 (by decide +kernel) ?_ ?_ (tsw_ok (by decide +kernel)) (by decide +kernel)
  · intro i1 o2 g3 o4 x5 t6
    match i1, o4, x5 with
    | 0, o4, x5 =>
      replace o4 : o2 = 107 := by simp at o4; omega
      obtain rfl : g3 = 108 := by omega
      refine v_iconst B (v := iI 1) dX10_isRequest_108 rfl ?_
      exact hend 1 _ _ ⟨by omega, by omega⟩ dX10_isRequest_109
    | 1, o4, x5 =>
      replace o4 : o2 = 109 := by simp at o4; omega
      obtain rfl : g3 = 110 := by omega
      refine v_iconst B (v := iI 0) dX10_isRequest_110 rfl ?_
      exact hend 0 _ _ ⟨by omega, by omega⟩ dX10_isRequest_111
    | 2, o4, x5 =>
      replace o4 : o2 = 107 := by simp at o4; omega
      obtain rfl : g3 = 108 := by omega
      refine v_iconst B (v := iI 1) dX10_isRequest_108 rfl ?_
      exact hend 1 _ _ ⟨by omega, by omega⟩ dX10_isRequest_109
    | 3, o4, x5 =>
      replace o4 : o2 = 109 := by simp at o4; omega
      obtain rfl : g3 = 110 := by omega
      refine v_iconst B (v := iI 0) dX10_isRequest_110 rfl ?_
      exact hend 0 _ _ ⟨by omega, by omega⟩ dX10_isRequest_111
    | 4, o4, x5 =>
      replace o4 : o2 = 107 := by simp at o4; omega
      obtain rfl : g3 = 108 := by omega
      refine v_iconst B (v := iI 1) dX10_isRequest_108 rfl ?_
      exact hend 1 _ _ ⟨by omega, by omega⟩ dX10_isRequest_109
    | 5, o4, x5 =>
      replace o4 : o2 = 109 := by simp at o4; omega
      obtain rfl : g3 = 110 := by omega
      refine v_iconst B (v := iI 0) dX10_isRequest_110 rfl ?_
      exact hend 0 _ _ ⟨by omega, by omega⟩ dX10_isRequest_111
    | 6, o4, x5 =>
      replace o4 : o2 = 107 := by simp at o4; omega
      obtain rfl : g3 = 108 := by omega
      refine v_iconst B (v := iI 1) dX10_isRequest_108 rfl ?_
      exact hend 1 _ _ ⟨by omega, by omega⟩ dX10_isRequest_109
    | 7, o4, x5 =>
      replace o4 : o2 = 109 := by simp at o4; omega
      obtain rfl : g3 = 110 := by omega
      refine v_iconst B (v := iI 0) dX10_isRequest_110 rfl ?_
      exact hend 0 _ _ ⟨by omega, by omega⟩ dX10_isRequest_111
    | 8, o4, x5 =>
      replace o4 : o2 = 107 := by simp at o4; omega
      obtain rfl : g3 = 108 := by omega
      refine v_iconst B (v := iI 1) dX10_isRequest_108 rfl ?_
      exact hend 1 _ _ ⟨by omega, by omega⟩ dX10_isRequest_109
    | 9, o4, x5 =>
      replace o4 : o2 = 109 := by simp at o4; omega
      obtain rfl : g3 = 110 := by omega
      refine v_iconst B (v := iI 0) dX10_isRequest_110 rfl ?_
      exact hend 0 _ _ ⟨by omega, by omega⟩ dX10_isRequest_111
    | 10, o4, x5 =>
      replace o4 : o2 = 107 := by simp at o4; omega
      obtain rfl : g3 = 108 := by omega
      refine v_iconst B (v := iI 1) dX10_isRequest_108 rfl ?_
      exact hend 1 _ _ ⟨by omega, by omega⟩ dX10_isRequest_109
    | 11, o4, x5 =>
      replace o4 : o2 = 109 := by simp at o4; omega
      obtain rfl : g3 = 110 := by omega
      refine v_iconst B (v := iI 0) dX10_isRequest_110 rfl ?_
      exact hend 0 _ _ ⟨by omega, by omega⟩ dX10_isRequest_111
    | 12, o4, x5 =>
      replace o4 : o2 = 109 := by simp at o4; omega
      obtain rfl : g3 = 110 := by omega
      refine v_iconst B (v := iI 0) dX10_isRequest_110 rfl ?_
      exact hend 0 _ _ ⟨by omega, by omega⟩ dX10_isRequest_111
    | 13, o4, x5 =>
      replace o4 : o2 = 109 := by simp at o4; omega
      obtain rfl : g3 = 110 := by omega
      refine v_iconst B (v := iI 0) dX10_isRequest_110 rfl ?_
      exact hend 0 _ _ ⟨by omega, by omega⟩ dX10_isRequest_111
    | 14, o4, x5 =>
      replace o4 : o2 = 107 := by simp at o4; omega
      obtain rfl : g3 = 108 := by omega
      refine v_iconst B (v := iI 1) dX10_isRequest_108 rfl ?_
      exact hend 1 _ _ ⟨by omega, by omega⟩ dX10_isRequest_109
    | 15, o4, x5 =>
      replace o4 : o2 = 109 := by simp at o4; omega
      obtain rfl : g3 = 110 := by omega
      refine v_iconst B (v := iI 0) dX10_isRequest_110 rfl ?_
      exact hend 0 _ _ ⟨by omega, by omega⟩ dX10_isRequest_111
    | 16, o4, x5 =>
      replace o4 : o2 = 107 := by simp at o4; omega
      obtain rfl : g3 = 108 := by omega
      refine v_iconst B (v := iI 1) dX10_isRequest_108 rfl ?_
      exact hend 1 _ _ ⟨by omega, by omega⟩ dX10_isRequest_109
    | 17, o4, x5 =>
      replace o4 : o2 = 109 := by simp at o4; omega
      obtain rfl : g3 = 110 := by omega
      refine v_iconst B (v := iI 0) dX10_isRequest_110 rfl ?_
      exact hend 0 _ _ ⟨by omega, by omega⟩ dX10_isRequest_111
    | 18, o4, x5 =>
      replace o4 : o2 = 109 := by simp at o4; omega
      obtain rfl : g3 = 110 := by omega
      refine v_iconst B (v := iI 0) dX10_isRequest_110 rfl ?_
      exact hend 0 _ _ ⟨by omega, by omega⟩ dX10_isRequest_111
    | 19, o4, x5 =>
      replace o4 : o2 = 109 := by simp at o4; omega
      obtain rfl : g3 = 110 := by omega
      refine v_iconst B (v := iI 0) dX10_isRequest_110 rfl ?_
      exact hend 0 _ _ ⟨by omega, by omega⟩ dX10_isRequest_111
    | 20, o4, x5 =>
      replace o4 : o2 = 107 := by simp at o4; omega
      obtain rfl : g3 = 108 := by omega
      refine v_iconst B (v := iI 1) dX10_isRequest_108 rfl ?_
      exact hend 1 _ _ ⟨by omega, by omega⟩ dX10_isRequest_109
    | 21, o4, x5 =>
      replace o4 : o2 = 109 := by simp at o4; omega
      obtain rfl : g3 = 110 := by omega
      refine v_iconst B (v := iI 0) dX10_isRequest_110 rfl ?_
      exact hend 0 _ _ ⟨by omega, by omega⟩ dX10_isRequest_111
    | 22, o4, x5 =>
      replace o4 : o2 = 107 := by simp at o4; omega
      obtain rfl : g3 = 108 := by omega
      refine v_iconst B (v := iI 1) dX10_isRequest_108 rfl ?_
      exact hend 1 _ _ ⟨by omega, by omega⟩ dX10_isRequest_109
    | i1 + 23, o4, x5 => exact absurd (o4.symm.trans (Array.getElem?_eq_none (by simp))) (by simp)
  · intro x5
    refine v_iconst B (v := iI 0) dX10_isRequest_110 rfl ?_
    exact hend 0 _ _ ⟨by omega, by omega⟩ dX10_isRequest_111
set_option maxRecDepth 100000 in
theorem c_Server_isRequest (l : Launch) (D : va_G) (K : Nat → ClassId) {τ : Nat → Option Ty} {dom : List Nat} (Z : Sk τ dom) (zb zL : Nat) (zx : Nat → Int32) (zs : Nat → Nat) (x0 : Int) (r_x0 : -2147483648 ≤ x0 ∧ x0 ≤ 2147483647) (σ0 : Nat → va_E) (G0 : Good K τ σ0) : MZ l yX10_isRequest wp_Server_isRequest ({ frames := 0, cells := 0, slots := 0, locals := 0 }) D (tysA K) [.int (iI x0)] (fd dom σ0) zb zL zx zs (Qi D (fun r σ' => σ0 = σ' ∧ ∃ z : Int, r = iI z ∧ (0 ≤ z ∧ z ≤ 1)) (fun σ' => fd dom σ')) 0 0 := by
  refine mz_of (cc := cX10_isRequest) (maxL := 1) (ret := (some .boolean)) (by decide +kernel) rfl (Nat.le_of_ble_eq_true rfl) ?_
  intro p e s m below meth c A B hr hlk _ hz
  exact b_Server_isRequest ⟨Nat.le_refl _, Nat.le_refl _⟩ B Z hz x0 r_x0 σ0 G0 (fun z lv pc hZ hd => v_zret B hr hlk (nar01 (by omega)) σ0 ⟨rfl, z, rfl, hZ⟩ rfl (Nat.le_refl _) (Nat.le_refl _) hd)

def wp_Server_hasItsSize : List Cond := .code yX10_hasItsSize cX10_hasItsSize 2 (some .boolean) :: (([] : List Cond) ++ ([]))
set_option maxHeartbeats 4000000 in
set_option maxRecDepth 100000 in
theorem b_Server_hasItsSize {p : Program} {l : Launch} {e : Env} {R : Room} {s : State} {m : MethodId} {args : Array Value} {below : List Frame} {meth : Method} {c : Code} {D : va_G} {K : Nat → ClassId} {A : Nat → Prop} {Q : State → Prop} {τ : Nat → Option Ty} {dom : List Nat} {zb zL : Nat} {zx : Nat → Int32} {zs : Nat → Nat} (hR : 0 ≤ R.frames ∧ 0 ≤ R.locals) (B : Bx p s m args c cX10_hasItsSize 2 RX10 wp_Server_hasItsSize D (tysA K) A) (Z : Sk τ dom) (hz : ZL zb zL zx zs A s s.heap) (x0 : Int) (x1 : Int) (r_x0 : -2147483648 ≤ x0 ∧ x0 ≤ 2147483647) (r_x1 : -2147483648 ≤ x1 ∧ x1 ≤ 2147483647) (σ0 : Nat → va_E) (G0 : Good K τ σ0) (hend : ∀ (z : Int) (lv : List (Nat × Value)) (pc : Nat), (0 ≤ z ∧ z ≤ 1) → decode cX10_hasItsSize pc = .ok (.ireturn, 1) → V p l e R s m args below meth c 2 D A Q (0, 0) (fd dom σ0) lv pc [.int (iI z)]) : V p l e R s m args below meth c 2 D A Q (0, 0) (fd dom σ0) [(0, .int (iI x0)), (1, .int (iI x1))] 0 [] := by
  have F0 : Fr τ [] σ0 σ0 := Fr.rf
  refine v_iload_n B dX10_hasItsSize_0 rfl rfl ?_
  refine u_tsw B (tgtd := 202) (by omega) dX10_hasItsSize_1 (by decide +kernel) ?_ ?_ (tsw_ok (by decide +kernel)) (by decide +kernel)
  · intro i1 o2 g3 o4 x5 t6
    match i1, o4, x5 with
    | 0, o4, x5 =>
      replace o4 : o2 = 99 := by simp at o4; omega
      obtain rfl : g3 = 100 := by omega
      refine v_iload_n B dX10_hasItsSize_100 rfl rfl ?_
      refine v_iconst B (v := iI 3) dX10_hasItsSize_101 rfl ?_
      refine u_icmp_ne B (tgt := 109) (by omega) (by omega) dX10_hasItsSize_102 (by decide +kernel) (fun c7 => ?_) (fun c7 => ?_)
      · refine v_iconst B (v := iI 0) dX10_hasItsSize_109 rfl ?_
        exact hend 0 _ _ ⟨by omega, by omega⟩ dX10_hasItsSize_110
      · refine v_iconst B (v := iI 1) dX10_hasItsSize_105 rfl ?_
        refine v_goto B (tgt := 110) dX10_hasItsSize_106 (by decide +kernel) ?_
        exact hend 1 _ _ ⟨by omega, by omega⟩ dX10_hasItsSize_110
    | 1, o4, x5 =>
      replace o4 : o2 = 201 := by simp at o4; omega
      obtain rfl : g3 = 202 := by omega
      refine v_iload_n B dX10_hasItsSize_202 rfl rfl ?_
      refine v_iconst B (v := iI 2) dX10_hasItsSize_203 rfl ?_
      refine u_icmp_ne B (tgt := 211) (by omega) (by omega) dX10_hasItsSize_204 (by decide +kernel) (fun c8 => ?_) (fun c8 => ?_)
      · refine v_iconst B (v := iI 0) dX10_hasItsSize_211 rfl ?_
        exact hend 0 _ _ ⟨by omega, by omega⟩ dX10_hasItsSize_212
      · refine v_iconst B (v := iI 1) dX10_hasItsSize_207 rfl ?_
        refine v_goto B (tgt := 212) dX10_hasItsSize_208 (by decide +kernel) ?_
        exact hend 1 _ _ ⟨by omega, by omega⟩ dX10_hasItsSize_212
    | 2, o4, x5 =>
      replace o4 : o2 = 110 := by simp at o4; omega
      obtain rfl : g3 = 111 := by omega
      refine v_iload_n B dX10_hasItsSize_111 rfl rfl ?_
      refine v_iconst B (v := iI 5) dX10_hasItsSize_112 rfl ?_
      refine u_icmp_ne B (tgt := 120) (by omega) (by omega) dX10_hasItsSize_113 (by decide +kernel) (fun c9 => ?_) (fun c9 => ?_)
      · refine v_iconst B (v := iI 0) dX10_hasItsSize_120 rfl ?_
        exact hend 0 _ _ ⟨by omega, by omega⟩ dX10_hasItsSize_121
      · refine v_iconst B (v := iI 1) dX10_hasItsSize_116 rfl ?_
        refine v_goto B (tgt := 121) dX10_hasItsSize_117 (by decide +kernel) ?_
        exact hend 1 _ _ ⟨by omega, by omega⟩ dX10_hasItsSize_121
    | 3, o4, x5 =>
      replace o4 : o2 = 201 := by simp at o4; omega
      obtain rfl : g3 = 202 := by omega
      refine v_iload_n B dX10_hasItsSize_202 rfl rfl ?_
      refine v_iconst B (v := iI 2) dX10_hasItsSize_203 rfl ?_
      refine u_icmp_ne B (tgt := 211) (by omega) (by omega) dX10_hasItsSize_204 (by decide +kernel) (fun c10 => ?_) (fun c10 => ?_)
      · refine v_iconst B (v := iI 0) dX10_hasItsSize_211 rfl ?_
        exact hend 0 _ _ ⟨by omega, by omega⟩ dX10_hasItsSize_212
      · refine v_iconst B (v := iI 1) dX10_hasItsSize_207 rfl ?_
        refine v_goto B (tgt := 212) dX10_hasItsSize_208 (by decide +kernel) ?_
        exact hend 1 _ _ ⟨by omega, by omega⟩ dX10_hasItsSize_212
    | 4, o4, x5 =>
      replace o4 : o2 = 121 := by simp at o4; omega
      obtain rfl : g3 = 122 := by omega
      refine v_iload_n B dX10_hasItsSize_122 rfl rfl ?_
      refine v_bipush B (v := iI 7) dX10_hasItsSize_123 (by decide +kernel) ?_
      refine u_icmp_lt B (tgt := 132) (by omega) (by omega) dX10_hasItsSize_125 (by decide +kernel) (fun c11 => ?_) (fun c11 => ?_)
      · refine v_iconst B (v := iI 0) dX10_hasItsSize_132 rfl ?_
        exact hend 0 _ _ ⟨by omega, by omega⟩ dX10_hasItsSize_133
      · refine v_iconst B (v := iI 1) dX10_hasItsSize_128 rfl ?_
        refine v_goto B (tgt := 133) dX10_hasItsSize_129 (by decide +kernel) ?_
        exact hend 1 _ _ ⟨by omega, by omega⟩ dX10_hasItsSize_133
    | 5, o4, x5 =>
      replace o4 : o2 = 201 := by simp at o4; omega
      obtain rfl : g3 = 202 := by omega
      refine v_iload_n B dX10_hasItsSize_202 rfl rfl ?_
      refine v_iconst B (v := iI 2) dX10_hasItsSize_203 rfl ?_
      refine u_icmp_ne B (tgt := 211) (by omega) (by omega) dX10_hasItsSize_204 (by decide +kernel) (fun c12 => ?_) (fun c12 => ?_)
      · refine v_iconst B (v := iI 0) dX10_hasItsSize_211 rfl ?_
        exact hend 0 _ _ ⟨by omega, by omega⟩ dX10_hasItsSize_212
      · refine v_iconst B (v := iI 1) dX10_hasItsSize_207 rfl ?_
        refine v_goto B (tgt := 212) dX10_hasItsSize_208 (by decide +kernel) ?_
        exact hend 1 _ _ ⟨by omega, by omega⟩ dX10_hasItsSize_212
    | 6, o4, x5 =>
      replace o4 : o2 = 133 := by simp at o4; omega
      obtain rfl : g3 = 134 := by omega
      refine v_iload_n B dX10_hasItsSize_134 rfl rfl ?_
      refine v_bipush B (v := iI 7) dX10_hasItsSize_135 (by decide +kernel) ?_
      refine u_icmp_ne B (tgt := 144) (by omega) (by omega) dX10_hasItsSize_137 (by decide +kernel) (fun c13 => ?_) (fun c13 => ?_)
      · refine v_iconst B (v := iI 0) dX10_hasItsSize_144 rfl ?_
        exact hend 0 _ _ ⟨by omega, by omega⟩ dX10_hasItsSize_145
      · refine v_iconst B (v := iI 1) dX10_hasItsSize_140 rfl ?_
        refine v_goto B (tgt := 145) dX10_hasItsSize_141 (by decide +kernel) ?_
        exact hend 1 _ _ ⟨by omega, by omega⟩ dX10_hasItsSize_145
    | 7, o4, x5 =>
      replace o4 : o2 = 201 := by simp at o4; omega
      obtain rfl : g3 = 202 := by omega
      refine v_iload_n B dX10_hasItsSize_202 rfl rfl ?_
      refine v_iconst B (v := iI 2) dX10_hasItsSize_203 rfl ?_
      refine u_icmp_ne B (tgt := 211) (by omega) (by omega) dX10_hasItsSize_204 (by decide +kernel) (fun c14 => ?_) (fun c14 => ?_)
      · refine v_iconst B (v := iI 0) dX10_hasItsSize_211 rfl ?_
        exact hend 0 _ _ ⟨by omega, by omega⟩ dX10_hasItsSize_212
      · refine v_iconst B (v := iI 1) dX10_hasItsSize_207 rfl ?_
        refine v_goto B (tgt := 212) dX10_hasItsSize_208 (by decide +kernel) ?_
        exact hend 1 _ _ ⟨by omega, by omega⟩ dX10_hasItsSize_212
    | 8, o4, x5 =>
      replace o4 : o2 = 145 := by simp at o4; omega
      obtain rfl : g3 = 146 := by omega
      refine v_iload_n B dX10_hasItsSize_146 rfl rfl ?_
      refine v_iconst B (v := iI 3) dX10_hasItsSize_147 rfl ?_
      refine u_icmp_ne B (tgt := 155) (by omega) (by omega) dX10_hasItsSize_148 (by decide +kernel) (fun c15 => ?_) (fun c15 => ?_)
      · refine v_iconst B (v := iI 0) dX10_hasItsSize_155 rfl ?_
        exact hend 0 _ _ ⟨by omega, by omega⟩ dX10_hasItsSize_156
      · refine v_iconst B (v := iI 1) dX10_hasItsSize_151 rfl ?_
        refine v_goto B (tgt := 156) dX10_hasItsSize_152 (by decide +kernel) ?_
        exact hend 1 _ _ ⟨by omega, by omega⟩ dX10_hasItsSize_156
    | 9, o4, x5 =>
      replace o4 : o2 = 201 := by simp at o4; omega
      obtain rfl : g3 = 202 := by omega
      refine v_iload_n B dX10_hasItsSize_202 rfl rfl ?_
      refine v_iconst B (v := iI 2) dX10_hasItsSize_203 rfl ?_
      refine u_icmp_ne B (tgt := 211) (by omega) (by omega) dX10_hasItsSize_204 (by decide +kernel) (fun c16 => ?_) (fun c16 => ?_)
      · refine v_iconst B (v := iI 0) dX10_hasItsSize_211 rfl ?_
        exact hend 0 _ _ ⟨by omega, by omega⟩ dX10_hasItsSize_212
      · refine v_iconst B (v := iI 1) dX10_hasItsSize_207 rfl ?_
        refine v_goto B (tgt := 212) dX10_hasItsSize_208 (by decide +kernel) ?_
        exact hend 1 _ _ ⟨by omega, by omega⟩ dX10_hasItsSize_212
    | 10, o4, x5 =>
      replace o4 : o2 = 156 := by simp at o4; omega
      obtain rfl : g3 = 157 := by omega
      refine v_iload_n B dX10_hasItsSize_157 rfl rfl ?_
      refine v_iconst B (v := iI 5) dX10_hasItsSize_158 rfl ?_
      refine u_icmp_ne B (tgt := 166) (by omega) (by omega) dX10_hasItsSize_159 (by decide +kernel) (fun c17 => ?_) (fun c17 => ?_)
      · refine v_iconst B (v := iI 0) dX10_hasItsSize_166 rfl ?_
        exact hend 0 _ _ ⟨by omega, by omega⟩ dX10_hasItsSize_167
      · refine v_iconst B (v := iI 1) dX10_hasItsSize_162 rfl ?_
        refine v_goto B (tgt := 167) dX10_hasItsSize_163 (by decide +kernel) ?_
        exact hend 1 _ _ ⟨by omega, by omega⟩ dX10_hasItsSize_167
    | 11, o4, x5 =>
      replace o4 : o2 = 201 := by simp at o4; omega
      obtain rfl : g3 = 202 := by omega
      refine v_iload_n B dX10_hasItsSize_202 rfl rfl ?_
      refine v_iconst B (v := iI 2) dX10_hasItsSize_203 rfl ?_
      refine u_icmp_ne B (tgt := 211) (by omega) (by omega) dX10_hasItsSize_204 (by decide +kernel) (fun c18 => ?_) (fun c18 => ?_)
      · refine v_iconst B (v := iI 0) dX10_hasItsSize_211 rfl ?_
        exact hend 0 _ _ ⟨by omega, by omega⟩ dX10_hasItsSize_212
      · refine v_iconst B (v := iI 1) dX10_hasItsSize_207 rfl ?_
        refine v_goto B (tgt := 212) dX10_hasItsSize_208 (by decide +kernel) ?_
        exact hend 1 _ _ ⟨by omega, by omega⟩ dX10_hasItsSize_212
    | 12, o4, x5 =>
      replace o4 : o2 = 201 := by simp at o4; omega
      obtain rfl : g3 = 202 := by omega
      refine v_iload_n B dX10_hasItsSize_202 rfl rfl ?_
      refine v_iconst B (v := iI 2) dX10_hasItsSize_203 rfl ?_
      refine u_icmp_ne B (tgt := 211) (by omega) (by omega) dX10_hasItsSize_204 (by decide +kernel) (fun c19 => ?_) (fun c19 => ?_)
      · refine v_iconst B (v := iI 0) dX10_hasItsSize_211 rfl ?_
        exact hend 0 _ _ ⟨by omega, by omega⟩ dX10_hasItsSize_212
      · refine v_iconst B (v := iI 1) dX10_hasItsSize_207 rfl ?_
        refine v_goto B (tgt := 212) dX10_hasItsSize_208 (by decide +kernel) ?_
        exact hend 1 _ _ ⟨by omega, by omega⟩ dX10_hasItsSize_212
    | 13, o4, x5 =>
      replace o4 : o2 = 201 := by simp at o4; omega
      obtain rfl : g3 = 202 := by omega
      refine v_iload_n B dX10_hasItsSize_202 rfl rfl ?_
      refine v_iconst B (v := iI 2) dX10_hasItsSize_203 rfl ?_
      refine u_icmp_ne B (tgt := 211) (by omega) (by omega) dX10_hasItsSize_204 (by decide +kernel) (fun c20 => ?_) (fun c20 => ?_)
      · refine v_iconst B (v := iI 0) dX10_hasItsSize_211 rfl ?_
        exact hend 0 _ _ ⟨by omega, by omega⟩ dX10_hasItsSize_212
      · refine v_iconst B (v := iI 1) dX10_hasItsSize_207 rfl ?_
        refine v_goto B (tgt := 212) dX10_hasItsSize_208 (by decide +kernel) ?_
        exact hend 1 _ _ ⟨by omega, by omega⟩ dX10_hasItsSize_212
    | 14, o4, x5 =>
      replace o4 : o2 = 167 := by simp at o4; omega
      obtain rfl : g3 = 168 := by omega
      refine v_iload_n B dX10_hasItsSize_168 rfl rfl ?_
      refine v_bipush B (v := iI 7) dX10_hasItsSize_169 (by decide +kernel) ?_
      refine u_icmp_ne B (tgt := 178) (by omega) (by omega) dX10_hasItsSize_171 (by decide +kernel) (fun c21 => ?_) (fun c21 => ?_)
      · refine v_iconst B (v := iI 0) dX10_hasItsSize_178 rfl ?_
        exact hend 0 _ _ ⟨by omega, by omega⟩ dX10_hasItsSize_179
      · refine v_iconst B (v := iI 1) dX10_hasItsSize_174 rfl ?_
        refine v_goto B (tgt := 179) dX10_hasItsSize_175 (by decide +kernel) ?_
        exact hend 1 _ _ ⟨by omega, by omega⟩ dX10_hasItsSize_179
    | 15, o4, x5 =>
      replace o4 : o2 = 201 := by simp at o4; omega
      obtain rfl : g3 = 202 := by omega
      refine v_iload_n B dX10_hasItsSize_202 rfl rfl ?_
      refine v_iconst B (v := iI 2) dX10_hasItsSize_203 rfl ?_
      refine u_icmp_ne B (tgt := 211) (by omega) (by omega) dX10_hasItsSize_204 (by decide +kernel) (fun c22 => ?_) (fun c22 => ?_)
      · refine v_iconst B (v := iI 0) dX10_hasItsSize_211 rfl ?_
        exact hend 0 _ _ ⟨by omega, by omega⟩ dX10_hasItsSize_212
      · refine v_iconst B (v := iI 1) dX10_hasItsSize_207 rfl ?_
        refine v_goto B (tgt := 212) dX10_hasItsSize_208 (by decide +kernel) ?_
        exact hend 1 _ _ ⟨by omega, by omega⟩ dX10_hasItsSize_212
    | 16, o4, x5 =>
      replace o4 : o2 = 179 := by simp at o4; omega
      obtain rfl : g3 = 180 := by omega
      refine v_iload_n B dX10_hasItsSize_180 rfl rfl ?_
      refine v_iconst B (v := iI 3) dX10_hasItsSize_181 rfl ?_
      refine u_icmp_lt B (tgt := 189) (by omega) (by omega) dX10_hasItsSize_182 (by decide +kernel) (fun c23 => ?_) (fun c23 => ?_)
      · refine v_iconst B (v := iI 0) dX10_hasItsSize_189 rfl ?_
        exact hend 0 _ _ ⟨by omega, by omega⟩ dX10_hasItsSize_190
      · refine v_iconst B (v := iI 1) dX10_hasItsSize_185 rfl ?_
        refine v_goto B (tgt := 190) dX10_hasItsSize_186 (by decide +kernel) ?_
        exact hend 1 _ _ ⟨by omega, by omega⟩ dX10_hasItsSize_190
    | 17, o4, x5 =>
      replace o4 : o2 = 201 := by simp at o4; omega
      obtain rfl : g3 = 202 := by omega
      refine v_iload_n B dX10_hasItsSize_202 rfl rfl ?_
      refine v_iconst B (v := iI 2) dX10_hasItsSize_203 rfl ?_
      refine u_icmp_ne B (tgt := 211) (by omega) (by omega) dX10_hasItsSize_204 (by decide +kernel) (fun c24 => ?_) (fun c24 => ?_)
      · refine v_iconst B (v := iI 0) dX10_hasItsSize_211 rfl ?_
        exact hend 0 _ _ ⟨by omega, by omega⟩ dX10_hasItsSize_212
      · refine v_iconst B (v := iI 1) dX10_hasItsSize_207 rfl ?_
        refine v_goto B (tgt := 212) dX10_hasItsSize_208 (by decide +kernel) ?_
        exact hend 1 _ _ ⟨by omega, by omega⟩ dX10_hasItsSize_212
    | 18, o4, x5 =>
      replace o4 : o2 = 201 := by simp at o4; omega
      obtain rfl : g3 = 202 := by omega
      refine v_iload_n B dX10_hasItsSize_202 rfl rfl ?_
      refine v_iconst B (v := iI 2) dX10_hasItsSize_203 rfl ?_
      refine u_icmp_ne B (tgt := 211) (by omega) (by omega) dX10_hasItsSize_204 (by decide +kernel) (fun c25 => ?_) (fun c25 => ?_)
      · refine v_iconst B (v := iI 0) dX10_hasItsSize_211 rfl ?_
        exact hend 0 _ _ ⟨by omega, by omega⟩ dX10_hasItsSize_212
      · refine v_iconst B (v := iI 1) dX10_hasItsSize_207 rfl ?_
        refine v_goto B (tgt := 212) dX10_hasItsSize_208 (by decide +kernel) ?_
        exact hend 1 _ _ ⟨by omega, by omega⟩ dX10_hasItsSize_212
    | 19, o4, x5 =>
      replace o4 : o2 = 201 := by simp at o4; omega
      obtain rfl : g3 = 202 := by omega
      refine v_iload_n B dX10_hasItsSize_202 rfl rfl ?_
      refine v_iconst B (v := iI 2) dX10_hasItsSize_203 rfl ?_
      refine u_icmp_ne B (tgt := 211) (by omega) (by omega) dX10_hasItsSize_204 (by decide +kernel) (fun c26 => ?_) (fun c26 => ?_)
      · refine v_iconst B (v := iI 0) dX10_hasItsSize_211 rfl ?_
        exact hend 0 _ _ ⟨by omega, by omega⟩ dX10_hasItsSize_212
      · refine v_iconst B (v := iI 1) dX10_hasItsSize_207 rfl ?_
        refine v_goto B (tgt := 212) dX10_hasItsSize_208 (by decide +kernel) ?_
        exact hend 1 _ _ ⟨by omega, by omega⟩ dX10_hasItsSize_212
    | 20, o4, x5 =>
      replace o4 : o2 = 190 := by simp at o4; omega
      obtain rfl : g3 = 191 := by omega
      refine v_iload_n B dX10_hasItsSize_191 rfl rfl ?_
      refine v_iconst B (v := iI 5) dX10_hasItsSize_192 rfl ?_
      refine u_icmp_lt B (tgt := 200) (by omega) (by omega) dX10_hasItsSize_193 (by decide +kernel) (fun c27 => ?_) (fun c27 => ?_)
      · refine v_iconst B (v := iI 0) dX10_hasItsSize_200 rfl ?_
        exact hend 0 _ _ ⟨by omega, by omega⟩ dX10_hasItsSize_201
      · refine v_iconst B (v := iI 1) dX10_hasItsSize_196 rfl ?_
        refine v_goto B (tgt := 201) dX10_hasItsSize_197 (by decide +kernel) ?_
        exact hend 1 _ _ ⟨by omega, by omega⟩ dX10_hasItsSize_201
    | i1 + 21, o4, x5 => exact absurd (o4.symm.trans (Array.getElem?_eq_none (by simp))) (by simp)
  · intro x5
    refine v_iload_n B dX10_hasItsSize_202 rfl rfl ?_
    refine v_iconst B (v := iI 2) dX10_hasItsSize_203 rfl ?_
    refine u_icmp_ne B (tgt := 211) (by omega) (by omega) dX10_hasItsSize_204 (by decide +kernel) (fun c28 => ?_) (fun c28 => ?_)
    · refine v_iconst B (v := iI 0) dX10_hasItsSize_211 rfl ?_
      exact hend 0 _ _ ⟨by omega, by omega⟩ dX10_hasItsSize_212
    · refine v_iconst B (v := iI 1) dX10_hasItsSize_207 rfl ?_
      refine v_goto B (tgt := 212) dX10_hasItsSize_208 (by decide +kernel) ?_
      exact hend 1 _ _ ⟨by omega, by omega⟩ dX10_hasItsSize_212
set_option maxRecDepth 100000 in
theorem c_Server_hasItsSize (l : Launch) (D : va_G) (K : Nat → ClassId) {τ : Nat → Option Ty} {dom : List Nat} (Z : Sk τ dom) (zb zL : Nat) (zx : Nat → Int32) (zs : Nat → Nat) (x0 : Int) (x1 : Int) (r_x0 : -2147483648 ≤ x0 ∧ x0 ≤ 2147483647) (r_x1 : -2147483648 ≤ x1 ∧ x1 ≤ 2147483647) (σ0 : Nat → va_E) (G0 : Good K τ σ0) : MZ l yX10_hasItsSize wp_Server_hasItsSize ({ frames := 0, cells := 0, slots := 0, locals := 0 }) D (tysA K) [.int (iI x0), .int (iI x1)] (fd dom σ0) zb zL zx zs (Qi D (fun r σ' => σ0 = σ' ∧ ∃ z : Int, r = iI z ∧ (0 ≤ z ∧ z ≤ 1)) (fun σ' => fd dom σ')) 0 0 := by
  refine mz_of (cc := cX10_hasItsSize) (maxL := 2) (ret := (some .boolean)) (by decide +kernel) rfl (Nat.le_of_ble_eq_true rfl) ?_
  intro p e s m below meth c A B hr hlk _ hz
  exact b_Server_hasItsSize ⟨Nat.le_refl _, Nat.le_refl _⟩ B Z hz x0 x1 r_x0 r_x1 σ0 G0 (fun z lv pc hZ hd => v_zret B hr hlk (nar01 (by omega)) σ0 ⟨rfl, z, rfl, hZ⟩ rfl (Nat.le_refl _) (Nat.le_refl _) hd)

def wp_Server_isGroup : List Cond := .code yX10_isGroup cX10_isGroup 1 (some .boolean) :: (([] : List Cond) ++ ([]))
set_option maxHeartbeats 4000000 in
set_option maxRecDepth 100000 in
theorem b_Server_isGroup {p : Program} {l : Launch} {e : Env} {R : Room} {s : State} {m : MethodId} {args : Array Value} {below : List Frame} {meth : Method} {c : Code} {D : va_G} {K : Nat → ClassId} {A : Nat → Prop} {Q : State → Prop} {τ : Nat → Option Ty} {dom : List Nat} {zb zL : Nat} {zx : Nat → Int32} {zs : Nat → Nat} (hR : 0 ≤ R.frames ∧ 0 ≤ R.locals) (B : Bx p s m args c cX10_isGroup 1 RX10 wp_Server_isGroup D (tysA K) A) (Z : Sk τ dom) (hz : ZL zb zL zx zs A s s.heap) (x0 : Int) (r_x0 : -2147483648 ≤ x0 ∧ x0 ≤ 2147483647) (σ0 : Nat → va_E) (G0 : Good K τ σ0) (hend : ∀ (z : Int) (lv : List (Nat × Value)) (pc : Nat), (0 ≤ z ∧ z ≤ 1) → decode cX10_isGroup pc = .ok (.ireturn, 1) → V p l e R s m args below meth c 1 D A Q (0, 0) (fd dom σ0) lv pc [.int (iI z)]) : V p l e R s m args below meth c 1 D A Q (0, 0) (fd dom σ0) [(0, .int (iI x0))] 0 [] := by
  have F0 : Fr τ [] σ0 σ0 := Fr.rf
  refine v_iload_n B dX10_isGroup_0 rfl rfl ?_
  refine v_sipush B (v := iI 10240) dX10_isGroup_1 (by decide +kernel) ?_
  refine u_icmp_eq B (tgt := 14) (by omega) (by omega) dX10_isGroup_4 (by decide +kernel) (fun c1 => ?_) (fun c1 => ?_)
  · refine v_iconst B (v := iI 1) dX10_isGroup_14 rfl ?_
    refine v_goto B (tgt := 19) dX10_isGroup_15 (by decide +kernel) ?_
    exact hend 1 _ _ ⟨by omega, by omega⟩ dX10_isGroup_19
  · refine v_iload_n B dX10_isGroup_7 rfl rfl ?_
    refine v_sipush B (v := iI 10241) dX10_isGroup_8 (by decide +kernel) ?_
    refine u_icmp_ne B (tgt := 18) (by omega) (by omega) dX10_isGroup_11 (by decide +kernel) (fun c2 => ?_) (fun c2 => ?_)
    · refine v_iconst B (v := iI 0) dX10_isGroup_18 rfl ?_
      exact hend 0 _ _ ⟨by omega, by omega⟩ dX10_isGroup_19
    · refine v_iconst B (v := iI 1) dX10_isGroup_14 rfl ?_
      refine v_goto B (tgt := 19) dX10_isGroup_15 (by decide +kernel) ?_
      exact hend 1 _ _ ⟨by omega, by omega⟩ dX10_isGroup_19
set_option maxRecDepth 100000 in
theorem c_Server_isGroup (l : Launch) (D : va_G) (K : Nat → ClassId) {τ : Nat → Option Ty} {dom : List Nat} (Z : Sk τ dom) (zb zL : Nat) (zx : Nat → Int32) (zs : Nat → Nat) (x0 : Int) (r_x0 : -2147483648 ≤ x0 ∧ x0 ≤ 2147483647) (σ0 : Nat → va_E) (G0 : Good K τ σ0) : MZ l yX10_isGroup wp_Server_isGroup ({ frames := 0, cells := 0, slots := 0, locals := 0 }) D (tysA K) [.int (iI x0)] (fd dom σ0) zb zL zx zs (Qi D (fun r σ' => σ0 = σ' ∧ ∃ z : Int, r = iI z ∧ (0 ≤ z ∧ z ≤ 1)) (fun σ' => fd dom σ')) 0 0 := by
  refine mz_of (cc := cX10_isGroup) (maxL := 1) (ret := (some .boolean)) (by decide +kernel) rfl (Nat.le_of_ble_eq_true rfl) ?_
  intro p e s m below meth c A B hr hlk _ hz
  exact b_Server_isGroup ⟨Nat.le_refl _, Nat.le_refl _⟩ B Z hz x0 r_x0 σ0 G0 (fun z lv pc hZ hd => v_zret B hr hlk (nar01 (by omega)) σ0 ⟨rfl, z, rfl, hZ⟩ rfl (Nat.le_refl _) (Nat.le_refl _) hd)

def wp_Server_refuse : List Cond := .code yX10_refuse cX10_refuse 4 none :: (([.methodLink RX10 83 yX9_put, .instanceMethod yX9_put, .selects RX9 yX9_put yX9_put, .initialized RX9, .code yX9_put cX9_put 2 none, .fieldLink RX9 21 "LowEnergy$Row" "size" "I", .fieldLink RX9 15 "LowEnergy$Row" "bytes" "[I", .methodLink RX10 108 yX9_putNumber, .instanceMethod yX9_putNumber, .selects RX9 yX9_putNumber yX9_putNumber, .code yX9_putNumber cX9_putNumber 5 none, .constantLong RX9 25 (255)] : List Cond) ++ (wsX90 ++ ([])))
theorem hi_Server_refuse_X9 : ∀ x ∈ u_ws RX9 TX9 2, x ∈ wp_Server_refuse := fun _ h => List.mem_cons_of_mem _ (List.mem_append_right _ (List.mem_append_left _ h))
set_option maxRecDepth 100000 in
theorem gd_Server_refuse_Row_put_83 : GoodIn wp_Server_refuse (wsV RX10 83 RX9 yX9_put wp_Row_put) := goodIn_app (goodIn_r _ [1, 2, 3, 4] rfl rfl) (goodIn_ca (goodIn_r _ [5, 6, 7] rfl rfl) (goodIn_app (goodIn_cls hi_Server_refuse_X9 gw_X9) (goodIn_nil)))
set_option maxRecDepth 100000 in
theorem gd_Server_refuse_Row_putNumber_108 : GoodIn wp_Server_refuse (wsV RX10 108 RX9 yX9_putNumber wp_Row_putNumber) := goodIn_app (goodIn_r _ [8, 9, 10, 4] rfl rfl) (goodIn_ca (goodIn_r _ [11, 6, 7, 12] rfl rfl) (goodIn_app (goodIn_cls hi_Server_refuse_X9 gw_X9) (goodIn_nil)))
set_option maxHeartbeats 4000000 in
set_option maxRecDepth 100000 in
theorem b_Server_refuse {p : Program} {l : Launch} {e : Env} {R : Room} {s : State} {m : MethodId} {args : Array Value} {below : List Frame} {meth : Method} {c : Code} {D : va_G} {K : Nat → ClassId} {A : Nat → Prop} {Q : State → Prop} {τ : Nat → Option Ty} {dom : List Nat} {zb zL : Nat} {zx : Nat → Int32} {zs : Nat → Nat} (hR : 1 ≤ R.frames ∧ 24 ≤ R.locals) (B : Bx p s m args c cX10_refuse 4 RX10 wp_Server_refuse D (tysA K) A) (Z : Sk τ dom) (hz : ZL zb zL zx zs A s s.heap) (x0 : Int) (x1 : Int) (x2 : Int) (g : Nat) (r_x0 : -2147483648 ≤ x0 ∧ x0 ≤ 2147483647) (r_x1 : -2147483648 ≤ x1 ∧ x1 ≤ 2147483647) (r_x2 : -2147483648 ≤ x2 ∧ x2 ≤ 2147483647) (t_g : τ g = some (1, 8, 0)) (σ0 : Nat → va_E) (G0 : Good K τ σ0) (hend : ∀ (σ' : Nat → va_E) (lv : List (Nat × Value)) (pc : Nat), Good K τ σ' → Fr τ [(2, 8), (1, 8)] σ0 σ' → decode cX10_refuse pc = .ok (.return_, 1) → V p l e R s m args below meth c 4 D A Q (0, 0) (fd dom σ') lv pc []) : V p l e R s m args below meth c 4 D A Q (0, 0) (fd dom σ0) [(0, .int (iI x0)), (1, .int (iI x1)), (2, .int (iI x2)), (3, .ref g)] 0 [] := by
  have F0 : Fr τ [(2, 8), (1, 8)] σ0 σ0 := Fr.rf
  refine v_aload_n B dX10_refuse_0 rfl rfl ?_
  refine v_iconst B (v := iI 1) dX10_refuse_1 rfl ?_
  refine u_callVv B Z hz (n := 1) (As := [.int (iI 1)]) (rest := []) (c_Row_put l D K Z _ _ _ _ g 1 t_g ⟨by omega, by omega⟩ σ0 G0) gd_Server_refuse_Row_put_83 rfl rfl rfl (by decide +kernel) ⟨Nat.le_trans (by decide +kernel) hR.1, Nat.le_trans (by decide +kernel) hR.2⟩ t_g (cls_Row G0 t_g) rfl rfl rfl rfl (Nat.le_of_ble_eq_true rfl) dX10_refuse_2 ⟨Nat.zero_le _, Nat.zero_le _⟩ (fun σ1 p2 => ?_)
  obtain ⟨G4, F5⟩ := p2
  have F6 := F0.call F5 (by first | rfl | simp)
  refine v_aload_n B dX10_refuse_5 rfl rfl ?_
  refine v_iload_n B dX10_refuse_6 rfl rfl ?_
  refine u_callVv B Z hz (n := 1) (As := [.int (iI x0)]) (rest := []) (c_Row_put l D K Z _ _ _ _ g x0 t_g ⟨by omega, by omega⟩ σ1 G4) gd_Server_refuse_Row_put_83 rfl rfl rfl (by decide +kernel) ⟨Nat.le_trans (by decide +kernel) hR.1, Nat.le_trans (by decide +kernel) hR.2⟩ t_g (cls_Row G4 t_g) rfl rfl rfl rfl (Nat.le_of_ble_eq_true rfl) dX10_refuse_7 ⟨Nat.zero_le _, Nat.zero_le _⟩ (fun σ7 p8 => ?_)
  obtain ⟨G10, F11⟩ := p8
  have F12 := F6.call F11 (by first | rfl | simp)
  refine v_aload_n B dX10_refuse_10 rfl rfl ?_
  refine v_iload_n B dX10_refuse_11 rfl rfl ?_
  refine v_i2l B (v := lI x1) dX10_refuse_12 (lI_i (by omega)) ?_
  refine v_iconst B (v := iI 2) dX10_refuse_13 rfl ?_
  refine u_callVv B Z hz (n := 2) (As := [.long (lI x1), .int (iI 2)]) (rest := []) (c_Row_putNumber l D K Z _ _ _ _ g x1 2 t_g ⟨by omega, by omega⟩ ⟨by omega, by omega⟩ σ7 G10) gd_Server_refuse_Row_putNumber_108 rfl rfl rfl (by decide +kernel) ⟨Nat.le_trans (by decide +kernel) hR.1, Nat.le_trans (by decide +kernel) hR.2⟩ t_g (cls_Row G10 t_g) rfl rfl rfl rfl (Nat.le_of_ble_eq_true rfl) dX10_refuse_14 ⟨Nat.zero_le _, Nat.zero_le _⟩ (fun σ13 p14 => ?_)
  obtain ⟨G16, F17⟩ := p14
  have F18 := F12.call F17 (by first | rfl | simp)
  refine v_aload_n B dX10_refuse_17 rfl rfl ?_
  refine v_iload_n B dX10_refuse_18 rfl rfl ?_
  refine u_callVv B Z hz (n := 1) (As := [.int (iI x2)]) (rest := []) (c_Row_put l D K Z _ _ _ _ g x2 t_g ⟨by omega, by omega⟩ σ13 G16) gd_Server_refuse_Row_put_83 rfl rfl rfl (by decide +kernel) ⟨Nat.le_trans (by decide +kernel) hR.1, Nat.le_trans (by decide +kernel) hR.2⟩ t_g (cls_Row G16 t_g) rfl rfl rfl rfl (Nat.le_of_ble_eq_true rfl) dX10_refuse_19 ⟨Nat.zero_le _, Nat.zero_le _⟩ (fun σ19 p20 => ?_)
  obtain ⟨G22, F23⟩ := p20
  have F24 := F18.call F23 (by first | rfl | simp)
  exact hend σ19 _ _ G22 F24 dX10_refuse_22
set_option maxRecDepth 100000 in
theorem c_Server_refuse (l : Launch) (D : va_G) (K : Nat → ClassId) {τ : Nat → Option Ty} {dom : List Nat} (Z : Sk τ dom) (zb zL : Nat) (zx : Nat → Int32) (zs : Nat → Nat) (x0 : Int) (x1 : Int) (x2 : Int) (g : Nat) (r_x0 : -2147483648 ≤ x0 ∧ x0 ≤ 2147483647) (r_x1 : -2147483648 ≤ x1 ∧ x1 ≤ 2147483647) (r_x2 : -2147483648 ≤ x2 ∧ x2 ≤ 2147483647) (t_g : τ g = some (1, 8, 0)) (σ0 : Nat → va_E) (G0 : Good K τ σ0) : MZ l yX10_refuse wp_Server_refuse ({ frames := 1, cells := 0, slots := 0, locals := 24 }) D (tysA K) [.int (iI x0), .int (iI x1), .int (iI x2), .ref g] (fd dom σ0) zb zL zx zs (Qv D (fun σ' => Good K τ σ' ∧ Fr τ [(2, 8), (1, 8)] σ0 σ') (fun σ' => fd dom σ')) 0 0 := by
  refine mz_of (cc := cX10_refuse) (maxL := 4) (ret := none) (by decide +kernel) rfl (Nat.le_of_ble_eq_true rfl) ?_
  intro p e s m below meth c A B hr hlk _ hz
  exact b_Server_refuse ⟨Nat.le_refl _, Nat.le_refl _⟩ B Z hz x0 x1 x2 g r_x0 r_x1 r_x2 t_g σ0 G0 (fun σ' lv pc G F hd => v_vret B hr hlk σ' ⟨G, F⟩ rfl (Nat.le_refl _) (Nat.le_refl _) hd)

def wp_Server_faultOfRead : List Cond := .code yX10_faultOfRead cX10_faultOfRead 4 (some .int) :: (([.fieldLink RX10 56 "LowEnergy$Server" "count" "I", .fieldLink RX10 15 "LowEnergy$Server" "rights" "[I"] : List Cond) ++ (wsX100 ++ ([])))
theorem hi_Server_faultOfRead_X10 : ∀ x ∈ u_ws RX10 TX10 10, x ∈ wp_Server_faultOfRead := fun _ h => List.mem_cons_of_mem _ (List.mem_append_right _ (List.mem_append_left _ h))
set_option maxHeartbeats 4000000 in
set_option maxRecDepth 100000 in
theorem b_Server_faultOfRead {p : Program} {l : Launch} {e : Env} {R : Room} {s : State} {m : MethodId} {args : Array Value} {below : List Frame} {meth : Method} {c : Code} {D : va_G} {K : Nat → ClassId} {A : Nat → Prop} {Q : State → Prop} {τ : Nat → Option Ty} {dom : List Nat} {zb zL : Nat} {zx : Nat → Int32} {zs : Nat → Nat} (hR : 0 ≤ R.frames ∧ 0 ≤ R.locals) (B : Bx p s m args c cX10_faultOfRead 4 RX10 wp_Server_faultOfRead D (tysA K) A) (Z : Sk τ dom) (hz : ZL zb zL zx zs A s s.heap) (h : Nat) (x1 : Int) (x2 : Int) (t_h : τ h = some (40, 0, 0)) (r_x1 : -2147483648 ≤ x1 ∧ x1 ≤ 2147483647) (r_x2 : 0 ≤ x2 ∧ x2 ≤ 1) (σ0 : Nat → va_E) (G0 : Good K τ σ0) (hend : ∀ (z : Int) (lv : List (Nat × Value)) (pc : Nat), (0 ≤ z ∧ z ≤ 5) → decode cX10_faultOfRead pc = .ok (.ireturn, 1) → V p l e R s m args below meth c 4 D A Q (0, 0) (fd dom σ0) lv pc [.int (iI z)]) : V p l e R s m args below meth c 4 D A Q (0, 0) (fd dom σ0) [(0, .ref h), (1, .int (iI x1)), (2, .int (iI x2))] 0 [] := by
  have F0 : Fr τ [] σ0 σ0 := Fr.rf
  refine v_iload_n B dX10_faultOfRead_0 rfl rfl ?_
  refine v_iconst B (v := iI 1) dX10_faultOfRead_1 rfl ?_
  refine u_icmp_lt B (tgt := 22) (by omega) (by omega) dX10_faultOfRead_2 (by decide +kernel) (fun c1 => ?_) (fun c1 => ?_)
  · refine v_iconst B (v := iI 1) dX10_faultOfRead_22 rfl ?_
    exact hend 1 _ _ ⟨by omega, by omega⟩ dX10_faultOfRead_23
  · refine v_iload_n B dX10_faultOfRead_5 rfl rfl ?_
    refine v_aload_n B dX10_faultOfRead_6 rfl rfl ?_
    obtain ⟨a2, a3, a4, z5, z6, z7, a8, z9, z10, a11, h12, t13, t14, t15, r16, r17, r18, t19, r20, r21, t22⟩ : okServer τ (σ0 h) := G0 h _ t_h
    refine u_get B Z (C := RX10) (T := TX10) (N := 10) (ci := 10) hi_Server_faultOfRead_X10 t_h h12 rfl 3 (by decide +kernel) (List.mem_of_getElem? (i := 1) rfl) rfl dX10_faultOfRead_7 ?_
    refine u_icmp_gt B (tgt := 22) (by omega) (by omega) dX10_faultOfRead_10 (by decide +kernel) (fun c23 => ?_) (fun c23 => ?_)
    · refine v_iconst B (v := iI 1) dX10_faultOfRead_22 rfl ?_
      exact hend 1 _ _ ⟨by omega, by omega⟩ dX10_faultOfRead_23
    · refine v_iload_n B dX10_faultOfRead_13 rfl rfl ?_
      refine v_aload_n B dX10_faultOfRead_14 rfl rfl ?_
      refine u_get B Z (C := RX10) (T := TX10) (N := 10) (ci := 10) hi_Server_faultOfRead_X10 t_h h12 rfl 1 (by decide +kernel) (List.mem_of_getElem? (i := 2) rfl) rfl dX10_faultOfRead_15 ?_
      obtain ⟨f24, h25, r26⟩ : okP K 20 (σ0 a3) := G0 a3 _ t14
      refine u_alen B Z (t0 := 0) (v := 20) t14 h25 rfl (by first | rfl | omega) dX10_faultOfRead_18 ?_
      refine u_icmp_le B (tgt := 24) (by omega) (by omega) dX10_faultOfRead_19 (by decide +kernel) (fun c27 => ?_) (fun c27 => by omega)
      refine v_aload_n B dX10_faultOfRead_24 rfl rfl ?_
      refine u_get B Z (C := RX10) (T := TX10) (N := 10) (ci := 10) hi_Server_faultOfRead_X10 t_h h12 rfl 1 (by decide +kernel) (List.mem_of_getElem? (i := 2) rfl) rfl dX10_faultOfRead_25 ?_
      refine v_iload_n B dX10_faultOfRead_28 rfl rfl ?_
      refine v_iconst B (v := iI 1) dX10_faultOfRead_29 rfl ?_
      refine v_isub B (v := iI (x1 + (-1))) dX10_faultOfRead_30 ((iI_sub _ _).trans (congrArg iI (by omega))) ?_
      obtain ⟨z28, e29, r30⟩ := iI_any (f24 ((x1 + (-1)) : Int).toNat)
      refine u_iald B Z (t0 := 0) t14 h25 rfl (by omega) e29 dX10_faultOfRead_31 ?_
      refine v_istore_n B (lv' := [(3, .int (iI z28)), (0, .ref h), (1, .int (iI x1)), (2, .int (iI x2))]) dX10_faultOfRead_32 rfl (by decide +kernel) rfl ?_
      refine v_iload_n B dX10_faultOfRead_33 rfl rfl ?_
      refine v_iconst B (v := iI 1) dX10_faultOfRead_34 rfl ?_
      obtain ⟨z31, e32, r33⟩ := iI_and z28 (c := 1) (by decide) (by decide)
      refine v_iand B (v := iI z31) dX10_faultOfRead_35 e32 ?_
      refine u_if_ne B (tgt := 41) (by omega) dX10_faultOfRead_36 (by decide +kernel) (fun c34 => ?_) (fun c34 => ?_)
      · refine v_iload_n B dX10_faultOfRead_41 rfl rfl ?_
        refine v_iconst B (v := iI 4) dX10_faultOfRead_42 rfl ?_
        obtain ⟨z35, e36, r37⟩ := iI_and z28 (c := 4) (by decide) (by decide)
        refine v_iand B (v := iI z35) dX10_faultOfRead_43 e36 ?_
        refine u_if_eq B (tgt := 55) (by omega) dX10_faultOfRead_44 (by decide +kernel) (fun c38 => ?_) (fun c38 => ?_)
        · refine v_iconst B (v := iI 0) dX10_faultOfRead_55 rfl ?_
          exact hend 0 _ _ ⟨by omega, by omega⟩ dX10_faultOfRead_56
        · refine v_iload_n B dX10_faultOfRead_47 rfl rfl ?_
          refine u_if_ne B (tgt := 55) (by omega) dX10_faultOfRead_48 (by decide +kernel) (fun c39 => ?_) (fun c39 => ?_)
          · refine v_iconst B (v := iI 0) dX10_faultOfRead_55 rfl ?_
            exact hend 0 _ _ ⟨by omega, by omega⟩ dX10_faultOfRead_56
          · refine v_iconst B (v := iI 5) dX10_faultOfRead_51 rfl ?_
            refine v_goto B (tgt := 56) dX10_faultOfRead_52 (by decide +kernel) ?_
            exact hend 5 _ _ ⟨by omega, by omega⟩ dX10_faultOfRead_56
      · refine v_iconst B (v := iI 2) dX10_faultOfRead_39 rfl ?_
        exact hend 2 _ _ ⟨by omega, by omega⟩ dX10_faultOfRead_40
set_option maxRecDepth 100000 in
theorem c_Server_faultOfRead (l : Launch) (D : va_G) (K : Nat → ClassId) {τ : Nat → Option Ty} {dom : List Nat} (Z : Sk τ dom) (zb zL : Nat) (zx : Nat → Int32) (zs : Nat → Nat) (h : Nat) (x1 : Int) (x2 : Int) (t_h : τ h = some (40, 0, 0)) (r_x1 : -2147483648 ≤ x1 ∧ x1 ≤ 2147483647) (r_x2 : 0 ≤ x2 ∧ x2 ≤ 1) (σ0 : Nat → va_E) (G0 : Good K τ σ0) : MZ l yX10_faultOfRead wp_Server_faultOfRead ({ frames := 0, cells := 0, slots := 0, locals := 0 }) D (tysA K) [.ref h, .int (iI x1), .int (iI x2)] (fd dom σ0) zb zL zx zs (Qi D (fun r σ' => σ0 = σ' ∧ ∃ z : Int, r = iI z ∧ (0 ≤ z ∧ z ≤ 5)) (fun σ' => fd dom σ')) 0 0 := by
  refine mz_of (cc := cX10_faultOfRead) (maxL := 4) (ret := (some .int)) (by decide +kernel) rfl (Nat.le_of_ble_eq_true rfl) ?_
  intro p e s m below meth c A B hr hlk _ hz
  exact b_Server_faultOfRead ⟨Nat.le_refl _, Nat.le_refl _⟩ B Z hz h x1 x2 t_h r_x1 r_x2 σ0 G0 (fun z lv pc hZ hd => v_iret B hr hlk σ0 ⟨rfl, z, rfl, hZ⟩ rfl (Nat.le_refl _) (Nat.le_refl _) hd)

def wp_Server_faultOfWrite : List Cond := .code yX10_faultOfWrite cX10_faultOfWrite 5 (some .int) :: (([.methodLink RX10 63 yX9_at, .instanceMethod yX9_at, .selects RX9 yX9_at yX9_at, .initialized RX9, .code yX9_at cX9_at 2 (some .int), .fieldLink RX9 21 "LowEnergy$Row" "size" "I", .fieldLink RX9 15 "LowEnergy$Row" "bytes" "[I", .fieldLink RX10 40 "LowEnergy$Server" "partCount" "I", .methodLink RX10 76 yX9_two, .instanceMethod yX9_two, .selects RX9 yX9_two yX9_two, .code yX9_two cX9_two 2 (some .int), .fieldLink RX10 56 "LowEnergy$Server" "count" "I", .fieldLink RX10 15 "LowEnergy$Server" "rights" "[I"] : List Cond) ++ (wsX90 ++ (wsX100 ++ ([]))))
theorem hi_Server_faultOfWrite_X9 : ∀ x ∈ u_ws RX9 TX9 2, x ∈ wp_Server_faultOfWrite := fun _ h => List.mem_cons_of_mem _ (List.mem_append_right _ (List.mem_append_left _ h))
theorem hi_Server_faultOfWrite_X10 : ∀ x ∈ u_ws RX10 TX10 10, x ∈ wp_Server_faultOfWrite := fun _ h => List.mem_cons_of_mem _ (List.mem_append_right _ (List.mem_append_right _ (List.mem_append_left _ h)))
set_option maxRecDepth 100000 in
theorem gd_Server_faultOfWrite_Row_at_63 : GoodIn wp_Server_faultOfWrite (wsV RX10 63 RX9 yX9_at wp_Row_at) := goodIn_app (goodIn_r _ [1, 2, 3, 4] rfl rfl) (goodIn_ca (goodIn_r _ [5, 6, 7] rfl rfl) (goodIn_app (goodIn_cls hi_Server_faultOfWrite_X9 gw_X9) (goodIn_nil)))
set_option maxRecDepth 100000 in
theorem gd_Server_faultOfWrite_Row_two_76 : GoodIn wp_Server_faultOfWrite (wsV RX10 76 RX9 yX9_two wp_Row_two) := goodIn_app (goodIn_r _ [9, 10, 11, 4] rfl rfl) (goodIn_ca (goodIn_r _ [12, 6, 7] rfl rfl) (goodIn_app (goodIn_cls hi_Server_faultOfWrite_X9 gw_X9) (goodIn_nil)))
set_option maxHeartbeats 4000000 in
set_option maxRecDepth 100000 in
theorem b_Server_faultOfWrite {p : Program} {l : Launch} {e : Env} {R : Room} {s : State} {m : MethodId} {args : Array Value} {below : List Frame} {meth : Method} {c : Code} {D : va_G} {K : Nat → ClassId} {A : Nat → Prop} {Q : State → Prop} {τ : Nat → Option Ty} {dom : List Nat} {zb zL : Nat} {zx : Nat → Int32} {zs : Nat → Nat} (hR : 1 ≤ R.frames ∧ 21 ≤ R.locals) (B : Bx p s m args c cX10_faultOfWrite 5 RX10 wp_Server_faultOfWrite D (tysA K) A) (Z : Sk τ dom) (hz : ZL zb zL zx zs A s s.heap) (h : Nat) (w0 : Nat) (x2 : Int) (t_h : τ h = some (40, 0, 0)) (t_w0 : τ w0 = some (1, 12, 0)) (r_x2 : 0 ≤ x2 ∧ x2 ≤ 1) (σ0 : Nat → va_E) (G0 : Good K τ σ0) (hend : ∀ (z : Int) (lv : List (Nat × Value)) (pc : Nat), (0 ≤ z ∧ z ≤ 13) → decode cX10_faultOfWrite pc = .ok (.ireturn, 1) → V p l e R s m args below meth c 5 D A Q (0, 0) (fd dom σ0) lv pc [.int (iI z)]) : V p l e R s m args below meth c 5 D A Q (0, 0) (fd dom σ0) [(0, .ref h), (1, .ref w0), (2, .int (iI x2))] 0 [] := by
  have F0 : Fr τ [] σ0 σ0 := Fr.rf
  have J62 : V p l e R s m args below meth c 5 D A Q (0, 0) (fd dom σ0) [(0, .ref h), (1, .ref w0)] 62 [] := by
    refine v_aload_n B dX10_faultOfWrite_62 rfl rfl ?_
    refine v_iconst B (v := iI 0) dX10_faultOfWrite_63 rfl ?_
    refine u_callVi B Z hz (n := 1) (As := [.int (iI 0)]) (rest := []) (c_Row_at l D K Z _ _ _ _ w0 0 t_w0 ⟨by omega, by omega⟩ σ0 G0) gd_Server_faultOfWrite_Row_at_63 rfl rfl rfl (by decide +kernel) ⟨Nat.le_trans (by decide +kernel) hR.1, Nat.le_trans (by decide +kernel) hR.2⟩ t_w0 (cls_Row G0 t_w0) rfl rfl rfl rfl (Nat.le_of_ble_eq_true rfl) dX10_faultOfWrite_64 ⟨Nat.zero_le _, Nat.zero_le _⟩ (fun v3 σ1 p2 => ?_)
    obtain ⟨rfl, z7, e8, r9⟩ := p2
    subst e8
    refine v_bipush B (v := iI 22) dX10_faultOfWrite_67 (by decide +kernel) ?_
    refine u_icmp_ne B (tgt := 88) (by omega) (by omega) dX10_faultOfWrite_69 (by decide +kernel) (fun c10 => ?_) (fun c10 => ?_)
    · refine v_aload_n B dX10_faultOfWrite_88 rfl rfl ?_
      obtain ⟨b11, N12, n13, h14, t15, r16⟩ : okRow τ 12 (σ0 w0) := G0 w0 _ t_w0
      refine u_getN B Z (C := RX9) (T := TX9) (N := 2) (ci := 9) hi_Server_faultOfWrite_X9 t_w0 h14 rfl 1 (by decide +kernel) (List.mem_of_getElem? (i := 96) rfl) rfl dX10_faultOfWrite_89 ?_
      refine v_iconst B (v := iI 3) dX10_faultOfWrite_92 rfl ?_
      refine v_isub B (v := iI (n13 + (-3))) dX10_faultOfWrite_93 ((iI_sub _ _).trans (congrArg iI (by omega))) ?_
      refine v_bipush B (v := iI 40) dX10_faultOfWrite_94 (by decide +kernel) ?_
      refine u_icmp_le B (tgt := 104) (by omega) (by omega) dX10_faultOfWrite_96 (by decide +kernel) (fun c17 => ?_) (fun c17 => ?_)
      · refine v_iconst B (v := iI 0) dX10_faultOfWrite_104 rfl ?_
        exact hend 0 _ _ ⟨by omega, by omega⟩ dX10_faultOfWrite_105
      · refine v_bipush B (v := iI 13) dX10_faultOfWrite_99 (by decide +kernel) ?_
        refine v_goto B (tgt := 105) dX10_faultOfWrite_101 (by decide +kernel) ?_
        exact hend 13 _ _ ⟨by omega, by omega⟩ dX10_faultOfWrite_105
    · refine v_aload_n B dX10_faultOfWrite_72 rfl rfl ?_
      obtain ⟨a18, a19, a20, z21, z22, z23, a24, z25, z26, a27, h28, t29, t30, t31, r32, r33, r34, t35, r36, r37, t38⟩ : okServer τ (σ0 h) := G0 h _ t_h
      refine u_get B Z (C := RX10) (T := TX10) (N := 10) (ci := 10) hi_Server_faultOfWrite_X10 t_h h28 rfl 7 (by decide +kernel) (List.mem_of_getElem? (i := 8) rfl) rfl dX10_faultOfWrite_73 ?_
      refine v_bipush B (v := iI 6) dX10_faultOfWrite_76 (by decide +kernel) ?_
      refine u_icmp_lt B (tgt := 86) (by omega) (by omega) dX10_faultOfWrite_78 (by decide +kernel) (fun c39 => ?_) (fun c39 => ?_)
      · refine v_iconst B (v := iI 0) dX10_faultOfWrite_86 rfl ?_
        exact hend 0 _ _ ⟨by omega, by omega⟩ dX10_faultOfWrite_87
      · refine v_bipush B (v := iI 9) dX10_faultOfWrite_81 (by decide +kernel) ?_
        refine v_goto B (tgt := 87) dX10_faultOfWrite_83 (by decide +kernel) ?_
        exact hend 9 _ _ ⟨by omega, by omega⟩ dX10_faultOfWrite_87
  refine v_aload_n B dX10_faultOfWrite_0 rfl rfl ?_
  refine v_iconst B (v := iI 1) dX10_faultOfWrite_1 rfl ?_
  refine u_callVi B Z hz (n := 1) (As := [.int (iI 1)]) (rest := []) (c_Row_two l D K Z _ _ _ _ w0 1 t_w0 ⟨by omega, by omega⟩ σ0 G0) gd_Server_faultOfWrite_Row_two_76 rfl rfl rfl (by decide +kernel) ⟨Nat.le_trans (by decide +kernel) hR.1, Nat.le_trans (by decide +kernel) hR.2⟩ t_w0 (cls_Row G0 t_w0) rfl rfl rfl rfl (Nat.le_of_ble_eq_true rfl) dX10_faultOfWrite_2 ⟨Nat.zero_le _, Nat.zero_le _⟩ (fun v42 σ40 p41 => ?_)
  obtain ⟨rfl, z46, e47, r48⟩ := p41
  subst e47
  refine v_istore_n B (lv' := [(3, .int (iI z46)), (0, .ref h), (1, .ref w0), (2, .int (iI x2))]) dX10_faultOfWrite_5 rfl (by decide +kernel) rfl ?_
  refine v_iload_n B dX10_faultOfWrite_6 rfl rfl ?_
  refine v_iconst B (v := iI 1) dX10_faultOfWrite_7 rfl ?_
  refine u_icmp_lt B (tgt := 28) (by omega) (by omega) dX10_faultOfWrite_8 (by decide +kernel) (fun c49 => ?_) (fun c49 => ?_)
  · refine v_iconst B (v := iI 1) dX10_faultOfWrite_28 rfl ?_
    exact hend 1 _ _ ⟨by omega, by omega⟩ dX10_faultOfWrite_29
  · refine v_iload_n B dX10_faultOfWrite_11 rfl rfl ?_
    refine v_aload_n B dX10_faultOfWrite_12 rfl rfl ?_
    obtain ⟨a50, a51, a52, z53, z54, z55, a56, z57, z58, a59, h60, t61, t62, t63, r64, r65, r66, t67, r68, r69, t70⟩ : okServer τ (σ0 h) := G0 h _ t_h
    refine u_get B Z (C := RX10) (T := TX10) (N := 10) (ci := 10) hi_Server_faultOfWrite_X10 t_h h60 rfl 3 (by decide +kernel) (List.mem_of_getElem? (i := 13) rfl) rfl dX10_faultOfWrite_13 ?_
    refine u_icmp_gt B (tgt := 28) (by omega) (by omega) dX10_faultOfWrite_16 (by decide +kernel) (fun c71 => ?_) (fun c71 => ?_)
    · refine v_iconst B (v := iI 1) dX10_faultOfWrite_28 rfl ?_
      exact hend 1 _ _ ⟨by omega, by omega⟩ dX10_faultOfWrite_29
    · refine v_iload_n B dX10_faultOfWrite_19 rfl rfl ?_
      refine v_aload_n B dX10_faultOfWrite_20 rfl rfl ?_
      refine u_get B Z (C := RX10) (T := TX10) (N := 10) (ci := 10) hi_Server_faultOfWrite_X10 t_h h60 rfl 1 (by decide +kernel) (List.mem_of_getElem? (i := 14) rfl) rfl dX10_faultOfWrite_21 ?_
      obtain ⟨f72, h73, r74⟩ : okP K 20 (σ0 a51) := G0 a51 _ t62
      refine u_alen B Z (t0 := 0) (v := 20) t62 h73 rfl (by first | rfl | omega) dX10_faultOfWrite_24 ?_
      refine u_icmp_le B (tgt := 30) (by omega) (by omega) dX10_faultOfWrite_25 (by decide +kernel) (fun c75 => ?_) (fun c75 => by omega)
      refine v_aload_n B dX10_faultOfWrite_30 rfl rfl ?_
      refine u_get B Z (C := RX10) (T := TX10) (N := 10) (ci := 10) hi_Server_faultOfWrite_X10 t_h h60 rfl 1 (by decide +kernel) (List.mem_of_getElem? (i := 14) rfl) rfl dX10_faultOfWrite_31 ?_
      refine v_iload_n B dX10_faultOfWrite_34 rfl rfl ?_
      refine v_iconst B (v := iI 1) dX10_faultOfWrite_35 rfl ?_
      refine v_isub B (v := iI (z46 + (-1))) dX10_faultOfWrite_36 ((iI_sub _ _).trans (congrArg iI (by omega))) ?_
      obtain ⟨z76, e77, r78⟩ := iI_any (f72 ((z46 + (-1)) : Int).toNat)
      refine u_iald B Z (t0 := 0) t62 h73 rfl (by omega) e77 dX10_faultOfWrite_37 ?_
      refine v_istore B (lv' := [(4, .int (iI z76)), (3, .int (iI z46)), (0, .ref h), (1, .ref w0), (2, .int (iI x2))]) dX10_faultOfWrite_38 (by decide +kernel) rfl ?_
      refine v_iload B dX10_faultOfWrite_40 rfl ?_
      refine v_iconst B (v := iI 2) dX10_faultOfWrite_42 rfl ?_
      obtain ⟨z79, e80, r81⟩ := iI_and z76 (c := 2) (by decide) (by decide)
      refine v_iand B (v := iI z79) dX10_faultOfWrite_43 e80 ?_
      refine u_if_ne B (tgt := 49) (by omega) dX10_faultOfWrite_44 (by decide +kernel) (fun c82 => ?_) (fun c82 => ?_)
      · refine v_iload B dX10_faultOfWrite_49 rfl ?_
        refine v_iconst B (v := iI 4) dX10_faultOfWrite_51 rfl ?_
        obtain ⟨z83, e84, r85⟩ := iI_and z76 (c := 4) (by decide) (by decide)
        refine v_iand B (v := iI z83) dX10_faultOfWrite_52 e84 ?_
        refine u_if_eq B (tgt := 62) (by omega) dX10_faultOfWrite_53 (by decide +kernel) (fun c86 => ?_) (fun c86 => ?_)
        · refine v_lv [2, 3] rfl ?_
          exact J62
        · refine v_iload_n B dX10_faultOfWrite_56 rfl rfl ?_
          refine u_if_ne B (tgt := 62) (by omega) dX10_faultOfWrite_57 (by decide +kernel) (fun c87 => ?_) (fun c87 => ?_)
          · refine v_lv [2, 3] rfl ?_
            exact J62
          · refine v_iconst B (v := iI 5) dX10_faultOfWrite_60 rfl ?_
            exact hend 5 _ _ ⟨by omega, by omega⟩ dX10_faultOfWrite_61
      · refine v_iconst B (v := iI 3) dX10_faultOfWrite_47 rfl ?_
        exact hend 3 _ _ ⟨by omega, by omega⟩ dX10_faultOfWrite_48
set_option maxRecDepth 100000 in
theorem c_Server_faultOfWrite (l : Launch) (D : va_G) (K : Nat → ClassId) {τ : Nat → Option Ty} {dom : List Nat} (Z : Sk τ dom) (zb zL : Nat) (zx : Nat → Int32) (zs : Nat → Nat) (h : Nat) (w0 : Nat) (x2 : Int) (t_h : τ h = some (40, 0, 0)) (t_w0 : τ w0 = some (1, 12, 0)) (r_x2 : 0 ≤ x2 ∧ x2 ≤ 1) (σ0 : Nat → va_E) (G0 : Good K τ σ0) : MZ l yX10_faultOfWrite wp_Server_faultOfWrite ({ frames := 1, cells := 0, slots := 0, locals := 21 }) D (tysA K) [.ref h, .ref w0, .int (iI x2)] (fd dom σ0) zb zL zx zs (Qi D (fun r σ' => σ0 = σ' ∧ ∃ z : Int, r = iI z ∧ (0 ≤ z ∧ z ≤ 13)) (fun σ' => fd dom σ')) 0 0 := by
  refine mz_of (cc := cX10_faultOfWrite) (maxL := 5) (ret := (some .int)) (by decide +kernel) rfl (Nat.le_of_ble_eq_true rfl) ?_
  intro p e s m below meth c A B hr hlk _ hz
  exact b_Server_faultOfWrite ⟨Nat.le_refl _, Nat.le_refl _⟩ B Z hz h w0 x2 t_h t_w0 r_x2 σ0 G0 (fun z lv pc hZ hd => v_iret B hr hlk σ0 ⟨rfl, z, rfl, hZ⟩ rfl (Nat.le_refl _) (Nat.le_refl _) hd)

def wp_Server_overwrite : List Cond := .code yX10_overwrite cX10_overwrite 3 none :: (([.methodLink RX10 76 yX9_two, .instanceMethod yX9_two, .selects RX9 yX9_two yX9_two, .initialized RX9, .code yX9_two cX9_two 2 (some .int), .fieldLink RX9 21 "LowEnergy$Row" "size" "I", .fieldLink RX9 15 "LowEnergy$Row" "bytes" "[I", .methodLink RX10 126 yX10_valueOf, .instanceMethod yX10_valueOf, .selects RX10 yX10_valueOf yX10_valueOf, .initialized RX10, .code yX10_valueOf cX10_valueOf 2 (some (.object "LowEnergy$Row")), .fieldLink RX10 56 "LowEnergy$Server" "count" "I", .fieldLink RX10 20 "LowEnergy$Server" "values" "[LLowEnergy$Row;", .methodLink RX10 130 yX9_clear, .instanceMethod yX9_clear, .selects RX9 yX9_clear yX9_clear, .code yX9_clear cX9_clear 1 none, .methodLink RX10 133 yX9_putPart, .instanceMethod yX9_putPart, .selects RX9 yX9_putPart yX9_putPart, .code yX9_putPart cX9_putPart 6 none, .methodLink RX9 9 Lib.Math.max.name, .static Lib.Math.max.name, .initialized "java/lang/Math", .code Lib.Math.max.name Lib.Math.max.code 2 (some .int)] : List Cond) ++ (wsX90 ++ (wsX100 ++ ([]))))
theorem hi_Server_overwrite_X9 : ∀ x ∈ u_ws RX9 TX9 2, x ∈ wp_Server_overwrite := fun _ h => List.mem_cons_of_mem _ (List.mem_append_right _ (List.mem_append_left _ h))
theorem hi_Server_overwrite_X10 : ∀ x ∈ u_ws RX10 TX10 10, x ∈ wp_Server_overwrite := fun _ h => List.mem_cons_of_mem _ (List.mem_append_right _ (List.mem_append_right _ (List.mem_append_left _ h)))
set_option maxRecDepth 100000 in
theorem gd_Server_overwrite_Row_two_76 : GoodIn wp_Server_overwrite (wsV RX10 76 RX9 yX9_two wp_Row_two) := goodIn_app (goodIn_r _ [1, 2, 3, 4] rfl rfl) (goodIn_ca (goodIn_r _ [5, 6, 7] rfl rfl) (goodIn_app (goodIn_cls hi_Server_overwrite_X9 gw_X9) (goodIn_nil)))
set_option maxRecDepth 100000 in
theorem gd_Server_overwrite_Server_valueOf_126 : GoodIn wp_Server_overwrite (wsV RX10 126 RX10 yX10_valueOf wp_Server_valueOf) := goodIn_app (goodIn_r _ [8, 9, 10, 11] rfl rfl) (goodIn_ca (goodIn_r _ [12, 13, 14] rfl rfl) (goodIn_app (goodIn_cls hi_Server_overwrite_X10 gw_X10) (goodIn_nil)))
set_option maxRecDepth 100000 in
theorem gd_Server_overwrite_Row_clear_130 : GoodIn wp_Server_overwrite (wsV RX10 130 RX9 yX9_clear wp_Row_clear) := goodIn_app (goodIn_r _ [15, 16, 17, 4] rfl rfl) (goodIn_ca (goodIn_r _ [18, 6] rfl rfl) (goodIn_app (goodIn_cls hi_Server_overwrite_X9 gw_X9) (goodIn_nil)))
set_option maxRecDepth 100000 in
theorem gd_Server_overwrite_Row_putPart_133 : GoodIn wp_Server_overwrite (wsV RX10 133 RX9 yX9_putPart wp_Row_putPart) := goodIn_app (goodIn_r _ [19, 20, 21, 4] rfl rfl) (goodIn_ca (goodIn_r _ [22, 6, 7, 23, 24, 25, 26] rfl rfl) (goodIn_app (goodIn_cls hi_Server_overwrite_X9 gw_X9) (goodIn_nil)))
set_option maxHeartbeats 4000000 in
set_option maxRecDepth 100000 in
theorem b_Server_overwrite {p : Program} {l : Launch} {e : Env} {R : Room} {s : State} {m : MethodId} {args : Array Value} {below : List Frame} {meth : Method} {c : Code} {D : va_G} {K : Nat → ClassId} {A : Nat → Prop} {Q : State → Prop} {τ : Nat → Option Ty} {dom : List Nat} {zb zL : Nat} {zx : Nat → Int32} {zs : Nat → Nat} (hR : 2 ≤ R.frames ∧ 38 ≤ R.locals) (B : Bx p s m args c cX10_overwrite 3 RX10 wp_Server_overwrite D (tysA K) A) (Z : Sk τ dom) (hz : ZL zb zL zx zs A s s.heap) (h : Nat) (w0 : Nat) (t_h : τ h = some (40, 0, 0)) (t_w0 : τ w0 = some (1, 12, 0)) (σ0 : Nat → va_E) (G0 : Good K τ σ0) (hend : ∀ (σ' : Nat → va_E) (lv : List (Nat × Value)) (pc : Nat), Good K τ σ' → Fr τ [(1, 13), (2, 13)] σ0 σ' → decode cX10_overwrite pc = .ok (.return_, 1) → V p l e R s m args below meth c 3 D A Q (0, 0) (fd dom σ') lv pc []) : V p l e R s m args below meth c 3 D A Q (0, 0) (fd dom σ0) [(0, .ref h), (1, .ref w0)] 0 [] := by
  have F0 : Fr τ [(1, 13), (2, 13)] σ0 σ0 := Fr.rf
  refine v_aload_n B dX10_overwrite_0 rfl rfl ?_
  refine v_aload_n B dX10_overwrite_1 rfl rfl ?_
  refine v_iconst B (v := iI 1) dX10_overwrite_2 rfl ?_
  refine u_callVi B Z hz (n := 1) (As := [.int (iI 1)]) (rest := [.ref h]) (c_Row_two l D K Z _ _ _ _ w0 1 t_w0 ⟨by omega, by omega⟩ σ0 G0) gd_Server_overwrite_Row_two_76 rfl rfl rfl (by decide +kernel) ⟨Nat.le_trans (by decide +kernel) hR.1, Nat.le_trans (by decide +kernel) hR.2⟩ t_w0 (cls_Row G0 t_w0) rfl rfl rfl rfl (Nat.le_of_ble_eq_true rfl) dX10_overwrite_3 ⟨Nat.zero_le _, Nat.zero_le _⟩ (fun v3 σ1 p2 => ?_)
  obtain ⟨rfl, z7, e8, r9⟩ := p2
  subst e8
  refine u_callVq B Z hz (n := 1) (As := [.int (iI z7)]) (rest := []) (c_Server_valueOf l D K Z _ _ _ _ h z7 t_h ⟨by omega, by omega⟩ σ0 G0) gd_Server_overwrite_Server_valueOf_126 rfl rfl rfl (by decide +kernel) ⟨Nat.le_trans (by decide +kernel) hR.1, Nat.le_trans (by decide +kernel) hR.2⟩ t_h (cls_Server G0 t_h) rfl rfl rfl rfl (Nat.le_of_ble_eq_true rfl) dX10_overwrite_6 ⟨Nat.zero_le _, Nat.zero_le _⟩ (fun v12 σ10 p11 => ?_)
  obtain ⟨rfl, q16⟩ := p11
  rcases q16 with rfl | ⟨a17, rfl, t18⟩
  · show V _ _ _ _ _ _ _ _ _ _ _ _ _ _ _ _ _ _ [.null]
    refine v_astore_nN B (lv' := [(2, .null), (0, .ref h), (1, .ref w0)]) dX10_overwrite_9 rfl (by decide +kernel) rfl ?_
    refine v_aload_nN B dX10_overwrite_10 rfl rfl ?_
    refine v_ifnullN B (tgt := 28) dX10_overwrite_11 (by decide +kernel) ?_
    exact hend σ0 _ _ G0 F0 dX10_overwrite_28
  · show V _ _ _ _ _ _ _ _ _ _ _ _ _ _ _ _ _ _ [.ref a17]
    refine v_astore_n B (lv' := [(2, .ref a17), (0, .ref h), (1, .ref w0)]) dX10_overwrite_9 rfl (by decide +kernel) rfl ?_
    refine v_aload_n B dX10_overwrite_10 rfl rfl ?_
    refine v_ifnull B dX10_overwrite_11 ?_
    refine v_aload_n B dX10_overwrite_14 rfl rfl ?_
    refine u_callVv B Z hz (n := 0) (As := []) (rest := []) (c_Row_clear l D K Z _ _ _ _ a17 t18 σ0 G0) gd_Server_overwrite_Row_clear_130 rfl rfl rfl (by decide +kernel) ⟨Nat.le_trans (by decide +kernel) hR.1, Nat.le_trans (by decide +kernel) hR.2⟩ t18 (cls_Row G0 t18) rfl rfl rfl rfl (Nat.le_of_ble_eq_true rfl) dX10_overwrite_15 ⟨Nat.zero_le _, Nat.zero_le _⟩ (fun σ19 p20 => ?_)
    obtain ⟨G22, F23⟩ := p20
    have F24 := F0.call F23 (by first | rfl | simp)
    refine v_aload_n B dX10_overwrite_18 rfl rfl ?_
    refine v_aload_n B dX10_overwrite_19 rfl rfl ?_
    refine v_iconst B (v := iI 3) dX10_overwrite_20 rfl ?_
    refine v_aload_n B dX10_overwrite_21 rfl rfl ?_
    obtain ⟨b25, N26, n27, h28, t29, r30⟩ : okRow τ 12 (σ19 w0) := G22 w0 _ t_w0
    refine u_getN B Z (C := RX9) (T := TX9) (N := 2) (ci := 9) hi_Server_overwrite_X9 t_w0 h28 rfl 1 (by decide +kernel) (List.mem_of_getElem? (i := 96) rfl) rfl dX10_overwrite_22 ?_
    refine u_callVv B Z hz (n := 3) (As := [.ref w0, .int (iI 3), .int (iI n27)]) (rest := []) (c_Row_putPart l D K Z _ _ _ _ a17 w0 3 n27 t18 t_w0 ⟨by omega, by omega⟩ ⟨by omega, by omega⟩ σ19 G22) gd_Server_overwrite_Row_putPart_133 rfl rfl rfl (by decide +kernel) ⟨Nat.le_trans (by decide +kernel) hR.1, Nat.le_trans (by decide +kernel) hR.2⟩ t18 (cls_Row G22 t18) rfl rfl rfl rfl (Nat.le_of_ble_eq_true rfl) dX10_overwrite_25 ⟨Nat.zero_le _, Nat.zero_le _⟩ (fun σ31 p32 => ?_)
    obtain ⟨G34, F35⟩ := p32
    have F36 := F24.call F35 (by first | rfl | simp)
    have h37 := (F35 w0 _ t_w0 (by first | rfl | simp)).trans h28
    exact hend σ31 _ _ G34 F36 dX10_overwrite_28
set_option maxRecDepth 100000 in
theorem c_Server_overwrite (l : Launch) (D : va_G) (K : Nat → ClassId) {τ : Nat → Option Ty} {dom : List Nat} (Z : Sk τ dom) (zb zL : Nat) (zx : Nat → Int32) (zs : Nat → Nat) (h : Nat) (w0 : Nat) (t_h : τ h = some (40, 0, 0)) (t_w0 : τ w0 = some (1, 12, 0)) (σ0 : Nat → va_E) (G0 : Good K τ σ0) : MZ l yX10_overwrite wp_Server_overwrite ({ frames := 2, cells := 0, slots := 0, locals := 38 }) D (tysA K) [.ref h, .ref w0] (fd dom σ0) zb zL zx zs (Qv D (fun σ' => Good K τ σ' ∧ Fr τ [(1, 13), (2, 13)] σ0 σ') (fun σ' => fd dom σ')) 0 0 := by
  refine mz_of (cc := cX10_overwrite) (maxL := 3) (ret := none) (by decide +kernel) rfl (Nat.le_of_ble_eq_true rfl) ?_
  intro p e s m below meth c A B hr hlk _ hz
  exact b_Server_overwrite ⟨Nat.le_refl _, Nat.le_refl _⟩ B Z hz h w0 t_h t_w0 σ0 G0 (fun σ' lv pc G F hd => v_vret B hr hlk σ' ⟨G, F⟩ rfl (Nat.le_refl _) (Nat.le_refl _) hd)

def wp_Server_endOf : List Cond := .code yX10_endOf cX10_endOf 3 (some .int) :: (([.fieldLink RX10 56 "LowEnergy$Server" "count" "I", .fieldLink RX10 11 "LowEnergy$Server" "types" "[I", .methodLink RX10 152 yX10_isGroup, .static yX10_isGroup, .initialized RX10, .code yX10_isGroup cX10_isGroup 1 (some .boolean), .methodLink RX10 53 Lib.Math.max.name, .static Lib.Math.max.name, .initialized "java/lang/Math", .code Lib.Math.max.name Lib.Math.max.code 2 (some .int)] : List Cond) ++ (wsX100 ++ ([])))
theorem hi_Server_endOf_X10 : ∀ x ∈ u_ws RX10 TX10 10, x ∈ wp_Server_endOf := fun _ h => List.mem_cons_of_mem _ (List.mem_append_right _ (List.mem_append_left _ h))
set_option maxRecDepth 100000 in
theorem gd_Server_endOf_Server_isGroup_152 : GoodIn wp_Server_endOf (va_wsS RX10 152 yX10_isGroup wp_Server_isGroup) := goodIn_app (goodIn_r _ [3, 4, 5] rfl rfl) (goodIn_ca (goodIn_r _ [6] rfl rfl) (goodIn_nil))
set_option maxHeartbeats 4000000 in
set_option maxRecDepth 100000 in
theorem b_Server_endOf {p : Program} {l : Launch} {e : Env} {R : Room} {s : State} {m : MethodId} {args : Array Value} {below : List Frame} {meth : Method} {c : Code} {D : va_G} {K : Nat → ClassId} {A : Nat → Prop} {Q : State → Prop} {τ : Nat → Option Ty} {dom : List Nat} {zb zL : Nat} {zx : Nat → Int32} {zs : Nat → Nat} (hR : 1 ≤ R.frames ∧ 20 ≤ R.locals) (B : Bx p s m args c cX10_endOf 3 RX10 wp_Server_endOf D (tysA K) A) (Z : Sk τ dom) (hz : ZL zb zL zx zs A s s.heap) (h : Nat) (x1 : Int) (t_h : τ h = some (40, 0, 0)) (r_x1 : 0 ≤ x1 ∧ x1 ≤ 65535) (σ0 : Nat → va_E) (G0 : Good K τ σ0) (hend : ∀ (z : Int) (lv : List (Nat × Value)) (pc : Nat), (0 ≤ z ∧ z ≤ 20) → decode cX10_endOf pc = .ok (.ireturn, 1) → V p l e R s m args below meth c 3 D A Q (0, 0) (fd dom σ0) lv pc [.int (iI z)]) : V p l e R s m args below meth c 3 D A Q (0, 0) (fd dom σ0) [(0, .ref h), (1, .int (iI x1))] 0 [] := by
  have F0 : Fr τ [] σ0 σ0 := Fr.rf
  have J49 : V p l e R s m args below meth c 3 D A Q (0, 0) (fd dom σ0) [(0, .ref h)] 49 [] := by
    refine v_aload_n B dX10_endOf_49 rfl rfl ?_
    obtain ⟨a1, a2, a3, z4, z5, z6, a7, z8, z9, a10, h11, t12, t13, t14, r15, r16, r17, t18, r19, r20, t21⟩ : okServer τ (σ0 h) := G0 h _ t_h
    refine u_get B Z (C := RX10) (T := TX10) (N := 10) (ci := 10) hi_Server_endOf_X10 t_h h11 rfl 3 (by decide +kernel) (List.mem_of_getElem? (i := 1) rfl) rfl dX10_endOf_50 ?_
    exact hend z4 _ _ ⟨by omega, by omega⟩ dX10_endOf_53
  have J8 : ∀ (k8 : Nat) (z8_2 : Int), (2147483648 - z8_2).toNat ≤ k8 → (1 ≤ z8_2 ∧ z8_2 ≤ 65536) → V p l e R s m args below meth c 3 D A Q (0, 0) (fd dom σ0) [(0, .ref h), (2, .int (iI z8_2))] 8 [] := by
    intro k8
    induction k8 with
    | zero => intro z8_2 m8 r8_2; omega
    | succ k8 IH8 =>
      intro z8_2 m8 r8_2
      refine v_iload_n B dX10_endOf_8 rfl rfl ?_
      refine v_aload_n B dX10_endOf_9 rfl rfl ?_
      obtain ⟨a22, a23, a24, z25, z26, z27, a28, z29, z30, a31, h32, t33, t34, t35, r36, r37, r38, t39, r40, r41, t42⟩ : okServer τ (σ0 h) := G0 h _ t_h
      refine u_get B Z (C := RX10) (T := TX10) (N := 10) (ci := 10) hi_Server_endOf_X10 t_h h32 rfl 3 (by decide +kernel) (List.mem_of_getElem? (i := 1) rfl) rfl dX10_endOf_10 ?_
      refine u_icmp_gt B (tgt := 49) (by omega) (by omega) dX10_endOf_13 (by decide +kernel) (fun c43 => ?_) (fun c43 => ?_)
      · refine v_lv [0] rfl ?_
        exact J49
      · refine v_iload_n B dX10_endOf_16 rfl rfl ?_
        refine v_aload_n B dX10_endOf_17 rfl rfl ?_
        refine u_get B Z (C := RX10) (T := TX10) (N := 10) (ci := 10) hi_Server_endOf_X10 t_h h32 rfl 0 (by decide +kernel) (List.mem_of_getElem? (i := 2) rfl) rfl dX10_endOf_18 ?_
        obtain ⟨f44, h45, r46⟩ : okP K 20 (σ0 a22) := G0 a22 _ t33
        refine u_alen B Z (t0 := 0) (v := 20) t33 h45 rfl (by first | rfl | omega) dX10_endOf_21 ?_
        refine u_icmp_gt B (tgt := 49) (by omega) (by omega) dX10_endOf_22 (by decide +kernel) (fun c47 => by omega) (fun c47 => ?_)
        refine v_aload_n B dX10_endOf_25 rfl rfl ?_
        refine u_get B Z (C := RX10) (T := TX10) (N := 10) (ci := 10) hi_Server_endOf_X10 t_h h32 rfl 0 (by decide +kernel) (List.mem_of_getElem? (i := 2) rfl) rfl dX10_endOf_26 ?_
        refine v_iload_n B dX10_endOf_29 rfl rfl ?_
        refine v_iconst B (v := iI 1) dX10_endOf_30 rfl ?_
        refine v_isub B (v := iI (z8_2 + (-1))) dX10_endOf_31 ((iI_sub _ _).trans (congrArg iI (by omega))) ?_
        obtain ⟨z48, e49, r50⟩ := iI_any (f44 ((z8_2 + (-1)) : Int).toNat)
        refine u_iald B Z (t0 := 0) t33 h45 rfl (by omega) e49 dX10_endOf_32 ?_
        refine u_callSi B Z hz (n := 1) (As := [.int (iI z48)]) (rest := []) (c_Server_isGroup l D K Z _ _ _ _ z48 ⟨by omega, by omega⟩ σ0 G0) gd_Server_endOf_Server_isGroup_152 rfl rfl rfl (by decide +kernel) ⟨Nat.le_trans (by decide +kernel) hR.1, Nat.le_trans (by decide +kernel) hR.2⟩ rfl rfl (Nat.le_of_ble_eq_true rfl) dX10_endOf_33 ⟨Nat.zero_le _, Nat.zero_le _⟩ (fun v53 σ51 p52 => ?_)
        obtain ⟨rfl, z57, e58, r59⟩ := p52
        subst e58
        refine u_if_eq B (tgt := 43) (by omega) dX10_endOf_36 (by decide +kernel) (fun c60 => ?_) (fun c60 => ?_)
        · refine v_iinc B (k := 1) (v := iI (z8_2 + 1)) (lv' := [(2, .int (iI (z8_2 + 1))), (0, .ref h)]) dX10_endOf_43 rfl ((iI_add _ _).trans (congrArg iI (by omega))) (by decide +kernel) rfl ?_
          refine v_goto B (tgt := 8) dX10_endOf_46 (by decide +kernel) ?_
          refine v_lv [1, 0] rfl ?_
          exact IH8 (z8_2 + 1) (by omega) ⟨by omega, by omega⟩
        · refine v_iload_n B dX10_endOf_39 rfl rfl ?_
          refine v_iconst B (v := iI 1) dX10_endOf_40 rfl ?_
          refine v_isub B (v := iI (z8_2 + (-1))) dX10_endOf_41 ((iI_sub _ _).trans (congrArg iI (by omega))) ?_
          exact hend (z8_2 + (-1)) _ _ ⟨by omega, by omega⟩ dX10_endOf_42
  refine v_iload_n B dX10_endOf_0 rfl rfl ?_
  refine v_iconst B (v := iI 0) dX10_endOf_1 rfl ?_
  obtain ⟨z61, e62, r63⟩ := iI_max (a := x1) (b := 0) (by omega) (by omega)
  refine v_mmax B (v := iI z61) (List.mem_of_getElem? (i := 7) rfl) (List.mem_of_getElem? (i := 8) rfl) (List.mem_of_getElem? (i := 9) rfl) (List.mem_of_getElem? (i := 10) rfl) (Nat.le_trans (by decide +kernel) hR.1) (Nat.le_trans (Nat.le_of_ble_eq_true rfl) hR.2) (Nat.zero_le _) (Nat.zero_le _) e62 dX10_endOf_2 ?_
  refine v_iconst B (v := iI 1) dX10_endOf_5 rfl ?_
  refine v_iadd B (v := iI (z61 + 1)) dX10_endOf_6 ((iI_add _ _).trans (congrArg iI (by omega))) ?_
  refine v_istore_n B (lv' := [(2, .int (iI (z61 + 1))), (0, .ref h), (1, .int (iI x1))]) dX10_endOf_7 rfl (by decide +kernel) rfl ?_
  refine v_lv [1, 0] rfl ?_
  exact J8 _ (z61 + 1) (Nat.le_refl _) ⟨by omega, by omega⟩
set_option maxRecDepth 100000 in
theorem c_Server_endOf (l : Launch) (D : va_G) (K : Nat → ClassId) {τ : Nat → Option Ty} {dom : List Nat} (Z : Sk τ dom) (zb zL : Nat) (zx : Nat → Int32) (zs : Nat → Nat) (h : Nat) (x1 : Int) (t_h : τ h = some (40, 0, 0)) (r_x1 : 0 ≤ x1 ∧ x1 ≤ 65535) (σ0 : Nat → va_E) (G0 : Good K τ σ0) : MZ l yX10_endOf wp_Server_endOf ({ frames := 1, cells := 0, slots := 0, locals := 20 }) D (tysA K) [.ref h, .int (iI x1)] (fd dom σ0) zb zL zx zs (Qi D (fun r σ' => σ0 = σ' ∧ ∃ z : Int, r = iI z ∧ (0 ≤ z ∧ z ≤ 20)) (fun σ' => fd dom σ')) 0 0 := by
  refine mz_of (cc := cX10_endOf) (maxL := 3) (ret := (some .int)) (by decide +kernel) rfl (Nat.le_of_ble_eq_true rfl) ?_
  intro p e s m below meth c A B hr hlk _ hz
  exact b_Server_endOf ⟨Nat.le_refl _, Nat.le_refl _⟩ B Z hz h x1 t_h r_x1 σ0 G0 (fun z lv pc hZ hd => v_iret B hr hlk σ0 ⟨rfl, z, rfl, hZ⟩ rfl (Nat.le_refl _) (Nat.le_refl _) hd)

def wp_Server_answerRead : List Cond := .code yX10_answerRead cX10_answerRead 9 none :: (([.methodLink RX10 97 yX10_refuse, .static yX10_refuse, .initialized RX10, .code yX10_refuse cX10_refuse 4 none, .methodLink RX10 83 yX9_put, .instanceMethod yX9_put, .selects RX9 yX9_put yX9_put, .initialized RX9, .code yX9_put cX9_put 2 none, .fieldLink RX9 21 "LowEnergy$Row" "size" "I", .fieldLink RX9 15 "LowEnergy$Row" "bytes" "[I", .methodLink RX10 108 yX9_putNumber, .instanceMethod yX9_putNumber, .selects RX9 yX9_putNumber yX9_putNumber, .code yX9_putNumber cX9_putNumber 5 none, .constantLong RX9 25 (255), .fieldLink RX10 28 "LowEnergy$Server" "linkMtu" "I", .methodLink RX10 133 yX9_putPart, .instanceMethod yX9_putPart, .selects RX9 yX9_putPart yX9_putPart, .code yX9_putPart cX9_putPart 6 none, .methodLink RX9 9 Lib.Math.max.name, .static Lib.Math.max.name, .initialized "java/lang/Math", .code Lib.Math.max.name Lib.Math.max.code 2 (some .int), .methodLink RX10 137 yX10_faultOfRead, .instanceMethod yX10_faultOfRead, .selects RX10 yX10_faultOfRead yX10_faultOfRead, .code yX10_faultOfRead cX10_faultOfRead 4 (some .int), .fieldLink RX10 56 "LowEnergy$Server" "count" "I", .fieldLink RX10 15 "LowEnergy$Server" "rights" "[I", .methodLink RX10 126 yX10_valueOf, .instanceMethod yX10_valueOf, .selects RX10 yX10_valueOf yX10_valueOf, .code yX10_valueOf cX10_valueOf 2 (some (.object "LowEnergy$Row")), .fieldLink RX10 20 "LowEnergy$Server" "values" "[LLowEnergy$Row;", .methodLink RX10 63 yX9_at, .instanceMethod yX9_at, .selects RX9 yX9_at yX9_at, .code yX9_at cX9_at 2 (some .int), .methodLink RX10 76 yX9_two, .instanceMethod yX9_two, .selects RX9 yX9_two yX9_two, .code yX9_two cX9_two 2 (some .int)] : List Cond) ++ (wsX90 ++ (wsX100 ++ ([]))))
theorem hi_Server_answerRead_X9 : ∀ x ∈ u_ws RX9 TX9 2, x ∈ wp_Server_answerRead := fun _ h => List.mem_cons_of_mem _ (List.mem_append_right _ (List.mem_append_left _ h))
theorem hi_Server_answerRead_X10 : ∀ x ∈ u_ws RX10 TX10 10, x ∈ wp_Server_answerRead := fun _ h => List.mem_cons_of_mem _ (List.mem_append_right _ (List.mem_append_right _ (List.mem_append_left _ h)))
set_option maxRecDepth 100000 in
theorem gd_Server_answerRead_Server_refuse_97 : GoodIn wp_Server_answerRead (va_wsS RX10 97 yX10_refuse wp_Server_refuse) := goodIn_app (goodIn_r _ [1, 2, 3] rfl rfl) (goodIn_ca (goodIn_r _ [4, 5, 6, 7, 8, 9, 10, 11, 12, 13, 14, 15, 16] rfl rfl) (goodIn_app (goodIn_cls hi_Server_answerRead_X9 gw_X9) (goodIn_nil)))
set_option maxRecDepth 100000 in
theorem gd_Server_answerRead_Row_put_83 : GoodIn wp_Server_answerRead (wsV RX10 83 RX9 yX9_put wp_Row_put) := goodIn_app (goodIn_r _ [5, 6, 7, 8] rfl rfl) (goodIn_ca (goodIn_r _ [9, 10, 11] rfl rfl) (goodIn_app (goodIn_cls hi_Server_answerRead_X9 gw_X9) (goodIn_nil)))
set_option maxRecDepth 100000 in
theorem gd_Server_answerRead_Row_putPart_133 : GoodIn wp_Server_answerRead (wsV RX10 133 RX9 yX9_putPart wp_Row_putPart) := goodIn_app (goodIn_r _ [18, 19, 20, 8] rfl rfl) (goodIn_ca (goodIn_r _ [21, 10, 11, 22, 23, 24, 25] rfl rfl) (goodIn_app (goodIn_cls hi_Server_answerRead_X9 gw_X9) (goodIn_nil)))
set_option maxRecDepth 100000 in
theorem gd_Server_answerRead_Server_faultOfRead_137 : GoodIn wp_Server_answerRead (wsV RX10 137 RX10 yX10_faultOfRead wp_Server_faultOfRead) := goodIn_app (goodIn_r _ [26, 27, 28, 3] rfl rfl) (goodIn_ca (goodIn_r _ [29, 30, 31] rfl rfl) (goodIn_app (goodIn_cls hi_Server_answerRead_X10 gw_X10) (goodIn_nil)))
set_option maxRecDepth 100000 in
theorem gd_Server_answerRead_Server_valueOf_126 : GoodIn wp_Server_answerRead (wsV RX10 126 RX10 yX10_valueOf wp_Server_valueOf) := goodIn_app (goodIn_r _ [32, 33, 34, 3] rfl rfl) (goodIn_ca (goodIn_r _ [35, 30, 36] rfl rfl) (goodIn_app (goodIn_cls hi_Server_answerRead_X10 gw_X10) (goodIn_nil)))
set_option maxRecDepth 100000 in
theorem gd_Server_answerRead_Row_at_63 : GoodIn wp_Server_answerRead (wsV RX10 63 RX9 yX9_at wp_Row_at) := goodIn_app (goodIn_r _ [37, 38, 39, 8] rfl rfl) (goodIn_ca (goodIn_r _ [40, 10, 11] rfl rfl) (goodIn_app (goodIn_cls hi_Server_answerRead_X9 gw_X9) (goodIn_nil)))
set_option maxRecDepth 100000 in
theorem gd_Server_answerRead_Row_two_76 : GoodIn wp_Server_answerRead (wsV RX10 76 RX9 yX9_two wp_Row_two) := goodIn_app (goodIn_r _ [41, 42, 43, 8] rfl rfl) (goodIn_ca (goodIn_r _ [44, 10, 11] rfl rfl) (goodIn_app (goodIn_cls hi_Server_answerRead_X9 gw_X9) (goodIn_nil)))
set_option maxHeartbeats 4000000 in
set_option maxRecDepth 100000 in
theorem b_Server_answerRead {p : Program} {l : Launch} {e : Env} {R : Room} {s : State} {m : MethodId} {args : Array Value} {below : List Frame} {meth : Method} {c : Code} {D : va_G} {K : Nat → ClassId} {A : Nat → Prop} {Q : State → Prop} {τ : Nat → Option Ty} {dom : List Nat} {zb zL : Nat} {zx : Nat → Int32} {zs : Nat → Nat} (hR : 2 ≤ R.frames ∧ 47 ≤ R.locals) (B : Bx p s m args c cX10_answerRead 9 RX10 wp_Server_answerRead D (tysA K) A) (Z : Sk τ dom) (hz : ZL zb zL zx zs A s s.heap) (h : Nat) (w0 : Nat) (x2 : Int) (g : Nat) (t_h : τ h = some (40, 0, 0)) (t_w0 : τ w0 = some (1, 12, 0)) (r_x2 : 0 ≤ x2 ∧ x2 ≤ 1) (t_g : τ g = some (1, 8, 0)) (σ0 : Nat → va_E) (G0 : Good K τ σ0) (hend : ∀ (σ' : Nat → va_E) (lv : List (Nat × Value)) (pc : Nat), Good K τ σ' → Fr τ [(2, 8), (1, 8)] σ0 σ' → decode cX10_answerRead pc = .ok (.return_, 1) → V p l e R s m args below meth c 9 D A Q (0, 0) (fd dom σ') lv pc []) : V p l e R s m args below meth c 9 D A Q (0, 0) (fd dom σ0) [(0, .ref h), (1, .ref w0), (2, .int (iI x2)), (3, .ref g)] 0 [] := by
  have F0 : Fr τ [(2, 8), (1, 8)] σ0 σ0 := Fr.rf
  have J83 : ∀ (z83_4 : Int) (z83_5 : Int) (z83_7 : Int), (-1 ≤ z83_4 ∧ z83_4 ≤ 255) → (0 ≤ z83_5 ∧ z83_5 ≤ 65535) → (0 ≤ z83_7 ∧ z83_7 ≤ 7) → V p l e R s m args below meth c 9 D A Q (0, 0) (fd dom σ0) [(3, .ref g), (4, .int (iI z83_4)), (5, .int (iI z83_5)), (7, .int (iI z83_7))] 83 [] := by
    intro z83_4 z83_5 z83_7 r83_4 r83_5 r83_7
    refine v_iload B dX10_answerRead_83 rfl ?_
    refine v_iload B dX10_answerRead_85 rfl ?_
    refine v_iload B dX10_answerRead_87 rfl ?_
    refine v_aload_n B dX10_answerRead_89 rfl rfl ?_
    refine u_callSv B Z hz (n := 4) (As := [.int (iI z83_4), .int (iI z83_5), .int (iI z83_7), .ref g]) (rest := []) (c_Server_refuse l D K Z _ _ _ _ z83_4 z83_5 z83_7 g ⟨by omega, by omega⟩ ⟨by omega, by omega⟩ ⟨by omega, by omega⟩ t_g σ0 G0) gd_Server_answerRead_Server_refuse_97 rfl rfl rfl (by decide +kernel) ⟨Nat.le_trans (by decide +kernel) hR.1, Nat.le_trans (by decide +kernel) hR.2⟩ rfl rfl (Nat.le_of_ble_eq_true rfl) dX10_answerRead_90 ⟨Nat.zero_le _, Nat.zero_le _⟩ (fun σ1 p2 => ?_)
    obtain ⟨G4, F5⟩ := p2
    have F6 := F0.call F5 (by first | rfl | simp)
    exact hend σ1 _ _ G4 F6 dX10_answerRead_93
  have J73 : ∀ (z73_4 : Int) (z73_5 : Int) (z73_6 : Int) (z73_7 : Int) (a73_8 : Nat), (-1 ≤ z73_4 ∧ z73_4 ≤ 255) → (0 ≤ z73_5 ∧ z73_5 ≤ 65535) → (0 ≤ z73_6 ∧ z73_6 ≤ 65535) → (0 ≤ z73_7 ∧ z73_7 ≤ 7) → (τ a73_8 = some (1, 13, 0)) → V p l e R s m args below meth c 9 D A Q (0, 0) (fd dom σ0) [(0, .ref h), (3, .ref g), (4, .int (iI z73_4)), (5, .int (iI z73_5)), (6, .int (iI z73_6)), (7, .int (iI z73_7)), (8, .ref a73_8)] 73 [] := by
    intro z73_4 z73_5 z73_6 z73_7 a73_8 r73_4 r73_5 r73_6 r73_7 t73_8
    refine v_iload B dX10_answerRead_73 rfl ?_
    refine u_if_ne B (tgt := 83) (by omega) dX10_answerRead_75 (by decide +kernel) (fun c7 => ?_) (fun c7 => ?_)
    · refine v_lv [1, 2, 3, 5] rfl ?_
      exact J83 z73_4 z73_5 z73_7 ⟨by omega, by omega⟩ ⟨by omega, by omega⟩ ⟨by omega, by omega⟩
    · refine v_aload B dX10_answerRead_78 rfl ?_
      refine v_ifnonnull B (tgt := 94) dX10_answerRead_80 (by decide +kernel) ?_
      refine v_aload_n B dX10_answerRead_94 rfl rfl ?_
      refine v_iload B dX10_answerRead_95 rfl ?_
      refine v_iconst B (v := iI 1) dX10_answerRead_97 rfl ?_
      refine v_iadd B (v := iI (z73_4 + 1)) dX10_answerRead_98 ((iI_add _ _).trans (congrArg iI (by omega))) ?_
      refine u_callVv B Z hz (n := 1) (As := [.int (iI (z73_4 + 1))]) (rest := []) (c_Row_put l D K Z _ _ _ _ g (z73_4 + 1) t_g ⟨by omega, by omega⟩ σ0 G0) gd_Server_answerRead_Row_put_83 rfl rfl rfl (by decide +kernel) ⟨Nat.le_trans (by decide +kernel) hR.1, Nat.le_trans (by decide +kernel) hR.2⟩ t_g (cls_Row G0 t_g) rfl rfl rfl rfl (Nat.le_of_ble_eq_true rfl) dX10_answerRead_99 ⟨Nat.zero_le _, Nat.zero_le _⟩ (fun σ8 p9 => ?_)
      obtain ⟨G11, F12⟩ := p9
      have F13 := F0.call F12 (by first | rfl | simp)
      refine v_aload_n B dX10_answerRead_102 rfl rfl ?_
      refine v_aload B dX10_answerRead_103 rfl ?_
      refine v_iload B dX10_answerRead_105 rfl ?_
      refine v_aload_n B dX10_answerRead_107 rfl rfl ?_
      obtain ⟨a14, a15, a16, z17, z18, z19, a20, z21, z22, a23, h24, t25, t26, t27, r28, r29, r30, t31, r32, r33, t34⟩ : okServer τ (σ8 h) := G11 h _ t_h
      refine u_get B Z (C := RX10) (T := TX10) (N := 10) (ci := 10) hi_Server_answerRead_X10 t_h h24 rfl 5 (by decide +kernel) (List.mem_of_getElem? (i := 17) rfl) rfl dX10_answerRead_108 ?_
      refine v_iconst B (v := iI 1) dX10_answerRead_111 rfl ?_
      obtain ⟨z35, e36, r37⟩ := iI_any (iI z19 - iI 1)
      refine v_isub B (v := iI z35) dX10_answerRead_112 e36 ?_
      refine u_callVv B Z hz (n := 3) (As := [.ref a73_8, .int (iI z73_6), .int (iI z35)]) (rest := []) (c_Row_putPart l D K Z _ _ _ _ g a73_8 z73_6 z35 t_g t73_8 ⟨by omega, by omega⟩ ⟨by omega, by omega⟩ σ8 G11) gd_Server_answerRead_Row_putPart_133 rfl rfl rfl (by decide +kernel) ⟨Nat.le_trans (by decide +kernel) hR.1, Nat.le_trans (by decide +kernel) hR.2⟩ t_g (cls_Row G11 t_g) rfl rfl rfl rfl (Nat.le_of_ble_eq_true rfl) dX10_answerRead_113 ⟨Nat.zero_le _, Nat.zero_le _⟩ (fun σ38 p39 => ?_)
      obtain ⟨G41, F42⟩ := p39
      have F43 := F13.call F42 (by first | rfl | simp)
      have h44 := (F42 h _ t_h (by first | rfl | simp)).trans h24
      exact hend σ38 _ _ G41 F43 dX10_answerRead_116
  have J30 : ∀ (z30_4 : Int) (z30_5 : Int) (z30_s0 : Int), (-1 ≤ z30_4 ∧ z30_4 ≤ 255) → (0 ≤ z30_5 ∧ z30_5 ≤ 65535) → (0 ≤ z30_s0 ∧ z30_s0 ≤ 65535) → V p l e R s m args below meth c 9 D A Q (0, 0) (fd dom σ0) [(0, .ref h), (2, .int (iI x2)), (3, .ref g), (4, .int (iI z30_4)), (5, .int (iI z30_5))] 30 [.int (iI z30_s0)] := by
    intro z30_4 z30_5 z30_s0 r30_4 r30_5 r30_s0
    refine v_istore B (lv' := [(6, .int (iI z30_s0)), (0, .ref h), (2, .int (iI x2)), (3, .ref g), (4, .int (iI z30_4)), (5, .int (iI z30_5))]) dX10_answerRead_30 (by decide +kernel) rfl ?_
    refine v_aload_n B dX10_answerRead_32 rfl rfl ?_
    refine v_iload B dX10_answerRead_33 rfl ?_
    refine v_iload_n B dX10_answerRead_35 rfl rfl ?_
    refine u_callVi B Z hz (n := 2) (As := [.int (iI z30_5), .int (iI x2)]) (rest := []) (c_Server_faultOfRead l D K Z _ _ _ _ h z30_5 x2 t_h ⟨by omega, by omega⟩ ⟨by omega, by omega⟩ σ0 G0) gd_Server_answerRead_Server_faultOfRead_137 rfl rfl rfl (by decide +kernel) ⟨Nat.le_trans (by decide +kernel) hR.1, Nat.le_trans (by decide +kernel) hR.2⟩ t_h (cls_Server G0 t_h) rfl rfl rfl rfl (Nat.le_of_ble_eq_true rfl) dX10_answerRead_36 ⟨Nat.zero_le _, Nat.zero_le _⟩ (fun v47 σ45 p46 => ?_)
    obtain ⟨rfl, z51, e52, r53⟩ := p46
    subst e52
    refine v_istore B (lv' := [(7, .int (iI z51)), (6, .int (iI z30_s0)), (0, .ref h), (2, .int (iI x2)), (3, .ref g), (4, .int (iI z30_4)), (5, .int (iI z30_5))]) dX10_answerRead_39 (by decide +kernel) rfl ?_
    refine v_aload_n B dX10_answerRead_41 rfl rfl ?_
    refine v_iload B dX10_answerRead_42 rfl ?_
    refine u_callVq B Z hz (n := 1) (As := [.int (iI z30_5)]) (rest := []) (c_Server_valueOf l D K Z _ _ _ _ h z30_5 t_h ⟨by omega, by omega⟩ σ0 G0) gd_Server_answerRead_Server_valueOf_126 rfl rfl rfl (by decide +kernel) ⟨Nat.le_trans (by decide +kernel) hR.1, Nat.le_trans (by decide +kernel) hR.2⟩ t_h (cls_Server G0 t_h) rfl rfl rfl rfl (Nat.le_of_ble_eq_true rfl) dX10_answerRead_44 ⟨Nat.zero_le _, Nat.zero_le _⟩ (fun v56 σ54 p55 => ?_)
    obtain ⟨rfl, q60⟩ := p55
    rcases q60 with rfl | ⟨a61, rfl, t62⟩
    · show V _ _ _ _ _ _ _ _ _ _ _ _ _ _ _ _ _ _ [.null]
      refine v_astoreN B (lv' := [(8, .null), (7, .int (iI z51)), (6, .int (iI z30_s0)), (0, .ref h), (2, .int (iI x2)), (3, .ref g), (4, .int (iI z30_4)), (5, .int (iI z30_5))]) dX10_answerRead_47 (by decide +kernel) rfl ?_
      refine v_iload B dX10_answerRead_49 rfl ?_
      refine u_if_ne B (tgt := 73) (by omega) dX10_answerRead_51 (by decide +kernel) (fun c63 => ?_) (fun c63 => ?_)
      · refine v_iload B dX10_answerRead_73 rfl ?_
        refine u_if_ne B (tgt := 83) (by omega) dX10_answerRead_75 (by decide +kernel) (fun c64 => ?_) (fun c64 => by omega)
        refine v_lv [5, 6, 7, 1] rfl ?_
        exact J83 z30_4 z30_5 z51 ⟨by omega, by omega⟩ ⟨by omega, by omega⟩ ⟨by omega, by omega⟩
      · refine v_aloadN B dX10_answerRead_54 rfl ?_
        refine v_ifnullN B (tgt := 73) dX10_answerRead_56 (by decide +kernel) ?_
        refine v_iload B dX10_answerRead_73 rfl ?_
        refine u_if_ne B (tgt := 83) (by omega) dX10_answerRead_75 (by decide +kernel) (fun c65 => by omega) (fun c65 => ?_)
        refine v_aloadN B dX10_answerRead_78 rfl ?_
        refine v_ifnonnullN B dX10_answerRead_80 ?_
        refine v_lv [5, 6, 7, 1] rfl ?_
        exact J83 z30_4 z30_5 z51 ⟨by omega, by omega⟩ ⟨by omega, by omega⟩ ⟨by omega, by omega⟩
    · show V _ _ _ _ _ _ _ _ _ _ _ _ _ _ _ _ _ _ [.ref a61]
      refine v_astore B (lv' := [(8, .ref a61), (7, .int (iI z51)), (6, .int (iI z30_s0)), (0, .ref h), (2, .int (iI x2)), (3, .ref g), (4, .int (iI z30_4)), (5, .int (iI z30_5))]) dX10_answerRead_47 (by decide +kernel) rfl ?_
      refine v_iload B dX10_answerRead_49 rfl ?_
      refine u_if_ne B (tgt := 73) (by omega) dX10_answerRead_51 (by decide +kernel) (fun c66 => ?_) (fun c66 => ?_)
      · refine v_lv [3, 5, 6, 7, 2, 1, 0] rfl ?_
        exact J73 z30_4 z30_5 z30_s0 z51 a61 ⟨by omega, by omega⟩ ⟨by omega, by omega⟩ ⟨by omega, by omega⟩ ⟨by omega, by omega⟩ t62
      · refine v_aload B dX10_answerRead_54 rfl ?_
        refine v_ifnull B dX10_answerRead_56 ?_
        refine v_iload B dX10_answerRead_59 rfl ?_
        refine v_aload B dX10_answerRead_61 rfl ?_
        obtain ⟨b67, N68, n69, h70, t71, r72⟩ : okRow τ 13 (σ0 a61) := G0 a61 _ t62
        refine u_getN B Z (C := RX9) (T := TX9) (N := 2) (ci := 9) hi_Server_answerRead_X9 t62 h70 rfl 1 (by decide +kernel) (List.mem_of_getElem? (i := 96) rfl) rfl dX10_answerRead_63 ?_
        refine u_icmp_le B (tgt := 73) (by omega) (by omega) dX10_answerRead_66 (by decide +kernel) (fun c73 => ?_) (fun c73 => ?_)
        · refine v_lv [3, 5, 6, 7, 2, 1, 0] rfl ?_
          exact J73 z30_4 z30_5 z30_s0 z51 a61 ⟨by omega, by omega⟩ ⟨by omega, by omega⟩ ⟨by omega, by omega⟩ ⟨by omega, by omega⟩ t62
        · refine v_bipush B (v := iI 7) dX10_answerRead_69 (by decide +kernel) ?_
          refine v_istore B (lv' := [(7, .int (iI 7)), (8, .ref a61), (6, .int (iI z30_s0)), (0, .ref h), (2, .int (iI x2)), (3, .ref g), (4, .int (iI z30_4)), (5, .int (iI z30_5))]) dX10_answerRead_71 (by decide +kernel) rfl ?_
          refine v_lv [3, 5, 6, 7, 2, 0, 1] rfl ?_
          exact J73 z30_4 z30_5 z30_s0 7 a61 ⟨by omega, by omega⟩ ⟨by omega, by omega⟩ ⟨by omega, by omega⟩ ⟨by omega, by omega⟩ t62
  refine v_aload_n B dX10_answerRead_0 rfl rfl ?_
  refine v_iconst B (v := iI 0) dX10_answerRead_1 rfl ?_
  refine u_callVi B Z hz (n := 1) (As := [.int (iI 0)]) (rest := []) (c_Row_at l D K Z _ _ _ _ w0 0 t_w0 ⟨by omega, by omega⟩ σ0 G0) gd_Server_answerRead_Row_at_63 rfl rfl rfl (by decide +kernel) ⟨Nat.le_trans (by decide +kernel) hR.1, Nat.le_trans (by decide +kernel) hR.2⟩ t_w0 (cls_Row G0 t_w0) rfl rfl rfl rfl (Nat.le_of_ble_eq_true rfl) dX10_answerRead_2 ⟨Nat.zero_le _, Nat.zero_le _⟩ (fun v76 σ74 p75 => ?_)
  obtain ⟨rfl, z80, e81, r82⟩ := p75
  subst e81
  refine v_istore B (lv' := [(4, .int (iI z80)), (0, .ref h), (1, .ref w0), (2, .int (iI x2)), (3, .ref g)]) dX10_answerRead_5 (by decide +kernel) rfl ?_
  refine v_aload_n B dX10_answerRead_7 rfl rfl ?_
  refine v_iconst B (v := iI 1) dX10_answerRead_8 rfl ?_
  refine u_callVi B Z hz (n := 1) (As := [.int (iI 1)]) (rest := []) (c_Row_two l D K Z _ _ _ _ w0 1 t_w0 ⟨by omega, by omega⟩ σ0 G0) gd_Server_answerRead_Row_two_76 rfl rfl rfl (by decide +kernel) ⟨Nat.le_trans (by decide +kernel) hR.1, Nat.le_trans (by decide +kernel) hR.2⟩ t_w0 (cls_Row G0 t_w0) rfl rfl rfl rfl (Nat.le_of_ble_eq_true rfl) dX10_answerRead_9 ⟨Nat.zero_le _, Nat.zero_le _⟩ (fun v85 σ83 p84 => ?_)
  obtain ⟨rfl, z89, e90, r91⟩ := p84
  subst e90
  refine v_istore B (lv' := [(5, .int (iI z89)), (4, .int (iI z80)), (0, .ref h), (1, .ref w0), (2, .int (iI x2)), (3, .ref g)]) dX10_answerRead_12 (by decide +kernel) rfl ?_
  refine v_iload B dX10_answerRead_14 rfl ?_
  refine v_bipush B (v := iI 12) dX10_answerRead_16 (by decide +kernel) ?_
  refine u_icmp_ne B (tgt := 29) (by omega) (by omega) dX10_answerRead_18 (by decide +kernel) (fun c92 => ?_) (fun c92 => ?_)
  · refine v_iconst B (v := iI 0) dX10_answerRead_29 rfl ?_
    refine v_lv [2, 4, 5, 1, 0] rfl ?_
    exact J30 z80 z89 0 ⟨by omega, by omega⟩ ⟨by omega, by omega⟩ ⟨by omega, by omega⟩
  · refine v_aload_n B dX10_answerRead_21 rfl rfl ?_
    refine v_iconst B (v := iI 3) dX10_answerRead_22 rfl ?_
    refine u_callVi B Z hz (n := 1) (As := [.int (iI 3)]) (rest := []) (c_Row_two l D K Z _ _ _ _ w0 3 t_w0 ⟨by omega, by omega⟩ σ0 G0) gd_Server_answerRead_Row_two_76 rfl rfl rfl (by decide +kernel) ⟨Nat.le_trans (by decide +kernel) hR.1, Nat.le_trans (by decide +kernel) hR.2⟩ t_w0 (cls_Row G0 t_w0) rfl rfl rfl rfl (Nat.le_of_ble_eq_true rfl) dX10_answerRead_23 ⟨Nat.zero_le _, Nat.zero_le _⟩ (fun v95 σ93 p94 => ?_)
    obtain ⟨rfl, z99, e100, r101⟩ := p94
    subst e100
    refine v_goto B (tgt := 30) dX10_answerRead_26 (by decide +kernel) ?_
    refine v_lv [2, 4, 5, 1, 0] rfl ?_
    exact J30 z80 z89 z99 ⟨by omega, by omega⟩ ⟨by omega, by omega⟩ ⟨by omega, by omega⟩
set_option maxRecDepth 100000 in
theorem c_Server_answerRead (l : Launch) (D : va_G) (K : Nat → ClassId) {τ : Nat → Option Ty} {dom : List Nat} (Z : Sk τ dom) (zb zL : Nat) (zx : Nat → Int32) (zs : Nat → Nat) (h : Nat) (w0 : Nat) (x2 : Int) (g : Nat) (t_h : τ h = some (40, 0, 0)) (t_w0 : τ w0 = some (1, 12, 0)) (r_x2 : 0 ≤ x2 ∧ x2 ≤ 1) (t_g : τ g = some (1, 8, 0)) (σ0 : Nat → va_E) (G0 : Good K τ σ0) : MZ l yX10_answerRead wp_Server_answerRead ({ frames := 2, cells := 0, slots := 0, locals := 47 }) D (tysA K) [.ref h, .ref w0, .int (iI x2), .ref g] (fd dom σ0) zb zL zx zs (Qv D (fun σ' => Good K τ σ' ∧ Fr τ [(2, 8), (1, 8)] σ0 σ') (fun σ' => fd dom σ')) 0 0 := by
  refine mz_of (cc := cX10_answerRead) (maxL := 9) (ret := none) (by decide +kernel) rfl (Nat.le_of_ble_eq_true rfl) ?_
  intro p e s m below meth c A B hr hlk _ hz
  exact b_Server_answerRead ⟨Nat.le_refl _, Nat.le_refl _⟩ B Z hz h w0 x2 g t_h t_w0 r_x2 t_g σ0 G0 (fun σ' lv pc G F hd => v_vret B hr hlk σ' ⟨G, F⟩ rfl (Nat.le_refl _) (Nat.le_refl _) hd)

def wp_Server_answerWrite : List Cond := .code yX10_answerWrite cX10_answerWrite 6 none :: (([.methodLink RX10 63 yX9_at, .instanceMethod yX9_at, .selects RX9 yX9_at yX9_at, .initialized RX9, .code yX9_at cX9_at 2 (some .int), .fieldLink RX9 21 "LowEnergy$Row" "size" "I", .fieldLink RX9 15 "LowEnergy$Row" "bytes" "[I", .methodLink RX10 86 yX10_faultOfWrite, .instanceMethod yX10_faultOfWrite, .selects RX10 yX10_faultOfWrite yX10_faultOfWrite, .initialized RX10, .code yX10_faultOfWrite cX10_faultOfWrite 5 (some .int), .fieldLink RX10 40 "LowEnergy$Server" "partCount" "I", .methodLink RX10 76 yX9_two, .instanceMethod yX9_two, .selects RX9 yX9_two yX9_two, .code yX9_two cX9_two 2 (some .int), .fieldLink RX10 56 "LowEnergy$Server" "count" "I", .fieldLink RX10 15 "LowEnergy$Server" "rights" "[I", .methodLink RX10 83 yX9_put, .instanceMethod yX9_put, .selects RX9 yX9_put yX9_put, .code yX9_put cX9_put 2 none, .methodLink RX10 133 yX9_putPart, .instanceMethod yX9_putPart, .selects RX9 yX9_putPart yX9_putPart, .code yX9_putPart cX9_putPart 6 none, .methodLink RX9 9 Lib.Math.max.name, .static Lib.Math.max.name, .initialized "java/lang/Math", .code Lib.Math.max.name Lib.Math.max.code 2 (some .int), .fieldLink RX10 31 "LowEnergy$Server" "parts" "[LLowEnergy$Row;", .methodLink RX10 130 yX9_clear, .instanceMethod yX9_clear, .selects RX9 yX9_clear yX9_clear, .code yX9_clear cX9_clear 1 none, .methodLink RX10 90 yX10_overwrite, .instanceMethod yX10_overwrite, .selects RX10 yX10_overwrite yX10_overwrite, .code yX10_overwrite cX10_overwrite 3 none, .methodLink RX10 126 yX10_valueOf, .instanceMethod yX10_valueOf, .selects RX10 yX10_valueOf yX10_valueOf, .code yX10_valueOf cX10_valueOf 2 (some (.object "LowEnergy$Row")), .fieldLink RX10 20 "LowEnergy$Server" "values" "[LLowEnergy$Row;", .methodLink RX10 97 yX10_refuse, .static yX10_refuse, .code yX10_refuse cX10_refuse 4 none, .methodLink RX10 108 yX9_putNumber, .instanceMethod yX9_putNumber, .selects RX9 yX9_putNumber yX9_putNumber, .code yX9_putNumber cX9_putNumber 5 none, .constantLong RX9 25 (255)] : List Cond) ++ (wsX90 ++ (wsX100 ++ ([]))))
theorem hi_Server_answerWrite_X9 : ∀ x ∈ u_ws RX9 TX9 2, x ∈ wp_Server_answerWrite := fun _ h => List.mem_cons_of_mem _ (List.mem_append_right _ (List.mem_append_left _ h))
theorem hi_Server_answerWrite_X10 : ∀ x ∈ u_ws RX10 TX10 10, x ∈ wp_Server_answerWrite := fun _ h => List.mem_cons_of_mem _ (List.mem_append_right _ (List.mem_append_right _ (List.mem_append_left _ h)))
set_option maxRecDepth 100000 in
theorem gd_Server_answerWrite_Row_at_63 : GoodIn wp_Server_answerWrite (wsV RX10 63 RX9 yX9_at wp_Row_at) := goodIn_app (goodIn_r _ [1, 2, 3, 4] rfl rfl) (goodIn_ca (goodIn_r _ [5, 6, 7] rfl rfl) (goodIn_app (goodIn_cls hi_Server_answerWrite_X9 gw_X9) (goodIn_nil)))
set_option maxRecDepth 100000 in
theorem gd_Server_answerWrite_Server_faultOfWrite_86 : GoodIn wp_Server_answerWrite (wsV RX10 86 RX10 yX10_faultOfWrite wp_Server_faultOfWrite) := goodIn_app (goodIn_r _ [8, 9, 10, 11] rfl rfl) (goodIn_ca (goodIn_r _ [12, 1, 2, 3, 4, 5, 6, 7, 13, 14, 15, 16, 17, 18, 19] rfl rfl) (goodIn_app (goodIn_cls hi_Server_answerWrite_X9 gw_X9) (goodIn_app (goodIn_cls hi_Server_answerWrite_X10 gw_X10) (goodIn_nil))))
set_option maxRecDepth 100000 in
theorem gd_Server_answerWrite_Row_put_83 : GoodIn wp_Server_answerWrite (wsV RX10 83 RX9 yX9_put wp_Row_put) := goodIn_app (goodIn_r _ [20, 21, 22, 4] rfl rfl) (goodIn_ca (goodIn_r _ [23, 6, 7] rfl rfl) (goodIn_app (goodIn_cls hi_Server_answerWrite_X9 gw_X9) (goodIn_nil)))
set_option maxRecDepth 100000 in
theorem gd_Server_answerWrite_Row_putPart_133 : GoodIn wp_Server_answerWrite (wsV RX10 133 RX9 yX9_putPart wp_Row_putPart) := goodIn_app (goodIn_r _ [24, 25, 26, 4] rfl rfl) (goodIn_ca (goodIn_r _ [27, 6, 7, 28, 29, 30, 31] rfl rfl) (goodIn_app (goodIn_cls hi_Server_answerWrite_X9 gw_X9) (goodIn_nil)))
set_option maxRecDepth 100000 in
theorem gd_Server_answerWrite_Row_clear_130 : GoodIn wp_Server_answerWrite (wsV RX10 130 RX9 yX9_clear wp_Row_clear) := goodIn_app (goodIn_r _ [33, 34, 35, 4] rfl rfl) (goodIn_ca (goodIn_r _ [36, 6] rfl rfl) (goodIn_app (goodIn_cls hi_Server_answerWrite_X9 gw_X9) (goodIn_nil)))
set_option maxRecDepth 100000 in
theorem gd_Server_answerWrite_Server_overwrite_90 : GoodIn wp_Server_answerWrite (wsV RX10 90 RX10 yX10_overwrite wp_Server_overwrite) := goodIn_app (goodIn_r _ [37, 38, 39, 11] rfl rfl) (goodIn_ca (goodIn_r _ [40, 14, 15, 16, 4, 17, 6, 7, 41, 42, 43, 11, 44, 18, 45, 33, 34, 35, 36, 24, 25, 26, 27, 28, 29, 30, 31] rfl rfl) (goodIn_app (goodIn_cls hi_Server_answerWrite_X9 gw_X9) (goodIn_app (goodIn_cls hi_Server_answerWrite_X10 gw_X10) (goodIn_nil))))
set_option maxRecDepth 100000 in
theorem gd_Server_answerWrite_Row_two_76 : GoodIn wp_Server_answerWrite (wsV RX10 76 RX9 yX9_two wp_Row_two) := goodIn_app (goodIn_r _ [14, 15, 16, 4] rfl rfl) (goodIn_ca (goodIn_r _ [17, 6, 7] rfl rfl) (goodIn_app (goodIn_cls hi_Server_answerWrite_X9 gw_X9) (goodIn_nil)))
set_option maxRecDepth 100000 in
theorem gd_Server_answerWrite_Server_refuse_97 : GoodIn wp_Server_answerWrite (va_wsS RX10 97 yX10_refuse wp_Server_refuse) := goodIn_app (goodIn_r _ [46, 47, 11] rfl rfl) (goodIn_ca (goodIn_r _ [48, 20, 21, 22, 4, 23, 6, 7, 49, 50, 51, 52, 53] rfl rfl) (goodIn_app (goodIn_cls hi_Server_answerWrite_X9 gw_X9) (goodIn_nil)))
set_option maxHeartbeats 4000000 in
set_option maxRecDepth 100000 in
theorem b_Server_answerWrite {p : Program} {l : Launch} {e : Env} {R : Room} {s : State} {m : MethodId} {args : Array Value} {below : List Frame} {meth : Method} {c : Code} {D : va_G} {K : Nat → ClassId} {A : Nat → Prop} {Q : State → Prop} {τ : Nat → Option Ty} {dom : List Nat} {zb zL : Nat} {zx : Nat → Int32} {zs : Nat → Nat} (hR : 3 ≤ R.frames ∧ 60 ≤ R.locals) (B : Bx p s m args c cX10_answerWrite 6 RX10 wp_Server_answerWrite D (tysA K) A) (Z : Sk τ dom) (hz : ZL zb zL zx zs A s s.heap) (h : Nat) (w0 : Nat) (x2 : Int) (g : Nat) (t_h : τ h = some (40, 0, 0)) (t_w0 : τ w0 = some (1, 12, 0)) (r_x2 : 0 ≤ x2 ∧ x2 ≤ 1) (t_g : τ g = some (1, 8, 0)) (σ0 : Nat → va_E) (G0 : Good K τ σ0) (hend : ∀ (σ' : Nat → va_E) (lv : List (Nat × Value)) (pc : Nat), Good K τ σ' → Fr τ [(2, 8), (1, 8), (1, 14), (2, 14), (40, 0), (1, 13), (2, 13)] σ0 σ' → decode cX10_answerWrite pc = .ok (.return_, 1) → V p l e R s m args below meth c 6 D A Q (0, 0) (fd dom σ') lv pc []) : V p l e R s m args below meth c 6 D A Q (0, 0) (fd dom σ0) [(0, .ref h), (1, .ref w0), (2, .int (iI x2)), (3, .ref g)] 0 [] := by
  have F0 : Fr τ [(2, 8), (1, 8), (1, 14), (2, 14), (40, 0), (1, 13), (2, 13)] σ0 σ0 := Fr.rf
  refine v_aload_n B dX10_answerWrite_0 rfl rfl ?_
  refine v_iconst B (v := iI 0) dX10_answerWrite_1 rfl ?_
  refine u_callVi B Z hz (n := 1) (As := [.int (iI 0)]) (rest := []) (c_Row_at l D K Z _ _ _ _ w0 0 t_w0 ⟨by omega, by omega⟩ σ0 G0) gd_Server_answerWrite_Row_at_63 rfl rfl rfl (by decide +kernel) ⟨Nat.le_trans (by decide +kernel) hR.1, Nat.le_trans (by decide +kernel) hR.2⟩ t_w0 (cls_Row G0 t_w0) rfl rfl rfl rfl (Nat.le_of_ble_eq_true rfl) dX10_answerWrite_2 ⟨Nat.zero_le _, Nat.zero_le _⟩ (fun v3 σ1 p2 => ?_)
  obtain ⟨rfl, z7, e8, r9⟩ := p2
  subst e8
  refine v_istore B (lv' := [(4, .int (iI z7)), (0, .ref h), (1, .ref w0), (2, .int (iI x2)), (3, .ref g)]) dX10_answerWrite_5 (by decide +kernel) rfl ?_
  refine v_aload_n B dX10_answerWrite_7 rfl rfl ?_
  refine v_aload_n B dX10_answerWrite_8 rfl rfl ?_
  refine v_iload_n B dX10_answerWrite_9 rfl rfl ?_
  refine u_callVi B Z hz (n := 2) (As := [.ref w0, .int (iI x2)]) (rest := []) (c_Server_faultOfWrite l D K Z _ _ _ _ h w0 x2 t_h t_w0 ⟨by omega, by omega⟩ σ0 G0) gd_Server_answerWrite_Server_faultOfWrite_86 rfl rfl rfl (by decide +kernel) ⟨Nat.le_trans (by decide +kernel) hR.1, Nat.le_trans (by decide +kernel) hR.2⟩ t_h (cls_Server G0 t_h) rfl rfl rfl rfl (Nat.le_of_ble_eq_true rfl) dX10_answerWrite_10 ⟨Nat.zero_le _, Nat.zero_le _⟩ (fun v12 σ10 p11 => ?_)
  obtain ⟨rfl, z16, e17, r18⟩ := p11
  subst e17
  refine v_istore B (lv' := [(5, .int (iI z16)), (4, .int (iI z7)), (0, .ref h), (1, .ref w0), (2, .int (iI x2)), (3, .ref g)]) dX10_answerWrite_13 (by decide +kernel) rfl ?_
  refine v_iload B dX10_answerWrite_15 rfl ?_
  refine u_if_eq B (tgt := 34) (by omega) dX10_answerWrite_17 (by decide +kernel) (fun c19 => ?_) (fun c19 => ?_)
  · refine v_aload_n B dX10_answerWrite_34 rfl rfl ?_
    refine v_iload B dX10_answerWrite_35 rfl ?_
    refine v_iconst B (v := iI 1) dX10_answerWrite_37 rfl ?_
    refine v_iadd B (v := iI (z7 + 1)) dX10_answerWrite_38 ((iI_add _ _).trans (congrArg iI (by omega))) ?_
    refine u_callVv B Z hz (n := 1) (As := [.int (iI (z7 + 1))]) (rest := []) (c_Row_put l D K Z _ _ _ _ g (z7 + 1) t_g ⟨by omega, by omega⟩ σ0 G0) gd_Server_answerWrite_Row_put_83 rfl rfl rfl (by decide +kernel) ⟨Nat.le_trans (by decide +kernel) hR.1, Nat.le_trans (by decide +kernel) hR.2⟩ t_g (cls_Row G0 t_g) rfl rfl rfl rfl (Nat.le_of_ble_eq_true rfl) dX10_answerWrite_39 ⟨Nat.zero_le _, Nat.zero_le _⟩ (fun σ20 p21 => ?_)
    obtain ⟨G23, F24⟩ := p21
    have F25 := F0.call F24 (by first | rfl | simp)
    refine v_iload B dX10_answerWrite_42 rfl ?_
    refine v_bipush B (v := iI 18) dX10_answerWrite_44 (by decide +kernel) ?_
    refine u_icmp_ne B (tgt := 55) (by omega) (by omega) dX10_answerWrite_46 (by decide +kernel) (fun c26 => ?_) (fun c26 => ?_)
    · refine v_aload_n B dX10_answerWrite_55 rfl rfl ?_
      refine v_aload_n B dX10_answerWrite_56 rfl rfl ?_
      refine v_iconst B (v := iI 1) dX10_answerWrite_57 rfl ?_
      refine v_aload_n B dX10_answerWrite_58 rfl rfl ?_
      obtain ⟨b27, N28, n29, h30, t31, r32⟩ : okRow τ 12 (σ20 w0) := G23 w0 _ t_w0
      refine u_getN B Z (C := RX9) (T := TX9) (N := 2) (ci := 9) hi_Server_answerWrite_X9 t_w0 h30 rfl 1 (by decide +kernel) (List.mem_of_getElem? (i := 96) rfl) rfl dX10_answerWrite_59 ?_
      refine u_callVv B Z hz (n := 3) (As := [.ref w0, .int (iI 1), .int (iI n29)]) (rest := []) (c_Row_putPart l D K Z _ _ _ _ g w0 1 n29 t_g t_w0 ⟨by omega, by omega⟩ ⟨by omega, by omega⟩ σ20 G23) gd_Server_answerWrite_Row_putPart_133 rfl rfl rfl (by decide +kernel) ⟨Nat.le_trans (by decide +kernel) hR.1, Nat.le_trans (by decide +kernel) hR.2⟩ t_g (cls_Row G23 t_g) rfl rfl rfl rfl (Nat.le_of_ble_eq_true rfl) dX10_answerWrite_62 ⟨Nat.zero_le _, Nat.zero_le _⟩ (fun σ33 p34 => ?_)
      obtain ⟨G36, F37⟩ := p34
      have F38 := F25.call F37 (by first | rfl | simp)
      have h39 := (F37 w0 _ t_w0 (by first | rfl | simp)).trans h30
      refine v_aload_n B dX10_answerWrite_65 rfl rfl ?_
      obtain ⟨a40, a41, a42, z43, z44, z45, a46, z47, z48, a49, h50, t51, t52, t53, r54, r55, r56, t57, r58, r59, t60⟩ : okServer τ (σ33 h) := G36 h _ t_h
      refine u_get B Z (C := RX10) (T := TX10) (N := 10) (ci := 10) hi_Server_answerWrite_X10 t_h h50 rfl 7 (by decide +kernel) (List.mem_of_getElem? (i := 13) rfl) rfl dX10_answerWrite_66 ?_
      refine v_aload_n B dX10_answerWrite_69 rfl rfl ?_
      refine u_get B Z (C := RX10) (T := TX10) (N := 10) (ci := 10) hi_Server_answerWrite_X10 t_h h50 rfl 6 (by decide +kernel) (List.mem_of_getElem? (i := 32) rfl) rfl dX10_answerWrite_70 ?_
      obtain ⟨f61, h62, e63⟩ : okRA K τ 14 6 (σ33 a46) := G36 a46 _ t57
      refine u_alen B Z (t0 := 4) (v := 6) t57 h62 rfl (by first | rfl | omega) dX10_answerWrite_73 ?_
      refine u_icmp_ge B (tgt := 117) (by omega) (by omega) dX10_answerWrite_74 (by decide +kernel) (fun c64 => ?_) (fun c64 => ?_)
      · exact hend σ33 _ _ G36 F38 dX10_answerWrite_117
      · refine v_aload_n B dX10_answerWrite_77 rfl rfl ?_
        refine u_get B Z (C := RX10) (T := TX10) (N := 10) (ci := 10) hi_Server_answerWrite_X10 t_h h50 rfl 6 (by decide +kernel) (List.mem_of_getElem? (i := 32) rfl) rfl dX10_answerWrite_78 ?_
        refine v_aload_n B dX10_answerWrite_81 rfl rfl ?_
        refine u_get B Z (C := RX10) (T := TX10) (N := 10) (ci := 10) hi_Server_answerWrite_X10 t_h h50 rfl 7 (by decide +kernel) (List.mem_of_getElem? (i := 13) rfl) rfl dX10_answerWrite_82 ?_
        obtain ⟨a65, e66, t67⟩ := e63 (z47 : Int).toNat (by omega)
        refine u_aald B Z (t0 := 4) (v := .ref a65) t57 h62 rfl (by omega) (by rw [e66]; rfl) dX10_answerWrite_85 ?_
        refine u_callVv B Z hz (n := 0) (As := []) (rest := []) (c_Row_clear l D K Z _ _ _ _ a65 t67 σ33 G36) gd_Server_answerWrite_Row_clear_130 rfl rfl rfl (by decide +kernel) ⟨Nat.le_trans (by decide +kernel) hR.1, Nat.le_trans (by decide +kernel) hR.2⟩ t67 (cls_Row G36 t67) rfl rfl rfl rfl (Nat.le_of_ble_eq_true rfl) dX10_answerWrite_86 ⟨Nat.zero_le _, Nat.zero_le _⟩ (fun σ68 p69 => ?_)
        obtain ⟨G71, F72⟩ := p69
        have F73 := F38.call F72 (by first | rfl | simp)
        have h74 := (F72 w0 _ t_w0 (by first | rfl | simp)).trans h39
        have h75 := (F72 h _ t_h (by first | rfl | simp)).trans h50
        have h76 := (F72 a46 _ t57 (by first | rfl | simp)).trans h62
        refine v_aload_n B dX10_answerWrite_89 rfl rfl ?_
        refine u_get B Z (C := RX10) (T := TX10) (N := 10) (ci := 10) hi_Server_answerWrite_X10 t_h h75 rfl 6 (by decide +kernel) (List.mem_of_getElem? (i := 32) rfl) rfl dX10_answerWrite_90 ?_
        refine v_aload_n B dX10_answerWrite_93 rfl rfl ?_
        refine u_get B Z (C := RX10) (T := TX10) (N := 10) (ci := 10) hi_Server_answerWrite_X10 t_h h75 rfl 7 (by decide +kernel) (List.mem_of_getElem? (i := 13) rfl) rfl dX10_answerWrite_94 ?_
        obtain ⟨a77, e78, t79⟩ := e63 (z47 : Int).toNat (by omega)
        refine u_aald B Z (t0 := 4) (v := .ref a77) t57 h76 rfl (by omega) (by rw [e78]; rfl) dX10_answerWrite_97 ?_
        refine v_aload_n B dX10_answerWrite_98 rfl rfl ?_
        refine v_iconst B (v := iI 1) dX10_answerWrite_99 rfl ?_
        refine v_aload_n B dX10_answerWrite_100 rfl rfl ?_
        refine u_getN B Z (C := RX9) (T := TX9) (N := 2) (ci := 9) hi_Server_answerWrite_X9 t_w0 h74 rfl 1 (by decide +kernel) (List.mem_of_getElem? (i := 96) rfl) rfl dX10_answerWrite_101 ?_
        refine u_callVv B Z hz (n := 3) (As := [.ref w0, .int (iI 1), .int (iI n29)]) (rest := []) (c_Row_putPart l D K Z _ _ _ _ a77 w0 1 n29 t79 t_w0 ⟨by omega, by omega⟩ ⟨by omega, by omega⟩ σ68 G71) gd_Server_answerWrite_Row_putPart_133 rfl rfl rfl (by decide +kernel) ⟨Nat.le_trans (by decide +kernel) hR.1, Nat.le_trans (by decide +kernel) hR.2⟩ t79 (cls_Row G71 t79) rfl rfl rfl rfl (Nat.le_of_ble_eq_true rfl) dX10_answerWrite_104 ⟨Nat.zero_le _, Nat.zero_le _⟩ (fun σ80 p81 => ?_)
        obtain ⟨G83, F84⟩ := p81
        have F85 := F73.call F84 (by first | rfl | simp)
        have h86 := (F84 w0 _ t_w0 (by first | rfl | simp)).trans h74
        have h87 := (F84 h _ t_h (by first | rfl | simp)).trans h75
        have h88 := (F84 a46 _ t57 (by first | rfl | simp)).trans h76
        refine v_aload_n B dX10_answerWrite_107 rfl rfl ?_
        refine v_dup B dX10_answerWrite_108 rfl ?_
        refine u_get B Z (C := RX10) (T := TX10) (N := 10) (ci := 10) hi_Server_answerWrite_X10 t_h h87 rfl 7 (by decide +kernel) (List.mem_of_getElem? (i := 13) rfl) rfl dX10_answerWrite_109 ?_
        refine v_iconst B (v := iI 1) dX10_answerWrite_112 rfl ?_
        refine v_iadd B (v := iI (z47 + 1)) dX10_answerWrite_113 ((iI_add _ _).trans (congrArg iI (by omega))) ?_
        refine u_put B Z (C := RX10) (T := TX10) (N := 10) (ci := 10) hi_Server_answerWrite_X10 t_h h87 rfl 7 (by decide +kernel) tyX10 tyX10_ok nmX10 (List.mem_of_getElem? (i := 13) rfl) rfl (ty := .int) (tyX10_ok 7 (by decide +kernel)) rfl rfl (Nat.le_of_ble_eq_true rfl) (fs' := [.ref a40, .ref a41, .ref a42, .int (iI z43), .int (iI z44), .int (iI z45), .ref a46, .int (iI (z47 + 1)), .int (iI z48), .ref a49]) rfl dX10_answerWrite_114 (fun σ89 h90 n91 => ?_)
        have G92 := G83.put t_h (⟨a40, a41, a42, z43, z44, z45, a46, (z47 + 1), z48, a49, h90, t51, t52, t53, ⟨by omega, by omega⟩, ⟨by omega, by omega⟩, ⟨by omega, by omega⟩, t57, ⟨by omega, by omega⟩, ⟨by omega, by omega⟩, t60⟩ : Ok K τ (40, 0, 0) (σ89 h)) n91
        have F93 := F85.put t_h (by simp) n91
        have h94 := (n91 w0 (ne_ty t_w0 t_h (by simp))).trans h86
        have h95 := (n91 a46 (ne_ty t57 t_h (by simp))).trans h88
        exact hend σ89 _ _ G92 F93 dX10_answerWrite_117
    · refine v_aload_n B dX10_answerWrite_49 rfl rfl ?_
      refine v_aload_n B dX10_answerWrite_50 rfl rfl ?_
      refine u_callVv B Z hz (n := 1) (As := [.ref w0]) (rest := []) (c_Server_overwrite l D K Z _ _ _ _ h w0 t_h t_w0 σ20 G23) gd_Server_answerWrite_Server_overwrite_90 rfl rfl rfl (by decide +kernel) ⟨Nat.le_trans (by decide +kernel) hR.1, Nat.le_trans (by decide +kernel) hR.2⟩ t_h (cls_Server G23 t_h) rfl rfl rfl rfl (Nat.le_of_ble_eq_true rfl) dX10_answerWrite_51 ⟨Nat.zero_le _, Nat.zero_le _⟩ (fun σ96 p97 => ?_)
      obtain ⟨G99, F100⟩ := p97
      have F101 := F25.call F100 (by first | rfl | simp)
      exact hend σ96 _ _ G99 F101 dX10_answerWrite_54
  · refine v_iload B dX10_answerWrite_20 rfl ?_
    refine v_aload_n B dX10_answerWrite_22 rfl rfl ?_
    refine v_iconst B (v := iI 1) dX10_answerWrite_23 rfl ?_
    refine u_callVi B Z hz (n := 1) (As := [.int (iI 1)]) (rest := [.int (iI z7)]) (c_Row_two l D K Z _ _ _ _ w0 1 t_w0 ⟨by omega, by omega⟩ σ0 G0) gd_Server_answerWrite_Row_two_76 rfl rfl rfl (by decide +kernel) ⟨Nat.le_trans (by decide +kernel) hR.1, Nat.le_trans (by decide +kernel) hR.2⟩ t_w0 (cls_Row G0 t_w0) rfl rfl rfl rfl (Nat.le_of_ble_eq_true rfl) dX10_answerWrite_24 ⟨Nat.zero_le _, Nat.zero_le _⟩ (fun v104 σ102 p103 => ?_)
    obtain ⟨rfl, z108, e109, r110⟩ := p103
    subst e109
    refine v_iload B dX10_answerWrite_27 rfl ?_
    refine v_aload_n B dX10_answerWrite_29 rfl rfl ?_
    refine u_callSv B Z hz (n := 4) (As := [.int (iI z7), .int (iI z108), .int (iI z16), .ref g]) (rest := []) (c_Server_refuse l D K Z _ _ _ _ z7 z108 z16 g ⟨by omega, by omega⟩ ⟨by omega, by omega⟩ ⟨by omega, by omega⟩ t_g σ0 G0) gd_Server_answerWrite_Server_refuse_97 rfl rfl rfl (by decide +kernel) ⟨Nat.le_trans (by decide +kernel) hR.1, Nat.le_trans (by decide +kernel) hR.2⟩ rfl rfl (Nat.le_of_ble_eq_true rfl) dX10_answerWrite_30 ⟨Nat.zero_le _, Nat.zero_le _⟩ (fun σ111 p112 => ?_)
    obtain ⟨G114, F115⟩ := p112
    have F116 := F0.call F115 (by first | rfl | simp)
    exact hend σ111 _ _ G114 F116 dX10_answerWrite_33
set_option maxRecDepth 100000 in
theorem c_Server_answerWrite (l : Launch) (D : va_G) (K : Nat → ClassId) {τ : Nat → Option Ty} {dom : List Nat} (Z : Sk τ dom) (zb zL : Nat) (zx : Nat → Int32) (zs : Nat → Nat) (h : Nat) (w0 : Nat) (x2 : Int) (g : Nat) (t_h : τ h = some (40, 0, 0)) (t_w0 : τ w0 = some (1, 12, 0)) (r_x2 : 0 ≤ x2 ∧ x2 ≤ 1) (t_g : τ g = some (1, 8, 0)) (σ0 : Nat → va_E) (G0 : Good K τ σ0) : MZ l yX10_answerWrite wp_Server_answerWrite ({ frames := 3, cells := 0, slots := 0, locals := 60 }) D (tysA K) [.ref h, .ref w0, .int (iI x2), .ref g] (fd dom σ0) zb zL zx zs (Qv D (fun σ' => Good K τ σ' ∧ Fr τ [(2, 8), (1, 8), (1, 14), (2, 14), (40, 0), (1, 13), (2, 13)] σ0 σ') (fun σ' => fd dom σ')) 0 0 := by
  refine mz_of (cc := cX10_answerWrite) (maxL := 6) (ret := none) (by decide +kernel) rfl (Nat.le_of_ble_eq_true rfl) ?_
  intro p e s m below meth c A B hr hlk _ hz
  exact b_Server_answerWrite ⟨Nat.le_refl _, Nat.le_refl _⟩ B Z hz h w0 x2 g t_h t_w0 r_x2 t_g σ0 G0 (fun σ' lv pc G F hd => v_vret B hr hlk σ' ⟨G, F⟩ rfl (Nat.le_refl _) (Nat.le_refl _) hd)

def wp_Server_faultOfPart : List Cond := .code yX10_faultOfPart cX10_faultOfPart 5 (some .int) :: (([.methodLink RX10 76 yX9_two, .instanceMethod yX9_two, .selects RX9 yX9_two yX9_two, .initialized RX9, .code yX9_two cX9_two 2 (some .int), .fieldLink RX9 21 "LowEnergy$Row" "size" "I", .fieldLink RX9 15 "LowEnergy$Row" "bytes" "[I", .fieldLink RX10 56 "LowEnergy$Server" "count" "I", .fieldLink RX10 34 "LowEnergy$Server" "sizes" "[I", .methodLink RX10 53 Lib.Math.max.name, .static Lib.Math.max.name, .initialized "java/lang/Math", .code Lib.Math.max.name Lib.Math.max.code 2 (some .int)] : List Cond) ++ (wsX90 ++ (wsX100 ++ ([]))))
theorem hi_Server_faultOfPart_X9 : ∀ x ∈ u_ws RX9 TX9 2, x ∈ wp_Server_faultOfPart := fun _ h => List.mem_cons_of_mem _ (List.mem_append_right _ (List.mem_append_left _ h))
theorem hi_Server_faultOfPart_X10 : ∀ x ∈ u_ws RX10 TX10 10, x ∈ wp_Server_faultOfPart := fun _ h => List.mem_cons_of_mem _ (List.mem_append_right _ (List.mem_append_right _ (List.mem_append_left _ h)))
set_option maxRecDepth 100000 in
theorem gd_Server_faultOfPart_Row_two_76 : GoodIn wp_Server_faultOfPart (wsV RX10 76 RX9 yX9_two wp_Row_two) := goodIn_app (goodIn_r _ [1, 2, 3, 4] rfl rfl) (goodIn_ca (goodIn_r _ [5, 6, 7] rfl rfl) (goodIn_app (goodIn_cls hi_Server_faultOfPart_X9 gw_X9) (goodIn_nil)))
set_option maxHeartbeats 4000000 in
set_option maxRecDepth 100000 in
theorem b_Server_faultOfPart {p : Program} {l : Launch} {e : Env} {R : Room} {s : State} {m : MethodId} {args : Array Value} {below : List Frame} {meth : Method} {c : Code} {D : va_G} {K : Nat → ClassId} {A : Nat → Prop} {Q : State → Prop} {τ : Nat → Option Ty} {dom : List Nat} {zb zL : Nat} {zx : Nat → Int32} {zs : Nat → Nat} (hR : 1 ≤ R.frames ∧ 21 ≤ R.locals) (B : Bx p s m args c cX10_faultOfPart 5 RX10 wp_Server_faultOfPart D (tysA K) A) (Z : Sk τ dom) (hz : ZL zb zL zx zs A s s.heap) (h : Nat) (g : Nat) (t_h : τ h = some (40, 0, 0)) (t_g : τ g = some (1, 14, 0)) (σ0 : Nat → va_E) (G0 : Good K τ σ0) (hend : ∀ (σ' : Nat → va_E) (z : Int) (lv : List (Nat × Value)) (pc : Nat), Good K τ σ' → Fr τ [(3, 28)] σ0 σ' → (0 ≤ z ∧ z ≤ 13) → decode cX10_faultOfPart pc = .ok (.ireturn, 1) → V p l e R s m args below meth c 5 D A Q (0, 0) (fd dom σ') lv pc [.int (iI z)]) : V p l e R s m args below meth c 5 D A Q (0, 0) (fd dom σ0) [(0, .ref h), (1, .ref g)] 0 [] := by
  have F0 : Fr τ [(3, 28)] σ0 σ0 := Fr.rf
  refine v_aload_n B dX10_faultOfPart_0 rfl rfl ?_
  refine v_iconst B (v := iI 0) dX10_faultOfPart_1 rfl ?_
  refine u_callVi B Z hz (n := 1) (As := [.int (iI 0)]) (rest := []) (c_Row_two l D K Z _ _ _ _ g 0 t_g ⟨by omega, by omega⟩ σ0 G0) gd_Server_faultOfPart_Row_two_76 rfl rfl rfl (by decide +kernel) ⟨Nat.le_trans (by decide +kernel) hR.1, Nat.le_trans (by decide +kernel) hR.2⟩ t_g (cls_Row G0 t_g) rfl rfl rfl rfl (Nat.le_of_ble_eq_true rfl) dX10_faultOfPart_2 ⟨Nat.zero_le _, Nat.zero_le _⟩ (fun v3 σ1 p2 => ?_)
  obtain ⟨rfl, z7, e8, r9⟩ := p2
  subst e8
  refine v_istore_n B (lv' := [(2, .int (iI z7)), (0, .ref h), (1, .ref g)]) dX10_faultOfPart_5 rfl (by decide +kernel) rfl ?_
  refine v_iload_n B dX10_faultOfPart_6 rfl rfl ?_
  refine v_iconst B (v := iI 1) dX10_faultOfPart_7 rfl ?_
  refine u_icmp_lt B (tgt := 28) (by omega) (by omega) dX10_faultOfPart_8 (by decide +kernel) (fun c10 => ?_) (fun c10 => ?_)
  · refine v_iconst B (v := iI 1) dX10_faultOfPart_28 rfl ?_
    exact hend σ0 1 _ _ G0 F0 ⟨by omega, by omega⟩ dX10_faultOfPart_29
  · refine v_iload_n B dX10_faultOfPart_11 rfl rfl ?_
    refine v_aload_n B dX10_faultOfPart_12 rfl rfl ?_
    obtain ⟨a11, a12, a13, z14, z15, z16, a17, z18, z19, a20, h21, t22, t23, t24, r25, r26, r27, t28, r29, r30, t31⟩ : okServer τ (σ0 h) := G0 h _ t_h
    refine u_get B Z (C := RX10) (T := TX10) (N := 10) (ci := 10) hi_Server_faultOfPart_X10 t_h h21 rfl 3 (by decide +kernel) (List.mem_of_getElem? (i := 8) rfl) rfl dX10_faultOfPart_13 ?_
    refine u_icmp_gt B (tgt := 28) (by omega) (by omega) dX10_faultOfPart_16 (by decide +kernel) (fun c32 => ?_) (fun c32 => ?_)
    · refine v_iconst B (v := iI 1) dX10_faultOfPart_28 rfl ?_
      exact hend σ0 1 _ _ G0 F0 ⟨by omega, by omega⟩ dX10_faultOfPart_29
    · refine v_iload_n B dX10_faultOfPart_19 rfl rfl ?_
      refine v_aload_n B dX10_faultOfPart_20 rfl rfl ?_
      refine u_get B Z (C := RX10) (T := TX10) (N := 10) (ci := 10) hi_Server_faultOfPart_X10 t_h h21 rfl 9 (by decide +kernel) (List.mem_of_getElem? (i := 9) rfl) rfl dX10_faultOfPart_21 ?_
      obtain ⟨f33, h34, r35⟩ : okP K 20 (σ0 a20) := G0 a20 _ t31
      refine u_alen B Z (t0 := 0) (v := 20) t31 h34 rfl (by first | rfl | omega) dX10_faultOfPart_24 ?_
      refine u_icmp_le B (tgt := 30) (by omega) (by omega) dX10_faultOfPart_25 (by decide +kernel) (fun c36 => ?_) (fun c36 => by omega)
      refine v_aload_n B dX10_faultOfPart_30 rfl rfl ?_
      refine v_iconst B (v := iI 2) dX10_faultOfPart_31 rfl ?_
      refine u_callVi B Z hz (n := 1) (As := [.int (iI 2)]) (rest := []) (c_Row_two l D K Z _ _ _ _ g 2 t_g ⟨by omega, by omega⟩ σ0 G0) gd_Server_faultOfPart_Row_two_76 rfl rfl rfl (by decide +kernel) ⟨Nat.le_trans (by decide +kernel) hR.1, Nat.le_trans (by decide +kernel) hR.2⟩ t_g (cls_Row G0 t_g) rfl rfl rfl rfl (Nat.le_of_ble_eq_true rfl) dX10_faultOfPart_32 ⟨Nat.zero_le _, Nat.zero_le _⟩ (fun v39 σ37 p38 => ?_)
      obtain ⟨rfl, z43, e44, r45⟩ := p38
      subst e44
      refine v_istore_n B (lv' := [(3, .int (iI z43)), (2, .int (iI z7)), (0, .ref h), (1, .ref g)]) dX10_faultOfPart_35 rfl (by decide +kernel) rfl ?_
      refine v_iload_n B dX10_faultOfPart_36 rfl rfl ?_
      refine v_aload_n B dX10_faultOfPart_37 rfl rfl ?_
      obtain ⟨b46, N47, n48, h49, t50, r51⟩ : okRow τ 14 (σ0 g) := G0 g _ t_g
      refine u_getN B Z (C := RX9) (T := TX9) (N := 2) (ci := 9) hi_Server_faultOfPart_X9 t_g h49 rfl 1 (by decide +kernel) (List.mem_of_getElem? (i := 96) rfl) rfl dX10_faultOfPart_38 ?_
      refine v_iadd B (v := iI (z43 + n48)) dX10_faultOfPart_41 ((iI_add _ _).trans (congrArg iI (by omega))) ?_
      refine v_iconst B (v := iI 4) dX10_faultOfPart_42 rfl ?_
      refine v_isub B (v := iI (z43 + n48 + (-4))) dX10_faultOfPart_43 ((iI_sub _ _).trans (congrArg iI (by omega))) ?_
      refine v_istore B (lv' := [(4, .int (iI (z43 + n48 + (-4)))), (3, .int (iI z43)), (2, .int (iI z7)), (0, .ref h), (1, .ref g)]) dX10_faultOfPart_44 (by decide +kernel) rfl ?_
      refine v_iload_n B dX10_faultOfPart_46 rfl rfl ?_
      refine v_aload_n B dX10_faultOfPart_47 rfl rfl ?_
      refine u_get B Z (C := RX10) (T := TX10) (N := 10) (ci := 10) hi_Server_faultOfPart_X10 t_h h21 rfl 9 (by decide +kernel) (List.mem_of_getElem? (i := 9) rfl) rfl dX10_faultOfPart_48 ?_
      refine v_iload_n B dX10_faultOfPart_51 rfl rfl ?_
      refine v_iconst B (v := iI 1) dX10_faultOfPart_52 rfl ?_
      refine v_isub B (v := iI (z7 + (-1))) dX10_faultOfPart_53 ((iI_sub _ _).trans (congrArg iI (by omega))) ?_
      obtain ⟨z52, e53, r54⟩ := iI_any (f33 ((z7 + (-1)) : Int).toNat)
      refine u_iald B Z (t0 := 0) t31 h34 rfl (by omega) e53 dX10_faultOfPart_54 ?_
      refine u_icmp_le B (tgt := 61) (by omega) (by omega) dX10_faultOfPart_55 (by decide +kernel) (fun c55 => ?_) (fun c55 => ?_)
      · refine v_iload B dX10_faultOfPart_61 rfl ?_
        refine v_bipush B (v := iI 40) dX10_faultOfPart_63 (by decide +kernel) ?_
        refine u_icmp_le B (tgt := 71) (by omega) (by omega) dX10_faultOfPart_65 (by decide +kernel) (fun c56 => ?_) (fun c56 => ?_)
        · refine v_aload_n B dX10_faultOfPart_71 rfl rfl ?_
          refine u_get B Z (C := RX10) (T := TX10) (N := 10) (ci := 10) hi_Server_faultOfPart_X10 t_h h21 rfl 9 (by decide +kernel) (List.mem_of_getElem? (i := 9) rfl) rfl dX10_faultOfPart_72 ?_
          refine v_iload_n B dX10_faultOfPart_75 rfl rfl ?_
          refine v_iconst B (v := iI 1) dX10_faultOfPart_76 rfl ?_
          refine v_isub B (v := iI (z7 + (-1))) dX10_faultOfPart_77 ((iI_sub _ _).trans (congrArg iI (by omega))) ?_
          refine v_aload_n B dX10_faultOfPart_78 rfl rfl ?_
          refine u_get B Z (C := RX10) (T := TX10) (N := 10) (ci := 10) hi_Server_faultOfPart_X10 t_h h21 rfl 9 (by decide +kernel) (List.mem_of_getElem? (i := 9) rfl) rfl dX10_faultOfPart_79 ?_
          refine v_iload_n B dX10_faultOfPart_82 rfl rfl ?_
          refine v_iconst B (v := iI 1) dX10_faultOfPart_83 rfl ?_
          refine v_isub B (v := iI (z7 + (-1))) dX10_faultOfPart_84 ((iI_sub _ _).trans (congrArg iI (by omega))) ?_
          refine u_iald B Z (t0 := 0) t31 h34 rfl (by omega) e53 dX10_faultOfPart_85 ?_
          refine v_iload B dX10_faultOfPart_86 rfl ?_
          obtain ⟨z57, e58, r59⟩ := iI_max (a := z52) (b := (z43 + n48 + (-4))) (by omega) (by omega)
          refine v_mmax B (v := iI z57) (List.mem_of_getElem? (i := 10) rfl) (List.mem_of_getElem? (i := 11) rfl) (List.mem_of_getElem? (i := 12) rfl) (List.mem_of_getElem? (i := 13) rfl) (Nat.le_trans (by decide +kernel) hR.1) (Nat.le_trans (Nat.le_of_ble_eq_true rfl) hR.2) (Nat.zero_le _) (Nat.zero_le _) e58 dX10_faultOfPart_88 ?_
          refine u_iast B Z (t0 := 0) t31 h34 rfl (by omega) dX10_faultOfPart_91 (fun σ60 h61 n62 => ?_)
          have G63 := G0.put t31 (⟨_, h61, r35⟩ : Ok K τ (3, 28, 20) (σ60 a20)) n62
          have F64 := F0.put t31 (by simp) n62
          have h65 := (n62 h (ne_ty t_h t31 (by simp))).trans h21
          have h66 := (n62 g (ne_ty t_g t31 (by simp))).trans h49
          refine v_iconst B (v := iI 0) dX10_faultOfPart_92 rfl ?_
          exact hend σ60 0 _ _ G63 F64 ⟨by omega, by omega⟩ dX10_faultOfPart_93
        · refine v_bipush B (v := iI 13) dX10_faultOfPart_68 (by decide +kernel) ?_
          exact hend σ0 13 _ _ G0 F0 ⟨by omega, by omega⟩ dX10_faultOfPart_70
      · refine v_bipush B (v := iI 7) dX10_faultOfPart_58 (by decide +kernel) ?_
        exact hend σ0 7 _ _ G0 F0 ⟨by omega, by omega⟩ dX10_faultOfPart_60
set_option maxRecDepth 100000 in
theorem c_Server_faultOfPart (l : Launch) (D : va_G) (K : Nat → ClassId) {τ : Nat → Option Ty} {dom : List Nat} (Z : Sk τ dom) (zb zL : Nat) (zx : Nat → Int32) (zs : Nat → Nat) (h : Nat) (g : Nat) (t_h : τ h = some (40, 0, 0)) (t_g : τ g = some (1, 14, 0)) (σ0 : Nat → va_E) (G0 : Good K τ σ0) : MZ l yX10_faultOfPart wp_Server_faultOfPart ({ frames := 1, cells := 0, slots := 0, locals := 21 }) D (tysA K) [.ref h, .ref g] (fd dom σ0) zb zL zx zs (Qi D (fun r σ' => Good K τ σ' ∧ Fr τ [(3, 28)] σ0 σ' ∧ ∃ z : Int, r = iI z ∧ (0 ≤ z ∧ z ≤ 13)) (fun σ' => fd dom σ')) 0 0 := by
  refine mz_of (cc := cX10_faultOfPart) (maxL := 5) (ret := (some .int)) (by decide +kernel) rfl (Nat.le_of_ble_eq_true rfl) ?_
  intro p e s m below meth c A B hr hlk _ hz
  exact b_Server_faultOfPart ⟨Nat.le_refl _, Nat.le_refl _⟩ B Z hz h g t_h t_g σ0 G0 (fun σ' z lv pc G F hZ hd => v_iret B hr hlk σ' ⟨G, F, z, rfl, hZ⟩ rfl (Nat.le_refl _) (Nat.le_refl _) hd)

def wp_Server_writePart : List Cond := .code yX10_writePart cX10_writePart 5 none :: (([.methodLink RX10 63 yX9_at, .instanceMethod yX9_at, .selects RX9 yX9_at yX9_at, .initialized RX9, .code yX9_at cX9_at 2 (some .int), .fieldLink RX9 21 "LowEnergy$Row" "size" "I", .fieldLink RX9 15 "LowEnergy$Row" "bytes" "[I", .methodLink RX10 148 yX9_write, .instanceMethod yX9_write, .selects RX9 yX9_write yX9_write, .code yX9_write cX9_write 3 none, .methodLink RX9 31 yX9_put, .instanceMethod yX9_put, .selects RX9 yX9_put yX9_put, .code yX9_put cX9_put 2 none, .methodLink RX10 76 yX9_two, .instanceMethod yX9_two, .selects RX9 yX9_two yX9_two, .code yX9_two cX9_two 2 (some .int), .methodLink RX10 126 yX10_valueOf, .instanceMethod yX10_valueOf, .selects RX10 yX10_valueOf yX10_valueOf, .initialized RX10, .code yX10_valueOf cX10_valueOf 2 (some (.object "LowEnergy$Row")), .fieldLink RX10 56 "LowEnergy$Server" "count" "I", .fieldLink RX10 20 "LowEnergy$Server" "values" "[LLowEnergy$Row;"] : List Cond) ++ (wsX90 ++ (wsX100 ++ ([]))))
theorem hi_Server_writePart_X9 : ∀ x ∈ u_ws RX9 TX9 2, x ∈ wp_Server_writePart := fun _ h => List.mem_cons_of_mem _ (List.mem_append_right _ (List.mem_append_left _ h))
theorem hi_Server_writePart_X10 : ∀ x ∈ u_ws RX10 TX10 10, x ∈ wp_Server_writePart := fun _ h => List.mem_cons_of_mem _ (List.mem_append_right _ (List.mem_append_right _ (List.mem_append_left _ h)))
set_option maxRecDepth 100000 in
theorem gd_Server_writePart_Row_at_63 : GoodIn wp_Server_writePart (wsV RX10 63 RX9 yX9_at wp_Row_at) := goodIn_app (goodIn_r _ [1, 2, 3, 4] rfl rfl) (goodIn_ca (goodIn_r _ [5, 6, 7] rfl rfl) (goodIn_app (goodIn_cls hi_Server_writePart_X9 gw_X9) (goodIn_nil)))
set_option maxRecDepth 100000 in
theorem gd_Server_writePart_Row_write_148 : GoodIn wp_Server_writePart (wsV RX10 148 RX9 yX9_write wp_Row_write) := goodIn_app (goodIn_r _ [8, 9, 10, 4] rfl rfl) (goodIn_ca (goodIn_r _ [11, 6, 7, 12, 13, 14, 4, 15] rfl rfl) (goodIn_app (goodIn_cls hi_Server_writePart_X9 gw_X9) (goodIn_nil)))
set_option maxRecDepth 100000 in
theorem gd_Server_writePart_Row_two_76 : GoodIn wp_Server_writePart (wsV RX10 76 RX9 yX9_two wp_Row_two) := goodIn_app (goodIn_r _ [16, 17, 18, 4] rfl rfl) (goodIn_ca (goodIn_r _ [19, 6, 7] rfl rfl) (goodIn_app (goodIn_cls hi_Server_writePart_X9 gw_X9) (goodIn_nil)))
set_option maxRecDepth 100000 in
theorem gd_Server_writePart_Server_valueOf_126 : GoodIn wp_Server_writePart (wsV RX10 126 RX10 yX10_valueOf wp_Server_valueOf) := goodIn_app (goodIn_r _ [20, 21, 22, 23] rfl rfl) (goodIn_ca (goodIn_r _ [24, 25, 26] rfl rfl) (goodIn_app (goodIn_cls hi_Server_writePart_X10 gw_X10) (goodIn_nil)))
set_option maxHeartbeats 4000000 in
set_option maxRecDepth 100000 in
theorem b_Server_writePart {p : Program} {l : Launch} {e : Env} {R : Room} {s : State} {m : MethodId} {args : Array Value} {below : List Frame} {meth : Method} {c : Code} {D : va_G} {K : Nat → ClassId} {A : Nat → Prop} {Q : State → Prop} {τ : Nat → Option Ty} {dom : List Nat} {zb zL : Nat} {zx : Nat → Int32} {zs : Nat → Nat} (hR : 2 ≤ R.frames ∧ 43 ≤ R.locals) (B : Bx p s m args c cX10_writePart 5 RX10 wp_Server_writePart D (tysA K) A) (Z : Sk τ dom) (hz : ZL zb zL zx zs A s s.heap) (h : Nat) (g : Nat) (t_h : τ h = some (40, 0, 0)) (t_g : τ g = some (1, 14, 0)) (σ0 : Nat → va_E) (G0 : Good K τ σ0) (hend : ∀ (σ' : Nat → va_E) (lv : List (Nat × Value)) (pc : Nat), Good K τ σ' → Fr τ [(2, 13), (1, 13)] σ0 σ' → decode cX10_writePart pc = .ok (.return_, 1) → V p l e R s m args below meth c 5 D A Q (0, 0) (fd dom σ') lv pc []) : V p l e R s m args below meth c 5 D A Q (0, 0) (fd dom σ0) [(0, .ref h), (1, .ref g)] 0 [] := by
  have F0 : Fr τ [(2, 13), (1, 13)] σ0 σ0 := Fr.rf
  have J19 : ∀ (k19 : Nat) (σ_19 : Nat → va_E) (a19_2 : Nat) (z19_3 : Int) (z19_4 : Int), (2147483648 - z19_4).toNat ≤ k19 → Good K τ σ_19 → Fr τ [(2, 13), (1, 13)] σ0 σ_19 → (τ a19_2 = some (1, 13, 0)) → (0 ≤ z19_3 ∧ z19_3 ≤ 65535) → (4 ≤ z19_4 ∧ z19_4 ≤ 256) → V p l e R s m args below meth c 5 D A Q (0, 0) (fd dom σ_19) [(1, .ref g), (2, .ref a19_2), (3, .int (iI z19_3)), (4, .int (iI z19_4))] 19 [] := by
    intro k19
    induction k19 with
    | zero => intro σ_19 a19_2 z19_3 z19_4 m19 G_19 F_19 t19_2 r19_3 r19_4; omega
    | succ k19 IH19 =>
      intro σ_19 a19_2 z19_3 z19_4 m19 G_19 F_19 t19_2 r19_3 r19_4
      refine v_aload_n B dX10_writePart_19 rfl rfl ?_
      refine v_ifnull B dX10_writePart_20 ?_
      refine v_iload B dX10_writePart_23 rfl ?_
      refine v_aload_n B dX10_writePart_25 rfl rfl ?_
      obtain ⟨b1, N2, n3, h4, t5, r6⟩ : okRow τ 14 (σ_19 g) := G_19 g _ t_g
      refine u_getN B Z (C := RX9) (T := TX9) (N := 2) (ci := 9) hi_Server_writePart_X9 t_g h4 rfl 1 (by decide +kernel) (List.mem_of_getElem? (i := 96) rfl) rfl dX10_writePart_26 ?_
      refine u_icmp_ge B (tgt := 54) (by omega) (by omega) dX10_writePart_29 (by decide +kernel) (fun c7 => ?_) (fun c7 => ?_)
      · exact hend σ_19 _ _ G_19 F_19 dX10_writePart_54
      · refine v_aload_n B dX10_writePart_32 rfl rfl ?_
        refine v_iload_n B dX10_writePart_33 rfl rfl ?_
        refine v_iload B dX10_writePart_34 rfl ?_
        refine v_iadd B (v := iI (z19_3 + z19_4)) dX10_writePart_36 ((iI_add _ _).trans (congrArg iI (by omega))) ?_
        refine v_iconst B (v := iI 4) dX10_writePart_37 rfl ?_
        refine v_isub B (v := iI (z19_3 + z19_4 + (-4))) dX10_writePart_38 ((iI_sub _ _).trans (congrArg iI (by omega))) ?_
        refine v_aload_n B dX10_writePart_39 rfl rfl ?_
        refine v_iload B dX10_writePart_40 rfl ?_
        refine u_callVi B Z hz (n := 1) (As := [.int (iI z19_4)]) (rest := [.int (iI (z19_3 + z19_4 + (-4))), .ref a19_2]) (c_Row_at l D K Z _ _ _ _ g z19_4 t_g ⟨by omega, by omega⟩ σ_19 G_19) gd_Server_writePart_Row_at_63 rfl rfl rfl (by decide +kernel) ⟨Nat.le_trans (by decide +kernel) hR.1, Nat.le_trans (by decide +kernel) hR.2⟩ t_g (cls_Row G_19 t_g) rfl rfl rfl rfl (Nat.le_of_ble_eq_true rfl) dX10_writePart_42 ⟨Nat.zero_le _, Nat.zero_le _⟩ (fun v10 σ8 p9 => ?_)
        obtain ⟨rfl, z14, e15, r16⟩ := p9
        subst e15
        refine u_callVv B Z hz (n := 2) (As := [.int (iI (z19_3 + z19_4 + (-4))), .int (iI z14)]) (rest := []) (c_Row_write l D K Z _ _ _ _ a19_2 (z19_3 + z19_4 + (-4)) z14 t19_2 ⟨by omega, by omega⟩ ⟨by omega, by omega⟩ σ_19 G_19) gd_Server_writePart_Row_write_148 rfl rfl rfl (by decide +kernel) ⟨Nat.le_trans (by decide +kernel) hR.1, Nat.le_trans (by decide +kernel) hR.2⟩ t19_2 (cls_Row G_19 t19_2) rfl rfl rfl rfl (Nat.le_of_ble_eq_true rfl) dX10_writePart_45 ⟨Nat.zero_le _, Nat.zero_le _⟩ (fun σ17 p18 => ?_)
        obtain ⟨G20, F21⟩ := p18
        have F22 := F_19.call F21 (by first | rfl | simp)
        have h23 := (F21 g _ t_g (by first | rfl | simp)).trans h4
        refine v_iinc B (k := 3) (v := iI (z19_4 + 1)) (lv' := [(4, .int (iI (z19_4 + 1))), (1, .ref g), (2, .ref a19_2), (3, .int (iI z19_3))]) dX10_writePart_48 rfl ((iI_add _ _).trans (congrArg iI (by omega))) (by decide +kernel) rfl ?_
        refine v_goto B (tgt := 19) dX10_writePart_51 (by decide +kernel) ?_
        refine v_lv [1, 2, 3, 0] rfl ?_
        exact IH19 σ17 a19_2 z19_3 (z19_4 + 1) (by omega) G20 F22 t19_2 ⟨by omega, by omega⟩ ⟨by omega, by omega⟩
  refine v_aload_n B dX10_writePart_0 rfl rfl ?_
  refine v_aload_n B dX10_writePart_1 rfl rfl ?_
  refine v_iconst B (v := iI 0) dX10_writePart_2 rfl ?_
  refine u_callVi B Z hz (n := 1) (As := [.int (iI 0)]) (rest := [.ref h]) (c_Row_two l D K Z _ _ _ _ g 0 t_g ⟨by omega, by omega⟩ σ0 G0) gd_Server_writePart_Row_two_76 rfl rfl rfl (by decide +kernel) ⟨Nat.le_trans (by decide +kernel) hR.1, Nat.le_trans (by decide +kernel) hR.2⟩ t_g (cls_Row G0 t_g) rfl rfl rfl rfl (Nat.le_of_ble_eq_true rfl) dX10_writePart_3 ⟨Nat.zero_le _, Nat.zero_le _⟩ (fun v26 σ24 p25 => ?_)
  obtain ⟨rfl, z30, e31, r32⟩ := p25
  subst e31
  refine u_callVq B Z hz (n := 1) (As := [.int (iI z30)]) (rest := []) (c_Server_valueOf l D K Z _ _ _ _ h z30 t_h ⟨by omega, by omega⟩ σ0 G0) gd_Server_writePart_Server_valueOf_126 rfl rfl rfl (by decide +kernel) ⟨Nat.le_trans (by decide +kernel) hR.1, Nat.le_trans (by decide +kernel) hR.2⟩ t_h (cls_Server G0 t_h) rfl rfl rfl rfl (Nat.le_of_ble_eq_true rfl) dX10_writePart_6 ⟨Nat.zero_le _, Nat.zero_le _⟩ (fun v35 σ33 p34 => ?_)
  obtain ⟨rfl, q39⟩ := p34
  rcases q39 with rfl | ⟨a40, rfl, t41⟩
  · show V _ _ _ _ _ _ _ _ _ _ _ _ _ _ _ _ _ _ [.null]
    refine v_astore_nN B (lv' := [(2, .null), (0, .ref h), (1, .ref g)]) dX10_writePart_9 rfl (by decide +kernel) rfl ?_
    refine v_aload_n B dX10_writePart_10 rfl rfl ?_
    refine v_iconst B (v := iI 2) dX10_writePart_11 rfl ?_
    refine u_callVi B Z hz (n := 1) (As := [.int (iI 2)]) (rest := []) (c_Row_two l D K Z _ _ _ _ g 2 t_g ⟨by omega, by omega⟩ σ0 G0) gd_Server_writePart_Row_two_76 rfl rfl rfl (by decide +kernel) ⟨Nat.le_trans (by decide +kernel) hR.1, Nat.le_trans (by decide +kernel) hR.2⟩ t_g (cls_Row G0 t_g) rfl rfl rfl rfl (Nat.le_of_ble_eq_true rfl) dX10_writePart_12 ⟨Nat.zero_le _, Nat.zero_le _⟩ (fun v44 σ42 p43 => ?_)
    obtain ⟨rfl, z48, e49, r50⟩ := p43
    subst e49
    refine v_istore_n B (lv' := [(3, .int (iI z48)), (2, .null), (0, .ref h), (1, .ref g)]) dX10_writePart_15 rfl (by decide +kernel) rfl ?_
    refine v_iconst B (v := iI 4) dX10_writePart_16 rfl ?_
    refine v_istore B (lv' := [(4, .int (iI 4)), (3, .int (iI z48)), (2, .null), (0, .ref h), (1, .ref g)]) dX10_writePart_17 (by decide +kernel) rfl ?_
    refine v_aload_nN B dX10_writePart_19 rfl rfl ?_
    refine v_ifnullN B (tgt := 54) dX10_writePart_20 (by decide +kernel) ?_
    exact hend σ0 _ _ G0 F0 dX10_writePart_54
  · show V _ _ _ _ _ _ _ _ _ _ _ _ _ _ _ _ _ _ [.ref a40]
    refine v_astore_n B (lv' := [(2, .ref a40), (0, .ref h), (1, .ref g)]) dX10_writePart_9 rfl (by decide +kernel) rfl ?_
    refine v_aload_n B dX10_writePart_10 rfl rfl ?_
    refine v_iconst B (v := iI 2) dX10_writePart_11 rfl ?_
    refine u_callVi B Z hz (n := 1) (As := [.int (iI 2)]) (rest := []) (c_Row_two l D K Z _ _ _ _ g 2 t_g ⟨by omega, by omega⟩ σ0 G0) gd_Server_writePart_Row_two_76 rfl rfl rfl (by decide +kernel) ⟨Nat.le_trans (by decide +kernel) hR.1, Nat.le_trans (by decide +kernel) hR.2⟩ t_g (cls_Row G0 t_g) rfl rfl rfl rfl (Nat.le_of_ble_eq_true rfl) dX10_writePart_12 ⟨Nat.zero_le _, Nat.zero_le _⟩ (fun v53 σ51 p52 => ?_)
    obtain ⟨rfl, z57, e58, r59⟩ := p52
    subst e58
    refine v_istore_n B (lv' := [(3, .int (iI z57)), (2, .ref a40), (0, .ref h), (1, .ref g)]) dX10_writePart_15 rfl (by decide +kernel) rfl ?_
    refine v_iconst B (v := iI 4) dX10_writePart_16 rfl ?_
    refine v_istore B (lv' := [(4, .int (iI 4)), (3, .int (iI z57)), (2, .ref a40), (0, .ref h), (1, .ref g)]) dX10_writePart_17 (by decide +kernel) rfl ?_
    refine v_lv [4, 2, 1, 0] rfl ?_
    exact J19 _ σ0 a40 z57 4 (Nat.le_refl _) G0 F0 t41 ⟨by omega, by omega⟩ ⟨by omega, by omega⟩
set_option maxRecDepth 100000 in
theorem c_Server_writePart (l : Launch) (D : va_G) (K : Nat → ClassId) {τ : Nat → Option Ty} {dom : List Nat} (Z : Sk τ dom) (zb zL : Nat) (zx : Nat → Int32) (zs : Nat → Nat) (h : Nat) (g : Nat) (t_h : τ h = some (40, 0, 0)) (t_g : τ g = some (1, 14, 0)) (σ0 : Nat → va_E) (G0 : Good K τ σ0) : MZ l yX10_writePart wp_Server_writePart ({ frames := 2, cells := 0, slots := 0, locals := 43 }) D (tysA K) [.ref h, .ref g] (fd dom σ0) zb zL zx zs (Qv D (fun σ' => Good K τ σ' ∧ Fr τ [(2, 13), (1, 13)] σ0 σ') (fun σ' => fd dom σ')) 0 0 := by
  refine mz_of (cc := cX10_writePart) (maxL := 5) (ret := none) (by decide +kernel) rfl (Nat.le_of_ble_eq_true rfl) ?_
  intro p e s m below meth c A B hr hlk _ hz
  exact b_Server_writePart ⟨Nat.le_refl _, Nat.le_refl _⟩ B Z hz h g t_h t_g σ0 G0 (fun σ' lv pc G F hd => v_vret B hr hlk σ' ⟨G, F⟩ rfl (Nat.le_refl _) (Nat.le_refl _) hd)

def wp_Server_answerExecute : List Cond := .code yX10_answerExecute cX10_answerExecute 6 none :: (([.methodLink RX10 83 yX9_put, .instanceMethod yX9_put, .selects RX9 yX9_put yX9_put, .initialized RX9, .code yX9_put cX9_put 2 none, .fieldLink RX9 21 "LowEnergy$Row" "size" "I", .fieldLink RX9 15 "LowEnergy$Row" "bytes" "[I", .fieldLink RX10 31 "LowEnergy$Server" "parts" "[LLowEnergy$Row;", .methodLink RX10 145 yX10_writePart, .instanceMethod yX10_writePart, .selects RX10 yX10_writePart yX10_writePart, .initialized RX10, .code yX10_writePart cX10_writePart 5 none, .methodLink RX10 63 yX9_at, .instanceMethod yX9_at, .selects RX9 yX9_at yX9_at, .code yX9_at cX9_at 2 (some .int), .methodLink RX10 148 yX9_write, .instanceMethod yX9_write, .selects RX9 yX9_write yX9_write, .code yX9_write cX9_write 3 none, .methodLink RX9 31 yX9_put, .methodLink RX10 76 yX9_two, .instanceMethod yX9_two, .selects RX9 yX9_two yX9_two, .code yX9_two cX9_two 2 (some .int), .methodLink RX10 126 yX10_valueOf, .instanceMethod yX10_valueOf, .selects RX10 yX10_valueOf yX10_valueOf, .code yX10_valueOf cX10_valueOf 2 (some (.object "LowEnergy$Row")), .fieldLink RX10 56 "LowEnergy$Server" "count" "I", .fieldLink RX10 20 "LowEnergy$Server" "values" "[LLowEnergy$Row;", .methodLink RX10 141 yX10_faultOfPart, .instanceMethod yX10_faultOfPart, .selects RX10 yX10_faultOfPart yX10_faultOfPart, .code yX10_faultOfPart cX10_faultOfPart 5 (some .int), .fieldLink RX10 34 "LowEnergy$Server" "sizes" "[I", .methodLink RX10 53 Lib.Math.max.name, .static Lib.Math.max.name, .initialized "java/lang/Math", .code Lib.Math.max.name Lib.Math.max.code 2 (some .int), .methodLink RX10 97 yX10_refuse, .static yX10_refuse, .code yX10_refuse cX10_refuse 4 none, .methodLink RX10 108 yX9_putNumber, .instanceMethod yX9_putNumber, .selects RX9 yX9_putNumber yX9_putNumber, .code yX9_putNumber cX9_putNumber 5 none, .constantLong RX9 25 (255), .fieldLink RX10 40 "LowEnergy$Server" "partCount" "I", .methodLink RX10 47 Lib.Math.min.name, .static Lib.Math.min.name, .code Lib.Math.min.name Lib.Math.min.code 2 (some .int)] : List Cond) ++ (wsX90 ++ (wsX100 ++ ([]))))
theorem hi_Server_answerExecute_X9 : ∀ x ∈ u_ws RX9 TX9 2, x ∈ wp_Server_answerExecute := fun _ h => List.mem_cons_of_mem _ (List.mem_append_right _ (List.mem_append_left _ h))
theorem hi_Server_answerExecute_X10 : ∀ x ∈ u_ws RX10 TX10 10, x ∈ wp_Server_answerExecute := fun _ h => List.mem_cons_of_mem _ (List.mem_append_right _ (List.mem_append_right _ (List.mem_append_left _ h)))
set_option maxRecDepth 100000 in
theorem gd_Server_answerExecute_Row_put_83 : GoodIn wp_Server_answerExecute (wsV RX10 83 RX9 yX9_put wp_Row_put) := goodIn_app (goodIn_r _ [1, 2, 3, 4] rfl rfl) (goodIn_ca (goodIn_r _ [5, 6, 7] rfl rfl) (goodIn_app (goodIn_cls hi_Server_answerExecute_X9 gw_X9) (goodIn_nil)))
set_option maxRecDepth 100000 in
theorem gd_Server_answerExecute_Server_writePart_145 : GoodIn wp_Server_answerExecute (wsV RX10 145 RX10 yX10_writePart wp_Server_writePart) := goodIn_app (goodIn_r _ [9, 10, 11, 12] rfl rfl) (goodIn_ca (goodIn_r _ [13, 14, 15, 16, 4, 17, 6, 7, 18, 19, 20, 21, 22, 2, 3, 5, 23, 24, 25, 26, 27, 28, 29, 12, 30, 31, 32] rfl rfl) (goodIn_app (goodIn_cls hi_Server_answerExecute_X9 gw_X9) (goodIn_app (goodIn_cls hi_Server_answerExecute_X10 gw_X10) (goodIn_nil))))
set_option maxRecDepth 100000 in
theorem gd_Server_answerExecute_Server_faultOfPart_141 : GoodIn wp_Server_answerExecute (wsV RX10 141 RX10 yX10_faultOfPart wp_Server_faultOfPart) := goodIn_app (goodIn_r _ [33, 34, 35, 12] rfl rfl) (goodIn_ca (goodIn_r _ [36, 23, 24, 25, 4, 26, 6, 7, 31, 37, 38, 39, 40, 41] rfl rfl) (goodIn_app (goodIn_cls hi_Server_answerExecute_X9 gw_X9) (goodIn_app (goodIn_cls hi_Server_answerExecute_X10 gw_X10) (goodIn_nil))))
set_option maxRecDepth 100000 in
theorem gd_Server_answerExecute_Row_two_76 : GoodIn wp_Server_answerExecute (wsV RX10 76 RX9 yX9_two wp_Row_two) := goodIn_app (goodIn_r _ [23, 24, 25, 4] rfl rfl) (goodIn_ca (goodIn_r _ [26, 6, 7] rfl rfl) (goodIn_app (goodIn_cls hi_Server_answerExecute_X9 gw_X9) (goodIn_nil)))
set_option maxRecDepth 100000 in
theorem gd_Server_answerExecute_Server_refuse_97 : GoodIn wp_Server_answerExecute (va_wsS RX10 97 yX10_refuse wp_Server_refuse) := goodIn_app (goodIn_r _ [42, 43, 12] rfl rfl) (goodIn_ca (goodIn_r _ [44, 1, 2, 3, 4, 5, 6, 7, 45, 46, 47, 48, 49] rfl rfl) (goodIn_app (goodIn_cls hi_Server_answerExecute_X9 gw_X9) (goodIn_nil)))
set_option maxHeartbeats 4000000 in
set_option maxRecDepth 100000 in
theorem b_Server_answerExecute {p : Program} {l : Launch} {e : Env} {R : Room} {s : State} {m : MethodId} {args : Array Value} {below : List Frame} {meth : Method} {c : Code} {D : va_G} {K : Nat → ClassId} {A : Nat → Prop} {Q : State → Prop} {τ : Nat → Option Ty} {dom : List Nat} {zb zL : Nat} {zx : Nat → Int32} {zs : Nat → Nat} (hR : 3 ≤ R.frames ∧ 67 ≤ R.locals) (B : Bx p s m args c cX10_answerExecute 6 RX10 wp_Server_answerExecute D (tysA K) A) (Z : Sk τ dom) (hz : ZL zb zL zx zs A s s.heap) (h : Nat) (x1 : Int) (g : Nat) (t_h : τ h = some (40, 0, 0)) (r_x1 : -2147483648 ≤ x1 ∧ x1 ≤ 2147483647) (t_g : τ g = some (1, 8, 0)) (σ0 : Nat → va_E) (G0 : Good K τ σ0) (hend : ∀ (σ' : Nat → va_E) (lv : List (Nat × Value)) (pc : Nat), Good K τ σ' → Fr τ [(40, 0), (3, 28), (2, 8), (1, 8), (2, 13), (1, 13)] σ0 σ' → decode cX10_answerExecute pc = .ok (.return_, 1) → V p l e R s m args below meth c 6 D A Q (0, 0) (fd dom σ') lv pc []) : V p l e R s m args below meth c 6 D A Q (0, 0) (fd dom σ0) [(0, .ref h), (1, .int (iI x1)), (2, .ref g)] 0 [] := by
  have F0 : Fr τ [(40, 0), (3, 28), (2, 8), (1, 8), (2, 13), (1, 13)] σ0 σ0 := Fr.rf
  have J146 : ∀ (σ_146 : Nat → va_E), Good K τ σ_146 → Fr τ [(40, 0), (3, 28), (2, 8), (1, 8), (2, 13), (1, 13)] σ0 σ_146 → V p l e R s m args below meth c 6 D A Q (0, 0) (fd dom σ_146) [(2, .ref g)] 146 [] := by
    intro σ_146 G_146 F_146
    refine v_aload_n B dX10_answerExecute_146 rfl rfl ?_
    refine v_bipush B (v := iI 25) dX10_answerExecute_147 (by decide +kernel) ?_
    refine u_callVv B Z hz (n := 1) (As := [.int (iI 25)]) (rest := []) (c_Row_put l D K Z _ _ _ _ g 25 t_g ⟨by omega, by omega⟩ σ_146 G_146) gd_Server_answerExecute_Row_put_83 rfl rfl rfl (by decide +kernel) ⟨Nat.le_trans (by decide +kernel) hR.1, Nat.le_trans (by decide +kernel) hR.2⟩ t_g (cls_Row G_146 t_g) rfl rfl rfl rfl (Nat.le_of_ble_eq_true rfl) dX10_answerExecute_149 ⟨Nat.zero_le _, Nat.zero_le _⟩ (fun σ1 p2 => ?_)
    obtain ⟨G4, F5⟩ := p2
    have F6 := F_146.call F5 (by first | rfl | simp)
    exact hend σ1 _ _ G4 F6 dX10_answerExecute_152
  have J123 : ∀ (k123 : Nat) (σ_123 : Nat → va_E) (z123_3 : Int) (z123_4 : Int), (2147483648 - z123_4).toNat ≤ k123 → Good K τ σ_123 → Fr τ [(40, 0), (3, 28), (2, 8), (1, 8), (2, 13), (1, 13)] σ0 σ_123 → (0 ≤ z123_3 ∧ z123_3 ≤ 6) → (0 ≤ z123_4 ∧ z123_4 ≤ 6) → V p l e R s m args below meth c 6 D A Q (0, 0) (fd dom σ_123) [(0, .ref h), (2, .ref g), (3, .int (iI z123_3)), (4, .int (iI z123_4))] 123 [] := by
    intro k123
    induction k123 with
    | zero => intro σ_123 z123_3 z123_4 m123 G_123 F_123 r123_3 r123_4; omega
    | succ k123 IH123 =>
      intro σ_123 z123_3 z123_4 m123 G_123 F_123 r123_3 r123_4
      refine v_iload B dX10_answerExecute_123 rfl ?_
      refine v_iload_n B dX10_answerExecute_125 rfl rfl ?_
      refine u_icmp_ge B (tgt := 146) (by omega) (by omega) dX10_answerExecute_126 (by decide +kernel) (fun c7 => ?_) (fun c7 => ?_)
      · refine v_lv [1] rfl ?_
        exact J146 σ_123 G_123 F_123
      · refine v_aload_n B dX10_answerExecute_129 rfl rfl ?_
        refine v_aload_n B dX10_answerExecute_130 rfl rfl ?_
        obtain ⟨a8, a9, a10, z11, z12, z13, a14, z15, z16, a17, h18, t19, t20, t21, r22, r23, r24, t25, r26, r27, t28⟩ : okServer τ (σ_123 h) := G_123 h _ t_h
        refine u_get B Z (C := RX10) (T := TX10) (N := 10) (ci := 10) hi_Server_answerExecute_X10 t_h h18 rfl 6 (by decide +kernel) (List.mem_of_getElem? (i := 8) rfl) rfl dX10_answerExecute_131 ?_
        refine v_iload B dX10_answerExecute_134 rfl ?_
        obtain ⟨f29, h30, e31⟩ : okRA K τ 14 6 (σ_123 a14) := G_123 a14 _ t25
        obtain ⟨a32, e33, t34⟩ := e31 (z123_4 : Int).toNat (by omega)
        refine u_aald B Z (t0 := 4) (v := .ref a32) t25 h30 rfl (by omega) (by rw [e33]; rfl) dX10_answerExecute_136 ?_
        refine u_callVv B Z hz (n := 1) (As := [.ref a32]) (rest := []) (c_Server_writePart l D K Z _ _ _ _ h a32 t_h t34 σ_123 G_123) gd_Server_answerExecute_Server_writePart_145 rfl rfl rfl (by decide +kernel) ⟨Nat.le_trans (by decide +kernel) hR.1, Nat.le_trans (by decide +kernel) hR.2⟩ t_h (cls_Server G_123 t_h) rfl rfl rfl rfl (Nat.le_of_ble_eq_true rfl) dX10_answerExecute_137 ⟨Nat.zero_le _, Nat.zero_le _⟩ (fun σ35 p36 => ?_)
        obtain ⟨G38, F39⟩ := p36
        have F40 := F_123.call F39 (by first | rfl | simp)
        have h41 := (F39 h _ t_h (by first | rfl | simp)).trans h18
        have h42 := (F39 a14 _ t25 (by first | rfl | simp)).trans h30
        refine v_iinc B (k := 3) (v := iI (z123_4 + 1)) (lv' := [(4, .int (iI (z123_4 + 1))), (0, .ref h), (2, .ref g), (3, .int (iI z123_3))]) dX10_answerExecute_140 rfl ((iI_add _ _).trans (congrArg iI (by omega))) (by decide +kernel) rfl ?_
        refine v_goto B (tgt := 123) dX10_answerExecute_143 (by decide +kernel) ?_
        refine v_lv [1, 2, 3, 0] rfl ?_
        exact IH123 σ35 z123_3 (z123_4 + 1) (by omega) G38 F40 ⟨by omega, by omega⟩ ⟨by omega, by omega⟩
  have J70 : ∀ (k70 : Nat) (σ_70 : Nat → va_E) (z70_3 : Int) (z70_4 : Int), (2147483648 - z70_4).toNat ≤ k70 → Good K τ σ_70 → Fr τ [(40, 0), (3, 28), (2, 8), (1, 8), (2, 13), (1, 13)] σ0 σ_70 → (0 ≤ z70_3 ∧ z70_3 ≤ 6) → (0 ≤ z70_4 ∧ z70_4 ≤ 6) → V p l e R s m args below meth c 6 D A Q (0, 0) (fd dom σ_70) [(0, .ref h), (2, .ref g), (3, .int (iI z70_3)), (4, .int (iI z70_4))] 70 [] := by
    intro k70
    induction k70 with
    | zero => intro σ_70 z70_3 z70_4 m70 G_70 F_70 r70_3 r70_4; omega
    | succ k70 IH70 =>
      intro σ_70 z70_3 z70_4 m70 G_70 F_70 r70_3 r70_4
      refine v_iload B dX10_answerExecute_70 rfl ?_
      refine v_iload_n B dX10_answerExecute_72 rfl rfl ?_
      refine u_icmp_ge B (tgt := 120) (by omega) (by omega) dX10_answerExecute_73 (by decide +kernel) (fun c43 => ?_) (fun c43 => ?_)
      · refine v_iconst B (v := iI 0) dX10_answerExecute_120 rfl ?_
        refine v_istore B (lv' := [(4, .int (iI 0)), (0, .ref h), (2, .ref g), (3, .int (iI z70_3))]) dX10_answerExecute_121 (by decide +kernel) rfl ?_
        refine v_lv [1, 2, 3, 0] rfl ?_
        exact J123 _ σ_70 z70_3 0 (Nat.le_refl _) G_70 F_70 ⟨by omega, by omega⟩ ⟨by omega, by omega⟩
      · refine v_aload_n B dX10_answerExecute_76 rfl rfl ?_
        refine v_aload_n B dX10_answerExecute_77 rfl rfl ?_
        obtain ⟨a44, a45, a46, z47, z48, z49, a50, z51, z52, a53, h54, t55, t56, t57, r58, r59, r60, t61, r62, r63, t64⟩ : okServer τ (σ_70 h) := G_70 h _ t_h
        refine u_get B Z (C := RX10) (T := TX10) (N := 10) (ci := 10) hi_Server_answerExecute_X10 t_h h54 rfl 6 (by decide +kernel) (List.mem_of_getElem? (i := 8) rfl) rfl dX10_answerExecute_78 ?_
        refine v_iload B dX10_answerExecute_81 rfl ?_
        obtain ⟨f65, h66, e67⟩ : okRA K τ 14 6 (σ_70 a50) := G_70 a50 _ t61
        obtain ⟨a68, e69, t70⟩ := e67 (z70_4 : Int).toNat (by omega)
        refine u_aald B Z (t0 := 4) (v := .ref a68) t61 h66 rfl (by omega) (by rw [e69]; rfl) dX10_answerExecute_83 ?_
        refine u_callVi B Z hz (n := 1) (As := [.ref a68]) (rest := []) (c_Server_faultOfPart l D K Z _ _ _ _ h a68 t_h t70 σ_70 G_70) gd_Server_answerExecute_Server_faultOfPart_141 rfl rfl rfl (by decide +kernel) ⟨Nat.le_trans (by decide +kernel) hR.1, Nat.le_trans (by decide +kernel) hR.2⟩ t_h (cls_Server G_70 t_h) rfl rfl rfl rfl (Nat.le_of_ble_eq_true rfl) dX10_answerExecute_84 ⟨Nat.zero_le _, Nat.zero_le _⟩ (fun v73 σ71 p72 => ?_)
        obtain ⟨G74, F75, z77, e78, r79⟩ := p72
        subst e78
        have F76 := F_70.call F75 (by first | rfl | simp)
        have h80 := (F75 h _ t_h (by first | rfl | simp)).trans h54
        have h81 := (F75 a50 _ t61 (by first | rfl | simp)).trans h66
        refine v_istore B (lv' := [(5, .int (iI z77)), (0, .ref h), (2, .ref g), (3, .int (iI z70_3)), (4, .int (iI z70_4))]) dX10_answerExecute_87 (by decide +kernel) rfl ?_
        refine v_iload B dX10_answerExecute_89 rfl ?_
        refine u_if_eq B (tgt := 114) (by omega) dX10_answerExecute_91 (by decide +kernel) (fun c82 => ?_) (fun c82 => ?_)
        · refine v_iinc B (k := 4) (v := iI (z70_4 + 1)) (lv' := [(4, .int (iI (z70_4 + 1))), (5, .int (iI z77)), (0, .ref h), (2, .ref g), (3, .int (iI z70_3))]) dX10_answerExecute_114 rfl ((iI_add _ _).trans (congrArg iI (by omega))) (by decide +kernel) rfl ?_
          refine v_goto B (tgt := 70) dX10_answerExecute_117 (by decide +kernel) ?_
          refine v_lv [2, 3, 4, 0] rfl ?_
          exact IH70 σ71 z70_3 (z70_4 + 1) (by omega) G74 F76 ⟨by omega, by omega⟩ ⟨by omega, by omega⟩
        · refine v_bipush B (v := iI 24) dX10_answerExecute_94 (by decide +kernel) ?_
          refine v_aload_n B dX10_answerExecute_96 rfl rfl ?_
          refine u_get B Z (C := RX10) (T := TX10) (N := 10) (ci := 10) hi_Server_answerExecute_X10 t_h h80 rfl 6 (by decide +kernel) (List.mem_of_getElem? (i := 8) rfl) rfl dX10_answerExecute_97 ?_
          refine v_iload B dX10_answerExecute_100 rfl ?_
          obtain ⟨a83, e84, t85⟩ := e67 (z70_4 : Int).toNat (by omega)
          refine u_aald B Z (t0 := 4) (v := .ref a83) t61 h81 rfl (by omega) (by rw [e84]; rfl) dX10_answerExecute_102 ?_
          refine v_iconst B (v := iI 0) dX10_answerExecute_103 rfl ?_
          refine u_callVi B Z hz (n := 1) (As := [.int (iI 0)]) (rest := [.int (iI 24)]) (c_Row_two l D K Z _ _ _ _ a83 0 t85 ⟨by omega, by omega⟩ σ71 G74) gd_Server_answerExecute_Row_two_76 rfl rfl rfl (by decide +kernel) ⟨Nat.le_trans (by decide +kernel) hR.1, Nat.le_trans (by decide +kernel) hR.2⟩ t85 (cls_Row G74 t85) rfl rfl rfl rfl (Nat.le_of_ble_eq_true rfl) dX10_answerExecute_104 ⟨Nat.zero_le _, Nat.zero_le _⟩ (fun v88 σ86 p87 => ?_)
          obtain ⟨rfl, z92, e93, r94⟩ := p87
          subst e93
          refine v_iload B dX10_answerExecute_107 rfl ?_
          refine v_aload_n B dX10_answerExecute_109 rfl rfl ?_
          refine u_callSv B Z hz (n := 4) (As := [.int (iI 24), .int (iI z92), .int (iI z77), .ref g]) (rest := []) (c_Server_refuse l D K Z _ _ _ _ 24 z92 z77 g ⟨by omega, by omega⟩ ⟨by omega, by omega⟩ ⟨by omega, by omega⟩ t_g σ71 G74) gd_Server_answerExecute_Server_refuse_97 rfl rfl rfl (by decide +kernel) ⟨Nat.le_trans (by decide +kernel) hR.1, Nat.le_trans (by decide +kernel) hR.2⟩ rfl rfl (Nat.le_of_ble_eq_true rfl) dX10_answerExecute_110 ⟨Nat.zero_le _, Nat.zero_le _⟩ (fun σ95 p96 => ?_)
          obtain ⟨G98, F99⟩ := p96
          have F100 := F76.call F99 (by first | rfl | simp)
          have h101 := (F99 h _ t_h (by first | rfl | simp)).trans h80
          have h102 := (F99 a50 _ t61 (by first | rfl | simp)).trans h81
          exact hend σ95 _ _ G98 F100 dX10_answerExecute_113
  have J67 : ∀ (σ_67 : Nat → va_E) (z67_3 : Int), Good K τ σ_67 → Fr τ [(40, 0), (3, 28), (2, 8), (1, 8), (2, 13), (1, 13)] σ0 σ_67 → (0 ≤ z67_3 ∧ z67_3 ≤ 6) → V p l e R s m args below meth c 6 D A Q (0, 0) (fd dom σ_67) [(0, .ref h), (2, .ref g), (3, .int (iI z67_3))] 67 [] := by
    intro σ_67 z67_3 G_67 F_67 r67_3
    refine v_iconst B (v := iI 0) dX10_answerExecute_67 rfl ?_
    refine v_istore B (lv' := [(4, .int (iI 0)), (0, .ref h), (2, .ref g), (3, .int (iI z67_3))]) dX10_answerExecute_68 (by decide +kernel) rfl ?_
    refine v_lv [1, 2, 3, 0] rfl ?_
    exact J70 _ σ_67 z67_3 0 (Nat.le_refl _) G_67 F_67 ⟨by omega, by omega⟩ ⟨by omega, by omega⟩
  have J25 : ∀ (k25 : Nat) (σ_25 : Nat → va_E) (z25_3 : Int) (z25_4 : Int), (2147483648 - z25_4).toNat ≤ k25 → Good K τ σ_25 → Fr τ [(40, 0), (3, 28), (2, 8), (1, 8), (2, 13), (1, 13)] σ0 σ_25 → (0 ≤ z25_3 ∧ z25_3 ≤ 6) → (0 ≤ z25_4 ∧ z25_4 ≤ 20) → V p l e R s m args below meth c 6 D A Q (0, 0) (fd dom σ_25) [(0, .ref h), (2, .ref g), (3, .int (iI z25_3)), (4, .int (iI z25_4))] 25 [] := by
    intro k25
    induction k25 with
    | zero => intro σ_25 z25_3 z25_4 m25 G_25 F_25 r25_3 r25_4; omega
    | succ k25 IH25 =>
      intro σ_25 z25_3 z25_4 m25 G_25 F_25 r25_3 r25_4
      refine v_iload B dX10_answerExecute_25 rfl ?_
      refine v_aload_n B dX10_answerExecute_27 rfl rfl ?_
      obtain ⟨a103, a104, a105, z106, z107, z108, a109, z110, z111, a112, h113, t114, t115, t116, r117, r118, r119, t120, r121, r122, t123⟩ : okServer τ (σ_25 h) := G_25 h _ t_h
      refine u_get B Z (C := RX10) (T := TX10) (N := 10) (ci := 10) hi_Server_answerExecute_X10 t_h h113 rfl 3 (by decide +kernel) (List.mem_of_getElem? (i := 31) rfl) rfl dX10_answerExecute_28 ?_
      refine u_icmp_ge B (tgt := 67) (by omega) (by omega) dX10_answerExecute_31 (by decide +kernel) (fun c124 => ?_) (fun c124 => ?_)
      · refine v_lv [0, 1, 2] rfl ?_
        exact J67 σ_25 z25_3 G_25 F_25 ⟨by omega, by omega⟩
      · refine v_iload B dX10_answerExecute_34 rfl ?_
        refine v_aload_n B dX10_answerExecute_36 rfl rfl ?_
        refine u_get B Z (C := RX10) (T := TX10) (N := 10) (ci := 10) hi_Server_answerExecute_X10 t_h h113 rfl 9 (by decide +kernel) (List.mem_of_getElem? (i := 37) rfl) rfl dX10_answerExecute_37 ?_
        obtain ⟨f125, h126, r127⟩ : okP K 20 (σ_25 a112) := G_25 a112 _ t123
        refine u_alen B Z (t0 := 0) (v := 20) t123 h126 rfl (by first | rfl | omega) dX10_answerExecute_40 ?_
        refine u_icmp_ge B (tgt := 67) (by omega) (by omega) dX10_answerExecute_41 (by decide +kernel) (fun c128 => by omega) (fun c128 => ?_)
        refine v_aload_n B dX10_answerExecute_44 rfl rfl ?_
        refine u_get B Z (C := RX10) (T := TX10) (N := 10) (ci := 10) hi_Server_answerExecute_X10 t_h h113 rfl 9 (by decide +kernel) (List.mem_of_getElem? (i := 37) rfl) rfl dX10_answerExecute_45 ?_
        refine v_iload B dX10_answerExecute_48 rfl ?_
        refine v_aload_n B dX10_answerExecute_50 rfl rfl ?_
        refine u_get B Z (C := RX10) (T := TX10) (N := 10) (ci := 10) hi_Server_answerExecute_X10 t_h h113 rfl 2 (by decide +kernel) (List.mem_of_getElem? (i := 32) rfl) rfl dX10_answerExecute_51 ?_
        refine v_iload B dX10_answerExecute_54 rfl ?_
        obtain ⟨f129, h130, e131⟩ : okRA K τ 13 20 (σ_25 a105) := G_25 a105 _ t116
        obtain ⟨a132, e133, t134⟩ := e131 (z25_4 : Int).toNat (by omega)
        refine u_aald B Z (t0 := 4) (v := .ref a132) t116 h130 rfl (by omega) (by rw [e133]; rfl) dX10_answerExecute_56 ?_
        obtain ⟨b135, N136, n137, h138, t139, r140⟩ : okRow τ 13 (σ_25 a132) := G_25 a132 _ t134
        refine u_getN B Z (C := RX9) (T := TX9) (N := 2) (ci := 9) hi_Server_answerExecute_X9 t134 h138 rfl 1 (by decide +kernel) (List.mem_of_getElem? (i := 96) rfl) rfl dX10_answerExecute_57 ?_
        refine u_iast B Z (t0 := 0) t123 h126 rfl (by omega) dX10_answerExecute_60 (fun σ141 h142 n143 => ?_)
        have G144 := G_25.put t123 (⟨_, h142, r127⟩ : Ok K τ (3, 28, 20) (σ141 a112)) n143
        have F145 := F_25.put t123 (by simp) n143
        have h146 := (n143 h (ne_ty t_h t123 (by simp))).trans h113
        have h147 := (n143 a105 (ne_ty t116 t123 (by simp))).trans h130
        have h148 := (n143 a132 (ne_ty t134 t123 (by simp))).trans h138
        refine v_iinc B (k := 3) (v := iI (z25_4 + 1)) (lv' := [(4, .int (iI (z25_4 + 1))), (0, .ref h), (2, .ref g), (3, .int (iI z25_3))]) dX10_answerExecute_61 rfl ((iI_add _ _).trans (congrArg iI (by omega))) (by decide +kernel) rfl ?_
        refine v_goto B (tgt := 25) dX10_answerExecute_64 (by decide +kernel) ?_
        refine v_lv [1, 2, 3, 0] rfl ?_
        exact IH25 σ141 z25_3 (z25_4 + 1) (by omega) G144 F145 ⟨by omega, by omega⟩ ⟨by omega, by omega⟩
  refine v_aload_n B dX10_answerExecute_0 rfl rfl ?_
  obtain ⟨a149, a150, a151, z152, z153, z154, a155, z156, z157, a158, h159, t160, t161, t162, r163, r164, r165, t166, r167, r168, t169⟩ : okServer τ (σ0 h) := G0 h _ t_h
  refine u_get B Z (C := RX10) (T := TX10) (N := 10) (ci := 10) hi_Server_answerExecute_X10 t_h h159 rfl 7 (by decide +kernel) (List.mem_of_getElem? (i := 50) rfl) rfl dX10_answerExecute_1 ?_
  refine v_aload_n B dX10_answerExecute_4 rfl rfl ?_
  refine u_get B Z (C := RX10) (T := TX10) (N := 10) (ci := 10) hi_Server_answerExecute_X10 t_h h159 rfl 6 (by decide +kernel) (List.mem_of_getElem? (i := 8) rfl) rfl dX10_answerExecute_5 ?_
  obtain ⟨f170, h171, e172⟩ : okRA K τ 14 6 (σ0 a155) := G0 a155 _ t166
  refine u_alen B Z (t0 := 4) (v := 6) t166 h171 rfl (by first | rfl | omega) dX10_answerExecute_8 ?_
  obtain ⟨z173, e174, r175⟩ := iI_min (a := z156) (b := 6) (by omega) (by omega)
  refine v_mmin B (v := iI z173) (List.mem_of_getElem? (i := 51) rfl) (List.mem_of_getElem? (i := 52) rfl) (List.mem_of_getElem? (i := 40) rfl) (List.mem_of_getElem? (i := 53) rfl) (Nat.le_trans (by decide +kernel) hR.1) (Nat.le_trans (Nat.le_of_ble_eq_true rfl) hR.2) (Nat.zero_le _) (Nat.zero_le _) e174 dX10_answerExecute_9 ?_
  refine v_istore_n B (lv' := [(3, .int (iI z173)), (0, .ref h), (1, .int (iI x1)), (2, .ref g)]) dX10_answerExecute_12 rfl (by decide +kernel) rfl ?_
  refine v_aload_n B dX10_answerExecute_13 rfl rfl ?_
  refine v_iconst B (v := iI 0) dX10_answerExecute_14 rfl ?_
  refine u_put B Z (C := RX10) (T := TX10) (N := 10) (ci := 10) hi_Server_answerExecute_X10 t_h h159 rfl 7 (by decide +kernel) tyX10 tyX10_ok nmX10 (List.mem_of_getElem? (i := 50) rfl) rfl (ty := .int) (tyX10_ok 7 (by decide +kernel)) rfl rfl (Nat.le_of_ble_eq_true rfl) (fs' := [.ref a149, .ref a150, .ref a151, .int (iI z152), .int (iI z153), .int (iI z154), .ref a155, .int (iI 0), .int (iI z157), .ref a158]) rfl dX10_answerExecute_15 (fun σ176 h177 n178 => ?_)
  have G179 := G0.put t_h (⟨a149, a150, a151, z152, z153, z154, a155, 0, z157, a158, h177, t160, t161, t162, ⟨by omega, by omega⟩, ⟨by omega, by omega⟩, ⟨by omega, by omega⟩, t166, ⟨by omega, by omega⟩, ⟨by omega, by omega⟩, t169⟩ : Ok K τ (40, 0, 0) (σ176 h)) n178
  have F180 := F0.put t_h (by simp) n178
  have h181 := (n178 a155 (ne_ty t166 t_h (by simp))).trans h171
  refine v_iload_n B dX10_answerExecute_18 rfl rfl ?_
  refine u_if_eq B (tgt := 146) (by omega) dX10_answerExecute_19 (by decide +kernel) (fun c182 => ?_) (fun c182 => ?_)
  · refine v_lv [3] rfl ?_
    exact J146 σ176 G179 F180
  · refine v_iconst B (v := iI 0) dX10_answerExecute_22 rfl ?_
    refine v_istore B (lv' := [(4, .int (iI 0)), (3, .int (iI z173)), (0, .ref h), (1, .int (iI x1)), (2, .ref g)]) dX10_answerExecute_23 (by decide +kernel) rfl ?_
    refine v_lv [2, 4, 1, 0] rfl ?_
    exact J25 _ σ176 z173 0 (Nat.le_refl _) G179 F180 ⟨by omega, by omega⟩ ⟨by omega, by omega⟩
set_option maxRecDepth 100000 in
theorem c_Server_answerExecute (l : Launch) (D : va_G) (K : Nat → ClassId) {τ : Nat → Option Ty} {dom : List Nat} (Z : Sk τ dom) (zb zL : Nat) (zx : Nat → Int32) (zs : Nat → Nat) (h : Nat) (x1 : Int) (g : Nat) (t_h : τ h = some (40, 0, 0)) (r_x1 : -2147483648 ≤ x1 ∧ x1 ≤ 2147483647) (t_g : τ g = some (1, 8, 0)) (σ0 : Nat → va_E) (G0 : Good K τ σ0) : MZ l yX10_answerExecute wp_Server_answerExecute ({ frames := 3, cells := 0, slots := 0, locals := 67 }) D (tysA K) [.ref h, .int (iI x1), .ref g] (fd dom σ0) zb zL zx zs (Qv D (fun σ' => Good K τ σ' ∧ Fr τ [(40, 0), (3, 28), (2, 8), (1, 8), (2, 13), (1, 13)] σ0 σ') (fun σ' => fd dom σ')) 0 0 := by
  refine mz_of (cc := cX10_answerExecute) (maxL := 6) (ret := none) (by decide +kernel) rfl (Nat.le_of_ble_eq_true rfl) ?_
  intro p e s m below meth c A B hr hlk _ hz
  exact b_Server_answerExecute ⟨Nat.le_refl _, Nat.le_refl _⟩ B Z hz h x1 g t_h r_x1 t_g σ0 G0 (fun σ' lv pc G F hd => v_vret B hr hlk σ' ⟨G, F⟩ rfl (Nat.le_refl _) (Nat.le_refl _) hd)

def wp_Server_listTypes : List Cond := .code yX10_listTypes cX10_listTypes 5 none :: (([.methodLink RX10 108 yX9_putNumber, .instanceMethod yX9_putNumber, .selects RX9 yX9_putNumber yX9_putNumber, .initialized RX9, .code yX9_putNumber cX9_putNumber 5 none, .fieldLink RX9 21 "LowEnergy$Row" "size" "I", .fieldLink RX9 15 "LowEnergy$Row" "bytes" "[I", .constantLong RX9 25 (255), .fieldLink RX10 11 "LowEnergy$Server" "types" "[I", .fieldLink RX10 28 "LowEnergy$Server" "linkMtu" "I", .methodLink RX10 83 yX9_put, .instanceMethod yX9_put, .selects RX9 yX9_put yX9_put, .code yX9_put cX9_put 2 none] : List Cond) ++ (wsX90 ++ (wsX100 ++ ([]))))
theorem hi_Server_listTypes_X9 : ∀ x ∈ u_ws RX9 TX9 2, x ∈ wp_Server_listTypes := fun _ h => List.mem_cons_of_mem _ (List.mem_append_right _ (List.mem_append_left _ h))
theorem hi_Server_listTypes_X10 : ∀ x ∈ u_ws RX10 TX10 10, x ∈ wp_Server_listTypes := fun _ h => List.mem_cons_of_mem _ (List.mem_append_right _ (List.mem_append_right _ (List.mem_append_left _ h)))
set_option maxRecDepth 100000 in
theorem gd_Server_listTypes_Row_putNumber_108 : GoodIn wp_Server_listTypes (wsV RX10 108 RX9 yX9_putNumber wp_Row_putNumber) := goodIn_app (goodIn_r _ [1, 2, 3, 4] rfl rfl) (goodIn_ca (goodIn_r _ [5, 6, 7, 8] rfl rfl) (goodIn_app (goodIn_cls hi_Server_listTypes_X9 gw_X9) (goodIn_nil)))
set_option maxRecDepth 100000 in
theorem gd_Server_listTypes_Row_put_83 : GoodIn wp_Server_listTypes (wsV RX10 83 RX9 yX9_put wp_Row_put) := goodIn_app (goodIn_r _ [11, 12, 13, 4] rfl rfl) (goodIn_ca (goodIn_r _ [14, 6, 7] rfl rfl) (goodIn_app (goodIn_cls hi_Server_listTypes_X9 gw_X9) (goodIn_nil)))
set_option maxHeartbeats 4000000 in
set_option maxRecDepth 100000 in
theorem b_Server_listTypes {p : Program} {l : Launch} {e : Env} {R : Room} {s : State} {m : MethodId} {args : Array Value} {below : List Frame} {meth : Method} {c : Code} {D : va_G} {K : Nat → ClassId} {A : Nat → Prop} {Q : State → Prop} {τ : Nat → Option Ty} {dom : List Nat} {zb zL : Nat} {zx : Nat → Int32} {zs : Nat → Nat} (hR : 1 ≤ R.frames ∧ 24 ≤ R.locals) (B : Bx p s m args c cX10_listTypes 5 RX10 wp_Server_listTypes D (tysA K) A) (Z : Sk τ dom) (hz : ZL zb zL zx zs A s s.heap) (h : Nat) (x1 : Int) (x2 : Int) (g : Nat) (t_h : τ h = some (40, 0, 0)) (r_x1 : 1 ≤ x1 ∧ x1 ≤ 65535) (r_x2 : -2147483648 ≤ x2 ∧ x2 ≤ 2147483647) (t_g : τ g = some (1, 8, 0)) (σ0 : Nat → va_E) (G0 : Good K τ σ0) (hend : ∀ (σ' : Nat → va_E) (lv : List (Nat × Value)) (pc : Nat), Good K τ σ' → Fr τ [(2, 8), (1, 8)] σ0 σ' → decode cX10_listTypes pc = .ok (.return_, 1) → V p l e R s m args below meth c 5 D A Q (0, 0) (fd dom σ') lv pc []) : V p l e R s m args below meth c 5 D A Q (0, 0) (fd dom σ0) [(0, .ref h), (1, .int (iI x1)), (2, .int (iI x2)), (3, .ref g)] 0 [] := by
  have F0 : Fr τ [(2, 8), (1, 8)] σ0 σ0 := Fr.rf
  have J3 : ∀ (k3 : Nat) (σ_3 : Nat → va_E) (z3_4 : Int), (2147483648 - z3_4).toNat ≤ k3 → Good K τ σ_3 → Fr τ [(2, 8), (1, 8)] σ0 σ_3 → (1 ≤ z3_4 ∧ z3_4 ≤ 65535) → V p l e R s m args below meth c 5 D A Q (0, 0) (fd dom σ_3) [(0, .ref h), (2, .int (iI x2)), (3, .ref g), (4, .int (iI z3_4))] 3 [] := by
    intro k3
    induction k3 with
    | zero => intro σ_3 z3_4 m3 G_3 F_3 r3_4; omega
    | succ k3 IH3 =>
      intro σ_3 z3_4 m3 G_3 F_3 r3_4
      have J49 : ∀ (σ_49 : Nat → va_E), Good K τ σ_49 → Fr τ [(2, 8), (1, 8)] σ0 σ_49 → (1 ≤ x2 ∧ x2 ≤ 2147483647) → (1 ≤ z3_4 ∧ z3_4 ≤ 20) → V p l e R s m args below meth c 5 D A Q (0, 0) (fd dom σ_49) [(0, .ref h), (2, .int (iI x2)), (3, .ref g), (4, .int (iI z3_4))] 49 [] := by
        intro σ_49 G_49 F_49 r49_2 r49_4
        refine v_aload_n B dX10_listTypes_49 rfl rfl ?_
        refine v_iload B dX10_listTypes_50 rfl ?_
        refine v_i2l B (v := lI z3_4) dX10_listTypes_52 (lI_i (by omega)) ?_
        refine v_iconst B (v := iI 2) dX10_listTypes_53 rfl ?_
        refine u_callVv B Z hz (n := 2) (As := [.long (lI z3_4), .int (iI 2)]) (rest := []) (c_Row_putNumber l D K Z _ _ _ _ g z3_4 2 t_g ⟨by omega, by omega⟩ ⟨by omega, by omega⟩ σ_49 G_49) gd_Server_listTypes_Row_putNumber_108 rfl rfl rfl (by decide +kernel) ⟨Nat.le_trans (by decide +kernel) hR.1, Nat.le_trans (by decide +kernel) hR.2⟩ t_g (cls_Row G_49 t_g) rfl rfl rfl rfl (Nat.le_of_ble_eq_true rfl) dX10_listTypes_54 ⟨Nat.zero_le _, Nat.zero_le _⟩ (fun σ1 p2 => ?_)
        obtain ⟨G4, F5⟩ := p2
        have F6 := F_49.call F5 (by first | rfl | simp)
        refine v_aload_n B dX10_listTypes_57 rfl rfl ?_
        refine v_aload_n B dX10_listTypes_58 rfl rfl ?_
        obtain ⟨a7, a8, a9, z10, z11, z12, a13, z14, z15, a16, h17, t18, t19, t20, r21, r22, r23, t24, r25, r26, t27⟩ : okServer τ (σ1 h) := G4 h _ t_h
        refine u_get B Z (C := RX10) (T := TX10) (N := 10) (ci := 10) hi_Server_listTypes_X10 t_h h17 rfl 0 (by decide +kernel) (List.mem_of_getElem? (i := 9) rfl) rfl dX10_listTypes_59 ?_
        refine v_iload B dX10_listTypes_62 rfl ?_
        refine v_iconst B (v := iI 1) dX10_listTypes_64 rfl ?_
        refine v_isub B (v := iI (z3_4 + (-1))) dX10_listTypes_65 ((iI_sub _ _).trans (congrArg iI (by omega))) ?_
        obtain ⟨f28, h29, r30⟩ : okP K 20 (σ1 a7) := G4 a7 _ t18
        obtain ⟨z31, e32, r33⟩ := iI_any (f28 ((z3_4 + (-1)) : Int).toNat)
        refine u_iald B Z (t0 := 0) t18 h29 rfl (by omega) e32 dX10_listTypes_66 ?_
        refine v_i2l B (v := lI z31) dX10_listTypes_67 (lI_i (by omega)) ?_
        refine v_iconst B (v := iI 2) dX10_listTypes_68 rfl ?_
        refine u_callVv B Z hz (n := 2) (As := [.long (lI z31), .int (iI 2)]) (rest := []) (c_Row_putNumber l D K Z _ _ _ _ g z31 2 t_g ⟨by omega, by omega⟩ ⟨by omega, by omega⟩ σ1 G4) gd_Server_listTypes_Row_putNumber_108 rfl rfl rfl (by decide +kernel) ⟨Nat.le_trans (by decide +kernel) hR.1, Nat.le_trans (by decide +kernel) hR.2⟩ t_g (cls_Row G4 t_g) rfl rfl rfl rfl (Nat.le_of_ble_eq_true rfl) dX10_listTypes_69 ⟨Nat.zero_le _, Nat.zero_le _⟩ (fun σ34 p35 => ?_)
        obtain ⟨G37, F38⟩ := p35
        have F39 := F6.call F38 (by first | rfl | simp)
        have h40 := (F38 h _ t_h (by first | rfl | simp)).trans h17
        have h41 := (F38 a7 _ t18 (by first | rfl | simp)).trans h29
        refine v_iinc B (k := 3) (v := iI (z3_4 + 1)) (lv' := [(4, .int (iI (z3_4 + 1))), (0, .ref h), (2, .int (iI x2)), (3, .ref g)]) dX10_listTypes_72 rfl ((iI_add _ _).trans (congrArg iI (by omega))) (by decide +kernel) rfl ?_
        refine v_goto B (tgt := 3) dX10_listTypes_75 (by decide +kernel) ?_
        refine v_lv [1, 2, 3, 0] rfl ?_
        exact IH3 σ34 (z3_4 + 1) (by omega) G37 F39 ⟨by omega, by omega⟩
      refine v_iload B dX10_listTypes_3 rfl ?_
      refine v_iload_n B dX10_listTypes_5 rfl rfl ?_
      refine u_icmp_gt B (tgt := 78) (by omega) (by omega) dX10_listTypes_6 (by decide +kernel) (fun c42 => ?_) (fun c42 => ?_)
      · exact hend σ_3 _ _ G_3 F_3 dX10_listTypes_78
      · refine v_iload B dX10_listTypes_9 rfl ?_
        refine v_aload_n B dX10_listTypes_11 rfl rfl ?_
        obtain ⟨a43, a44, a45, z46, z47, z48, a49, z50, z51, a52, h53, t54, t55, t56, r57, r58, r59, t60, r61, r62, t63⟩ : okServer τ (σ_3 h) := G_3 h _ t_h
        refine u_get B Z (C := RX10) (T := TX10) (N := 10) (ci := 10) hi_Server_listTypes_X10 t_h h53 rfl 0 (by decide +kernel) (List.mem_of_getElem? (i := 9) rfl) rfl dX10_listTypes_12 ?_
        obtain ⟨f64, h65, r66⟩ : okP K 20 (σ_3 a43) := G_3 a43 _ t54
        refine u_alen B Z (t0 := 0) (v := 20) t54 h65 rfl (by first | rfl | omega) dX10_listTypes_15 ?_
        refine u_icmp_gt B (tgt := 78) (by omega) (by omega) dX10_listTypes_16 (by decide +kernel) (fun c67 => ?_) (fun c67 => ?_)
        · exact hend σ_3 _ _ G_3 F_3 dX10_listTypes_78
        · refine v_aload_n B dX10_listTypes_19 rfl rfl ?_
          obtain ⟨b68, N69, n70, h71, t72, r73⟩ : okRow τ 8 (σ_3 g) := G_3 g _ t_g
          refine u_getN B Z (C := RX9) (T := TX9) (N := 2) (ci := 9) hi_Server_listTypes_X9 t_g h71 rfl 1 (by decide +kernel) (List.mem_of_getElem? (i := 96) rfl) rfl dX10_listTypes_20 ?_
          refine v_iconst B (v := iI 4) dX10_listTypes_23 rfl ?_
          refine v_iadd B (v := iI (n70 + 4)) dX10_listTypes_24 ((iI_add _ _).trans (congrArg iI (by omega))) ?_
          refine v_aload_n B dX10_listTypes_25 rfl rfl ?_
          refine u_get B Z (C := RX10) (T := TX10) (N := 10) (ci := 10) hi_Server_listTypes_X10 t_h h53 rfl 5 (by decide +kernel) (List.mem_of_getElem? (i := 10) rfl) rfl dX10_listTypes_26 ?_
          refine u_icmp_gt B (tgt := 78) (by omega) (by omega) dX10_listTypes_29 (by decide +kernel) (fun c74 => ?_) (fun c74 => ?_)
          · exact hend σ_3 _ _ G_3 F_3 dX10_listTypes_78
          · refine v_aload_n B dX10_listTypes_32 rfl rfl ?_
            refine u_getN B Z (C := RX9) (T := TX9) (N := 2) (ci := 9) hi_Server_listTypes_X9 t_g h71 rfl 1 (by decide +kernel) (List.mem_of_getElem? (i := 96) rfl) rfl dX10_listTypes_33 ?_
            refine u_if_ne B (tgt := 49) (by omega) dX10_listTypes_36 (by decide +kernel) (fun c75 => ?_) (fun c75 => ?_)
            · exact J49 σ_3 G_3 F_3 ⟨by omega, by omega⟩ ⟨by omega, by omega⟩
            · refine v_aload_n B dX10_listTypes_39 rfl rfl ?_
              refine v_iconst B (v := iI 5) dX10_listTypes_40 rfl ?_
              refine u_callVv B Z hz (n := 1) (As := [.int (iI 5)]) (rest := []) (c_Row_put l D K Z _ _ _ _ g 5 t_g ⟨by omega, by omega⟩ σ_3 G_3) gd_Server_listTypes_Row_put_83 rfl rfl rfl (by decide +kernel) ⟨Nat.le_trans (by decide +kernel) hR.1, Nat.le_trans (by decide +kernel) hR.2⟩ t_g (cls_Row G_3 t_g) rfl rfl rfl rfl (Nat.le_of_ble_eq_true rfl) dX10_listTypes_41 ⟨Nat.zero_le _, Nat.zero_le _⟩ (fun σ76 p77 => ?_)
              obtain ⟨G79, F80⟩ := p77
              have F81 := F_3.call F80 (by first | rfl | simp)
              have h82 := (F80 h _ t_h (by first | rfl | simp)).trans h53
              have h83 := (F80 a43 _ t54 (by first | rfl | simp)).trans h65
              refine v_aload_n B dX10_listTypes_44 rfl rfl ?_
              refine v_iconst B (v := iI 1) dX10_listTypes_45 rfl ?_
              refine u_callVv B Z hz (n := 1) (As := [.int (iI 1)]) (rest := []) (c_Row_put l D K Z _ _ _ _ g 1 t_g ⟨by omega, by omega⟩ σ76 G79) gd_Server_listTypes_Row_put_83 rfl rfl rfl (by decide +kernel) ⟨Nat.le_trans (by decide +kernel) hR.1, Nat.le_trans (by decide +kernel) hR.2⟩ t_g (cls_Row G79 t_g) rfl rfl rfl rfl (Nat.le_of_ble_eq_true rfl) dX10_listTypes_46 ⟨Nat.zero_le _, Nat.zero_le _⟩ (fun σ84 p85 => ?_)
              obtain ⟨G87, F88⟩ := p85
              have F89 := F81.call F88 (by first | rfl | simp)
              have h90 := (F88 h _ t_h (by first | rfl | simp)).trans h82
              have h91 := (F88 a43 _ t54 (by first | rfl | simp)).trans h83
              exact J49 σ84 G87 F89 ⟨by omega, by omega⟩ ⟨by omega, by omega⟩
  refine v_iload_n B dX10_listTypes_0 rfl rfl ?_
  refine v_istore B (lv' := [(4, .int (iI x1)), (0, .ref h), (1, .int (iI x1)), (2, .int (iI x2)), (3, .ref g)]) dX10_listTypes_1 (by decide +kernel) rfl ?_
  refine v_lv [1, 3, 4, 0] rfl ?_
  exact J3 _ σ0 x1 (Nat.le_refl _) G0 F0 ⟨by omega, by omega⟩
set_option maxRecDepth 100000 in
theorem c_Server_listTypes (l : Launch) (D : va_G) (K : Nat → ClassId) {τ : Nat → Option Ty} {dom : List Nat} (Z : Sk τ dom) (zb zL : Nat) (zx : Nat → Int32) (zs : Nat → Nat) (h : Nat) (x1 : Int) (x2 : Int) (g : Nat) (t_h : τ h = some (40, 0, 0)) (r_x1 : 1 ≤ x1 ∧ x1 ≤ 65535) (r_x2 : -2147483648 ≤ x2 ∧ x2 ≤ 2147483647) (t_g : τ g = some (1, 8, 0)) (σ0 : Nat → va_E) (G0 : Good K τ σ0) : MZ l yX10_listTypes wp_Server_listTypes ({ frames := 1, cells := 0, slots := 0, locals := 24 }) D (tysA K) [.ref h, .int (iI x1), .int (iI x2), .ref g] (fd dom σ0) zb zL zx zs (Qv D (fun σ' => Good K τ σ' ∧ Fr τ [(2, 8), (1, 8)] σ0 σ') (fun σ' => fd dom σ')) 0 0 := by
  refine mz_of (cc := cX10_listTypes) (maxL := 5) (ret := none) (by decide +kernel) rfl (Nat.le_of_ble_eq_true rfl) ?_
  intro p e s m below meth c A B hr hlk _ hz
  exact b_Server_listTypes ⟨Nat.le_refl _, Nat.le_refl _⟩ B Z hz h x1 x2 g t_h r_x1 r_x2 t_g σ0 G0 (fun σ' lv pc G F hd => v_vret B hr hlk σ' ⟨G, F⟩ rfl (Nat.le_refl _) (Nat.le_refl _) hd)

def wp_Server_listEqual : List Cond := .code yX10_listEqual cX10_listEqual 7 none :: (([.methodLink RX10 108 yX9_putNumber, .instanceMethod yX9_putNumber, .selects RX9 yX9_putNumber yX9_putNumber, .initialized RX9, .code yX9_putNumber cX9_putNumber 5 none, .fieldLink RX9 21 "LowEnergy$Row" "size" "I", .fieldLink RX9 15 "LowEnergy$Row" "bytes" "[I", .constantLong RX9 25 (255), .methodLink RX10 170 yX10_endOf, .instanceMethod yX10_endOf, .selects RX10 yX10_endOf yX10_endOf, .initialized RX10, .code yX10_endOf cX10_endOf 3 (some .int), .fieldLink RX10 56 "LowEnergy$Server" "count" "I", .fieldLink RX10 11 "LowEnergy$Server" "types" "[I", .methodLink RX10 152 yX10_isGroup, .static yX10_isGroup, .code yX10_isGroup cX10_isGroup 1 (some .boolean), .methodLink RX10 53 Lib.Math.max.name, .static Lib.Math.max.name, .initialized "java/lang/Math", .code Lib.Math.max.name Lib.Math.max.code 2 (some .int), .fieldLink RX10 28 "LowEnergy$Server" "linkMtu" "I", .fieldLink RX10 20 "LowEnergy$Server" "values" "[LLowEnergy$Row;", .methodLink RX10 166 yX9_isTailOf, .instanceMethod yX9_isTailOf, .selects RX9 yX9_isTailOf yX9_isTailOf, .code yX9_isTailOf cX9_isTailOf 4 (some .boolean), .methodLink RX10 137 yX10_faultOfRead, .instanceMethod yX10_faultOfRead, .selects RX10 yX10_faultOfRead yX10_faultOfRead, .code yX10_faultOfRead cX10_faultOfRead 4 (some .int), .fieldLink RX10 15 "LowEnergy$Server" "rights" "[I", .methodLink RX10 83 yX9_put, .instanceMethod yX9_put, .selects RX9 yX9_put yX9_put, .code yX9_put cX9_put 2 none, .methodLink RX10 76 yX9_two, .instanceMethod yX9_two, .selects RX9 yX9_two yX9_two, .code yX9_two cX9_two 2 (some .int)] : List Cond) ++ (wsX90 ++ (wsX100 ++ ([]))))
theorem hi_Server_listEqual_X9 : ∀ x ∈ u_ws RX9 TX9 2, x ∈ wp_Server_listEqual := fun _ h => List.mem_cons_of_mem _ (List.mem_append_right _ (List.mem_append_left _ h))
theorem hi_Server_listEqual_X10 : ∀ x ∈ u_ws RX10 TX10 10, x ∈ wp_Server_listEqual := fun _ h => List.mem_cons_of_mem _ (List.mem_append_right _ (List.mem_append_right _ (List.mem_append_left _ h)))
set_option maxRecDepth 100000 in
theorem gd_Server_listEqual_Row_putNumber_108 : GoodIn wp_Server_listEqual (wsV RX10 108 RX9 yX9_putNumber wp_Row_putNumber) := goodIn_app (goodIn_r _ [1, 2, 3, 4] rfl rfl) (goodIn_ca (goodIn_r _ [5, 6, 7, 8] rfl rfl) (goodIn_app (goodIn_cls hi_Server_listEqual_X9 gw_X9) (goodIn_nil)))
set_option maxRecDepth 100000 in
theorem gd_Server_listEqual_Server_endOf_170 : GoodIn wp_Server_listEqual (wsV RX10 170 RX10 yX10_endOf wp_Server_endOf) := goodIn_app (goodIn_r _ [9, 10, 11, 12] rfl rfl) (goodIn_ca (goodIn_r _ [13, 14, 15, 16, 17, 12, 18, 19, 20, 21, 22] rfl rfl) (goodIn_app (goodIn_cls hi_Server_listEqual_X10 gw_X10) (goodIn_nil)))
set_option maxRecDepth 100000 in
theorem gd_Server_listEqual_Row_isTailOf_166 : GoodIn wp_Server_listEqual (wsV RX10 166 RX9 yX9_isTailOf wp_Row_isTailOf) := goodIn_app (goodIn_r _ [25, 26, 27, 4] rfl rfl) (goodIn_ca (goodIn_r _ [28, 6, 7] rfl rfl) (goodIn_app (goodIn_cls hi_Server_listEqual_X9 gw_X9) (goodIn_nil)))
set_option maxRecDepth 100000 in
theorem gd_Server_listEqual_Server_faultOfRead_137 : GoodIn wp_Server_listEqual (wsV RX10 137 RX10 yX10_faultOfRead wp_Server_faultOfRead) := goodIn_app (goodIn_r _ [29, 30, 31, 12] rfl rfl) (goodIn_ca (goodIn_r _ [32, 14, 33] rfl rfl) (goodIn_app (goodIn_cls hi_Server_listEqual_X10 gw_X10) (goodIn_nil)))
set_option maxRecDepth 100000 in
theorem gd_Server_listEqual_Row_put_83 : GoodIn wp_Server_listEqual (wsV RX10 83 RX9 yX9_put wp_Row_put) := goodIn_app (goodIn_r _ [34, 35, 36, 4] rfl rfl) (goodIn_ca (goodIn_r _ [37, 6, 7] rfl rfl) (goodIn_app (goodIn_cls hi_Server_listEqual_X9 gw_X9) (goodIn_nil)))
set_option maxRecDepth 100000 in
theorem gd_Server_listEqual_Row_two_76 : GoodIn wp_Server_listEqual (wsV RX10 76 RX9 yX9_two wp_Row_two) := goodIn_app (goodIn_r _ [38, 39, 40, 4] rfl rfl) (goodIn_ca (goodIn_r _ [41, 6, 7] rfl rfl) (goodIn_app (goodIn_cls hi_Server_listEqual_X9 gw_X9) (goodIn_nil)))
set_option maxRecDepth 100000 in
theorem gd_Server_listEqual_Row_twoX_76 : GoodIn wp_Server_listEqual (wsV RX10 76 RX9 yX9_two wp_Row_twoX) := goodIn_app (goodIn_r _ [38, 39, 40, 4] rfl rfl) (goodIn_ca (goodIn_r _ [41, 6, 7] rfl rfl) (goodIn_app (goodIn_cls hi_Server_listEqual_X9 gw_X9) (goodIn_nil)))
set_option maxHeartbeats 4000000 in
set_option maxRecDepth 100000 in
theorem b_Server_listEqual {p : Program} {l : Launch} {e : Env} {R : Room} {s : State} {m : MethodId} {args : Array Value} {below : List Frame} {meth : Method} {c : Code} {D : va_G} {K : Nat → ClassId} {A : Nat → Prop} {Q : State → Prop} {τ : Nat → Option Ty} {dom : List Nat} {zb zL : Nat} {zx : Nat → Int32} {zs : Nat → Nat} (hR : 2 ≤ R.frames ∧ 42 ≤ R.locals) (B : Bx p s m args c cX10_listEqual 7 RX10 wp_Server_listEqual D (tysA K) A) (Z : Sk τ dom) (hz : ZL zb zL zx zs A s s.heap) (h : Nat) (w0 : Nat) (x2 : Int) (x3 : Int) (g : Nat) (t_h : τ h = some (40, 0, 0)) (t_w0 : τ w0 = some (1, 12, 0)) (r_x2 : -2147483648 ≤ x2 ∧ x2 ≤ 2147483647) (r_x3 : 0 ≤ x3 ∧ x3 ≤ 1) (t_g : τ g = some (1, 8, 0)) (σ0 : Nat → va_E) (G0 : Good K τ σ0) (hT : ∀ z : Int, TwoV K σ0 w0 1 z → (0 ≤ z ∧ z ≤ 65535) → 1 ≤ z) (hend : ∀ (σ' : Nat → va_E) (lv : List (Nat × Value)) (pc : Nat), Good K τ σ' → Fr τ [(2, 8), (1, 8)] σ0 σ' → decode cX10_listEqual pc = .ok (.return_, 1) → V p l e R s m args below meth c 7 D A Q (0, 0) (fd dom σ') lv pc []) : V p l e R s m args below meth c 7 D A Q (0, 0) (fd dom σ0) [(0, .ref h), (1, .ref w0), (2, .int (iI x2)), (3, .int (iI x3)), (4, .ref g)] 0 [] := by
  have F0 : Fr τ [(2, 8), (1, 8)] σ0 σ0 := Fr.rf
  have J14 : ∀ (k14 : Nat) (σ_14 : Nat → va_E) (z14_5 : Int) (z14_6 : Int), (2147483648 - z14_6).toNat ≤ k14 → Good K τ σ_14 → Fr τ [(2, 8), (1, 8)] σ0 σ_14 → (0 ≤ z14_5 ∧ z14_5 ≤ 65535) → (1 ≤ z14_6 ∧ z14_6 ≤ 65535) → V p l e R s m args below meth c 7 D A Q (0, 0) (fd dom σ_14) [(0, .ref h), (1, .ref w0), (2, .int (iI x2)), (3, .int (iI x3)), (4, .ref g), (5, .int (iI z14_5)), (6, .int (iI z14_6))] 14 [] := by
    intro k14
    induction k14 with
    | zero => intro σ_14 z14_5 z14_6 m14 G_14 F_14 r14_5 r14_6; omega
    | succ k14 IH14 =>
      intro σ_14 z14_5 z14_6 m14 G_14 F_14 r14_5 r14_6
      have J123 : ∀ (σ_123 : Nat → va_E), Good K τ σ_123 → Fr τ [(2, 8), (1, 8)] σ0 σ_123 → (1 ≤ x2 ∧ x2 ≤ 2147483647) → (1 ≤ z14_6 ∧ z14_6 ≤ 20) → V p l e R s m args below meth c 7 D A Q (0, 0) (fd dom σ_123) [(0, .ref h), (1, .ref w0), (2, .int (iI x2)), (3, .int (iI x3)), (4, .ref g), (5, .int (iI z14_5)), (6, .int (iI z14_6))] 123 [] := by
        intro σ_123 G_123 F_123 r123_2 r123_6
        refine v_iinc B (k := 6) (v := iI (z14_6 + 1)) (lv' := [(6, .int (iI (z14_6 + 1))), (0, .ref h), (1, .ref w0), (2, .int (iI x2)), (3, .int (iI x3)), (4, .ref g), (5, .int (iI z14_5))]) dX10_listEqual_123 rfl ((iI_add _ _).trans (congrArg iI (by omega))) (by decide +kernel) rfl ?_
        refine v_goto B (tgt := 14) dX10_listEqual_126 (by decide +kernel) ?_
        refine v_lv [1, 2, 3, 4, 5, 6, 0] rfl ?_
        exact IH14 σ_123 z14_5 (z14_6 + 1) (by omega) G_123 F_123 ⟨by omega, by omega⟩ ⟨by omega, by omega⟩
      have J101 : ∀ (σ_101 : Nat → va_E), Good K τ σ_101 → Fr τ [(2, 8), (1, 8)] σ0 σ_101 → (1 ≤ x2 ∧ x2 ≤ 2147483647) → (1 ≤ z14_6 ∧ z14_6 ≤ 20) → V p l e R s m args below meth c 7 D A Q (0, 0) (fd dom σ_101) [(0, .ref h), (1, .ref w0), (2, .int (iI x2)), (3, .int (iI x3)), (4, .ref g), (5, .int (iI z14_5)), (6, .int (iI z14_6))] 101 [] := by
        intro σ_101 G_101 F_101 r101_2 r101_6
        refine v_aload B dX10_listEqual_101 rfl ?_
        refine v_iload B dX10_listEqual_103 rfl ?_
        refine v_i2l B (v := lI z14_6) dX10_listEqual_105 (lI_i (by omega)) ?_
        refine v_iconst B (v := iI 2) dX10_listEqual_106 rfl ?_
        refine u_callVv B Z hz (n := 2) (As := [.long (lI z14_6), .int (iI 2)]) (rest := []) (c_Row_putNumber l D K Z _ _ _ _ g z14_6 2 t_g ⟨by omega, by omega⟩ ⟨by omega, by omega⟩ σ_101 G_101) gd_Server_listEqual_Row_putNumber_108 rfl rfl rfl (by decide +kernel) ⟨Nat.le_trans (by decide +kernel) hR.1, Nat.le_trans (by decide +kernel) hR.2⟩ t_g (cls_Row G_101 t_g) rfl rfl rfl rfl (Nat.le_of_ble_eq_true rfl) dX10_listEqual_107 ⟨Nat.zero_le _, Nat.zero_le _⟩ (fun σ1 p2 => ?_)
        obtain ⟨G4, F5⟩ := p2
        have F6 := F_101.call F5 (by first | rfl | simp)
        refine v_aload B dX10_listEqual_110 rfl ?_
        refine v_aload_n B dX10_listEqual_112 rfl rfl ?_
        refine v_iload B dX10_listEqual_113 rfl ?_
        refine u_callVi B Z hz (n := 1) (As := [.int (iI z14_6)]) (rest := [.ref g]) (c_Server_endOf l D K Z _ _ _ _ h z14_6 t_h ⟨by omega, by omega⟩ σ1 G4) gd_Server_listEqual_Server_endOf_170 rfl rfl rfl (by decide +kernel) ⟨Nat.le_trans (by decide +kernel) hR.1, Nat.le_trans (by decide +kernel) hR.2⟩ t_h (cls_Server G4 t_h) rfl rfl rfl rfl (Nat.le_of_ble_eq_true rfl) dX10_listEqual_115 ⟨Nat.zero_le _, Nat.zero_le _⟩ (fun v9 σ7 p8 => ?_)
        obtain ⟨rfl, z13, e14, r15⟩ := p8
        subst e14
        refine v_i2l B (v := lI z13) dX10_listEqual_118 (lI_i (by omega)) ?_
        refine v_iconst B (v := iI 2) dX10_listEqual_119 rfl ?_
        refine u_callVv B Z hz (n := 2) (As := [.long (lI z13), .int (iI 2)]) (rest := []) (c_Row_putNumber l D K Z _ _ _ _ g z13 2 t_g ⟨by omega, by omega⟩ ⟨by omega, by omega⟩ σ1 G4) gd_Server_listEqual_Row_putNumber_108 rfl rfl rfl (by decide +kernel) ⟨Nat.le_trans (by decide +kernel) hR.1, Nat.le_trans (by decide +kernel) hR.2⟩ t_g (cls_Row G4 t_g) rfl rfl rfl rfl (Nat.le_of_ble_eq_true rfl) dX10_listEqual_120 ⟨Nat.zero_le _, Nat.zero_le _⟩ (fun σ16 p17 => ?_)
        obtain ⟨G19, F20⟩ := p17
        have F21 := F6.call F20 (by first | rfl | simp)
        exact J123 σ16 G19 F21 ⟨by omega, by omega⟩ ⟨by omega, by omega⟩
      refine v_iload B dX10_listEqual_14 rfl ?_
      refine v_iload_n B dX10_listEqual_16 rfl rfl ?_
      refine u_icmp_gt B (tgt := 129) (by omega) (by omega) dX10_listEqual_17 (by decide +kernel) (fun c22 => ?_) (fun c22 => ?_)
      · exact hend σ_14 _ _ G_14 F_14 dX10_listEqual_129
      · refine v_iload B dX10_listEqual_20 rfl ?_
        refine v_aload_n B dX10_listEqual_22 rfl rfl ?_
        obtain ⟨a23, a24, a25, z26, z27, z28, a29, z30, z31, a32, h33, t34, t35, t36, r37, r38, r39, t40, r41, r42, t43⟩ : okServer τ (σ_14 h) := G_14 h _ t_h
        refine u_get B Z (C := RX10) (T := TX10) (N := 10) (ci := 10) hi_Server_listEqual_X10 t_h h33 rfl 0 (by decide +kernel) (List.mem_of_getElem? (i := 15) rfl) rfl dX10_listEqual_23 ?_
        obtain ⟨f44, h45, r46⟩ : okP K 20 (σ_14 a23) := G_14 a23 _ t34
        refine u_alen B Z (t0 := 0) (v := 20) t34 h45 rfl (by first | rfl | omega) dX10_listEqual_26 ?_
        refine u_icmp_gt B (tgt := 129) (by omega) (by omega) dX10_listEqual_27 (by decide +kernel) (fun c47 => ?_) (fun c47 => ?_)
        · exact hend σ_14 _ _ G_14 F_14 dX10_listEqual_129
        · refine v_aload B dX10_listEqual_30 rfl ?_
          obtain ⟨b48, N49, n50, h51, t52, r53⟩ : okRow τ 8 (σ_14 g) := G_14 g _ t_g
          refine u_getN B Z (C := RX9) (T := TX9) (N := 2) (ci := 9) hi_Server_listEqual_X9 t_g h51 rfl 1 (by decide +kernel) (List.mem_of_getElem? (i := 96) rfl) rfl dX10_listEqual_32 ?_
          refine v_iconst B (v := iI 4) dX10_listEqual_35 rfl ?_
          refine v_iadd B (v := iI (n50 + 4)) dX10_listEqual_36 ((iI_add _ _).trans (congrArg iI (by omega))) ?_
          refine v_aload_n B dX10_listEqual_37 rfl rfl ?_
          refine u_get B Z (C := RX10) (T := TX10) (N := 10) (ci := 10) hi_Server_listEqual_X10 t_h h33 rfl 5 (by decide +kernel) (List.mem_of_getElem? (i := 23) rfl) rfl dX10_listEqual_38 ?_
          refine u_icmp_gt B (tgt := 129) (by omega) (by omega) dX10_listEqual_41 (by decide +kernel) (fun c54 => ?_) (fun c54 => ?_)
          · exact hend σ_14 _ _ G_14 F_14 dX10_listEqual_129
          · refine v_aload_n B dX10_listEqual_44 rfl rfl ?_
            refine u_get B Z (C := RX10) (T := TX10) (N := 10) (ci := 10) hi_Server_listEqual_X10 t_h h33 rfl 0 (by decide +kernel) (List.mem_of_getElem? (i := 15) rfl) rfl dX10_listEqual_45 ?_
            refine v_iload B dX10_listEqual_48 rfl ?_
            refine v_iconst B (v := iI 1) dX10_listEqual_50 rfl ?_
            refine v_isub B (v := iI (z14_6 + (-1))) dX10_listEqual_51 ((iI_sub _ _).trans (congrArg iI (by omega))) ?_
            obtain ⟨z55, e56, r57⟩ := iI_any (f44 ((z14_6 + (-1)) : Int).toNat)
            refine u_iald B Z (t0 := 0) t34 h45 rfl (by omega) e56 dX10_listEqual_52 ?_
            refine v_iload B dX10_listEqual_53 rfl ?_
            refine u_icmp_ne B (tgt := 123) (by omega) (by omega) dX10_listEqual_55 (by decide +kernel) (fun c58 => ?_) (fun c58 => ?_)
            · exact J123 σ_14 G_14 F_14 ⟨by omega, by omega⟩ ⟨by omega, by omega⟩
            · refine v_aload_n B dX10_listEqual_58 rfl rfl ?_
              refine u_get B Z (C := RX10) (T := TX10) (N := 10) (ci := 10) hi_Server_listEqual_X10 t_h h33 rfl 2 (by decide +kernel) (List.mem_of_getElem? (i := 24) rfl) rfl dX10_listEqual_59 ?_
              refine v_iload B dX10_listEqual_62 rfl ?_
              refine v_iconst B (v := iI 1) dX10_listEqual_64 rfl ?_
              refine v_isub B (v := iI (z14_6 + (-1))) dX10_listEqual_65 ((iI_sub _ _).trans (congrArg iI (by omega))) ?_
              obtain ⟨f59, h60, e61⟩ : okRA K τ 13 20 (σ_14 a25) := G_14 a25 _ t36
              obtain ⟨a62, e63, t64⟩ := e61 ((z14_6 + (-1)) : Int).toNat (by omega)
              refine u_aald B Z (t0 := 4) (v := .ref a62) t36 h60 rfl (by omega) (by rw [e63]; rfl) dX10_listEqual_66 ?_
              refine v_aload_n B dX10_listEqual_67 rfl rfl ?_
              refine v_bipush B (v := iI 7) dX10_listEqual_68 (by decide +kernel) ?_
              refine u_callVi B Z hz (n := 2) (As := [.ref w0, .int (iI 7)]) (rest := []) (c_Row_isTailOf l D K Z _ _ _ _ a62 w0 7 t64 t_w0 ⟨by omega, by omega⟩ σ_14 G_14) gd_Server_listEqual_Row_isTailOf_166 rfl rfl rfl (by decide +kernel) ⟨Nat.le_trans (by decide +kernel) hR.1, Nat.le_trans (by decide +kernel) hR.2⟩ t64 (cls_Row G_14 t64) rfl rfl rfl rfl (Nat.le_of_ble_eq_true rfl) dX10_listEqual_70 ⟨Nat.zero_le _, Nat.zero_le _⟩ (fun v67 σ65 p66 => ?_)
              obtain ⟨rfl, z71, e72, r73⟩ := p66
              subst e72
              refine u_if_eq B (tgt := 123) (by omega) dX10_listEqual_73 (by decide +kernel) (fun c74 => ?_) (fun c74 => ?_)
              · exact J123 σ_14 G_14 F_14 ⟨by omega, by omega⟩ ⟨by omega, by omega⟩
              · refine v_aload_n B dX10_listEqual_76 rfl rfl ?_
                refine v_iload B dX10_listEqual_77 rfl ?_
                refine v_iload_n B dX10_listEqual_79 rfl rfl ?_
                refine u_callVi B Z hz (n := 2) (As := [.int (iI z14_6), .int (iI x3)]) (rest := []) (c_Server_faultOfRead l D K Z _ _ _ _ h z14_6 x3 t_h ⟨by omega, by omega⟩ ⟨by omega, by omega⟩ σ_14 G_14) gd_Server_listEqual_Server_faultOfRead_137 rfl rfl rfl (by decide +kernel) ⟨Nat.le_trans (by decide +kernel) hR.1, Nat.le_trans (by decide +kernel) hR.2⟩ t_h (cls_Server G_14 t_h) rfl rfl rfl rfl (Nat.le_of_ble_eq_true rfl) dX10_listEqual_80 ⟨Nat.zero_le _, Nat.zero_le _⟩ (fun v77 σ75 p76 => ?_)
                obtain ⟨rfl, z81, e82, r83⟩ := p76
                subst e82
                refine u_if_ne B (tgt := 123) (by omega) dX10_listEqual_83 (by decide +kernel) (fun c84 => ?_) (fun c84 => ?_)
                · exact J123 σ_14 G_14 F_14 ⟨by omega, by omega⟩ ⟨by omega, by omega⟩
                · refine v_aload B dX10_listEqual_86 rfl ?_
                  refine u_getN B Z (C := RX9) (T := TX9) (N := 2) (ci := 9) hi_Server_listEqual_X9 t_g h51 rfl 1 (by decide +kernel) (List.mem_of_getElem? (i := 96) rfl) rfl dX10_listEqual_88 ?_
                  refine u_if_ne B (tgt := 101) (by omega) dX10_listEqual_91 (by decide +kernel) (fun c85 => ?_) (fun c85 => ?_)
                  · exact J101 σ_14 G_14 F_14 ⟨by omega, by omega⟩ ⟨by omega, by omega⟩
                  · refine v_aload B dX10_listEqual_94 rfl ?_
                    refine v_bipush B (v := iI 7) dX10_listEqual_96 (by decide +kernel) ?_
                    refine u_callVv B Z hz (n := 1) (As := [.int (iI 7)]) (rest := []) (c_Row_put l D K Z _ _ _ _ g 7 t_g ⟨by omega, by omega⟩ σ_14 G_14) gd_Server_listEqual_Row_put_83 rfl rfl rfl (by decide +kernel) ⟨Nat.le_trans (by decide +kernel) hR.1, Nat.le_trans (by decide +kernel) hR.2⟩ t_g (cls_Row G_14 t_g) rfl rfl rfl rfl (Nat.le_of_ble_eq_true rfl) dX10_listEqual_98 ⟨Nat.zero_le _, Nat.zero_le _⟩ (fun σ86 p87 => ?_)
                    obtain ⟨G89, F90⟩ := p87
                    have F91 := F_14.call F90 (by first | rfl | simp)
                    have h92 := (F90 h _ t_h (by first | rfl | simp)).trans h33
                    have h93 := (F90 a23 _ t34 (by first | rfl | simp)).trans h45
                    have h94 := (F90 a25 _ t36 (by first | rfl | simp)).trans h60
                    exact J101 σ86 G89 F91 ⟨by omega, by omega⟩ ⟨by omega, by omega⟩
  refine v_aload_n B dX10_listEqual_0 rfl rfl ?_
  refine v_iconst B (v := iI 5) dX10_listEqual_1 rfl ?_
  refine u_callVi B Z hz (n := 1) (As := [.int (iI 5)]) (rest := []) (c_Row_two l D K Z _ _ _ _ w0 5 t_w0 ⟨by omega, by omega⟩ σ0 G0) gd_Server_listEqual_Row_two_76 rfl rfl rfl (by decide +kernel) ⟨Nat.le_trans (by decide +kernel) hR.1, Nat.le_trans (by decide +kernel) hR.2⟩ t_w0 (cls_Row G0 t_w0) rfl rfl rfl rfl (Nat.le_of_ble_eq_true rfl) dX10_listEqual_2 ⟨Nat.zero_le _, Nat.zero_le _⟩ (fun v97 σ95 p96 => ?_)
  obtain ⟨rfl, z101, e102, r103⟩ := p96
  subst e102
  refine v_istore B (lv' := [(5, .int (iI z101)), (0, .ref h), (1, .ref w0), (2, .int (iI x2)), (3, .int (iI x3)), (4, .ref g)]) dX10_listEqual_5 (by decide +kernel) rfl ?_
  refine v_aload_n B dX10_listEqual_7 rfl rfl ?_
  refine v_iconst B (v := iI 1) dX10_listEqual_8 rfl ?_
  refine u_callVi B Z hz (n := 1) (As := [.int (iI 1)]) (rest := []) (c_Row_twoX l D K Z _ _ _ _ w0 1 t_w0 ⟨by omega, by omega⟩ σ0 G0) gd_Server_listEqual_Row_twoX_76 rfl rfl rfl (by decide +kernel) ⟨Nat.le_trans (by decide +kernel) hR.1, Nat.le_trans (by decide +kernel) hR.2⟩ t_w0 (cls_Row G0 t_w0) rfl rfl rfl rfl (Nat.le_of_ble_eq_true rfl) dX10_listEqual_9 ⟨Nat.zero_le _, Nat.zero_le _⟩ (fun v106 σ104 p105 => ?_)
  obtain ⟨rfl, z110, e111, r112, tv113⟩ := p105
  subst e111
  have r114 := hT z110 tv113 (by omega)
  refine v_istore B (lv' := [(6, .int (iI z110)), (5, .int (iI z101)), (0, .ref h), (1, .ref w0), (2, .int (iI x2)), (3, .int (iI x3)), (4, .ref g)]) dX10_listEqual_12 (by decide +kernel) rfl ?_
  refine v_lv [2, 3, 4, 5, 6, 1, 0] rfl ?_
  exact J14 _ σ0 z101 z110 (Nat.le_refl _) G0 F0 ⟨by omega, by omega⟩ ⟨by omega, by omega⟩
set_option maxRecDepth 100000 in
theorem c_Server_listEqual (l : Launch) (D : va_G) (K : Nat → ClassId) {τ : Nat → Option Ty} {dom : List Nat} (Z : Sk τ dom) (zb zL : Nat) (zx : Nat → Int32) (zs : Nat → Nat) (h : Nat) (w0 : Nat) (x2 : Int) (x3 : Int) (g : Nat) (t_h : τ h = some (40, 0, 0)) (t_w0 : τ w0 = some (1, 12, 0)) (r_x2 : -2147483648 ≤ x2 ∧ x2 ≤ 2147483647) (r_x3 : 0 ≤ x3 ∧ x3 ≤ 1) (t_g : τ g = some (1, 8, 0)) (σ0 : Nat → va_E) (G0 : Good K τ σ0) (hT : ∀ z : Int, TwoV K σ0 w0 1 z → (0 ≤ z ∧ z ≤ 65535) → 1 ≤ z) : MZ l yX10_listEqual wp_Server_listEqual ({ frames := 2, cells := 0, slots := 0, locals := 42 }) D (tysA K) [.ref h, .ref w0, .int (iI x2), .int (iI x3), .ref g] (fd dom σ0) zb zL zx zs (Qv D (fun σ' => Good K τ σ' ∧ Fr τ [(2, 8), (1, 8)] σ0 σ') (fun σ' => fd dom σ')) 0 0 := by
  refine mz_of (cc := cX10_listEqual) (maxL := 7) (ret := none) (by decide +kernel) rfl (Nat.le_of_ble_eq_true rfl) ?_
  intro p e s m below meth c A B hr hlk _ hz
  exact b_Server_listEqual ⟨Nat.le_refl _, Nat.le_refl _⟩ B Z hz h w0 x2 x3 g t_h t_w0 r_x2 r_x3 t_g σ0 G0 hT (fun σ' lv pc G F hd => v_vret B hr hlk σ' ⟨G, F⟩ rfl (Nat.le_refl _) (Nat.le_refl _) hd)

def wp_Server_listRows : List Cond := .code yX10_listRows cX10_listRows 13 none :: (([.fieldLink RX10 20 "LowEnergy$Server" "values" "[LLowEnergy$Row;", .methodLink RX10 133 yX9_putPart, .instanceMethod yX9_putPart, .selects RX9 yX9_putPart yX9_putPart, .initialized RX9, .code yX9_putPart cX9_putPart 6 none, .fieldLink RX9 21 "LowEnergy$Row" "size" "I", .fieldLink RX9 15 "LowEnergy$Row" "bytes" "[I", .methodLink RX9 9 Lib.Math.max.name, .static Lib.Math.max.name, .initialized "java/lang/Math", .code Lib.Math.max.name Lib.Math.max.code 2 (some .int), .fieldLink RX10 28 "LowEnergy$Server" "linkMtu" "I", .methodLink RX10 108 yX9_putNumber, .instanceMethod yX9_putNumber, .selects RX9 yX9_putNumber yX9_putNumber, .code yX9_putNumber cX9_putNumber 5 none, .constantLong RX9 25 (255), .methodLink RX10 170 yX10_endOf, .instanceMethod yX10_endOf, .selects RX10 yX10_endOf yX10_endOf, .initialized RX10, .code yX10_endOf cX10_endOf 3 (some .int), .fieldLink RX10 56 "LowEnergy$Server" "count" "I", .fieldLink RX10 11 "LowEnergy$Server" "types" "[I", .methodLink RX10 152 yX10_isGroup, .static yX10_isGroup, .code yX10_isGroup cX10_isGroup 1 (some .boolean), .methodLink RX10 53 Lib.Math.max.name, .methodLink RX10 137 yX10_faultOfRead, .instanceMethod yX10_faultOfRead, .selects RX10 yX10_faultOfRead yX10_faultOfRead, .code yX10_faultOfRead cX10_faultOfRead 4 (some .int), .fieldLink RX10 15 "LowEnergy$Server" "rights" "[I", .methodLink RX10 47 Lib.Math.min.name, .static Lib.Math.min.name, .code Lib.Math.min.name Lib.Math.min.code 2 (some .int), .methodLink RX10 83 yX9_put, .instanceMethod yX9_put, .selects RX9 yX9_put yX9_put, .code yX9_put cX9_put 2 none, .methodLink RX10 97 yX10_refuse, .static yX10_refuse, .code yX10_refuse cX10_refuse 4 none, .methodLink RX10 76 yX9_two, .instanceMethod yX9_two, .selects RX9 yX9_two yX9_two, .code yX9_two cX9_two 2 (some .int), .methodLink RX10 63 yX9_at, .instanceMethod yX9_at, .selects RX9 yX9_at yX9_at, .code yX9_at cX9_at 2 (some .int)] : List Cond) ++ (wsX100 ++ (wsX90 ++ ([]))))
theorem hi_Server_listRows_X10 : ∀ x ∈ u_ws RX10 TX10 10, x ∈ wp_Server_listRows := fun _ h => List.mem_cons_of_mem _ (List.mem_append_right _ (List.mem_append_left _ h))
theorem hi_Server_listRows_X9 : ∀ x ∈ u_ws RX9 TX9 2, x ∈ wp_Server_listRows := fun _ h => List.mem_cons_of_mem _ (List.mem_append_right _ (List.mem_append_right _ (List.mem_append_left _ h)))
set_option maxRecDepth 100000 in
theorem gd_Server_listRows_Row_putPart_133 : GoodIn wp_Server_listRows (wsV RX10 133 RX9 yX9_putPart wp_Row_putPart) := goodIn_app (goodIn_r _ [2, 3, 4, 5] rfl rfl) (goodIn_ca (goodIn_r _ [6, 7, 8, 9, 10, 11, 12] rfl rfl) (goodIn_app (goodIn_cls hi_Server_listRows_X9 gw_X9) (goodIn_nil)))
set_option maxRecDepth 100000 in
theorem gd_Server_listRows_Row_putNumber_108 : GoodIn wp_Server_listRows (wsV RX10 108 RX9 yX9_putNumber wp_Row_putNumber) := goodIn_app (goodIn_r _ [14, 15, 16, 5] rfl rfl) (goodIn_ca (goodIn_r _ [17, 7, 8, 18] rfl rfl) (goodIn_app (goodIn_cls hi_Server_listRows_X9 gw_X9) (goodIn_nil)))
set_option maxRecDepth 100000 in
theorem gd_Server_listRows_Server_endOf_170 : GoodIn wp_Server_listRows (wsV RX10 170 RX10 yX10_endOf wp_Server_endOf) := goodIn_app (goodIn_r _ [19, 20, 21, 22] rfl rfl) (goodIn_ca (goodIn_r _ [23, 24, 25, 26, 27, 22, 28, 29, 10, 11, 12] rfl rfl) (goodIn_app (goodIn_cls hi_Server_listRows_X10 gw_X10) (goodIn_nil)))
set_option maxRecDepth 100000 in
theorem gd_Server_listRows_Server_faultOfRead_137 : GoodIn wp_Server_listRows (wsV RX10 137 RX10 yX10_faultOfRead wp_Server_faultOfRead) := goodIn_app (goodIn_r _ [30, 31, 32, 22] rfl rfl) (goodIn_ca (goodIn_r _ [33, 24, 34] rfl rfl) (goodIn_app (goodIn_cls hi_Server_listRows_X10 gw_X10) (goodIn_nil)))
set_option maxRecDepth 100000 in
theorem gd_Server_listRows_Row_put_83 : GoodIn wp_Server_listRows (wsV RX10 83 RX9 yX9_put wp_Row_put) := goodIn_app (goodIn_r _ [38, 39, 40, 5] rfl rfl) (goodIn_ca (goodIn_r _ [41, 7, 8] rfl rfl) (goodIn_app (goodIn_cls hi_Server_listRows_X9 gw_X9) (goodIn_nil)))
set_option maxRecDepth 100000 in
theorem gd_Server_listRows_Server_refuse_97 : GoodIn wp_Server_listRows (va_wsS RX10 97 yX10_refuse wp_Server_refuse) := goodIn_app (goodIn_r _ [42, 43, 22] rfl rfl) (goodIn_ca (goodIn_r _ [44, 38, 39, 40, 5, 41, 7, 8, 14, 15, 16, 17, 18] rfl rfl) (goodIn_app (goodIn_cls hi_Server_listRows_X9 gw_X9) (goodIn_nil)))
set_option maxRecDepth 100000 in
theorem gd_Server_listRows_Row_twoX_76 : GoodIn wp_Server_listRows (wsV RX10 76 RX9 yX9_two wp_Row_twoX) := goodIn_app (goodIn_r _ [45, 46, 47, 5] rfl rfl) (goodIn_ca (goodIn_r _ [48, 7, 8] rfl rfl) (goodIn_app (goodIn_cls hi_Server_listRows_X9 gw_X9) (goodIn_nil)))
set_option maxRecDepth 100000 in
theorem gd_Server_listRows_Row_at_63 : GoodIn wp_Server_listRows (wsV RX10 63 RX9 yX9_at wp_Row_at) := goodIn_app (goodIn_r _ [49, 50, 51, 5] rfl rfl) (goodIn_ca (goodIn_r _ [52, 7, 8] rfl rfl) (goodIn_app (goodIn_cls hi_Server_listRows_X9 gw_X9) (goodIn_nil)))
set_option maxRecDepth 100000 in
theorem gd_Server_listRows_Row_two_76 : GoodIn wp_Server_listRows (wsV RX10 76 RX9 yX9_two wp_Row_two) := goodIn_app (goodIn_r _ [45, 46, 47, 5] rfl rfl) (goodIn_ca (goodIn_r _ [48, 7, 8] rfl rfl) (goodIn_app (goodIn_cls hi_Server_listRows_X9 gw_X9) (goodIn_nil)))
set_option maxHeartbeats 4000000 in
set_option maxRecDepth 100000 in
theorem b_Server_listRows {p : Program} {l : Launch} {e : Env} {R : Room} {s : State} {m : MethodId} {args : Array Value} {below : List Frame} {meth : Method} {c : Code} {D : va_G} {K : Nat → ClassId} {A : Nat → Prop} {Q : State → Prop} {τ : Nat → Option Ty} {dom : List Nat} {zb zL : Nat} {zx : Nat → Int32} {zs : Nat → Nat} (hR : 2 ≤ R.frames ∧ 47 ≤ R.locals) (B : Bx p s m args c cX10_listRows 13 RX10 wp_Server_listRows D (tysA K) A) (Z : Sk τ dom) (hz : ZL zb zL zx zs A s s.heap) (h : Nat) (w0 : Nat) (x2 : Int) (x3 : Int) (g : Nat) (t_h : τ h = some (40, 0, 0)) (t_w0 : τ w0 = some (1, 12, 0)) (r_x2 : -2147483648 ≤ x2 ∧ x2 ≤ 2147483647) (r_x3 : 0 ≤ x3 ∧ x3 ≤ 1) (t_g : τ g = some (1, 8, 0)) (σ0 : Nat → va_E) (G0 : Good K τ σ0) (hT : ∀ z : Int, TwoV K σ0 w0 1 z → (0 ≤ z ∧ z ≤ 65535) → 1 ≤ z) (hend : ∀ (σ' : Nat → va_E) (lv : List (Nat × Value)) (pc : Nat), Good K τ σ' → Fr τ [(2, 8), (1, 8)] σ0 σ' → decode cX10_listRows pc = .ok (.return_, 1) → V p l e R s m args below meth c 13 D A Q (0, 0) (fd dom σ') lv pc []) : V p l e R s m args below meth c 13 D A Q (0, 0) (fd dom σ0) [(0, .ref h), (1, .ref w0), (2, .int (iI x2)), (3, .int (iI x3)), (4, .ref g)] 0 [] := by
  have F0 : Fr τ [(2, 8), (1, 8)] σ0 σ0 := Fr.rf
  have J49 : ∀ (k49 : Nat) (σ_49 : Nat → va_E) (z49_5 : Int) (z49_6 : Int) (z49_7 : Int) (z49_8 : Int) (z49_9 : Int) (z49_10 : Int), (2147483648 - z49_10).toNat ≤ k49 → Good K τ σ_49 → Fr τ [(2, 8), (1, 8)] σ0 σ_49 → (-1 ≤ z49_5 ∧ z49_5 ≤ 255) → (0 ≤ z49_6 ∧ z49_6 ≤ 65535) → (2 ≤ z49_7 ∧ z49_7 ≤ 4) → (-2147483648 ≤ z49_8 ∧ z49_8 ≤ 2147483647) → (-2147483646 ≤ z49_9 ∧ z49_9 ≤ 260) → (1 ≤ z49_10 ∧ z49_10 ≤ 65535) → V p l e R s m args below meth c 13 D A Q (0, 0) (fd dom σ_49) [(0, .ref h), (2, .int (iI x2)), (3, .int (iI x3)), (4, .ref g), (5, .int (iI z49_5)), (6, .int (iI z49_6)), (7, .int (iI z49_7)), (8, .int (iI z49_8)), (9, .int (iI z49_9)), (10, .int (iI z49_10))] 49 [] := by
    intro k49
    induction k49 with
    | zero => intro σ_49 z49_5 z49_6 z49_7 z49_8 z49_9 z49_10 m49 G_49 F_49 r49_5 r49_6 r49_7 r49_8 r49_9 r49_10; omega
    | succ k49 IH49 =>
      intro σ_49 z49_5 z49_6 z49_7 z49_8 z49_9 z49_10 m49 G_49 F_49 r49_5 r49_6 r49_7 r49_8 r49_9 r49_10
      have J229 : ∀ (σ_229 : Nat → va_E) (z229_9 : Int), Good K τ σ_229 → Fr τ [(2, 8), (1, 8)] σ0 σ_229 → (1 ≤ x2 ∧ x2 ≤ 2147483647) → (-2147483646 ≤ z229_9 ∧ z229_9 ≤ 260) → (1 ≤ z49_10 ∧ z49_10 ≤ 20) → V p l e R s m args below meth c 13 D A Q (0, 0) (fd dom σ_229) [(0, .ref h), (2, .int (iI x2)), (3, .int (iI x3)), (4, .ref g), (5, .int (iI z49_5)), (6, .int (iI z49_6)), (7, .int (iI z49_7)), (8, .int (iI z49_8)), (9, .int (iI z229_9)), (10, .int (iI z49_10))] 229 [] := by
        intro σ_229 z229_9 G_229 F_229 r229_2 r229_9 r229_10
        refine v_iinc B (k := 9) (v := iI (z49_10 + 1)) (lv' := [(10, .int (iI (z49_10 + 1))), (0, .ref h), (2, .int (iI x2)), (3, .int (iI x3)), (4, .ref g), (5, .int (iI z49_5)), (6, .int (iI z49_6)), (7, .int (iI z49_7)), (8, .int (iI z49_8)), (9, .int (iI z229_9))]) dX10_listRows_229 rfl ((iI_add _ _).trans (congrArg iI (by omega))) (by decide +kernel) rfl ?_
        refine v_goto B (tgt := 49) dX10_listRows_232 (by decide +kernel) ?_
        refine v_lv [1, 2, 3, 4, 5, 6, 7, 8, 9, 0] rfl ?_
        exact IH49 σ_229 z49_5 z49_6 z49_7 z49_8 z229_9 (z49_10 + 1) (by omega) G_229 F_229 ⟨by omega, by omega⟩ ⟨by omega, by omega⟩ ⟨by omega, by omega⟩ ⟨by omega, by omega⟩ ⟨by omega, by omega⟩ ⟨by omega, by omega⟩
      have J212 : ∀ (σ_212 : Nat → va_E) (z212_9 : Int), Good K τ σ_212 → Fr τ [(2, 8), (1, 8)] σ0 σ_212 → (1 ≤ x2 ∧ x2 ≤ 2147483647) → (-2147483646 ≤ z212_9 ∧ z212_9 ≤ 260) → (1 ≤ z49_10 ∧ z49_10 ≤ 20) → V p l e R s m args below meth c 13 D A Q (0, 0) (fd dom σ_212) [(0, .ref h), (2, .int (iI x2)), (3, .int (iI x3)), (4, .ref g), (5, .int (iI z49_5)), (6, .int (iI z49_6)), (7, .int (iI z49_7)), (8, .int (iI z49_8)), (9, .int (iI z212_9)), (10, .int (iI z49_10))] 212 [] := by
        intro σ_212 z212_9 G_212 F_212 r212_2 r212_9 r212_10
        refine v_aload B dX10_listRows_212 rfl ?_
        refine v_aload_n B dX10_listRows_214 rfl rfl ?_
        obtain ⟨a1, a2, a3, z4, z5, z6, a7, z8, z9, a10, h11, t12, t13, t14, r15, r16, r17, t18, r19, r20, t21⟩ : okServer τ (σ_212 h) := G_212 h _ t_h
        refine u_get B Z (C := RX10) (T := TX10) (N := 10) (ci := 10) hi_Server_listRows_X10 t_h h11 rfl 2 (by decide +kernel) (List.mem_of_getElem? (i := 1) rfl) rfl dX10_listRows_215 ?_
        refine v_iload B dX10_listRows_218 rfl ?_
        refine v_iconst B (v := iI 1) dX10_listRows_220 rfl ?_
        refine v_isub B (v := iI (z49_10 + (-1))) dX10_listRows_221 ((iI_sub _ _).trans (congrArg iI (by omega))) ?_
        obtain ⟨f22, h23, e24⟩ : okRA K τ 13 20 (σ_212 a3) := G_212 a3 _ t14
        obtain ⟨a25, e26, t27⟩ := e24 ((z49_10 + (-1)) : Int).toNat (by omega)
        refine u_aald B Z (t0 := 4) (v := .ref a25) t14 h23 rfl (by omega) (by rw [e26]; rfl) dX10_listRows_222 ?_
        refine v_iconst B (v := iI 0) dX10_listRows_223 rfl ?_
        refine v_iload B dX10_listRows_224 rfl ?_
        refine u_callVv B Z hz (n := 3) (As := [.ref a25, .int (iI 0), .int (iI z49_8)]) (rest := []) (c_Row_putPart l D K Z _ _ _ _ g a25 0 z49_8 t_g t27 ⟨by omega, by omega⟩ ⟨by omega, by omega⟩ σ_212 G_212) gd_Server_listRows_Row_putPart_133 rfl rfl rfl (by decide +kernel) ⟨Nat.le_trans (by decide +kernel) hR.1, Nat.le_trans (by decide +kernel) hR.2⟩ t_g (cls_Row G_212 t_g) rfl rfl rfl rfl (Nat.le_of_ble_eq_true rfl) dX10_listRows_226 ⟨Nat.zero_le _, Nat.zero_le _⟩ (fun σ28 p29 => ?_)
        obtain ⟨G31, F32⟩ := p29
        have F33 := F_212.call F32 (by first | rfl | simp)
        have h34 := (F32 h _ t_h (by first | rfl | simp)).trans h11
        have h35 := (F32 a3 _ t14 (by first | rfl | simp)).trans h23
        exact J229 σ28 z212_9 G31 F33 ⟨by omega, by omega⟩ ⟨by omega, by omega⟩ ⟨by omega, by omega⟩
      have J155 : ∀ (σ_155 : Nat → va_E) (z155_9 : Int) (z155_11 : Int) (z155_12 : Int), Good K τ σ_155 → Fr τ [(2, 8), (1, 8)] σ0 σ_155 → (1 ≤ x2 ∧ x2 ≤ 2147483647) → (-2147483646 ≤ z155_9 ∧ z155_9 ≤ 260) → (1 ≤ z49_10 ∧ z49_10 ≤ 20) → (0 ≤ z155_11 ∧ z155_11 ≤ 5) → (-2147483646 ≤ z155_12 ∧ z155_12 ≤ 260) → V p l e R s m args below meth c 13 D A Q (0, 0) (fd dom σ_155) [(0, .ref h), (2, .int (iI x2)), (3, .int (iI x3)), (4, .ref g), (5, .int (iI z49_5)), (6, .int (iI z49_6)), (7, .int (iI z49_7)), (8, .int (iI z49_8)), (9, .int (iI z155_9)), (10, .int (iI z49_10)), (11, .int (iI z155_11)), (12, .int (iI z155_12))] 155 [] := by
        intro σ_155 z155_9 z155_11 z155_12 G_155 F_155 r155_2 r155_9 r155_10 r155_11 r155_12
        refine v_iload B dX10_listRows_155 rfl ?_
        refine u_if_ne B (tgt := 182) (by omega) dX10_listRows_157 (by decide +kernel) (fun c36 => ?_) (fun c36 => ?_)
        · exact hend σ_155 _ _ G_155 F_155 dX10_listRows_182
        · refine v_iload B dX10_listRows_160 rfl ?_
          refine v_iload B dX10_listRows_162 rfl ?_
          refine u_icmp_ne B (tgt := 182) (by omega) (by omega) dX10_listRows_164 (by decide +kernel) (fun c37 => ?_) (fun c37 => ?_)
          · exact hend σ_155 _ _ G_155 F_155 dX10_listRows_182
          · refine v_aload B dX10_listRows_167 rfl ?_
            obtain ⟨b38, N39, n40, h41, t42, r43⟩ : okRow τ 8 (σ_155 g) := G_155 g _ t_g
            refine u_getN B Z (C := RX9) (T := TX9) (N := 2) (ci := 9) hi_Server_listRows_X9 t_g h41 rfl 1 (by decide +kernel) (List.mem_of_getElem? (i := 96) rfl) rfl dX10_listRows_169 ?_
            refine v_iload B dX10_listRows_172 rfl ?_
            refine v_iadd B (v := iI (n40 + z155_9)) dX10_listRows_174 ((iI_add _ _).trans (congrArg iI (by omega))) ?_
            refine v_aload_n B dX10_listRows_175 rfl rfl ?_
            obtain ⟨a44, a45, a46, z47, z48, z49, a50, z51, z52, a53, h54, t55, t56, t57, r58, r59, r60, t61, r62, r63, t64⟩ : okServer τ (σ_155 h) := G_155 h _ t_h
            refine u_get B Z (C := RX10) (T := TX10) (N := 10) (ci := 10) hi_Server_listRows_X10 t_h h54 rfl 5 (by decide +kernel) (List.mem_of_getElem? (i := 13) rfl) rfl dX10_listRows_176 ?_
            refine u_icmp_le B (tgt := 183) (by omega) (by omega) dX10_listRows_179 (by decide +kernel) (fun c65 => ?_) (fun c65 => ?_)
            · refine v_aload B dX10_listRows_183 rfl ?_
              refine v_iload B dX10_listRows_185 rfl ?_
              refine v_i2l B (v := lI z49_10) dX10_listRows_187 (lI_i (by omega)) ?_
              refine v_iconst B (v := iI 2) dX10_listRows_188 rfl ?_
              refine u_callVv B Z hz (n := 2) (As := [.long (lI z49_10), .int (iI 2)]) (rest := []) (c_Row_putNumber l D K Z _ _ _ _ g z49_10 2 t_g ⟨by omega, by omega⟩ ⟨by omega, by omega⟩ σ_155 G_155) gd_Server_listRows_Row_putNumber_108 rfl rfl rfl (by decide +kernel) ⟨Nat.le_trans (by decide +kernel) hR.1, Nat.le_trans (by decide +kernel) hR.2⟩ t_g (cls_Row G_155 t_g) rfl rfl rfl rfl (Nat.le_of_ble_eq_true rfl) dX10_listRows_189 ⟨Nat.zero_le _, Nat.zero_le _⟩ (fun σ66 p67 => ?_)
              obtain ⟨G69, F70⟩ := p67
              have F71 := F_155.call F70 (by first | rfl | simp)
              have h72 := (F70 h _ t_h (by first | rfl | simp)).trans h54
              refine v_iload B dX10_listRows_192 rfl ?_
              refine v_bipush B (v := iI 16) dX10_listRows_194 (by decide +kernel) ?_
              refine u_icmp_ne B (tgt := 212) (by omega) (by omega) dX10_listRows_196 (by decide +kernel) (fun c73 => ?_) (fun c73 => ?_)
              · refine v_lv [0, 1, 2, 3, 4, 5, 6, 7, 8, 9] rfl ?_
                exact J212 σ66 z155_9 G69 F71 ⟨by omega, by omega⟩ ⟨by omega, by omega⟩ ⟨by omega, by omega⟩
              · refine v_aload B dX10_listRows_199 rfl ?_
                refine v_aload_n B dX10_listRows_201 rfl rfl ?_
                refine v_iload B dX10_listRows_202 rfl ?_
                refine u_callVi B Z hz (n := 1) (As := [.int (iI z49_10)]) (rest := [.ref g]) (c_Server_endOf l D K Z _ _ _ _ h z49_10 t_h ⟨by omega, by omega⟩ σ66 G69) gd_Server_listRows_Server_endOf_170 rfl rfl rfl (by decide +kernel) ⟨Nat.le_trans (by decide +kernel) hR.1, Nat.le_trans (by decide +kernel) hR.2⟩ t_h (cls_Server G69 t_h) rfl rfl rfl rfl (Nat.le_of_ble_eq_true rfl) dX10_listRows_204 ⟨Nat.zero_le _, Nat.zero_le _⟩ (fun v76 σ74 p75 => ?_)
                obtain ⟨rfl, z80, e81, r82⟩ := p75
                subst e81
                refine v_i2l B (v := lI z80) dX10_listRows_207 (lI_i (by omega)) ?_
                refine v_iconst B (v := iI 2) dX10_listRows_208 rfl ?_
                refine u_callVv B Z hz (n := 2) (As := [.long (lI z80), .int (iI 2)]) (rest := []) (c_Row_putNumber l D K Z _ _ _ _ g z80 2 t_g ⟨by omega, by omega⟩ ⟨by omega, by omega⟩ σ66 G69) gd_Server_listRows_Row_putNumber_108 rfl rfl rfl (by decide +kernel) ⟨Nat.le_trans (by decide +kernel) hR.1, Nat.le_trans (by decide +kernel) hR.2⟩ t_g (cls_Row G69 t_g) rfl rfl rfl rfl (Nat.le_of_ble_eq_true rfl) dX10_listRows_209 ⟨Nat.zero_le _, Nat.zero_le _⟩ (fun σ83 p84 => ?_)
                obtain ⟨G86, F87⟩ := p84
                have F88 := F71.call F87 (by first | rfl | simp)
                have h89 := (F87 h _ t_h (by first | rfl | simp)).trans h72
                refine v_lv [0, 1, 2, 3, 4, 5, 6, 7, 8, 9] rfl ?_
                exact J212 σ83 z155_9 G86 F88 ⟨by omega, by omega⟩ ⟨by omega, by omega⟩ ⟨by omega, by omega⟩
            · exact hend σ_155 _ _ G_155 F_155 dX10_listRows_182
      refine v_iload B dX10_listRows_49 rfl ?_
      refine v_iload_n B dX10_listRows_51 rfl rfl ?_
      refine u_icmp_gt B (tgt := 235) (by omega) (by omega) dX10_listRows_52 (by decide +kernel) (fun c90 => ?_) (fun c90 => ?_)
      · exact hend σ_49 _ _ G_49 F_49 dX10_listRows_235
      · refine v_iload B dX10_listRows_55 rfl ?_
        refine v_aload_n B dX10_listRows_57 rfl rfl ?_
        obtain ⟨a91, a92, a93, z94, z95, z96, a97, z98, z99, a100, h101, t102, t103, t104, r105, r106, r107, t108, r109, r110, t111⟩ : okServer τ (σ_49 h) := G_49 h _ t_h
        refine u_get B Z (C := RX10) (T := TX10) (N := 10) (ci := 10) hi_Server_listRows_X10 t_h h101 rfl 0 (by decide +kernel) (List.mem_of_getElem? (i := 25) rfl) rfl dX10_listRows_58 ?_
        obtain ⟨f112, h113, r114⟩ : okP K 20 (σ_49 a91) := G_49 a91 _ t102
        refine u_alen B Z (t0 := 0) (v := 20) t102 h113 rfl (by first | rfl | omega) dX10_listRows_61 ?_
        refine u_icmp_gt B (tgt := 235) (by omega) (by omega) dX10_listRows_62 (by decide +kernel) (fun c115 => ?_) (fun c115 => ?_)
        · exact hend σ_49 _ _ G_49 F_49 dX10_listRows_235
        · refine v_aload_n B dX10_listRows_65 rfl rfl ?_
          refine u_get B Z (C := RX10) (T := TX10) (N := 10) (ci := 10) hi_Server_listRows_X10 t_h h101 rfl 0 (by decide +kernel) (List.mem_of_getElem? (i := 25) rfl) rfl dX10_listRows_66 ?_
          refine v_iload B dX10_listRows_69 rfl ?_
          refine v_iconst B (v := iI 1) dX10_listRows_71 rfl ?_
          refine v_isub B (v := iI (z49_10 + (-1))) dX10_listRows_72 ((iI_sub _ _).trans (congrArg iI (by omega))) ?_
          obtain ⟨z116, e117, r118⟩ := iI_any (f112 ((z49_10 + (-1)) : Int).toNat)
          refine u_iald B Z (t0 := 0) t102 h113 rfl (by omega) e117 dX10_listRows_73 ?_
          refine v_iload B dX10_listRows_74 rfl ?_
          refine u_icmp_eq B (tgt := 82) (by omega) (by omega) dX10_listRows_76 (by decide +kernel) (fun c119 => ?_) (fun c119 => ?_)
          · refine v_aload_n B dX10_listRows_82 rfl rfl ?_
            refine v_iload B dX10_listRows_83 rfl ?_
            refine v_iload_n B dX10_listRows_85 rfl rfl ?_
            refine u_callVi B Z hz (n := 2) (As := [.int (iI z49_10), .int (iI x3)]) (rest := []) (c_Server_faultOfRead l D K Z _ _ _ _ h z49_10 x3 t_h ⟨by omega, by omega⟩ ⟨by omega, by omega⟩ σ_49 G_49) gd_Server_listRows_Server_faultOfRead_137 rfl rfl rfl (by decide +kernel) ⟨Nat.le_trans (by decide +kernel) hR.1, Nat.le_trans (by decide +kernel) hR.2⟩ t_h (cls_Server G_49 t_h) rfl rfl rfl rfl (Nat.le_of_ble_eq_true rfl) dX10_listRows_86 ⟨Nat.zero_le _, Nat.zero_le _⟩ (fun v122 σ120 p121 => ?_)
            obtain ⟨rfl, z126, e127, r128⟩ := p121
            subst e127
            refine v_istore B (lv' := [(11, .int (iI z126)), (0, .ref h), (2, .int (iI x2)), (3, .int (iI x3)), (4, .ref g), (5, .int (iI z49_5)), (6, .int (iI z49_6)), (7, .int (iI z49_7)), (8, .int (iI z49_8)), (9, .int (iI z49_9)), (10, .int (iI z49_10))]) dX10_listRows_89 (by decide +kernel) rfl ?_
            refine v_iload B dX10_listRows_91 rfl ?_
            refine v_aload_n B dX10_listRows_93 rfl rfl ?_
            refine u_get B Z (C := RX10) (T := TX10) (N := 10) (ci := 10) hi_Server_listRows_X10 t_h h101 rfl 2 (by decide +kernel) (List.mem_of_getElem? (i := 1) rfl) rfl dX10_listRows_94 ?_
            refine v_iload B dX10_listRows_97 rfl ?_
            refine v_iconst B (v := iI 1) dX10_listRows_99 rfl ?_
            refine v_isub B (v := iI (z49_10 + (-1))) dX10_listRows_100 ((iI_sub _ _).trans (congrArg iI (by omega))) ?_
            obtain ⟨f129, h130, e131⟩ : okRA K τ 13 20 (σ_49 a93) := G_49 a93 _ t104
            obtain ⟨a132, e133, t134⟩ := e131 ((z49_10 + (-1)) : Int).toNat (by omega)
            refine u_aald B Z (t0 := 4) (v := .ref a132) t104 h130 rfl (by omega) (by rw [e133]; rfl) dX10_listRows_101 ?_
            obtain ⟨b135, N136, n137, h138, t139, r140⟩ : okRow τ 13 (σ_49 a132) := G_49 a132 _ t134
            refine u_getN B Z (C := RX9) (T := TX9) (N := 2) (ci := 9) hi_Server_listRows_X9 t134 h138 rfl 1 (by decide +kernel) (List.mem_of_getElem? (i := 96) rfl) rfl dX10_listRows_102 ?_
            refine v_iload B dX10_listRows_105 rfl ?_
            obtain ⟨z141, e142, r143⟩ := iI_min (a := n137) (b := z49_8) (by omega) (by omega)
            refine v_mmin B (v := iI z141) (List.mem_of_getElem? (i := 35) rfl) (List.mem_of_getElem? (i := 36) rfl) (List.mem_of_getElem? (i := 11) rfl) (List.mem_of_getElem? (i := 37) rfl) (Nat.le_trans (by decide +kernel) hR.1) (Nat.le_trans (Nat.le_of_ble_eq_true rfl) hR.2) (Nat.zero_le _) (Nat.zero_le _) e142 dX10_listRows_107 ?_
            refine v_iadd B (v := iI (z49_7 + z141)) dX10_listRows_110 ((iI_add _ _).trans (congrArg iI (by omega))) ?_
            refine v_istore B (lv' := [(12, .int (iI (z49_7 + z141))), (11, .int (iI z126)), (0, .ref h), (2, .int (iI x2)), (3, .int (iI x3)), (4, .ref g), (5, .int (iI z49_5)), (6, .int (iI z49_6)), (7, .int (iI z49_7)), (8, .int (iI z49_8)), (9, .int (iI z49_9)), (10, .int (iI z49_10))]) dX10_listRows_111 (by decide +kernel) rfl ?_
            refine v_iload B dX10_listRows_113 rfl ?_
            refine u_if_ne B (tgt := 155) (by omega) dX10_listRows_115 (by decide +kernel) (fun c144 => ?_) (fun c144 => ?_)
            · refine v_lv [2, 3, 4, 5, 6, 7, 8, 9, 10, 11, 1, 0] rfl ?_
              exact J155 σ_49 z49_9 z126 (z49_7 + z141) G_49 F_49 ⟨by omega, by omega⟩ ⟨by omega, by omega⟩ ⟨by omega, by omega⟩ ⟨by omega, by omega⟩ ⟨by omega, by omega⟩
            · refine v_iload B dX10_listRows_118 rfl ?_
              refine u_if_eq B (tgt := 135) (by omega) dX10_listRows_120 (by decide +kernel) (fun c145 => ?_) (fun c145 => ?_)
              · refine v_iload B dX10_listRows_135 rfl ?_
                refine v_istore B (lv' := [(9, .int (iI (z49_7 + z141))), (12, .int (iI (z49_7 + z141))), (11, .int (iI z126)), (0, .ref h), (2, .int (iI x2)), (3, .int (iI x3)), (4, .ref g), (5, .int (iI z49_5)), (6, .int (iI z49_6)), (7, .int (iI z49_7)), (8, .int (iI z49_8)), (10, .int (iI z49_10))]) dX10_listRows_137 (by decide +kernel) rfl ?_
                refine v_aload B dX10_listRows_139 rfl ?_
                refine v_iload B dX10_listRows_141 rfl ?_
                refine v_iconst B (v := iI 1) dX10_listRows_143 rfl ?_
                refine v_iadd B (v := iI (z49_5 + 1)) dX10_listRows_144 ((iI_add _ _).trans (congrArg iI (by omega))) ?_
                refine u_callVv B Z hz (n := 1) (As := [.int (iI (z49_5 + 1))]) (rest := []) (c_Row_put l D K Z _ _ _ _ g (z49_5 + 1) t_g ⟨by omega, by omega⟩ σ_49 G_49) gd_Server_listRows_Row_put_83 rfl rfl rfl (by decide +kernel) ⟨Nat.le_trans (by decide +kernel) hR.1, Nat.le_trans (by decide +kernel) hR.2⟩ t_g (cls_Row G_49 t_g) rfl rfl rfl rfl (Nat.le_of_ble_eq_true rfl) dX10_listRows_145 ⟨Nat.zero_le _, Nat.zero_le _⟩ (fun σ146 p147 => ?_)
                obtain ⟨G149, F150⟩ := p147
                have F151 := F_49.call F150 (by first | rfl | simp)
                have h152 := (F150 h _ t_h (by first | rfl | simp)).trans h101
                have h153 := (F150 a91 _ t102 (by first | rfl | simp)).trans h113
                have h154 := (F150 a93 _ t104 (by first | rfl | simp)).trans h130
                have h155 := (F150 a132 _ t134 (by first | rfl | simp)).trans h138
                refine v_aload B dX10_listRows_148 rfl ?_
                refine v_iload B dX10_listRows_150 rfl ?_
                refine u_callVv B Z hz (n := 1) (As := [.int (iI (z49_7 + z141))]) (rest := []) (c_Row_put l D K Z _ _ _ _ g (z49_7 + z141) t_g ⟨by omega, by omega⟩ σ146 G149) gd_Server_listRows_Row_put_83 rfl rfl rfl (by decide +kernel) ⟨Nat.le_trans (by decide +kernel) hR.1, Nat.le_trans (by decide +kernel) hR.2⟩ t_g (cls_Row G149 t_g) rfl rfl rfl rfl (Nat.le_of_ble_eq_true rfl) dX10_listRows_152 ⟨Nat.zero_le _, Nat.zero_le _⟩ (fun σ156 p157 => ?_)
                obtain ⟨G159, F160⟩ := p157
                have F161 := F151.call F160 (by first | rfl | simp)
                have h162 := (F160 h _ t_h (by first | rfl | simp)).trans h152
                have h163 := (F160 a91 _ t102 (by first | rfl | simp)).trans h153
                have h164 := (F160 a93 _ t104 (by first | rfl | simp)).trans h154
                have h165 := (F160 a132 _ t134 (by first | rfl | simp)).trans h155
                refine v_lv [3, 4, 5, 6, 7, 8, 9, 10, 0, 11, 2, 1] rfl ?_
                exact J155 σ156 (z49_7 + z141) z126 (z49_7 + z141) G159 F161 ⟨by omega, by omega⟩ ⟨by omega, by omega⟩ ⟨by omega, by omega⟩ ⟨by omega, by omega⟩ ⟨by omega, by omega⟩
              · refine v_iload B dX10_listRows_123 rfl ?_
                refine v_iload B dX10_listRows_125 rfl ?_
                refine v_iload B dX10_listRows_127 rfl ?_
                refine v_aload B dX10_listRows_129 rfl ?_
                refine u_callSv B Z hz (n := 4) (As := [.int (iI z49_5), .int (iI z49_10), .int (iI z126), .ref g]) (rest := []) (c_Server_refuse l D K Z _ _ _ _ z49_5 z49_10 z126 g ⟨by omega, by omega⟩ ⟨by omega, by omega⟩ ⟨by omega, by omega⟩ t_g σ_49 G_49) gd_Server_listRows_Server_refuse_97 rfl rfl rfl (by decide +kernel) ⟨Nat.le_trans (by decide +kernel) hR.1, Nat.le_trans (by decide +kernel) hR.2⟩ rfl rfl (Nat.le_of_ble_eq_true rfl) dX10_listRows_131 ⟨Nat.zero_le _, Nat.zero_le _⟩ (fun σ166 p167 => ?_)
                obtain ⟨G169, F170⟩ := p167
                have F171 := F_49.call F170 (by first | rfl | simp)
                have h172 := (F170 h _ t_h (by first | rfl | simp)).trans h101
                have h173 := (F170 a91 _ t102 (by first | rfl | simp)).trans h113
                have h174 := (F170 a93 _ t104 (by first | rfl | simp)).trans h130
                have h175 := (F170 a132 _ t134 (by first | rfl | simp)).trans h138
                exact hend σ166 _ _ G169 F171 dX10_listRows_134
          · refine v_goto B (tgt := 229) dX10_listRows_79 (by decide +kernel) ?_
            exact J229 σ_49 z49_9 G_49 F_49 ⟨by omega, by omega⟩ ⟨by omega, by omega⟩ ⟨by omega, by omega⟩
  have J26 : ∀ (z26_5 : Int) (z26_6 : Int) (z26_s0 : Int), (-1 ≤ z26_5 ∧ z26_5 ≤ 255) → (0 ≤ z26_6 ∧ z26_6 ≤ 65535) → (2 ≤ z26_s0 ∧ z26_s0 ≤ 4) → V p l e R s m args below meth c 13 D A Q (0, 0) (fd dom σ0) [(0, .ref h), (1, .ref w0), (2, .int (iI x2)), (3, .int (iI x3)), (4, .ref g), (5, .int (iI z26_5)), (6, .int (iI z26_6))] 26 [.int (iI z26_s0)] := by
    intro z26_5 z26_6 z26_s0 r26_5 r26_6 r26_s0
    refine v_istore B (lv' := [(7, .int (iI z26_s0)), (0, .ref h), (1, .ref w0), (2, .int (iI x2)), (3, .int (iI x3)), (4, .ref g), (5, .int (iI z26_5)), (6, .int (iI z26_6))]) dX10_listRows_26 (by decide +kernel) rfl ?_
    refine v_aload_n B dX10_listRows_28 rfl rfl ?_
    obtain ⟨a176, a177, a178, z179, z180, z181, a182, z183, z184, a185, h186, t187, t188, t189, r190, r191, r192, t193, r194, r195, t196⟩ : okServer τ (σ0 h) := G0 h _ t_h
    refine u_get B Z (C := RX10) (T := TX10) (N := 10) (ci := 10) hi_Server_listRows_X10 t_h h186 rfl 5 (by decide +kernel) (List.mem_of_getElem? (i := 13) rfl) rfl dX10_listRows_29 ?_
    refine v_iconst B (v := iI 2) dX10_listRows_32 rfl ?_
    obtain ⟨z197, e198, r199⟩ := iI_any (iI z181 - iI 2)
    refine v_isub B (v := iI z197) dX10_listRows_33 e198 ?_
    refine v_iload B dX10_listRows_34 rfl ?_
    obtain ⟨z200, e201, r202⟩ := iI_any (iI z197 - iI z26_s0)
    refine v_isub B (v := iI z200) dX10_listRows_36 e201 ?_
    refine v_istore B (lv' := [(8, .int (iI z200)), (7, .int (iI z26_s0)), (0, .ref h), (1, .ref w0), (2, .int (iI x2)), (3, .int (iI x3)), (4, .ref g), (5, .int (iI z26_5)), (6, .int (iI z26_6))]) dX10_listRows_37 (by decide +kernel) rfl ?_
    refine v_iconst B (v := iI 0) dX10_listRows_39 rfl ?_
    refine v_istore B (lv' := [(9, .int (iI 0)), (8, .int (iI z200)), (7, .int (iI z26_s0)), (0, .ref h), (1, .ref w0), (2, .int (iI x2)), (3, .int (iI x3)), (4, .ref g), (5, .int (iI z26_5)), (6, .int (iI z26_6))]) dX10_listRows_40 (by decide +kernel) rfl ?_
    refine v_aload_n B dX10_listRows_42 rfl rfl ?_
    refine v_iconst B (v := iI 1) dX10_listRows_43 rfl ?_
    refine u_callVi B Z hz (n := 1) (As := [.int (iI 1)]) (rest := []) (c_Row_twoX l D K Z _ _ _ _ w0 1 t_w0 ⟨by omega, by omega⟩ σ0 G0) gd_Server_listRows_Row_twoX_76 rfl rfl rfl (by decide +kernel) ⟨Nat.le_trans (by decide +kernel) hR.1, Nat.le_trans (by decide +kernel) hR.2⟩ t_w0 (cls_Row G0 t_w0) rfl rfl rfl rfl (Nat.le_of_ble_eq_true rfl) dX10_listRows_44 ⟨Nat.zero_le _, Nat.zero_le _⟩ (fun v205 σ203 p204 => ?_)
    obtain ⟨rfl, z209, e210, r211, tv212⟩ := p204
    subst e210
    have r213 := hT z209 tv212 (by omega)
    refine v_istore B (lv' := [(10, .int (iI z209)), (9, .int (iI 0)), (8, .int (iI z200)), (7, .int (iI z26_s0)), (0, .ref h), (1, .ref w0), (2, .int (iI x2)), (3, .int (iI x3)), (4, .ref g), (5, .int (iI z26_5)), (6, .int (iI z26_6))]) dX10_listRows_47 (by decide +kernel) rfl ?_
    refine v_lv [4, 6, 7, 8, 9, 10, 3, 2, 1, 0] rfl ?_
    exact J49 _ σ0 z26_5 z26_6 z26_s0 z200 0 z209 (Nat.le_refl _) G0 F0 ⟨by omega, by omega⟩ ⟨by omega, by omega⟩ ⟨by omega, by omega⟩ ⟨by omega, by omega⟩ ⟨by omega, by omega⟩ ⟨by omega, by omega⟩
  refine v_aload_n B dX10_listRows_0 rfl rfl ?_
  refine v_iconst B (v := iI 0) dX10_listRows_1 rfl ?_
  refine u_callVi B Z hz (n := 1) (As := [.int (iI 0)]) (rest := []) (c_Row_at l D K Z _ _ _ _ w0 0 t_w0 ⟨by omega, by omega⟩ σ0 G0) gd_Server_listRows_Row_at_63 rfl rfl rfl (by decide +kernel) ⟨Nat.le_trans (by decide +kernel) hR.1, Nat.le_trans (by decide +kernel) hR.2⟩ t_w0 (cls_Row G0 t_w0) rfl rfl rfl rfl (Nat.le_of_ble_eq_true rfl) dX10_listRows_2 ⟨Nat.zero_le _, Nat.zero_le _⟩ (fun v216 σ214 p215 => ?_)
  obtain ⟨rfl, z220, e221, r222⟩ := p215
  subst e221
  refine v_istore B (lv' := [(5, .int (iI z220)), (0, .ref h), (1, .ref w0), (2, .int (iI x2)), (3, .int (iI x3)), (4, .ref g)]) dX10_listRows_5 (by decide +kernel) rfl ?_
  refine v_aload_n B dX10_listRows_7 rfl rfl ?_
  refine v_iconst B (v := iI 5) dX10_listRows_8 rfl ?_
  refine u_callVi B Z hz (n := 1) (As := [.int (iI 5)]) (rest := []) (c_Row_two l D K Z _ _ _ _ w0 5 t_w0 ⟨by omega, by omega⟩ σ0 G0) gd_Server_listRows_Row_two_76 rfl rfl rfl (by decide +kernel) ⟨Nat.le_trans (by decide +kernel) hR.1, Nat.le_trans (by decide +kernel) hR.2⟩ t_w0 (cls_Row G0 t_w0) rfl rfl rfl rfl (Nat.le_of_ble_eq_true rfl) dX10_listRows_9 ⟨Nat.zero_le _, Nat.zero_le _⟩ (fun v225 σ223 p224 => ?_)
  obtain ⟨rfl, z229, e230, r231⟩ := p224
  subst e230
  refine v_istore B (lv' := [(6, .int (iI z229)), (5, .int (iI z220)), (0, .ref h), (1, .ref w0), (2, .int (iI x2)), (3, .int (iI x3)), (4, .ref g)]) dX10_listRows_12 (by decide +kernel) rfl ?_
  refine v_iload B dX10_listRows_14 rfl ?_
  refine v_bipush B (v := iI 8) dX10_listRows_16 (by decide +kernel) ?_
  refine u_icmp_ne B (tgt := 25) (by omega) (by omega) dX10_listRows_18 (by decide +kernel) (fun c232 => ?_) (fun c232 => ?_)
  · refine v_iconst B (v := iI 4) dX10_listRows_25 rfl ?_
    refine v_lv [2, 3, 4, 5, 6, 1, 0] rfl ?_
    exact J26 z220 z229 4 ⟨by omega, by omega⟩ ⟨by omega, by omega⟩ ⟨by omega, by omega⟩
  · refine v_iconst B (v := iI 2) dX10_listRows_21 rfl ?_
    refine v_goto B (tgt := 26) dX10_listRows_22 (by decide +kernel) ?_
    refine v_lv [2, 3, 4, 5, 6, 1, 0] rfl ?_
    exact J26 z220 z229 2 ⟨by omega, by omega⟩ ⟨by omega, by omega⟩ ⟨by omega, by omega⟩
set_option maxRecDepth 100000 in
theorem c_Server_listRows (l : Launch) (D : va_G) (K : Nat → ClassId) {τ : Nat → Option Ty} {dom : List Nat} (Z : Sk τ dom) (zb zL : Nat) (zx : Nat → Int32) (zs : Nat → Nat) (h : Nat) (w0 : Nat) (x2 : Int) (x3 : Int) (g : Nat) (t_h : τ h = some (40, 0, 0)) (t_w0 : τ w0 = some (1, 12, 0)) (r_x2 : -2147483648 ≤ x2 ∧ x2 ≤ 2147483647) (r_x3 : 0 ≤ x3 ∧ x3 ≤ 1) (t_g : τ g = some (1, 8, 0)) (σ0 : Nat → va_E) (G0 : Good K τ σ0) (hT : ∀ z : Int, TwoV K σ0 w0 1 z → (0 ≤ z ∧ z ≤ 65535) → 1 ≤ z) : MZ l yX10_listRows wp_Server_listRows ({ frames := 2, cells := 0, slots := 0, locals := 47 }) D (tysA K) [.ref h, .ref w0, .int (iI x2), .int (iI x3), .ref g] (fd dom σ0) zb zL zx zs (Qv D (fun σ' => Good K τ σ' ∧ Fr τ [(2, 8), (1, 8)] σ0 σ') (fun σ' => fd dom σ')) 0 0 := by
  refine mz_of (cc := cX10_listRows) (maxL := 13) (ret := none) (by decide +kernel) rfl (Nat.le_of_ble_eq_true rfl) ?_
  intro p e s m below meth c A B hr hlk _ hz
  exact b_Server_listRows ⟨Nat.le_refl _, Nat.le_refl _⟩ B Z hz h w0 x2 x3 g t_h t_w0 r_x2 r_x3 t_g σ0 G0 hT (fun σ' lv pc G F hd => v_vret B hr hlk σ' ⟨G, F⟩ rfl (Nat.le_refl _) (Nat.le_refl _) hd)

def wp_Server_answerSearch : List Cond := .code yX10_answerSearch cX10_answerSearch 8 none :: (([.methodLink RX10 97 yX10_refuse, .static yX10_refuse, .initialized RX10, .code yX10_refuse cX10_refuse 4 none, .methodLink RX10 83 yX9_put, .instanceMethod yX9_put, .selects RX9 yX9_put yX9_put, .initialized RX9, .code yX9_put cX9_put 2 none, .fieldLink RX9 21 "LowEnergy$Row" "size" "I", .fieldLink RX9 15 "LowEnergy$Row" "bytes" "[I", .methodLink RX10 108 yX9_putNumber, .instanceMethod yX9_putNumber, .selects RX9 yX9_putNumber yX9_putNumber, .code yX9_putNumber cX9_putNumber 5 none, .constantLong RX9 25 (255), .methodLink RX10 63 yX9_at, .instanceMethod yX9_at, .selects RX9 yX9_at yX9_at, .code yX9_at cX9_at 2 (some .int), .methodLink RX10 76 yX9_two, .instanceMethod yX9_two, .selects RX9 yX9_two yX9_two, .code yX9_two cX9_two 2 (some .int), .fieldLink RX10 56 "LowEnergy$Server" "count" "I", .methodLink RX10 47 Lib.Math.min.name, .static Lib.Math.min.name, .initialized "java/lang/Math", .code Lib.Math.min.name Lib.Math.min.code 2 (some .int), .methodLink RX10 163 yX10_listRows, .instanceMethod yX10_listRows, .selects RX10 yX10_listRows yX10_listRows, .code yX10_listRows cX10_listRows 13 none, .fieldLink RX10 20 "LowEnergy$Server" "values" "[LLowEnergy$Row;", .methodLink RX10 133 yX9_putPart, .instanceMethod yX9_putPart, .selects RX9 yX9_putPart yX9_putPart, .code yX9_putPart cX9_putPart 6 none, .methodLink RX9 9 Lib.Math.max.name, .static Lib.Math.max.name, .code Lib.Math.max.name Lib.Math.max.code 2 (some .int), .fieldLink RX10 28 "LowEnergy$Server" "linkMtu" "I", .methodLink RX10 170 yX10_endOf, .instanceMethod yX10_endOf, .selects RX10 yX10_endOf yX10_endOf, .code yX10_endOf cX10_endOf 3 (some .int), .fieldLink RX10 11 "LowEnergy$Server" "types" "[I", .methodLink RX10 152 yX10_isGroup, .static yX10_isGroup, .code yX10_isGroup cX10_isGroup 1 (some .boolean), .methodLink RX10 53 Lib.Math.max.name, .methodLink RX10 137 yX10_faultOfRead, .instanceMethod yX10_faultOfRead, .selects RX10 yX10_faultOfRead yX10_faultOfRead, .code yX10_faultOfRead cX10_faultOfRead 4 (some .int), .fieldLink RX10 15 "LowEnergy$Server" "rights" "[I", .methodLink RX10 159 yX10_listEqual, .instanceMethod yX10_listEqual, .selects RX10 yX10_listEqual yX10_listEqual, .code yX10_listEqual cX10_listEqual 7 none, .methodLink RX10 166 yX9_isTailOf, .instanceMethod yX9_isTailOf, .selects RX9 yX9_isTailOf yX9_isTailOf, .code yX9_isTailOf cX9_isTailOf 4 (some .boolean), .methodLink RX10 155 yX10_listTypes, .instanceMethod yX10_listTypes, .selects RX10 yX10_listTypes yX10_listTypes, .code yX10_listTypes cX10_listTypes 5 none] : List Cond) ++ (wsX90 ++ (wsX100 ++ ([]))))
theorem hi_Server_answerSearch_X9 : ∀ x ∈ u_ws RX9 TX9 2, x ∈ wp_Server_answerSearch := fun _ h => List.mem_cons_of_mem _ (List.mem_append_right _ (List.mem_append_left _ h))
theorem hi_Server_answerSearch_X10 : ∀ x ∈ u_ws RX10 TX10 10, x ∈ wp_Server_answerSearch := fun _ h => List.mem_cons_of_mem _ (List.mem_append_right _ (List.mem_append_right _ (List.mem_append_left _ h)))
set_option maxRecDepth 100000 in
theorem gd_Server_answerSearch_Server_refuse_97 : GoodIn wp_Server_answerSearch (va_wsS RX10 97 yX10_refuse wp_Server_refuse) := goodIn_app (goodIn_r _ [1, 2, 3] rfl rfl) (goodIn_ca (goodIn_r _ [4, 5, 6, 7, 8, 9, 10, 11, 12, 13, 14, 15, 16] rfl rfl) (goodIn_app (goodIn_cls hi_Server_answerSearch_X9 gw_X9) (goodIn_nil)))
set_option maxRecDepth 100000 in
theorem gd_Server_answerSearch_Row_at_63 : GoodIn wp_Server_answerSearch (wsV RX10 63 RX9 yX9_at wp_Row_at) := goodIn_app (goodIn_r _ [17, 18, 19, 8] rfl rfl) (goodIn_ca (goodIn_r _ [20, 10, 11] rfl rfl) (goodIn_app (goodIn_cls hi_Server_answerSearch_X9 gw_X9) (goodIn_nil)))
set_option maxRecDepth 100000 in
theorem gd_Server_answerSearch_Row_twoX_76 : GoodIn wp_Server_answerSearch (wsV RX10 76 RX9 yX9_two wp_Row_twoX) := goodIn_app (goodIn_r _ [21, 22, 23, 8] rfl rfl) (goodIn_ca (goodIn_r _ [24, 10, 11] rfl rfl) (goodIn_app (goodIn_cls hi_Server_answerSearch_X9 gw_X9) (goodIn_nil)))
set_option maxRecDepth 100000 in
theorem gd_Server_answerSearch_Row_two_76 : GoodIn wp_Server_answerSearch (wsV RX10 76 RX9 yX9_two wp_Row_two) := goodIn_app (goodIn_r _ [21, 22, 23, 8] rfl rfl) (goodIn_ca (goodIn_r _ [24, 10, 11] rfl rfl) (goodIn_app (goodIn_cls hi_Server_answerSearch_X9 gw_X9) (goodIn_nil)))
set_option maxRecDepth 100000 in
theorem gd_Server_answerSearch_Server_listRows_163 : GoodIn wp_Server_answerSearch (wsV RX10 163 RX10 yX10_listRows wp_Server_listRows) := goodIn_app (goodIn_r _ [30, 31, 32, 3] rfl rfl) (goodIn_ca (goodIn_r _ [33, 34, 35, 36, 37, 8, 38, 10, 11, 39, 40, 28, 41, 42, 12, 13, 14, 15, 16, 43, 44, 45, 3, 46, 25, 47, 48, 49, 50, 51, 52, 53, 54, 55, 56, 26, 27, 29, 5, 6, 7, 9, 1, 2, 4, 21, 22, 23, 24, 17, 18, 19, 20] rfl rfl) (goodIn_app (goodIn_cls hi_Server_answerSearch_X10 gw_X10) (goodIn_app (goodIn_cls hi_Server_answerSearch_X9 gw_X9) (goodIn_nil))))
set_option maxRecDepth 100000 in
theorem gd_Server_answerSearch_Server_listEqual_159 : GoodIn wp_Server_answerSearch (wsV RX10 159 RX10 yX10_listEqual wp_Server_listEqual) := goodIn_app (goodIn_r _ [57, 58, 59, 3] rfl rfl) (goodIn_ca (goodIn_r _ [60, 12, 13, 14, 8, 15, 10, 11, 16, 43, 44, 45, 3, 46, 25, 47, 48, 49, 50, 51, 40, 28, 41, 42, 34, 61, 62, 63, 64, 52, 53, 54, 55, 56, 5, 6, 7, 9, 21, 22, 23, 24] rfl rfl) (goodIn_app (goodIn_cls hi_Server_answerSearch_X9 gw_X9) (goodIn_app (goodIn_cls hi_Server_answerSearch_X10 gw_X10) (goodIn_nil))))
set_option maxRecDepth 100000 in
theorem gd_Server_answerSearch_Server_listTypes_155 : GoodIn wp_Server_answerSearch (wsV RX10 155 RX10 yX10_listTypes wp_Server_listTypes) := goodIn_app (goodIn_r _ [65, 66, 67, 3] rfl rfl) (goodIn_ca (goodIn_r _ [68, 12, 13, 14, 8, 15, 10, 11, 16, 47, 42, 5, 6, 7, 9] rfl rfl) (goodIn_app (goodIn_cls hi_Server_answerSearch_X9 gw_X9) (goodIn_app (goodIn_cls hi_Server_answerSearch_X10 gw_X10) (goodIn_nil))))
set_option maxRecDepth 100000 in
theorem gd_Server_answerSearch_Server_isGroup_152 : GoodIn wp_Server_answerSearch (va_wsS RX10 152 yX10_isGroup wp_Server_isGroup) := goodIn_app (goodIn_r _ [48, 49, 3] rfl rfl) (goodIn_ca (goodIn_r _ [50] rfl rfl) (goodIn_nil))
set_option maxHeartbeats 4000000 in
set_option maxRecDepth 100000 in
theorem b_Server_answerSearch {p : Program} {l : Launch} {e : Env} {R : Room} {s : State} {m : MethodId} {args : Array Value} {below : List Frame} {meth : Method} {c : Code} {D : va_G} {K : Nat → ClassId} {A : Nat → Prop} {Q : State → Prop} {τ : Nat → Option Ty} {dom : List Nat} {zb zL : Nat} {zx : Nat → Int32} {zs : Nat → Nat} (hR : 3 ≤ R.frames ∧ 79 ≤ R.locals) (B : Bx p s m args c cX10_answerSearch 8 RX10 wp_Server_answerSearch D (tysA K) A) (Z : Sk τ dom) (hz : ZL zb zL zx zs A s s.heap) (h : Nat) (w0 : Nat) (x2 : Int) (g : Nat) (t_h : τ h = some (40, 0, 0)) (t_w0 : τ w0 = some (1, 12, 0)) (r_x2 : 0 ≤ x2 ∧ x2 ≤ 1) (t_g : τ g = some (1, 8, 0)) (σ0 : Nat → va_E) (G0 : Good K τ σ0) (hend : ∀ (σ' : Nat → va_E) (lv : List (Nat × Value)) (pc : Nat), Good K τ σ' → Fr τ [(2, 8), (1, 8)] σ0 σ' → decode cX10_answerSearch pc = .ok (.return_, 1) → V p l e R s m args below meth c 8 D A Q (0, 0) (fd dom σ') lv pc []) : V p l e R s m args below meth c 8 D A Q (0, 0) (fd dom σ0) [(0, .ref h), (1, .ref w0), (2, .int (iI x2)), (3, .ref g)] 0 [] := by
  have F0 : Fr τ [(2, 8), (1, 8)] σ0 σ0 := Fr.rf
  have J132 : ∀ (σ_132 : Nat → va_E) (z132_4 : Int) (z132_5 : Int), Good K τ σ_132 → Fr τ [(2, 8), (1, 8)] σ0 σ_132 → (-1 ≤ z132_4 ∧ z132_4 ≤ 255) → (1 ≤ z132_5 ∧ z132_5 ≤ 65535) → V p l e R s m args below meth c 8 D A Q (0, 0) (fd dom σ_132) [(3, .ref g), (4, .int (iI z132_4)), (5, .int (iI z132_5))] 132 [] := by
    intro σ_132 z132_4 z132_5 G_132 F_132 r132_4 r132_5
    refine v_aload_n B dX10_answerSearch_132 rfl rfl ?_
    obtain ⟨b1, N2, n3, h4, t5, r6⟩ : okRow τ 8 (σ_132 g) := G_132 g _ t_g
    refine u_getN B Z (C := RX9) (T := TX9) (N := 2) (ci := 9) hi_Server_answerSearch_X9 t_g h4 rfl 1 (by decide +kernel) (List.mem_of_getElem? (i := 96) rfl) rfl dX10_answerSearch_133 ?_
    refine u_if_ne B (tgt := 149) (by omega) dX10_answerSearch_136 (by decide +kernel) (fun c7 => ?_) (fun c7 => ?_)
    · exact hend σ_132 _ _ G_132 F_132 dX10_answerSearch_149
    · refine v_iload B dX10_answerSearch_139 rfl ?_
      refine v_iload B dX10_answerSearch_141 rfl ?_
      refine v_bipush B (v := iI 10) dX10_answerSearch_143 (by decide +kernel) ?_
      refine v_aload_n B dX10_answerSearch_145 rfl rfl ?_
      refine u_callSv B Z hz (n := 4) (As := [.int (iI z132_4), .int (iI z132_5), .int (iI 10), .ref g]) (rest := []) (c_Server_refuse l D K Z _ _ _ _ z132_4 z132_5 10 g ⟨by omega, by omega⟩ ⟨by omega, by omega⟩ ⟨by omega, by omega⟩ t_g σ_132 G_132) gd_Server_answerSearch_Server_refuse_97 rfl rfl rfl (by decide +kernel) ⟨Nat.le_trans (by decide +kernel) hR.1, Nat.le_trans (by decide +kernel) hR.2⟩ rfl rfl (Nat.le_of_ble_eq_true rfl) dX10_answerSearch_146 ⟨Nat.zero_le _, Nat.zero_le _⟩ (fun σ8 p9 => ?_)
      obtain ⟨G11, F12⟩ := p9
      have F13 := F_132.call F12 (by first | rfl | simp)
      exact hend σ8 _ _ G11 F13 dX10_answerSearch_149
  refine v_aload_n B dX10_answerSearch_0 rfl rfl ?_
  refine v_iconst B (v := iI 0) dX10_answerSearch_1 rfl ?_
  refine u_callVi B Z hz (n := 1) (As := [.int (iI 0)]) (rest := []) (c_Row_at l D K Z _ _ _ _ w0 0 t_w0 ⟨by omega, by omega⟩ σ0 G0) gd_Server_answerSearch_Row_at_63 rfl rfl rfl (by decide +kernel) ⟨Nat.le_trans (by decide +kernel) hR.1, Nat.le_trans (by decide +kernel) hR.2⟩ t_w0 (cls_Row G0 t_w0) rfl rfl rfl rfl (Nat.le_of_ble_eq_true rfl) dX10_answerSearch_2 ⟨Nat.zero_le _, Nat.zero_le _⟩ (fun v16 σ14 p15 => ?_)
  obtain ⟨rfl, z20, e21, r22⟩ := p15
  subst e21
  refine v_istore B (lv' := [(4, .int (iI z20)), (0, .ref h), (1, .ref w0), (2, .int (iI x2)), (3, .ref g)]) dX10_answerSearch_5 (by decide +kernel) rfl ?_
  refine v_aload_n B dX10_answerSearch_7 rfl rfl ?_
  refine v_iconst B (v := iI 1) dX10_answerSearch_8 rfl ?_
  refine u_callVi B Z hz (n := 1) (As := [.int (iI 1)]) (rest := []) (c_Row_twoX l D K Z _ _ _ _ w0 1 t_w0 ⟨by omega, by omega⟩ σ0 G0) gd_Server_answerSearch_Row_twoX_76 rfl rfl rfl (by decide +kernel) ⟨Nat.le_trans (by decide +kernel) hR.1, Nat.le_trans (by decide +kernel) hR.2⟩ t_w0 (cls_Row G0 t_w0) rfl rfl rfl rfl (Nat.le_of_ble_eq_true rfl) dX10_answerSearch_9 ⟨Nat.zero_le _, Nat.zero_le _⟩ (fun v25 σ23 p24 => ?_)
  obtain ⟨rfl, z29, e30, r31, tv32⟩ := p24
  subst e30
  refine v_istore B (lv' := [(5, .int (iI z29)), (4, .int (iI z20)), (0, .ref h), (1, .ref w0), (2, .int (iI x2)), (3, .ref g)]) dX10_answerSearch_12 (by decide +kernel) rfl ?_
  refine v_aload_n B dX10_answerSearch_14 rfl rfl ?_
  refine v_iconst B (v := iI 5) dX10_answerSearch_15 rfl ?_
  refine u_callVi B Z hz (n := 1) (As := [.int (iI 5)]) (rest := []) (c_Row_two l D K Z _ _ _ _ w0 5 t_w0 ⟨by omega, by omega⟩ σ0 G0) gd_Server_answerSearch_Row_two_76 rfl rfl rfl (by decide +kernel) ⟨Nat.le_trans (by decide +kernel) hR.1, Nat.le_trans (by decide +kernel) hR.2⟩ t_w0 (cls_Row G0 t_w0) rfl rfl rfl rfl (Nat.le_of_ble_eq_true rfl) dX10_answerSearch_16 ⟨Nat.zero_le _, Nat.zero_le _⟩ (fun v35 σ33 p34 => ?_)
  obtain ⟨rfl, z39, e40, r41⟩ := p34
  subst e40
  refine v_istore B (lv' := [(6, .int (iI z39)), (5, .int (iI z29)), (4, .int (iI z20)), (0, .ref h), (1, .ref w0), (2, .int (iI x2)), (3, .ref g)]) dX10_answerSearch_19 (by decide +kernel) rfl ?_
  refine v_aload_n B dX10_answerSearch_21 rfl rfl ?_
  refine v_iconst B (v := iI 3) dX10_answerSearch_22 rfl ?_
  refine u_callVi B Z hz (n := 1) (As := [.int (iI 3)]) (rest := []) (c_Row_two l D K Z _ _ _ _ w0 3 t_w0 ⟨by omega, by omega⟩ σ0 G0) gd_Server_answerSearch_Row_two_76 rfl rfl rfl (by decide +kernel) ⟨Nat.le_trans (by decide +kernel) hR.1, Nat.le_trans (by decide +kernel) hR.2⟩ t_w0 (cls_Row G0 t_w0) rfl rfl rfl rfl (Nat.le_of_ble_eq_true rfl) dX10_answerSearch_23 ⟨Nat.zero_le _, Nat.zero_le _⟩ (fun v44 σ42 p43 => ?_)
  obtain ⟨rfl, z48, e49, r50⟩ := p43
  subst e49
  refine v_aload_n B dX10_answerSearch_26 rfl rfl ?_
  obtain ⟨a51, a52, a53, z54, z55, z56, a57, z58, z59, a60, h61, t62, t63, t64, r65, r66, r67, t68, r69, r70, t71⟩ : okServer τ (σ0 h) := G0 h _ t_h
  refine u_get B Z (C := RX10) (T := TX10) (N := 10) (ci := 10) hi_Server_answerSearch_X10 t_h h61 rfl 3 (by decide +kernel) (List.mem_of_getElem? (i := 25) rfl) rfl dX10_answerSearch_27 ?_
  obtain ⟨z72, e73, r74⟩ := iI_min (a := z48) (b := z54) (by omega) (by omega)
  refine v_mmin B (v := iI z72) (List.mem_of_getElem? (i := 26) rfl) (List.mem_of_getElem? (i := 27) rfl) (List.mem_of_getElem? (i := 28) rfl) (List.mem_of_getElem? (i := 29) rfl) (Nat.le_trans (by decide +kernel) hR.1) (Nat.le_trans (Nat.le_of_ble_eq_true rfl) hR.2) (Nat.zero_le _) (Nat.zero_le _) e73 dX10_answerSearch_30 ?_
  refine v_istore B (lv' := [(7, .int (iI z72)), (6, .int (iI z39)), (5, .int (iI z29)), (4, .int (iI z20)), (0, .ref h), (1, .ref w0), (2, .int (iI x2)), (3, .ref g)]) dX10_answerSearch_33 (by decide +kernel) rfl ?_
  refine v_iload B dX10_answerSearch_35 rfl ?_
  refine u_if_eq B (tgt := 50) (by omega) dX10_answerSearch_37 (by decide +kernel) (fun c75 => ?_) (fun c75 => ?_)
  · refine v_iload B dX10_answerSearch_50 rfl ?_
    refine v_iload B dX10_answerSearch_52 rfl ?_
    refine v_iconst B (v := iI 1) dX10_answerSearch_54 rfl ?_
    refine v_aload_n B dX10_answerSearch_55 rfl rfl ?_
    refine u_callSv B Z hz (n := 4) (As := [.int (iI z20), .int (iI z29), .int (iI 1), .ref g]) (rest := []) (c_Server_refuse l D K Z _ _ _ _ z20 z29 1 g ⟨by omega, by omega⟩ ⟨by omega, by omega⟩ ⟨by omega, by omega⟩ t_g σ0 G0) gd_Server_answerSearch_Server_refuse_97 rfl rfl rfl (by decide +kernel) ⟨Nat.le_trans (by decide +kernel) hR.1, Nat.le_trans (by decide +kernel) hR.2⟩ rfl rfl (Nat.le_of_ble_eq_true rfl) dX10_answerSearch_56 ⟨Nat.zero_le _, Nat.zero_le _⟩ (fun σ76 p77 => ?_)
    obtain ⟨G79, F80⟩ := p77
    have F81 := F0.call F80 (by first | rfl | simp)
    have h82 := (F80 h _ t_h (by first | rfl | simp)).trans h61
    exact hend σ76 _ _ G79 F81 dX10_answerSearch_59
  · refine v_iload B dX10_answerSearch_40 rfl ?_
    refine v_aload_n B dX10_answerSearch_42 rfl rfl ?_
    refine v_iconst B (v := iI 3) dX10_answerSearch_43 rfl ?_
    refine u_callVi B Z hz (n := 1) (As := [.int (iI 3)]) (rest := [.int (iI z29)]) (c_Row_two l D K Z _ _ _ _ w0 3 t_w0 ⟨by omega, by omega⟩ σ0 G0) gd_Server_answerSearch_Row_two_76 rfl rfl rfl (by decide +kernel) ⟨Nat.le_trans (by decide +kernel) hR.1, Nat.le_trans (by decide +kernel) hR.2⟩ t_w0 (cls_Row G0 t_w0) rfl rfl rfl rfl (Nat.le_of_ble_eq_true rfl) dX10_answerSearch_44 ⟨Nat.zero_le _, Nat.zero_le _⟩ (fun v85 σ83 p84 => ?_)
    obtain ⟨rfl, z89, e90, r91⟩ := p84
    subst e90
    refine u_icmp_le B (tgt := 60) (by omega) (by omega) dX10_answerSearch_47 (by decide +kernel) (fun c92 => ?_) (fun c92 => ?_)
    · refine v_iload B dX10_answerSearch_60 rfl ?_
      refine v_bipush B (v := iI 16) dX10_answerSearch_62 (by decide +kernel) ?_
      refine u_icmp_ne B (tgt := 86) (by omega) (by omega) dX10_answerSearch_64 (by decide +kernel) (fun c93 => ?_) (fun c93 => ?_)
      · refine v_iload B dX10_answerSearch_86 rfl ?_
        refine v_iconst B (v := iI 4) dX10_answerSearch_88 rfl ?_
        refine u_icmp_ne B (tgt := 104) (by omega) (by omega) dX10_answerSearch_89 (by decide +kernel) (fun c94 => ?_) (fun c94 => ?_)
        · refine v_iload B dX10_answerSearch_104 rfl ?_
          refine v_bipush B (v := iI 6) dX10_answerSearch_106 (by decide +kernel) ?_
          refine u_icmp_ne B (tgt := 123) (by omega) (by omega) dX10_answerSearch_108 (by decide +kernel) (fun c95 => ?_) (fun c95 => ?_)
          · refine v_aload_n B dX10_answerSearch_123 rfl rfl ?_
            refine v_aload_n B dX10_answerSearch_124 rfl rfl ?_
            refine v_iload B dX10_answerSearch_125 rfl ?_
            refine v_iload_n B dX10_answerSearch_127 rfl rfl ?_
            refine v_aload_n B dX10_answerSearch_128 rfl rfl ?_
            refine u_callVv B Z hz (n := 4) (As := [.ref w0, .int (iI z72), .int (iI x2), .ref g]) (rest := []) (c_Server_listRows l D K Z _ _ _ _ h w0 z72 x2 g t_h t_w0 ⟨by omega, by omega⟩ ⟨by omega, by omega⟩ t_g σ0 G0 (fun z9 h9 r9 => by have q9 := TwoV.uniq G0 t_w0 tv32 h9 (by omega) (by omega); omega)) gd_Server_answerSearch_Server_listRows_163 rfl rfl rfl (by decide +kernel) ⟨Nat.le_trans (by decide +kernel) hR.1, Nat.le_trans (by decide +kernel) hR.2⟩ t_h (cls_Server G0 t_h) rfl rfl rfl rfl (Nat.le_of_ble_eq_true rfl) dX10_answerSearch_129 ⟨Nat.zero_le _, Nat.zero_le _⟩ (fun σ96 p97 => ?_)
            obtain ⟨G99, F100⟩ := p97
            have F101 := F0.call F100 (by first | rfl | simp)
            have h102 := (F100 h _ t_h (by first | rfl | simp)).trans h61
            refine v_lv [7, 3, 2] rfl ?_
            exact J132 σ96 z20 z29 G99 F101 ⟨by omega, by omega⟩ ⟨by omega, by omega⟩
          · refine v_aload_n B dX10_answerSearch_111 rfl rfl ?_
            refine v_aload_n B dX10_answerSearch_112 rfl rfl ?_
            refine v_iload B dX10_answerSearch_113 rfl ?_
            refine v_iload_n B dX10_answerSearch_115 rfl rfl ?_
            refine v_aload_n B dX10_answerSearch_116 rfl rfl ?_
            refine u_callVv B Z hz (n := 4) (As := [.ref w0, .int (iI z72), .int (iI x2), .ref g]) (rest := []) (c_Server_listEqual l D K Z _ _ _ _ h w0 z72 x2 g t_h t_w0 ⟨by omega, by omega⟩ ⟨by omega, by omega⟩ t_g σ0 G0 (fun z9 h9 r9 => by have q9 := TwoV.uniq G0 t_w0 tv32 h9 (by omega) (by omega); omega)) gd_Server_answerSearch_Server_listEqual_159 rfl rfl rfl (by decide +kernel) ⟨Nat.le_trans (by decide +kernel) hR.1, Nat.le_trans (by decide +kernel) hR.2⟩ t_h (cls_Server G0 t_h) rfl rfl rfl rfl (Nat.le_of_ble_eq_true rfl) dX10_answerSearch_117 ⟨Nat.zero_le _, Nat.zero_le _⟩ (fun σ103 p104 => ?_)
            obtain ⟨G106, F107⟩ := p104
            have F108 := F0.call F107 (by first | rfl | simp)
            have h109 := (F107 h _ t_h (by first | rfl | simp)).trans h61
            refine v_goto B (tgt := 132) dX10_answerSearch_120 (by decide +kernel) ?_
            refine v_lv [7, 3, 2] rfl ?_
            exact J132 σ103 z20 z29 G106 F108 ⟨by omega, by omega⟩ ⟨by omega, by omega⟩
        · refine v_aload_n B dX10_answerSearch_92 rfl rfl ?_
          refine v_iload B dX10_answerSearch_93 rfl ?_
          refine v_iload B dX10_answerSearch_95 rfl ?_
          refine v_aload_n B dX10_answerSearch_97 rfl rfl ?_
          refine u_callVv B Z hz (n := 3) (As := [.int (iI z29), .int (iI z72), .ref g]) (rest := []) (c_Server_listTypes l D K Z _ _ _ _ h z29 z72 g t_h ⟨by omega, by omega⟩ ⟨by omega, by omega⟩ t_g σ0 G0) gd_Server_answerSearch_Server_listTypes_155 rfl rfl rfl (by decide +kernel) ⟨Nat.le_trans (by decide +kernel) hR.1, Nat.le_trans (by decide +kernel) hR.2⟩ t_h (cls_Server G0 t_h) rfl rfl rfl rfl (Nat.le_of_ble_eq_true rfl) dX10_answerSearch_98 ⟨Nat.zero_le _, Nat.zero_le _⟩ (fun σ110 p111 => ?_)
          obtain ⟨G113, F114⟩ := p111
          have F115 := F0.call F114 (by first | rfl | simp)
          have h116 := (F114 h _ t_h (by first | rfl | simp)).trans h61
          refine v_goto B (tgt := 132) dX10_answerSearch_101 (by decide +kernel) ?_
          refine v_lv [7, 3, 2] rfl ?_
          exact J132 σ110 z20 z29 G113 F115 ⟨by omega, by omega⟩ ⟨by omega, by omega⟩
      · refine v_iload B dX10_answerSearch_67 rfl ?_
        refine u_callSi B Z hz (n := 1) (As := [.int (iI z39)]) (rest := []) (c_Server_isGroup l D K Z _ _ _ _ z39 ⟨by omega, by omega⟩ σ0 G0) gd_Server_answerSearch_Server_isGroup_152 rfl rfl rfl (by decide +kernel) ⟨Nat.le_trans (by decide +kernel) hR.1, Nat.le_trans (by decide +kernel) hR.2⟩ rfl rfl (Nat.le_of_ble_eq_true rfl) dX10_answerSearch_69 ⟨Nat.zero_le _, Nat.zero_le _⟩ (fun v119 σ117 p118 => ?_)
        obtain ⟨rfl, z123, e124, r125⟩ := p118
        subst e124
        refine u_if_ne B (tgt := 86) (by omega) dX10_answerSearch_72 (by decide +kernel) (fun c126 => ?_) (fun c126 => ?_)
        · refine v_iload B dX10_answerSearch_86 rfl ?_
          refine v_iconst B (v := iI 4) dX10_answerSearch_88 rfl ?_
          refine u_icmp_ne B (tgt := 104) (by omega) (by omega) dX10_answerSearch_89 (by decide +kernel) (fun c127 => ?_) (fun c127 => by omega)
          refine v_iload B dX10_answerSearch_104 rfl ?_
          refine v_bipush B (v := iI 6) dX10_answerSearch_106 (by decide +kernel) ?_
          refine u_icmp_ne B (tgt := 123) (by omega) (by omega) dX10_answerSearch_108 (by decide +kernel) (fun c128 => ?_) (fun c128 => by omega)
          refine v_aload_n B dX10_answerSearch_123 rfl rfl ?_
          refine v_aload_n B dX10_answerSearch_124 rfl rfl ?_
          refine v_iload B dX10_answerSearch_125 rfl ?_
          refine v_iload_n B dX10_answerSearch_127 rfl rfl ?_
          refine v_aload_n B dX10_answerSearch_128 rfl rfl ?_
          refine u_callVv B Z hz (n := 4) (As := [.ref w0, .int (iI z72), .int (iI x2), .ref g]) (rest := []) (c_Server_listRows l D K Z _ _ _ _ h w0 z72 x2 g t_h t_w0 ⟨by omega, by omega⟩ ⟨by omega, by omega⟩ t_g σ0 G0 (fun z9 h9 r9 => by have q9 := TwoV.uniq G0 t_w0 tv32 h9 (by omega) (by omega); omega)) gd_Server_answerSearch_Server_listRows_163 rfl rfl rfl (by decide +kernel) ⟨Nat.le_trans (by decide +kernel) hR.1, Nat.le_trans (by decide +kernel) hR.2⟩ t_h (cls_Server G0 t_h) rfl rfl rfl rfl (Nat.le_of_ble_eq_true rfl) dX10_answerSearch_129 ⟨Nat.zero_le _, Nat.zero_le _⟩ (fun σ129 p130 => ?_)
          obtain ⟨G132, F133⟩ := p130
          have F134 := F0.call F133 (by first | rfl | simp)
          have h135 := (F133 h _ t_h (by first | rfl | simp)).trans h61
          refine v_lv [7, 3, 2] rfl ?_
          exact J132 σ129 z20 z29 G132 F134 ⟨by omega, by omega⟩ ⟨by omega, by omega⟩
        · refine v_iload B dX10_answerSearch_75 rfl ?_
          refine v_iload B dX10_answerSearch_77 rfl ?_
          refine v_bipush B (v := iI 16) dX10_answerSearch_79 (by decide +kernel) ?_
          refine v_aload_n B dX10_answerSearch_81 rfl rfl ?_
          refine u_callSv B Z hz (n := 4) (As := [.int (iI z20), .int (iI z29), .int (iI 16), .ref g]) (rest := []) (c_Server_refuse l D K Z _ _ _ _ z20 z29 16 g ⟨by omega, by omega⟩ ⟨by omega, by omega⟩ ⟨by omega, by omega⟩ t_g σ0 G0) gd_Server_answerSearch_Server_refuse_97 rfl rfl rfl (by decide +kernel) ⟨Nat.le_trans (by decide +kernel) hR.1, Nat.le_trans (by decide +kernel) hR.2⟩ rfl rfl (Nat.le_of_ble_eq_true rfl) dX10_answerSearch_82 ⟨Nat.zero_le _, Nat.zero_le _⟩ (fun σ136 p137 => ?_)
          obtain ⟨G139, F140⟩ := p137
          have F141 := F0.call F140 (by first | rfl | simp)
          have h142 := (F140 h _ t_h (by first | rfl | simp)).trans h61
          exact hend σ136 _ _ G139 F141 dX10_answerSearch_85
    · refine v_iload B dX10_answerSearch_50 rfl ?_
      refine v_iload B dX10_answerSearch_52 rfl ?_
      refine v_iconst B (v := iI 1) dX10_answerSearch_54 rfl ?_
      refine v_aload_n B dX10_answerSearch_55 rfl rfl ?_
      refine u_callSv B Z hz (n := 4) (As := [.int (iI z20), .int (iI z29), .int (iI 1), .ref g]) (rest := []) (c_Server_refuse l D K Z _ _ _ _ z20 z29 1 g ⟨by omega, by omega⟩ ⟨by omega, by omega⟩ ⟨by omega, by omega⟩ t_g σ0 G0) gd_Server_answerSearch_Server_refuse_97 rfl rfl rfl (by decide +kernel) ⟨Nat.le_trans (by decide +kernel) hR.1, Nat.le_trans (by decide +kernel) hR.2⟩ rfl rfl (Nat.le_of_ble_eq_true rfl) dX10_answerSearch_56 ⟨Nat.zero_le _, Nat.zero_le _⟩ (fun σ143 p144 => ?_)
      obtain ⟨G146, F147⟩ := p144
      have F148 := F0.call F147 (by first | rfl | simp)
      have h149 := (F147 h _ t_h (by first | rfl | simp)).trans h61
      exact hend σ143 _ _ G146 F148 dX10_answerSearch_59
set_option maxRecDepth 100000 in
theorem c_Server_answerSearch (l : Launch) (D : va_G) (K : Nat → ClassId) {τ : Nat → Option Ty} {dom : List Nat} (Z : Sk τ dom) (zb zL : Nat) (zx : Nat → Int32) (zs : Nat → Nat) (h : Nat) (w0 : Nat) (x2 : Int) (g : Nat) (t_h : τ h = some (40, 0, 0)) (t_w0 : τ w0 = some (1, 12, 0)) (r_x2 : 0 ≤ x2 ∧ x2 ≤ 1) (t_g : τ g = some (1, 8, 0)) (σ0 : Nat → va_E) (G0 : Good K τ σ0) : MZ l yX10_answerSearch wp_Server_answerSearch ({ frames := 3, cells := 0, slots := 0, locals := 79 }) D (tysA K) [.ref h, .ref w0, .int (iI x2), .ref g] (fd dom σ0) zb zL zx zs (Qv D (fun σ' => Good K τ σ' ∧ Fr τ [(2, 8), (1, 8)] σ0 σ') (fun σ' => fd dom σ')) 0 0 := by
  refine mz_of (cc := cX10_answerSearch) (maxL := 8) (ret := none) (by decide +kernel) rfl (Nat.le_of_ble_eq_true rfl) ?_
  intro p e s m below meth c A B hr hlk _ hz
  exact b_Server_answerSearch ⟨Nat.le_refl _, Nat.le_refl _⟩ B Z hz h w0 x2 g t_h t_w0 r_x2 t_g σ0 G0 (fun σ' lv pc G F hd => v_vret B hr hlk σ' ⟨G, F⟩ rfl (Nat.le_refl _) (Nat.le_refl _) hd)

def wp_Server_serve : List Cond := .code yX10_serve cX10_serve 5 none :: (([.methodLink RX10 76 yX9_two, .instanceMethod yX9_two, .selects RX9 yX9_two yX9_two, .initialized RX9, .code yX9_two cX9_two 2 (some .int), .fieldLink RX9 21 "LowEnergy$Row" "size" "I", .fieldLink RX9 15 "LowEnergy$Row" "bytes" "[I", .methodLink RX10 105 yX10_agreeOnMtu, .instanceMethod yX10_agreeOnMtu, .selects RX10 yX10_agreeOnMtu yX10_agreeOnMtu, .initialized RX10, .code yX10_agreeOnMtu cX10_agreeOnMtu 2 none, .fieldLink RX10 24 "LowEnergy$Server" "ownMtu" "I", .methodLink RX10 47 Lib.Math.min.name, .static Lib.Math.min.name, .initialized "java/lang/Math", .code Lib.Math.min.name Lib.Math.min.code 2 (some .int), .methodLink RX10 53 Lib.Math.max.name, .static Lib.Math.max.name, .code Lib.Math.max.name Lib.Math.max.code 2 (some .int), .fieldLink RX10 28 "LowEnergy$Server" "linkMtu" "I", .methodLink RX10 83 yX9_put, .instanceMethod yX9_put, .selects RX9 yX9_put yX9_put, .code yX9_put cX9_put 2 none, .methodLink RX10 108 yX9_putNumber, .instanceMethod yX9_putNumber, .selects RX9 yX9_putNumber yX9_putNumber, .code yX9_putNumber cX9_putNumber 5 none, .constantLong RX9 25 (255), .methodLink RX10 112 yX10_answerRead, .instanceMethod yX10_answerRead, .selects RX10 yX10_answerRead yX10_answerRead, .code yX10_answerRead cX10_answerRead 9 none, .methodLink RX10 97 yX10_refuse, .static yX10_refuse, .code yX10_refuse cX10_refuse 4 none, .methodLink RX10 133 yX9_putPart, .instanceMethod yX9_putPart, .selects RX9 yX9_putPart yX9_putPart, .code yX9_putPart cX9_putPart 6 none, .methodLink RX9 9 Lib.Math.max.name, .methodLink RX10 137 yX10_faultOfRead, .instanceMethod yX10_faultOfRead, .selects RX10 yX10_faultOfRead yX10_faultOfRead, .code yX10_faultOfRead cX10_faultOfRead 4 (some .int), .fieldLink RX10 56 "LowEnergy$Server" "count" "I", .fieldLink RX10 15 "LowEnergy$Server" "rights" "[I", .methodLink RX10 126 yX10_valueOf, .instanceMethod yX10_valueOf, .selects RX10 yX10_valueOf yX10_valueOf, .code yX10_valueOf cX10_valueOf 2 (some (.object "LowEnergy$Row")), .fieldLink RX10 20 "LowEnergy$Server" "values" "[LLowEnergy$Row;", .methodLink RX10 63 yX9_at, .instanceMethod yX9_at, .selects RX9 yX9_at yX9_at, .code yX9_at cX9_at 2 (some .int), .methodLink RX10 116 yX10_answerWrite, .instanceMethod yX10_answerWrite, .selects RX10 yX10_answerWrite yX10_answerWrite, .code yX10_answerWrite cX10_answerWrite 6 none, .methodLink RX10 86 yX10_faultOfWrite, .instanceMethod yX10_faultOfWrite, .selects RX10 yX10_faultOfWrite yX10_faultOfWrite, .code yX10_faultOfWrite cX10_faultOfWrite 5 (some .int), .fieldLink RX10 40 "LowEnergy$Server" "partCount" "I", .fieldLink RX10 31 "LowEnergy$Server" "parts" "[LLowEnergy$Row;", .methodLink RX10 130 yX9_clear, .instanceMethod yX9_clear, .selects RX9 yX9_clear yX9_clear, .code yX9_clear cX9_clear 1 none, .methodLink RX10 90 yX10_overwrite, .instanceMethod yX10_overwrite, .selects RX10 yX10_overwrite yX10_overwrite, .code yX10_overwrite cX10_overwrite 3 none, .methodLink RX10 119 yX10_answerExecute, .instanceMethod yX10_answerExecute, .selects RX10 yX10_answerExecute yX10_answerExecute, .code yX10_answerExecute cX10_answerExecute 6 none, .methodLink RX10 145 yX10_writePart, .instanceMethod yX10_writePart, .selects RX10 yX10_writePart yX10_writePart, .code yX10_writePart cX10_writePart 5 none, .methodLink RX10 148 yX9_write, .instanceMethod yX9_write, .selects RX9 yX9_write yX9_write, .code yX9_write cX9_write 3 none, .methodLink RX9 31 yX9_put, .methodLink RX10 141 yX10_faultOfPart, .instanceMethod yX10_faultOfPart, .selects RX10 yX10_faultOfPart yX10_faultOfPart, .code yX10_faultOfPart cX10_faultOfPart 5 (some .int), .fieldLink RX10 34 "LowEnergy$Server" "sizes" "[I", .methodLink RX10 123 yX10_answerSearch, .instanceMethod yX10_answerSearch, .selects RX10 yX10_answerSearch yX10_answerSearch, .code yX10_answerSearch cX10_answerSearch 8 none, .methodLink RX10 163 yX10_listRows, .instanceMethod yX10_listRows, .selects RX10 yX10_listRows yX10_listRows, .code yX10_listRows cX10_listRows 13 none, .methodLink RX10 170 yX10_endOf, .instanceMethod yX10_endOf, .selects RX10 yX10_endOf yX10_endOf, .code yX10_endOf cX10_endOf 3 (some .int), .fieldLink RX10 11 "LowEnergy$Server" "types" "[I", .methodLink RX10 152 yX10_isGroup, .static yX10_isGroup, .code yX10_isGroup cX10_isGroup 1 (some .boolean), .methodLink RX10 159 yX10_listEqual, .instanceMethod yX10_listEqual, .selects RX10 yX10_listEqual yX10_listEqual, .code yX10_listEqual cX10_listEqual 7 none, .methodLink RX10 166 yX9_isTailOf, .instanceMethod yX9_isTailOf, .selects RX9 yX9_isTailOf yX9_isTailOf, .code yX9_isTailOf cX9_isTailOf 4 (some .boolean), .methodLink RX10 155 yX10_listTypes, .instanceMethod yX10_listTypes, .selects RX10 yX10_listTypes yX10_listTypes, .code yX10_listTypes cX10_listTypes 5 none, .methodLink RX10 93 yX10_isRequest, .static yX10_isRequest, .code yX10_isRequest cX10_isRequest 1 (some .boolean), .methodLink RX10 101 yX10_hasItsSize, .static yX10_hasItsSize, .code yX10_hasItsSize cX10_hasItsSize 2 (some .boolean)] : List Cond) ++ (wsX90 ++ (wsX100 ++ ([]))))
theorem hi_Server_serve_X9 : ∀ x ∈ u_ws RX9 TX9 2, x ∈ wp_Server_serve := fun _ h => List.mem_cons_of_mem _ (List.mem_append_right _ (List.mem_append_left _ h))
theorem hi_Server_serve_X10 : ∀ x ∈ u_ws RX10 TX10 10, x ∈ wp_Server_serve := fun _ h => List.mem_cons_of_mem _ (List.mem_append_right _ (List.mem_append_right _ (List.mem_append_left _ h)))
set_option maxRecDepth 100000 in
theorem gd_Server_serve_Row_two_76 : GoodIn wp_Server_serve (wsV RX10 76 RX9 yX9_two wp_Row_two) := goodIn_app (goodIn_r _ [1, 2, 3, 4] rfl rfl) (goodIn_ca (goodIn_r _ [5, 6, 7] rfl rfl) (goodIn_app (goodIn_cls hi_Server_serve_X9 gw_X9) (goodIn_nil)))
set_option maxRecDepth 100000 in
theorem gd_Server_serve_Server_agreeOnMtu_105 : GoodIn wp_Server_serve (wsV RX10 105 RX10 yX10_agreeOnMtu wp_Server_agreeOnMtu) := goodIn_app (goodIn_r _ [8, 9, 10, 11] rfl rfl) (goodIn_ca (goodIn_r _ [12, 13, 14, 15, 16, 17, 18, 19, 20, 21] rfl rfl) (goodIn_app (goodIn_cls hi_Server_serve_X10 gw_X10) (goodIn_nil)))
set_option maxRecDepth 100000 in
theorem gd_Server_serve_Row_put_83 : GoodIn wp_Server_serve (wsV RX10 83 RX9 yX9_put wp_Row_put) := goodIn_app (goodIn_r _ [22, 23, 24, 4] rfl rfl) (goodIn_ca (goodIn_r _ [25, 6, 7] rfl rfl) (goodIn_app (goodIn_cls hi_Server_serve_X9 gw_X9) (goodIn_nil)))
set_option maxRecDepth 100000 in
theorem gd_Server_serve_Row_putNumber_108 : GoodIn wp_Server_serve (wsV RX10 108 RX9 yX9_putNumber wp_Row_putNumber) := goodIn_app (goodIn_r _ [26, 27, 28, 4] rfl rfl) (goodIn_ca (goodIn_r _ [29, 6, 7, 30] rfl rfl) (goodIn_app (goodIn_cls hi_Server_serve_X9 gw_X9) (goodIn_nil)))
set_option maxRecDepth 100000 in
theorem gd_Server_serve_Server_answerRead_112 : GoodIn wp_Server_serve (wsV RX10 112 RX10 yX10_answerRead wp_Server_answerRead) := goodIn_app (goodIn_r _ [31, 32, 33, 11] rfl rfl) (goodIn_ca (goodIn_r _ [34, 35, 36, 11, 37, 22, 23, 24, 4, 25, 6, 7, 26, 27, 28, 29, 30, 21, 38, 39, 40, 41, 42, 19, 16, 20, 43, 44, 45, 46, 47, 48, 49, 50, 51, 52, 53, 54, 55, 56, 57, 1, 2, 3, 5] rfl rfl) (goodIn_app (goodIn_cls hi_Server_serve_X9 gw_X9) (goodIn_app (goodIn_cls hi_Server_serve_X10 gw_X10) (goodIn_nil))))
set_option maxRecDepth 100000 in
theorem gd_Server_serve_Server_answerWrite_116 : GoodIn wp_Server_serve (wsV RX10 116 RX10 yX10_answerWrite wp_Server_answerWrite) := goodIn_app (goodIn_r _ [58, 59, 60, 11] rfl rfl) (goodIn_ca (goodIn_r _ [61, 54, 55, 56, 4, 57, 6, 7, 62, 63, 64, 11, 65, 66, 1, 2, 3, 5, 47, 48, 22, 23, 24, 25, 38, 39, 40, 41, 42, 19, 16, 20, 67, 68, 69, 70, 71, 72, 73, 74, 75, 49, 50, 51, 52, 53, 35, 36, 37, 26, 27, 28, 29, 30] rfl rfl) (goodIn_app (goodIn_cls hi_Server_serve_X9 gw_X9) (goodIn_app (goodIn_cls hi_Server_serve_X10 gw_X10) (goodIn_nil))))
set_option maxRecDepth 100000 in
theorem gd_Server_serve_Row_at_63 : GoodIn wp_Server_serve (wsV RX10 63 RX9 yX9_at wp_Row_at) := goodIn_app (goodIn_r _ [54, 55, 56, 4] rfl rfl) (goodIn_ca (goodIn_r _ [57, 6, 7] rfl rfl) (goodIn_app (goodIn_cls hi_Server_serve_X9 gw_X9) (goodIn_nil)))
set_option maxRecDepth 100000 in
theorem gd_Server_serve_Server_answerExecute_119 : GoodIn wp_Server_serve (wsV RX10 119 RX10 yX10_answerExecute wp_Server_answerExecute) := goodIn_app (goodIn_r _ [76, 77, 78, 11] rfl rfl) (goodIn_ca (goodIn_r _ [79, 22, 23, 24, 4, 25, 6, 7, 67, 80, 81, 82, 11, 83, 54, 55, 56, 57, 84, 85, 86, 87, 88, 1, 2, 3, 5, 49, 50, 51, 52, 47, 53, 89, 90, 91, 92, 93, 18, 19, 16, 20, 35, 36, 37, 26, 27, 28, 29, 30, 66, 14, 15, 17] rfl rfl) (goodIn_app (goodIn_cls hi_Server_serve_X9 gw_X9) (goodIn_app (goodIn_cls hi_Server_serve_X10 gw_X10) (goodIn_nil))))
set_option maxRecDepth 100000 in
theorem gd_Server_serve_Server_answerSearch_123 : GoodIn wp_Server_serve (wsV RX10 123 RX10 yX10_answerSearch wp_Server_answerSearch) := goodIn_app (goodIn_r _ [94, 95, 96, 11] rfl rfl) (goodIn_ca (goodIn_r _ [97, 35, 36, 11, 37, 22, 23, 24, 4, 25, 6, 7, 26, 27, 28, 29, 30, 54, 55, 56, 57, 1, 2, 3, 5, 47, 14, 15, 16, 17, 98, 99, 100, 101, 53, 38, 39, 40, 41, 42, 19, 20, 21, 102, 103, 104, 105, 106, 107, 108, 109, 18, 43, 44, 45, 46, 48, 110, 111, 112, 113, 114, 115, 116, 117, 118, 119, 120, 121] rfl rfl) (goodIn_app (goodIn_cls hi_Server_serve_X9 gw_X9) (goodIn_app (goodIn_cls hi_Server_serve_X10 gw_X10) (goodIn_nil))))
set_option maxRecDepth 100000 in
theorem gd_Server_serve_Server_refuse_97 : GoodIn wp_Server_serve (va_wsS RX10 97 yX10_refuse wp_Server_refuse) := goodIn_app (goodIn_r _ [35, 36, 11] rfl rfl) (goodIn_ca (goodIn_r _ [37, 22, 23, 24, 4, 25, 6, 7, 26, 27, 28, 29, 30] rfl rfl) (goodIn_app (goodIn_cls hi_Server_serve_X9 gw_X9) (goodIn_nil)))
set_option maxRecDepth 100000 in
theorem gd_Server_serve_Server_isRequest_93 : GoodIn wp_Server_serve (va_wsS RX10 93 yX10_isRequest wp_Server_isRequest) := goodIn_app (goodIn_r _ [122, 123, 11] rfl rfl) (goodIn_ca (goodIn_r _ [124] rfl rfl) (goodIn_nil))
set_option maxRecDepth 100000 in
theorem gd_Server_serve_Server_hasItsSize_101 : GoodIn wp_Server_serve (va_wsS RX10 101 yX10_hasItsSize wp_Server_hasItsSize) := goodIn_app (goodIn_r _ [125, 126, 11] rfl rfl) (goodIn_ca (goodIn_r _ [127] rfl rfl) (goodIn_nil))
set_option maxRecDepth 100000 in
theorem gd_Server_serve_Server_faultOfWrite_86 : GoodIn wp_Server_serve (wsV RX10 86 RX10 yX10_faultOfWrite wp_Server_faultOfWrite) := goodIn_app (goodIn_r _ [62, 63, 64, 11] rfl rfl) (goodIn_ca (goodIn_r _ [65, 54, 55, 56, 4, 57, 6, 7, 66, 1, 2, 3, 5, 47, 48] rfl rfl) (goodIn_app (goodIn_cls hi_Server_serve_X9 gw_X9) (goodIn_app (goodIn_cls hi_Server_serve_X10 gw_X10) (goodIn_nil))))
set_option maxRecDepth 100000 in
theorem gd_Server_serve_Server_overwrite_90 : GoodIn wp_Server_serve (wsV RX10 90 RX10 yX10_overwrite wp_Server_overwrite) := goodIn_app (goodIn_r _ [72, 73, 74, 11] rfl rfl) (goodIn_ca (goodIn_r _ [75, 1, 2, 3, 4, 5, 6, 7, 49, 50, 51, 11, 52, 47, 53, 68, 69, 70, 71, 38, 39, 40, 41, 42, 19, 16, 20] rfl rfl) (goodIn_app (goodIn_cls hi_Server_serve_X9 gw_X9) (goodIn_app (goodIn_cls hi_Server_serve_X10 gw_X10) (goodIn_nil))))
set_option maxHeartbeats 4000000 in
set_option maxRecDepth 100000 in
theorem b_Server_serve {p : Program} {l : Launch} {e : Env} {R : Room} {s : State} {m : MethodId} {args : Array Value} {below : List Frame} {meth : Method} {c : Code} {D : va_G} {K : Nat → ClassId} {A : Nat → Prop} {Q : State → Prop} {τ : Nat → Option Ty} {dom : List Nat} {zb zL : Nat} {zx : Nat → Int32} {zs : Nat → Nat} (hR : 4 ≤ R.frames ∧ 106 ≤ R.locals) (B : Bx p s m args c cX10_serve 5 RX10 wp_Server_serve D (tysA K) A) (Z : Sk τ dom) (hz : ZL zb zL zx zs A s s.heap) (h : Nat) (w0 : Nat) (x2 : Int) (g : Nat) (t_h : τ h = some (40, 0, 0)) (t_w0 : τ w0 = some (1, 12, 0)) (r_x2 : 0 ≤ x2 ∧ x2 ≤ 1) (t_g : τ g = some (1, 8, 0)) (σ0 : Nat → va_E) (G0 : Good K τ σ0) (hend : ∀ (σ' : Nat → va_E) (lv : List (Nat × Value)) (pc : Nat), Good K τ σ' → Fr τ [(2, 8), (1, 8), (1, 13), (2, 13), (40, 0), (1, 14), (2, 14), (3, 28)] σ0 σ' → decode cX10_serve pc = .ok (.return_, 1) → V p l e R s m args below meth c 5 D A Q (0, 0) (fd dom σ') lv pc []) : V p l e R s m args below meth c 5 D A Q (0, 0) (fd dom σ0) [(0, .ref h), (1, .ref w0), (2, .int (iI x2)), (3, .ref g)] 0 [] := by
  have F0 : Fr τ [(2, 8), (1, 8), (1, 13), (2, 13), (40, 0), (1, 14), (2, 14), (3, 28)] σ0 σ0 := Fr.rf
  have J122 : ∀ (σ_122 : Nat → va_E) (z122_4 : Int), Good K τ σ_122 → Fr τ [(2, 8), (1, 8), (1, 13), (2, 13), (40, 0), (1, 14), (2, 14), (3, 28)] σ0 σ_122 → (-1 ≤ z122_4 ∧ z122_4 ≤ 255) → V p l e R s m args below meth c 5 D A Q (0, 0) (fd dom σ_122) [(0, .ref h), (1, .ref w0), (2, .int (iI x2)), (3, .ref g), (4, .int (iI z122_4))] 122 [] := by
    intro σ_122 z122_4 G_122 F_122 r122_4
    refine v_iload B dX10_serve_122 rfl ?_
    by_cases c1 : z122_4 = 2
    · refine u_lookup B (off := 60) (tgt := 184) (by omega) dX10_serve_124 (by decide +kernel) (by rw [c1]; decide +kernel) (by decide +kernel) ?_
      refine v_aload_n B dX10_serve_184 rfl rfl ?_
      refine v_aload_n B dX10_serve_185 rfl rfl ?_
      refine v_iconst B (v := iI 1) dX10_serve_186 rfl ?_
      refine u_callVi B Z hz (n := 1) (As := [.int (iI 1)]) (rest := [.ref h]) (c_Row_two l D K Z _ _ _ _ w0 1 t_w0 ⟨by omega, by omega⟩ σ_122 G_122) gd_Server_serve_Row_two_76 rfl rfl rfl (by decide +kernel) ⟨Nat.le_trans (by decide +kernel) hR.1, Nat.le_trans (by decide +kernel) hR.2⟩ t_w0 (cls_Row G_122 t_w0) rfl rfl rfl rfl (Nat.le_of_ble_eq_true rfl) dX10_serve_187 ⟨Nat.zero_le _, Nat.zero_le _⟩ (fun v4 σ2 p3 => ?_)
      obtain ⟨rfl, z8, e9, r10⟩ := p3
      subst e9
      refine u_callVv B Z hz (n := 1) (As := [.int (iI z8)]) (rest := []) (c_Server_agreeOnMtu l D K Z _ _ _ _ h z8 t_h ⟨by omega, by omega⟩ σ_122 G_122) gd_Server_serve_Server_agreeOnMtu_105 rfl rfl rfl (by decide +kernel) ⟨Nat.le_trans (by decide +kernel) hR.1, Nat.le_trans (by decide +kernel) hR.2⟩ t_h (cls_Server G_122 t_h) rfl rfl rfl rfl (Nat.le_of_ble_eq_true rfl) dX10_serve_190 ⟨Nat.zero_le _, Nat.zero_le _⟩ (fun σ11 p12 => ?_)
      obtain ⟨G14, F15⟩ := p12
      have F16 := F_122.call F15 (by first | rfl | simp)
      refine v_aload_n B dX10_serve_193 rfl rfl ?_
      refine v_iconst B (v := iI 3) dX10_serve_194 rfl ?_
      refine u_callVv B Z hz (n := 1) (As := [.int (iI 3)]) (rest := []) (c_Row_put l D K Z _ _ _ _ g 3 t_g ⟨by omega, by omega⟩ σ11 G14) gd_Server_serve_Row_put_83 rfl rfl rfl (by decide +kernel) ⟨Nat.le_trans (by decide +kernel) hR.1, Nat.le_trans (by decide +kernel) hR.2⟩ t_g (cls_Row G14 t_g) rfl rfl rfl rfl (Nat.le_of_ble_eq_true rfl) dX10_serve_195 ⟨Nat.zero_le _, Nat.zero_le _⟩ (fun σ17 p18 => ?_)
      obtain ⟨G20, F21⟩ := p18
      have F22 := F16.call F21 (by first | rfl | simp)
      refine v_aload_n B dX10_serve_198 rfl rfl ?_
      refine v_aload_n B dX10_serve_199 rfl rfl ?_
      obtain ⟨a23, a24, a25, z26, z27, z28, a29, z30, z31, a32, h33, t34, t35, t36, r37, r38, r39, t40, r41, r42, t43⟩ : okServer τ (σ17 h) := G20 h _ t_h
      refine u_get B Z (C := RX10) (T := TX10) (N := 10) (ci := 10) hi_Server_serve_X10 t_h h33 rfl 4 (by decide +kernel) (List.mem_of_getElem? (i := 13) rfl) rfl dX10_serve_200 ?_
      refine v_i2l B (v := lI z27) dX10_serve_203 (lI_i (by omega)) ?_
      refine v_iconst B (v := iI 2) dX10_serve_204 rfl ?_
      refine u_callVv B Z hz (n := 2) (As := [.long (lI z27), .int (iI 2)]) (rest := []) (c_Row_putNumber l D K Z _ _ _ _ g z27 2 t_g ⟨by omega, by omega⟩ ⟨by omega, by omega⟩ σ17 G20) gd_Server_serve_Row_putNumber_108 rfl rfl rfl (by decide +kernel) ⟨Nat.le_trans (by decide +kernel) hR.1, Nat.le_trans (by decide +kernel) hR.2⟩ t_g (cls_Row G20 t_g) rfl rfl rfl rfl (Nat.le_of_ble_eq_true rfl) dX10_serve_205 ⟨Nat.zero_le _, Nat.zero_le _⟩ (fun σ44 p45 => ?_)
      obtain ⟨G47, F48⟩ := p45
      have F49 := F22.call F48 (by first | rfl | simp)
      have h50 := (F48 h _ t_h (by first | rfl | simp)).trans h33
      refine v_goto B (tgt := 251) dX10_serve_208 (by decide +kernel) ?_
      exact hend σ44 _ _ G47 F49 dX10_serve_251
    by_cases c51 : z122_4 = 10
    · refine u_lookup B (off := 87) (tgt := 211) (by omega) dX10_serve_124 (by decide +kernel) (by rw [c51]; decide +kernel) (by decide +kernel) ?_
      refine v_aload_n B dX10_serve_211 rfl rfl ?_
      refine v_aload_n B dX10_serve_212 rfl rfl ?_
      refine v_iload_n B dX10_serve_213 rfl rfl ?_
      refine v_aload_n B dX10_serve_214 rfl rfl ?_
      refine u_callVv B Z hz (n := 3) (As := [.ref w0, .int (iI x2), .ref g]) (rest := []) (c_Server_answerRead l D K Z _ _ _ _ h w0 x2 g t_h t_w0 ⟨by omega, by omega⟩ t_g σ_122 G_122) gd_Server_serve_Server_answerRead_112 rfl rfl rfl (by decide +kernel) ⟨Nat.le_trans (by decide +kernel) hR.1, Nat.le_trans (by decide +kernel) hR.2⟩ t_h (cls_Server G_122 t_h) rfl rfl rfl rfl (Nat.le_of_ble_eq_true rfl) dX10_serve_215 ⟨Nat.zero_le _, Nat.zero_le _⟩ (fun σ52 p53 => ?_)
      obtain ⟨G55, F56⟩ := p53
      have F57 := F_122.call F56 (by first | rfl | simp)
      refine v_goto B (tgt := 251) dX10_serve_218 (by decide +kernel) ?_
      exact hend σ52 _ _ G55 F57 dX10_serve_251
    by_cases c58 : z122_4 = 12
    · refine u_lookup B (off := 87) (tgt := 211) (by omega) dX10_serve_124 (by decide +kernel) (by rw [c58]; decide +kernel) (by decide +kernel) ?_
      refine v_aload_n B dX10_serve_211 rfl rfl ?_
      refine v_aload_n B dX10_serve_212 rfl rfl ?_
      refine v_iload_n B dX10_serve_213 rfl rfl ?_
      refine v_aload_n B dX10_serve_214 rfl rfl ?_
      refine u_callVv B Z hz (n := 3) (As := [.ref w0, .int (iI x2), .ref g]) (rest := []) (c_Server_answerRead l D K Z _ _ _ _ h w0 x2 g t_h t_w0 ⟨by omega, by omega⟩ t_g σ_122 G_122) gd_Server_serve_Server_answerRead_112 rfl rfl rfl (by decide +kernel) ⟨Nat.le_trans (by decide +kernel) hR.1, Nat.le_trans (by decide +kernel) hR.2⟩ t_h (cls_Server G_122 t_h) rfl rfl rfl rfl (Nat.le_of_ble_eq_true rfl) dX10_serve_215 ⟨Nat.zero_le _, Nat.zero_le _⟩ (fun σ59 p60 => ?_)
      obtain ⟨G62, F63⟩ := p60
      have F64 := F_122.call F63 (by first | rfl | simp)
      refine v_goto B (tgt := 251) dX10_serve_218 (by decide +kernel) ?_
      exact hend σ59 _ _ G62 F64 dX10_serve_251
    by_cases c65 : z122_4 = 18
    · refine u_lookup B (off := 97) (tgt := 221) (by omega) dX10_serve_124 (by decide +kernel) (by rw [c65]; decide +kernel) (by decide +kernel) ?_
      refine v_aload_n B dX10_serve_221 rfl rfl ?_
      refine v_aload_n B dX10_serve_222 rfl rfl ?_
      refine v_iload_n B dX10_serve_223 rfl rfl ?_
      refine v_aload_n B dX10_serve_224 rfl rfl ?_
      refine u_callVv B Z hz (n := 3) (As := [.ref w0, .int (iI x2), .ref g]) (rest := []) (c_Server_answerWrite l D K Z _ _ _ _ h w0 x2 g t_h t_w0 ⟨by omega, by omega⟩ t_g σ_122 G_122) gd_Server_serve_Server_answerWrite_116 rfl rfl rfl (by decide +kernel) ⟨Nat.le_trans (by decide +kernel) hR.1, Nat.le_trans (by decide +kernel) hR.2⟩ t_h (cls_Server G_122 t_h) rfl rfl rfl rfl (Nat.le_of_ble_eq_true rfl) dX10_serve_225 ⟨Nat.zero_le _, Nat.zero_le _⟩ (fun σ66 p67 => ?_)
      obtain ⟨G69, F70⟩ := p67
      have F71 := F_122.call F70 (by first | rfl | simp)
      refine v_goto B (tgt := 251) dX10_serve_228 (by decide +kernel) ?_
      exact hend σ66 _ _ G69 F71 dX10_serve_251
    by_cases c72 : z122_4 = 22
    · refine u_lookup B (off := 97) (tgt := 221) (by omega) dX10_serve_124 (by decide +kernel) (by rw [c72]; decide +kernel) (by decide +kernel) ?_
      refine v_aload_n B dX10_serve_221 rfl rfl ?_
      refine v_aload_n B dX10_serve_222 rfl rfl ?_
      refine v_iload_n B dX10_serve_223 rfl rfl ?_
      refine v_aload_n B dX10_serve_224 rfl rfl ?_
      refine u_callVv B Z hz (n := 3) (As := [.ref w0, .int (iI x2), .ref g]) (rest := []) (c_Server_answerWrite l D K Z _ _ _ _ h w0 x2 g t_h t_w0 ⟨by omega, by omega⟩ t_g σ_122 G_122) gd_Server_serve_Server_answerWrite_116 rfl rfl rfl (by decide +kernel) ⟨Nat.le_trans (by decide +kernel) hR.1, Nat.le_trans (by decide +kernel) hR.2⟩ t_h (cls_Server G_122 t_h) rfl rfl rfl rfl (Nat.le_of_ble_eq_true rfl) dX10_serve_225 ⟨Nat.zero_le _, Nat.zero_le _⟩ (fun σ73 p74 => ?_)
      obtain ⟨G76, F77⟩ := p74
      have F78 := F_122.call F77 (by first | rfl | simp)
      refine v_goto B (tgt := 251) dX10_serve_228 (by decide +kernel) ?_
      exact hend σ73 _ _ G76 F78 dX10_serve_251
    by_cases c79 : z122_4 = 24
    · refine u_lookup B (off := 107) (tgt := 231) (by omega) dX10_serve_124 (by decide +kernel) (by rw [c79]; decide +kernel) (by decide +kernel) ?_
      refine v_aload_n B dX10_serve_231 rfl rfl ?_
      refine v_aload_n B dX10_serve_232 rfl rfl ?_
      refine v_iconst B (v := iI 1) dX10_serve_233 rfl ?_
      refine u_callVi B Z hz (n := 1) (As := [.int (iI 1)]) (rest := [.ref h]) (c_Row_at l D K Z _ _ _ _ w0 1 t_w0 ⟨by omega, by omega⟩ σ_122 G_122) gd_Server_serve_Row_at_63 rfl rfl rfl (by decide +kernel) ⟨Nat.le_trans (by decide +kernel) hR.1, Nat.le_trans (by decide +kernel) hR.2⟩ t_w0 (cls_Row G_122 t_w0) rfl rfl rfl rfl (Nat.le_of_ble_eq_true rfl) dX10_serve_234 ⟨Nat.zero_le _, Nat.zero_le _⟩ (fun v82 σ80 p81 => ?_)
      obtain ⟨rfl, z86, e87, r88⟩ := p81
      subst e87
      refine v_aload_n B dX10_serve_237 rfl rfl ?_
      refine u_callVv B Z hz (n := 2) (As := [.int (iI z86), .ref g]) (rest := []) (c_Server_answerExecute l D K Z _ _ _ _ h z86 g t_h ⟨by omega, by omega⟩ t_g σ_122 G_122) gd_Server_serve_Server_answerExecute_119 rfl rfl rfl (by decide +kernel) ⟨Nat.le_trans (by decide +kernel) hR.1, Nat.le_trans (by decide +kernel) hR.2⟩ t_h (cls_Server G_122 t_h) rfl rfl rfl rfl (Nat.le_of_ble_eq_true rfl) dX10_serve_238 ⟨Nat.zero_le _, Nat.zero_le _⟩ (fun σ89 p90 => ?_)
      obtain ⟨G92, F93⟩ := p90
      have F94 := F_122.call F93 (by first | rfl | simp)
      refine v_goto B (tgt := 251) dX10_serve_241 (by decide +kernel) ?_
      exact hend σ89 _ _ G92 F94 dX10_serve_251
    refine u_lookup B (off := 120) (tgt := 244) (by omega) dX10_serve_124 (by decide +kernel) (by simp [Op.lookupswitch.offset, c1, Ne.symm c1, c51, Ne.symm c51, c58, Ne.symm c58, c65, Ne.symm c65, c72, Ne.symm c72, c79, Ne.symm c79]) (by decide +kernel) ?_
    refine v_aload_n B dX10_serve_244 rfl rfl ?_
    refine v_aload_n B dX10_serve_245 rfl rfl ?_
    refine v_iload_n B dX10_serve_246 rfl rfl ?_
    refine v_aload_n B dX10_serve_247 rfl rfl ?_
    refine u_callVv B Z hz (n := 3) (As := [.ref w0, .int (iI x2), .ref g]) (rest := []) (c_Server_answerSearch l D K Z _ _ _ _ h w0 x2 g t_h t_w0 ⟨by omega, by omega⟩ t_g σ_122 G_122) gd_Server_serve_Server_answerSearch_123 rfl rfl rfl (by decide +kernel) ⟨Nat.le_trans (by decide +kernel) hR.1, Nat.le_trans (by decide +kernel) hR.2⟩ t_h (cls_Server G_122 t_h) rfl rfl rfl rfl (Nat.le_of_ble_eq_true rfl) dX10_serve_248 ⟨Nat.zero_le _, Nat.zero_le _⟩ (fun σ95 p96 => ?_)
    obtain ⟨G98, F99⟩ := p96
    have F100 := F_122.call F99 (by first | rfl | simp)
    exact hend σ95 _ _ G98 F100 dX10_serve_251
  have J113 : ∀ (σ_113 : Nat → va_E) (z113_4 : Int), Good K τ σ_113 → Fr τ [(2, 8), (1, 8), (1, 13), (2, 13), (40, 0), (1, 14), (2, 14), (3, 28)] σ0 σ_113 → (-1 ≤ z113_4 ∧ z113_4 ≤ 255) → V p l e R s m args below meth c 5 D A Q (0, 0) (fd dom σ_113) [(3, .ref g), (4, .int (iI z113_4))] 113 [] := by
    intro σ_113 z113_4 G_113 F_113 r113_4
    refine v_iload B dX10_serve_113 rfl ?_
    refine v_iconst B (v := iI 0) dX10_serve_115 rfl ?_
    refine v_iconst B (v := iI 4) dX10_serve_116 rfl ?_
    refine v_aload_n B dX10_serve_117 rfl rfl ?_
    refine u_callSv B Z hz (n := 4) (As := [.int (iI z113_4), .int (iI 0), .int (iI 4), .ref g]) (rest := []) (c_Server_refuse l D K Z _ _ _ _ z113_4 0 4 g ⟨by omega, by omega⟩ ⟨by omega, by omega⟩ ⟨by omega, by omega⟩ t_g σ_113 G_113) gd_Server_serve_Server_refuse_97 rfl rfl rfl (by decide +kernel) ⟨Nat.le_trans (by decide +kernel) hR.1, Nat.le_trans (by decide +kernel) hR.2⟩ rfl rfl (Nat.le_of_ble_eq_true rfl) dX10_serve_118 ⟨Nat.zero_le _, Nat.zero_le _⟩ (fun σ101 p102 => ?_)
    obtain ⟨G104, F105⟩ := p102
    have F106 := F_113.call F105 (by first | rfl | simp)
    exact hend σ101 _ _ G104 F106 dX10_serve_121
  refine v_aload_n B dX10_serve_0 rfl rfl ?_
  refine v_iconst B (v := iI 0) dX10_serve_1 rfl ?_
  refine u_callVi B Z hz (n := 1) (As := [.int (iI 0)]) (rest := []) (c_Row_at l D K Z _ _ _ _ w0 0 t_w0 ⟨by omega, by omega⟩ σ0 G0) gd_Server_serve_Row_at_63 rfl rfl rfl (by decide +kernel) ⟨Nat.le_trans (by decide +kernel) hR.1, Nat.le_trans (by decide +kernel) hR.2⟩ t_w0 (cls_Row G0 t_w0) rfl rfl rfl rfl (Nat.le_of_ble_eq_true rfl) dX10_serve_2 ⟨Nat.zero_le _, Nat.zero_le _⟩ (fun v109 σ107 p108 => ?_)
  obtain ⟨rfl, z113, e114, r115⟩ := p108
  subst e114
  refine v_istore B (lv' := [(4, .int (iI z113)), (0, .ref h), (1, .ref w0), (2, .int (iI x2)), (3, .ref g)]) dX10_serve_5 (by decide +kernel) rfl ?_
  refine v_iload B dX10_serve_7 rfl ?_
  refine v_bipush B (v := iI 82) dX10_serve_9 (by decide +kernel) ?_
  refine u_icmp_ne B (tgt := 48) (by omega) (by omega) dX10_serve_11 (by decide +kernel) (fun c116 => ?_) (fun c116 => ?_)
  · refine v_iload B dX10_serve_48 rfl ?_
    refine u_callSi B Z hz (n := 1) (As := [.int (iI z113)]) (rest := []) (c_Server_isRequest l D K Z _ _ _ _ z113 ⟨by omega, by omega⟩ σ0 G0) gd_Server_serve_Server_isRequest_93 rfl rfl rfl (by decide +kernel) ⟨Nat.le_trans (by decide +kernel) hR.1, Nat.le_trans (by decide +kernel) hR.2⟩ rfl rfl (Nat.le_of_ble_eq_true rfl) dX10_serve_50 ⟨Nat.zero_le _, Nat.zero_le _⟩ (fun v119 σ117 p118 => ?_)
    obtain ⟨rfl, z123, e124, r125⟩ := p118
    subst e124
    refine u_if_ne B (tgt := 74) (by omega) dX10_serve_53 (by decide +kernel) (fun c126 => ?_) (fun c126 => ?_)
    · refine v_aload_n B dX10_serve_74 rfl rfl ?_
      obtain ⟨b127, N128, n129, h130, t131, r132⟩ : okRow τ 12 (σ0 w0) := G0 w0 _ t_w0
      refine u_getN B Z (C := RX9) (T := TX9) (N := 2) (ci := 9) hi_Server_serve_X9 t_w0 h130 rfl 1 (by decide +kernel) (List.mem_of_getElem? (i := 96) rfl) rfl dX10_serve_75 ?_
      refine v_aload_n B dX10_serve_78 rfl rfl ?_
      obtain ⟨a133, a134, a135, z136, z137, z138, a139, z140, z141, a142, h143, t144, t145, t146, r147, r148, r149, t150, r151, r152, t153⟩ : okServer τ (σ0 h) := G0 h _ t_h
      refine u_get B Z (C := RX10) (T := TX10) (N := 10) (ci := 10) hi_Server_serve_X10 t_h h143 rfl 5 (by decide +kernel) (List.mem_of_getElem? (i := 21) rfl) rfl dX10_serve_79 ?_
      refine u_icmp_gt B (tgt := 113) (by omega) (by omega) dX10_serve_82 (by decide +kernel) (fun c154 => ?_) (fun c154 => ?_)
      · refine v_lv [4, 0] rfl ?_
        exact J113 σ0 z113 G0 F0 ⟨by omega, by omega⟩
      · refine v_iload B dX10_serve_85 rfl ?_
        refine v_aload_n B dX10_serve_87 rfl rfl ?_
        refine u_getN B Z (C := RX9) (T := TX9) (N := 2) (ci := 9) hi_Server_serve_X9 t_w0 h130 rfl 1 (by decide +kernel) (List.mem_of_getElem? (i := 96) rfl) rfl dX10_serve_88 ?_
        refine u_callSi B Z hz (n := 2) (As := [.int (iI z113), .int (iI n129)]) (rest := []) (c_Server_hasItsSize l D K Z _ _ _ _ z113 n129 ⟨by omega, by omega⟩ ⟨by omega, by omega⟩ σ0 G0) gd_Server_serve_Server_hasItsSize_101 rfl rfl rfl (by decide +kernel) ⟨Nat.le_trans (by decide +kernel) hR.1, Nat.le_trans (by decide +kernel) hR.2⟩ rfl rfl (Nat.le_of_ble_eq_true rfl) dX10_serve_91 ⟨Nat.zero_le _, Nat.zero_le _⟩ (fun v157 σ155 p156 => ?_)
        obtain ⟨rfl, z161, e162, r163⟩ := p156
        subst e162
        refine u_if_eq B (tgt := 113) (by omega) dX10_serve_94 (by decide +kernel) (fun c164 => ?_) (fun c164 => ?_)
        · refine v_lv [4, 0] rfl ?_
          exact J113 σ0 z113 G0 F0 ⟨by omega, by omega⟩
        · refine v_iload B dX10_serve_97 rfl ?_
          refine v_iconst B (v := iI 2) dX10_serve_99 rfl ?_
          refine u_icmp_ne B (tgt := 122) (by omega) (by omega) dX10_serve_100 (by decide +kernel) (fun c165 => ?_) (fun c165 => ?_)
          · refine v_lv [1, 2, 3, 4, 0] rfl ?_
            exact J122 σ0 z113 G0 F0 ⟨by omega, by omega⟩
          · refine v_aload_n B dX10_serve_103 rfl rfl ?_
            refine v_iconst B (v := iI 1) dX10_serve_104 rfl ?_
            refine u_callVi B Z hz (n := 1) (As := [.int (iI 1)]) (rest := []) (c_Row_two l D K Z _ _ _ _ w0 1 t_w0 ⟨by omega, by omega⟩ σ0 G0) gd_Server_serve_Row_two_76 rfl rfl rfl (by decide +kernel) ⟨Nat.le_trans (by decide +kernel) hR.1, Nat.le_trans (by decide +kernel) hR.2⟩ t_w0 (cls_Row G0 t_w0) rfl rfl rfl rfl (Nat.le_of_ble_eq_true rfl) dX10_serve_105 ⟨Nat.zero_le _, Nat.zero_le _⟩ (fun v168 σ166 p167 => ?_)
            obtain ⟨rfl, z172, e173, r174⟩ := p167
            subst e173
            refine v_bipush B (v := iI 23) dX10_serve_108 (by decide +kernel) ?_
            refine u_icmp_ge B (tgt := 122) (by omega) (by omega) dX10_serve_110 (by decide +kernel) (fun c175 => ?_) (fun c175 => ?_)
            · refine v_lv [1, 2, 3, 4, 0] rfl ?_
              exact J122 σ0 z113 G0 F0 ⟨by omega, by omega⟩
            · refine v_lv [4, 0] rfl ?_
              exact J113 σ0 z113 G0 F0 ⟨by omega, by omega⟩
    · refine v_iload B dX10_serve_56 rfl ?_
      refine v_bipush B (v := iI 64) dX10_serve_58 (by decide +kernel) ?_
      obtain ⟨z176, e177, r178⟩ := iI_and z113 (c := 64) (by decide) (by decide)
      refine v_iand B (v := iI z176) dX10_serve_60 e177 ?_
      refine u_if_ne B (tgt := 73) (by omega) dX10_serve_61 (by decide +kernel) (fun c179 => ?_) (fun c179 => ?_)
      · exact hend σ0 _ _ G0 F0 dX10_serve_73
      · refine v_iload B dX10_serve_64 rfl ?_
        refine v_iconst B (v := iI 0) dX10_serve_66 rfl ?_
        refine v_bipush B (v := iI 6) dX10_serve_67 (by decide +kernel) ?_
        refine v_aload_n B dX10_serve_69 rfl rfl ?_
        refine u_callSv B Z hz (n := 4) (As := [.int (iI z113), .int (iI 0), .int (iI 6), .ref g]) (rest := []) (c_Server_refuse l D K Z _ _ _ _ z113 0 6 g ⟨by omega, by omega⟩ ⟨by omega, by omega⟩ ⟨by omega, by omega⟩ t_g σ0 G0) gd_Server_serve_Server_refuse_97 rfl rfl rfl (by decide +kernel) ⟨Nat.le_trans (by decide +kernel) hR.1, Nat.le_trans (by decide +kernel) hR.2⟩ rfl rfl (Nat.le_of_ble_eq_true rfl) dX10_serve_70 ⟨Nat.zero_le _, Nat.zero_le _⟩ (fun σ180 p181 => ?_)
        obtain ⟨G183, F184⟩ := p181
        have F185 := F0.call F184 (by first | rfl | simp)
        exact hend σ180 _ _ G183 F185 dX10_serve_73
  · refine v_aload_n B dX10_serve_14 rfl rfl ?_
    obtain ⟨b186, N187, n188, h189, t190, r191⟩ : okRow τ 12 (σ0 w0) := G0 w0 _ t_w0
    refine u_getN B Z (C := RX9) (T := TX9) (N := 2) (ci := 9) hi_Server_serve_X9 t_w0 h189 rfl 1 (by decide +kernel) (List.mem_of_getElem? (i := 96) rfl) rfl dX10_serve_15 ?_
    refine v_iconst B (v := iI 3) dX10_serve_18 rfl ?_
    refine u_icmp_lt B (tgt := 47) (by omega) (by omega) dX10_serve_19 (by decide +kernel) (fun c192 => ?_) (fun c192 => ?_)
    · exact hend σ0 _ _ G0 F0 dX10_serve_47
    · refine v_aload_n B dX10_serve_22 rfl rfl ?_
      refine u_getN B Z (C := RX9) (T := TX9) (N := 2) (ci := 9) hi_Server_serve_X9 t_w0 h189 rfl 1 (by decide +kernel) (List.mem_of_getElem? (i := 96) rfl) rfl dX10_serve_23 ?_
      refine v_aload_n B dX10_serve_26 rfl rfl ?_
      obtain ⟨a193, a194, a195, z196, z197, z198, a199, z200, z201, a202, h203, t204, t205, t206, r207, r208, r209, t210, r211, r212, t213⟩ : okServer τ (σ0 h) := G0 h _ t_h
      refine u_get B Z (C := RX10) (T := TX10) (N := 10) (ci := 10) hi_Server_serve_X10 t_h h203 rfl 5 (by decide +kernel) (List.mem_of_getElem? (i := 21) rfl) rfl dX10_serve_27 ?_
      refine u_icmp_gt B (tgt := 47) (by omega) (by omega) dX10_serve_30 (by decide +kernel) (fun c214 => ?_) (fun c214 => ?_)
      · exact hend σ0 _ _ G0 F0 dX10_serve_47
      · refine v_aload_n B dX10_serve_33 rfl rfl ?_
        refine v_aload_n B dX10_serve_34 rfl rfl ?_
        refine v_iload_n B dX10_serve_35 rfl rfl ?_
        refine u_callVi B Z hz (n := 2) (As := [.ref w0, .int (iI x2)]) (rest := []) (c_Server_faultOfWrite l D K Z _ _ _ _ h w0 x2 t_h t_w0 ⟨by omega, by omega⟩ σ0 G0) gd_Server_serve_Server_faultOfWrite_86 rfl rfl rfl (by decide +kernel) ⟨Nat.le_trans (by decide +kernel) hR.1, Nat.le_trans (by decide +kernel) hR.2⟩ t_h (cls_Server G0 t_h) rfl rfl rfl rfl (Nat.le_of_ble_eq_true rfl) dX10_serve_36 ⟨Nat.zero_le _, Nat.zero_le _⟩ (fun v217 σ215 p216 => ?_)
        obtain ⟨rfl, z221, e222, r223⟩ := p216
        subst e222
        refine u_if_ne B (tgt := 47) (by omega) dX10_serve_39 (by decide +kernel) (fun c224 => ?_) (fun c224 => ?_)
        · exact hend σ0 _ _ G0 F0 dX10_serve_47
        · refine v_aload_n B dX10_serve_42 rfl rfl ?_
          refine v_aload_n B dX10_serve_43 rfl rfl ?_
          refine u_callVv B Z hz (n := 1) (As := [.ref w0]) (rest := []) (c_Server_overwrite l D K Z _ _ _ _ h w0 t_h t_w0 σ0 G0) gd_Server_serve_Server_overwrite_90 rfl rfl rfl (by decide +kernel) ⟨Nat.le_trans (by decide +kernel) hR.1, Nat.le_trans (by decide +kernel) hR.2⟩ t_h (cls_Server G0 t_h) rfl rfl rfl rfl (Nat.le_of_ble_eq_true rfl) dX10_serve_44 ⟨Nat.zero_le _, Nat.zero_le _⟩ (fun σ225 p226 => ?_)
          obtain ⟨G228, F229⟩ := p226
          have F230 := F0.call F229 (by first | rfl | simp)
          have h231 := (F229 w0 _ t_w0 (by first | rfl | simp)).trans h189
          have h232 := (F229 h _ t_h (by first | rfl | simp)).trans h203
          exact hend σ225 _ _ G228 F230 dX10_serve_47
set_option maxRecDepth 100000 in
theorem c_Server_serve (l : Launch) (D : va_G) (K : Nat → ClassId) {τ : Nat → Option Ty} {dom : List Nat} (Z : Sk τ dom) (zb zL : Nat) (zx : Nat → Int32) (zs : Nat → Nat) (h : Nat) (w0 : Nat) (x2 : Int) (g : Nat) (t_h : τ h = some (40, 0, 0)) (t_w0 : τ w0 = some (1, 12, 0)) (r_x2 : 0 ≤ x2 ∧ x2 ≤ 1) (t_g : τ g = some (1, 8, 0)) (σ0 : Nat → va_E) (G0 : Good K τ σ0) : MZ l yX10_serve wp_Server_serve ({ frames := 4, cells := 0, slots := 0, locals := 106 }) D (tysA K) [.ref h, .ref w0, .int (iI x2), .ref g] (fd dom σ0) zb zL zx zs (Qv D (fun σ' => Good K τ σ' ∧ Fr τ [(2, 8), (1, 8), (1, 13), (2, 13), (40, 0), (1, 14), (2, 14), (3, 28)] σ0 σ') (fun σ' => fd dom σ')) 0 0 := by
  refine mz_of (cc := cX10_serve) (maxL := 5) (ret := none) (by decide +kernel) rfl (Nat.le_of_ble_eq_true rfl) ?_
  intro p e s m below meth c A B hr hlk _ hz
  exact b_Server_serve ⟨Nat.le_refl _, Nat.le_refl _⟩ B Z hz h w0 x2 g t_h t_w0 r_x2 t_g σ0 G0 (fun σ' lv pc G F hd => v_vret B hr hlk σ' ⟨G, F⟩ rfl (Nat.le_refl _) (Nat.le_refl _) hd)
