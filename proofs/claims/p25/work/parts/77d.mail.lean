def wp_Device_draw : List Cond := .code yX3_draw cX3_draw 1 (some .int) :: (([.fieldLink RX3 69 "LowEnergy$Device" "x" "I", .constant RX3 88 (1103515245)] : List Cond) ++ (wsX30 ++ ([])))
theorem hi_Device_draw_X3 : ∀ x ∈ u_ws RX3 TX3 19, x ∈ wp_Device_draw := fun _ h => List.mem_cons_of_mem _ (List.mem_append_right _ (List.mem_append_left _ h))
set_option maxHeartbeats 4000000 in
set_option maxRecDepth 100000 in
theorem b_Device_draw {p : Program} {l : Launch} {e : Env} {R : Room} {s : State} {m : MethodId} {args : Array Value} {below : List Frame} {meth : Method} {c : Code} {D : va_G} {K : Nat → ClassId} {A : Nat → Prop} {Q : State → Prop} {τ : Nat → Option Ty} {dom : List Nat} {zb zL : Nat} {zx : Nat → Int32} {zs : Nat → Nat} (hR : 0 ≤ R.frames ∧ 0 ≤ R.locals) (B : Bx p s m args c cX3_draw 1 RX3 wp_Device_draw D (tysA K) A) (Z : Sk τ dom) (hz : ZL zb zL zx zs A s s.heap) (h : Nat) (t_h : τ h = some (33, 0, 0)) (σ0 : Nat → va_E) (G0 : Good K τ σ0) (hend : ∀ (σ' : Nat → va_E) (z : Int) (lv : List (Nat × Value)) (pc : Nat), Good K τ σ' → Fr τ [(33, 0)] σ0 σ' → (0 ≤ z ∧ z ≤ 255) → decode cX3_draw pc = .ok (.ireturn, 1) → V p l e R s m args below meth c 1 D A Q (0, 0) (fd dom σ') lv pc [.int (iI z)]) : V p l e R s m args below meth c 1 D A Q (0, 0) (fd dom σ0) [(0, .ref h)] 0 [] := by
  have F0 : Fr τ [(33, 0)] σ0 σ0 := Fr.rf
  refine v_aload_n B dX3_draw_0 rfl rfl ?_
  refine v_aload_n B dX3_draw_1 rfl rfl ?_
  obtain ⟨z1, yy2, z3, z4, z5, z6, a7, z8, yy9, a10, yy11, a12, a13, a14, a15, a16, a17, a18, a19, h20, r21, r22, r23, r24, r25, r26, t27, r28, r29, t30, r31, t32, t33, t34, t35, t36, t37, t38, t39⟩ : okDevice τ (σ0 h) := G0 h _ t_h
  refine u_get B Z (C := RX3) (T := TX3) (N := 19) (ci := 3) hi_Device_draw_X3 t_h h20 rfl 3 (by decide +kernel) (List.mem_of_getElem? (i := 1) rfl) rfl dX3_draw_2 ?_
  refine v_ldc B (v := iI 1103515245) (u_ci (List.mem_of_getElem? (i := 2) rfl) (by decide +kernel)) dX3_draw_5 ?_
  obtain ⟨z40, e41, r42⟩ := iI_any (iI z4 * iI 1103515245)
  refine v_imul B (v := iI z40) dX3_draw_7 e41 ?_
  refine v_sipush B (v := iI 12345) dX3_draw_8 (by decide +kernel) ?_
  obtain ⟨z43, e44, r45⟩ := iI_any (iI z40 + iI 12345)
  refine v_iadd B (v := iI z43) dX3_draw_11 e44 ?_
  refine u_put B Z (C := RX3) (T := TX3) (N := 19) (ci := 3) hi_Device_draw_X3 t_h h20 rfl 3 (by decide +kernel) tyX3 tyX3_ok nmX3 (List.mem_of_getElem? (i := 1) rfl) rfl (ty := .int) (tyX3_ok 3 (by decide +kernel)) rfl rfl (Nat.le_of_ble_eq_true rfl) (fs' := [.int (iI z1), .long (lI yy2), .int (iI z3), .int (iI z43), .int (iI z5), .int (iI z6), .ref a7, .int (iI z8), .long (lI yy9), .ref a10, .long (lI yy11), .ref a12, .ref a13, .ref a14, .ref a15, .ref a16, .ref a17, .ref a18, .ref a19]) rfl dX3_draw_12 (fun σ46 h47 n48 => ?_)
  have G49 := G0.put t_h (⟨z1, yy2, z3, z43, z5, z6, a7, z8, yy9, a10, yy11, a12, a13, a14, a15, a16, a17, a18, a19, h47, ⟨by omega, by omega⟩, ⟨by omega, by omega⟩, ⟨by omega, by omega⟩, ⟨by omega, by omega⟩, ⟨by omega, by omega⟩, ⟨by omega, by omega⟩, t27, ⟨by omega, by omega⟩, ⟨by omega, by omega⟩, t30, ⟨by omega, by omega⟩, t32, t33, t34, t35, t36, t37, t38, t39⟩ : Ok K τ (33, 0, 0) (σ46 h)) n48
  have F50 := F0.put t_h (by simp) n48
  refine v_aload_n B dX3_draw_15 rfl rfl ?_
  refine u_get B Z (C := RX3) (T := TX3) (N := 19) (ci := 3) hi_Device_draw_X3 t_h h47 rfl 3 (by decide +kernel) (List.mem_of_getElem? (i := 1) rfl) rfl dX3_draw_16 ?_
  refine v_bipush B (v := iI 16) dX3_draw_19 (by decide +kernel) ?_
  obtain ⟨z51, e52⟩ : ∃ z : Int, z = z43 / 65536 := ⟨_, rfl⟩
  refine v_ishr B (v := iI z51) dX3_draw_21 ((iI_shr (a := z43) (by omega) 16 (by decide)).trans (congrArg iI (by omega))) ?_
  refine v_sipush B (v := iI 255) dX3_draw_22 (by decide +kernel) ?_
  obtain ⟨z53, e54, r55⟩ := iI_and z51 (c := 255) (by decide) (by decide)
  refine v_iand B (v := iI z53) dX3_draw_25 e54 ?_
  exact hend σ46 z53 _ _ G49 F50 ⟨by omega, by omega⟩ dX3_draw_26
set_option maxRecDepth 100000 in
theorem c_Device_draw (l : Launch) (D : va_G) (K : Nat → ClassId) {τ : Nat → Option Ty} {dom : List Nat} (Z : Sk τ dom) (zb zL : Nat) (zx : Nat → Int32) (zs : Nat → Nat) (h : Nat) (t_h : τ h = some (33, 0, 0)) (σ0 : Nat → va_E) (G0 : Good K τ σ0) : MZ l yX3_draw wp_Device_draw ({ frames := 0, cells := 0, slots := 0, locals := 0 }) D (tysA K) [.ref h] (fd dom σ0) zb zL zx zs (Qi D (fun r σ' => Good K τ σ' ∧ Fr τ [(33, 0)] σ0 σ' ∧ ∃ z : Int, r = iI z ∧ (0 ≤ z ∧ z ≤ 255)) (fun σ' => fd dom σ')) 0 0 := by
  refine mz_of (cc := cX3_draw) (maxL := 1) (ret := (some .int)) (by decide +kernel) rfl (Nat.le_of_ble_eq_true rfl) ?_
  intro p e s m below meth c A B hr hlk _ hz
  exact b_Device_draw ⟨Nat.le_refl _, Nat.le_refl _⟩ B Z hz h t_h σ0 G0 (fun σ' z lv pc G F hZ hd => v_iret B hr hlk σ' ⟨G, F, z, rfl, hZ⟩ rfl (Nat.le_refl _) (Nat.le_refl _) hd)

def wp_Device_drawNumber : List Cond := .code yX3_drawNumber cX3_drawNumber 4 (some .int) :: (([.methodLink RX3 89 yX3_draw, .instanceMethod yX3_draw, .selects RX3 yX3_draw yX3_draw, .initialized RX3, .code yX3_draw cX3_draw 1 (some .int), .fieldLink RX3 69 "LowEnergy$Device" "x" "I", .constant RX3 88 (1103515245)] : List Cond) ++ (wsX30 ++ ([])))
theorem hi_Device_drawNumber_X3 : ∀ x ∈ u_ws RX3 TX3 19, x ∈ wp_Device_drawNumber := fun _ h => List.mem_cons_of_mem _ (List.mem_append_right _ (List.mem_append_left _ h))
set_option maxRecDepth 100000 in
theorem gd_Device_drawNumber_Device_draw_89 : GoodIn wp_Device_drawNumber (wsV RX3 89 RX3 yX3_draw wp_Device_draw) := goodIn_app (goodIn_r _ [1, 2, 3, 4] rfl rfl) (goodIn_ca (goodIn_r _ [5, 6, 7] rfl rfl) (goodIn_app (goodIn_cls hi_Device_drawNumber_X3 gw_X3) (goodIn_nil)))
set_option maxHeartbeats 4000000 in
set_option maxRecDepth 100000 in
theorem b_Device_drawNumber {p : Program} {l : Launch} {e : Env} {R : Room} {s : State} {m : MethodId} {args : Array Value} {below : List Frame} {meth : Method} {c : Code} {D : va_G} {K : Nat → ClassId} {A : Nat → Prop} {Q : State → Prop} {τ : Nat → Option Ty} {dom : List Nat} {zb zL : Nat} {zx : Nat → Int32} {zs : Nat → Nat} (hR : 1 ≤ R.frames ∧ 20 ≤ R.locals) (B : Bx p s m args c cX3_drawNumber 4 RX3 wp_Device_drawNumber D (tysA K) A) (Z : Sk τ dom) (hz : ZL zb zL zx zs A s s.heap) (h : Nat) (x1 : Int) (t_h : τ h = some (33, 0, 0)) (r_x1 : -2147483648 ≤ x1 ∧ x1 ≤ 2147483647) (σ0 : Nat → va_E) (G0 : Good K τ σ0) (hend : ∀ (σ' : Nat → va_E) (z : Int) (lv : List (Nat × Value)) (pc : Nat), Good K τ σ' → Fr τ [(33, 0)] σ0 σ' → (-2147483648 ≤ z ∧ z ≤ 2147483647) → decode cX3_drawNumber pc = .ok (.ireturn, 1) → V p l e R s m args below meth c 4 D A Q (0, 0) (fd dom σ') lv pc [.int (iI z)]) : V p l e R s m args below meth c 4 D A Q (0, 0) (fd dom σ0) [(0, .ref h), (1, .int (iI x1))] 0 [] := by
  have F0 : Fr τ [(33, 0)] σ0 σ0 := Fr.rf
  have J4 : ∀ (k4 : Nat) (σ_4 : Nat → va_E) (z4_2 : Int) (z4_3 : Int), (2147483648 - z4_3).toNat ≤ k4 → Good K τ σ_4 → Fr τ [(33, 0)] σ0 σ_4 → (-2147483648 ≤ z4_2 ∧ z4_2 ≤ 2147483647) → (0 ≤ z4_3 ∧ z4_3 ≤ 4) → V p l e R s m args below meth c 4 D A Q (0, 0) (fd dom σ_4) [(0, .ref h), (1, .int (iI x1)), (2, .int (iI z4_2)), (3, .int (iI z4_3))] 4 [] := by
    intro k4
    induction k4 with
    | zero => intro σ_4 z4_2 z4_3 m4 G_4 F_4 r4_2 r4_3; omega
    | succ k4 IH4 =>
      intro σ_4 z4_2 z4_3 m4 G_4 F_4 r4_2 r4_3
      refine v_iload_n B dX3_drawNumber_4 rfl rfl ?_
      refine v_iload_n B dX3_drawNumber_5 rfl rfl ?_
      refine u_icmp_ge B (tgt := 32) (by omega) (by omega) dX3_drawNumber_6 (by decide +kernel) (fun c1 => ?_) (fun c1 => ?_)
      · refine v_iload_n B dX3_drawNumber_32 rfl rfl ?_
        exact hend σ_4 z4_2 _ _ G_4 F_4 ⟨by omega, by omega⟩ dX3_drawNumber_33
      · refine v_iload_n B dX3_drawNumber_9 rfl rfl ?_
        refine v_iconst B (v := iI 4) dX3_drawNumber_10 rfl ?_
        refine u_icmp_ge B (tgt := 32) (by omega) (by omega) dX3_drawNumber_11 (by decide +kernel) (fun c2 => ?_) (fun c2 => ?_)
        · refine v_iload_n B dX3_drawNumber_32 rfl rfl ?_
          exact hend σ_4 z4_2 _ _ G_4 F_4 ⟨by omega, by omega⟩ dX3_drawNumber_33
        · refine v_iload_n B dX3_drawNumber_14 rfl rfl ?_
          refine v_aload_n B dX3_drawNumber_15 rfl rfl ?_
          refine u_callVi B Z hz (n := 0) (As := []) (rest := [.int (iI z4_2)]) (c_Device_draw l D K Z _ _ _ _ h t_h σ_4 G_4) gd_Device_drawNumber_Device_draw_89 rfl rfl rfl (by decide +kernel) ⟨Nat.le_trans (by decide +kernel) hR.1, Nat.le_trans (by decide +kernel) hR.2⟩ t_h (cls_Device G_4 t_h) rfl rfl rfl rfl (Nat.le_of_ble_eq_true rfl) dX3_drawNumber_16 ⟨Nat.zero_le _, Nat.zero_le _⟩ (fun v5 σ3 p4 => ?_)
          obtain ⟨G6, F7, z9, e10, r11⟩ := p4
          subst e10
          have F8 := F_4.call F7 (by first | rfl | simp)
          refine v_bipush B (v := iI 8) dX3_drawNumber_19 (by decide +kernel) ?_
          refine v_iload_n B dX3_drawNumber_21 rfl rfl ?_
          refine v_imul B (v := iI (8 * z4_3)) dX3_drawNumber_22 ((iI_mul _ _).trans (congrArg iI (by omega))) ?_
          obtain ⟨z12, e13, r14⟩ := iI_any (iI z9 <<< (iI (8 * z4_3) &&& 31))
          refine v_ishl B (v := iI z12) dX3_drawNumber_23 e13 ?_
          obtain ⟨z15, e16, r17⟩ := iI_any (iI z4_2 ||| iI z12)
          refine v_ior B (v := iI z15) dX3_drawNumber_24 e16 ?_
          refine v_istore_n B (lv' := [(2, .int (iI z15)), (0, .ref h), (1, .int (iI x1)), (3, .int (iI z4_3))]) dX3_drawNumber_25 rfl (by decide +kernel) rfl ?_
          refine v_iinc B (k := 3) (v := iI (z4_3 + 1)) (lv' := [(3, .int (iI (z4_3 + 1))), (2, .int (iI z15)), (0, .ref h), (1, .int (iI x1))]) dX3_drawNumber_26 rfl ((iI_add _ _).trans (congrArg iI (by omega))) (by decide +kernel) rfl ?_
          refine v_goto B (tgt := 4) dX3_drawNumber_29 (by decide +kernel) ?_
          refine v_lv [2, 3, 1, 0] rfl ?_
          exact IH4 σ3 z15 (z4_3 + 1) (by omega) G6 F8 ⟨by omega, by omega⟩ ⟨by omega, by omega⟩
  refine v_iconst B (v := iI 0) dX3_drawNumber_0 rfl ?_
  refine v_istore_n B (lv' := [(2, .int (iI 0)), (0, .ref h), (1, .int (iI x1))]) dX3_drawNumber_1 rfl (by decide +kernel) rfl ?_
  refine v_iconst B (v := iI 0) dX3_drawNumber_2 rfl ?_
  refine v_istore_n B (lv' := [(3, .int (iI 0)), (2, .int (iI 0)), (0, .ref h), (1, .int (iI x1))]) dX3_drawNumber_3 rfl (by decide +kernel) rfl ?_
  refine v_lv [2, 3, 1, 0] rfl ?_
  exact J4 _ σ0 0 0 (Nat.le_refl _) G0 F0 ⟨by omega, by omega⟩ ⟨by omega, by omega⟩
set_option maxRecDepth 100000 in
theorem c_Device_drawNumber (l : Launch) (D : va_G) (K : Nat → ClassId) {τ : Nat → Option Ty} {dom : List Nat} (Z : Sk τ dom) (zb zL : Nat) (zx : Nat → Int32) (zs : Nat → Nat) (h : Nat) (x1 : Int) (t_h : τ h = some (33, 0, 0)) (r_x1 : -2147483648 ≤ x1 ∧ x1 ≤ 2147483647) (σ0 : Nat → va_E) (G0 : Good K τ σ0) : MZ l yX3_drawNumber wp_Device_drawNumber ({ frames := 1, cells := 0, slots := 0, locals := 20 }) D (tysA K) [.ref h, .int (iI x1)] (fd dom σ0) zb zL zx zs (Qi D (fun r σ' => Good K τ σ' ∧ Fr τ [(33, 0)] σ0 σ' ∧ ∃ z : Int, r = iI z ∧ (-2147483648 ≤ z ∧ z ≤ 2147483647)) (fun σ' => fd dom σ')) 0 0 := by
  refine mz_of (cc := cX3_drawNumber) (maxL := 4) (ret := (some .int)) (by decide +kernel) rfl (Nat.le_of_ble_eq_true rfl) ?_
  intro p e s m below meth c A B hr hlk _ hz
  exact b_Device_drawNumber ⟨Nat.le_refl _, Nat.le_refl _⟩ B Z hz h x1 t_h r_x1 σ0 G0 (fun σ' z lv pc G F hZ hd => v_iret B hr hlk σ' ⟨G, F, z, rfl, hZ⟩ rfl (Nat.le_refl _) (Nat.le_refl _) hd)

def wp_Device_inLink : List Cond := .code yX3_inLink cX3_inLink 1 (some .boolean) :: (([.fieldLink RX3 93 "LowEnergy$Device" "state" "I"] : List Cond) ++ (wsX30 ++ ([])))
theorem hi_Device_inLink_X3 : ∀ x ∈ u_ws RX3 TX3 19, x ∈ wp_Device_inLink := fun _ h => List.mem_cons_of_mem _ (List.mem_append_right _ (List.mem_append_left _ h))
set_option maxHeartbeats 4000000 in
set_option maxRecDepth 100000 in
theorem b_Device_inLink {p : Program} {l : Launch} {e : Env} {R : Room} {s : State} {m : MethodId} {args : Array Value} {below : List Frame} {meth : Method} {c : Code} {D : va_G} {K : Nat → ClassId} {A : Nat → Prop} {Q : State → Prop} {τ : Nat → Option Ty} {dom : List Nat} {zb zL : Nat} {zx : Nat → Int32} {zs : Nat → Nat} (hR : 0 ≤ R.frames ∧ 0 ≤ R.locals) (B : Bx p s m args c cX3_inLink 1 RX3 wp_Device_inLink D (tysA K) A) (Z : Sk τ dom) (hz : ZL zb zL zx zs A s s.heap) (h : Nat) (t_h : τ h = some (33, 0, 0)) (σ0 : Nat → va_E) (G0 : Good K τ σ0) (hend : ∀ (z : Int) (lv : List (Nat × Value)) (pc : Nat), (0 ≤ z ∧ z ≤ 1) → decode cX3_inLink pc = .ok (.ireturn, 1) → V p l e R s m args below meth c 1 D A Q (0, 0) (fd dom σ0) lv pc [.int (iI z)]) : V p l e R s m args below meth c 1 D A Q (0, 0) (fd dom σ0) [(0, .ref h)] 0 [] := by
  have F0 : Fr τ [] σ0 σ0 := Fr.rf
  refine v_aload_n B dX3_inLink_0 rfl rfl ?_
  obtain ⟨z1, yy2, z3, z4, z5, z6, a7, z8, yy9, a10, yy11, a12, a13, a14, a15, a16, a17, a18, a19, h20, r21, r22, r23, r24, r25, r26, t27, r28, r29, t30, r31, t32, t33, t34, t35, t36, t37, t38, t39⟩ : okDevice τ (σ0 h) := G0 h _ t_h
  refine u_get B Z (C := RX3) (T := TX3) (N := 19) (ci := 3) hi_Device_inLink_X3 t_h h20 rfl 2 (by decide +kernel) (List.mem_of_getElem? (i := 1) rfl) rfl dX3_inLink_1 ?_
  refine v_iconst B (v := iI 4) dX3_inLink_4 rfl ?_
  refine u_icmp_eq B (tgt := 16) (by omega) (by omega) dX3_inLink_5 (by decide +kernel) (fun c40 => ?_) (fun c40 => ?_)
  · refine v_iconst B (v := iI 1) dX3_inLink_16 rfl ?_
    refine v_goto B (tgt := 21) dX3_inLink_17 (by decide +kernel) ?_
    exact hend 1 _ _ ⟨by omega, by omega⟩ dX3_inLink_21
  · refine v_aload_n B dX3_inLink_8 rfl rfl ?_
    refine u_get B Z (C := RX3) (T := TX3) (N := 19) (ci := 3) hi_Device_inLink_X3 t_h h20 rfl 2 (by decide +kernel) (List.mem_of_getElem? (i := 1) rfl) rfl dX3_inLink_9 ?_
    refine v_iconst B (v := iI 5) dX3_inLink_12 rfl ?_
    refine u_icmp_ne B (tgt := 20) (by omega) (by omega) dX3_inLink_13 (by decide +kernel) (fun c41 => ?_) (fun c41 => ?_)
    · refine v_iconst B (v := iI 0) dX3_inLink_20 rfl ?_
      exact hend 0 _ _ ⟨by omega, by omega⟩ dX3_inLink_21
    · refine v_iconst B (v := iI 1) dX3_inLink_16 rfl ?_
      refine v_goto B (tgt := 21) dX3_inLink_17 (by decide +kernel) ?_
      exact hend 1 _ _ ⟨by omega, by omega⟩ dX3_inLink_21
set_option maxRecDepth 100000 in
theorem c_Device_inLink (l : Launch) (D : va_G) (K : Nat → ClassId) {τ : Nat → Option Ty} {dom : List Nat} (Z : Sk τ dom) (zb zL : Nat) (zx : Nat → Int32) (zs : Nat → Nat) (h : Nat) (t_h : τ h = some (33, 0, 0)) (σ0 : Nat → va_E) (G0 : Good K τ σ0) : MZ l yX3_inLink wp_Device_inLink ({ frames := 0, cells := 0, slots := 0, locals := 0 }) D (tysA K) [.ref h] (fd dom σ0) zb zL zx zs (Qi D (fun r σ' => σ0 = σ' ∧ ∃ z : Int, r = iI z ∧ (0 ≤ z ∧ z ≤ 1)) (fun σ' => fd dom σ')) 0 0 := by
  refine mz_of (cc := cX3_inLink) (maxL := 1) (ret := (some .boolean)) (by decide +kernel) rfl (Nat.le_of_ble_eq_true rfl) ?_
  intro p e s m below meth c A B hr hlk _ hz
  exact b_Device_inLink ⟨Nat.le_refl _, Nat.le_refl _⟩ B Z hz h t_h σ0 G0 (fun z lv pc hZ hd => v_zret B hr hlk (nar01 (by omega)) σ0 ⟨rfl, z, rfl, hZ⟩ rfl (Nat.le_refl _) (Nat.le_refl _) hd)

def wp_Device_hasEventAt : List Cond := .code yX3_hasEventAt cX3_hasEventAt 2 (some .boolean) :: (([.methodLink RX3 96 yX3_inLink, .instanceMethod yX3_inLink, .selects RX3 yX3_inLink yX3_inLink, .initialized RX3, .code yX3_inLink cX3_inLink 1 (some .boolean), .fieldLink RX3 93 "LowEnergy$Device" "state" "I", .fieldLink RX3 26 "LowEnergy$Device" "link" "LLowEnergy$Link;"] : List Cond) ++ (wsX30 ++ (wsX60 ++ ([]))))
theorem hi_Device_hasEventAt_X3 : ∀ x ∈ u_ws RX3 TX3 19, x ∈ wp_Device_hasEventAt := fun _ h => List.mem_cons_of_mem _ (List.mem_append_right _ (List.mem_append_left _ h))
theorem hi_Device_hasEventAt_X6 : ∀ x ∈ u_ws RX6 TX6 20, x ∈ wp_Device_hasEventAt := fun _ h => List.mem_cons_of_mem _ (List.mem_append_right _ (List.mem_append_right _ (List.mem_append_left _ h)))
set_option maxRecDepth 100000 in
theorem gd_Device_hasEventAt_Device_inLink_96 : GoodIn wp_Device_hasEventAt (wsV RX3 96 RX3 yX3_inLink wp_Device_inLink) := goodIn_app (goodIn_r _ [1, 2, 3, 4] rfl rfl) (goodIn_ca (goodIn_r _ [5, 6] rfl rfl) (goodIn_app (goodIn_cls hi_Device_hasEventAt_X3 gw_X3) (goodIn_nil)))
set_option maxHeartbeats 4000000 in
set_option maxRecDepth 100000 in
theorem b_Device_hasEventAt {p : Program} {l : Launch} {e : Env} {R : Room} {s : State} {m : MethodId} {args : Array Value} {below : List Frame} {meth : Method} {c : Code} {D : va_G} {K : Nat → ClassId} {A : Nat → Prop} {Q : State → Prop} {τ : Nat → Option Ty} {dom : List Nat} {zb zL : Nat} {zx : Nat → Int32} {zs : Nat → Nat} (hR : 1 ≤ R.frames ∧ 20 ≤ R.locals) (B : Bx p s m args c cX3_hasEventAt 2 RX3 wp_Device_hasEventAt D (tysA K) A) (Z : Sk τ dom) (hz : ZL zb zL zx zs A s s.heap) (h : Nat) (x1 : Int) (t_h : τ h = some (33, 0, 0)) (r_x1 : -2147483648 ≤ x1 ∧ x1 ≤ 2147483647) (σ0 : Nat → va_E) (G0 : Good K τ σ0) (hend : ∀ (z : Int) (lv : List (Nat × Value)) (pc : Nat), (0 ≤ z ∧ z ≤ 1) → decode cX3_hasEventAt pc = .ok (.ireturn, 1) → V p l e R s m args below meth c 2 D A Q (0, 0) (fd dom σ0) lv pc [.int (iI z)]) : V p l e R s m args below meth c 2 D A Q (0, 0) (fd dom σ0) [(0, .ref h), (1, .int (iI x1))] 0 [] := by
  have F0 : Fr τ [] σ0 σ0 := Fr.rf
  refine v_aload_n B dX3_hasEventAt_0 rfl rfl ?_
  refine u_callVi B Z hz (n := 0) (As := []) (rest := []) (c_Device_inLink l D K Z _ _ _ _ h t_h σ0 G0) gd_Device_hasEventAt_Device_inLink_96 rfl rfl rfl (by decide +kernel) ⟨Nat.le_trans (by decide +kernel) hR.1, Nat.le_trans (by decide +kernel) hR.2⟩ t_h (cls_Device G0 t_h) rfl rfl rfl rfl (Nat.le_of_ble_eq_true rfl) dX3_hasEventAt_1 ⟨Nat.zero_le _, Nat.zero_le _⟩ (fun v3 σ1 p2 => ?_)
  obtain ⟨rfl, z7, e8, r9⟩ := p2
  subst e8
  refine u_if_eq B (tgt := 22) (by omega) dX3_hasEventAt_4 (by decide +kernel) (fun c10 => ?_) (fun c10 => ?_)
  · refine v_iconst B (v := iI 0) dX3_hasEventAt_22 rfl ?_
    exact hend 0 _ _ ⟨by omega, by omega⟩ dX3_hasEventAt_23
  · refine v_aload_n B dX3_hasEventAt_7 rfl rfl ?_
    obtain ⟨z11, yy12, z13, z14, z15, z16, a17, z18, yy19, a20, yy21, a22, a23, a24, a25, a26, a27, a28, a29, h30, r31, r32, r33, r34, r35, r36, t37, r38, r39, t40, r41, t42, t43, t44, t45, t46, t47, t48, t49⟩ : okDevice τ (σ0 h) := G0 h _ t_h
    refine u_get B Z (C := RX3) (T := TX3) (N := 19) (ci := 3) hi_Device_hasEventAt_X3 t_h h30 rfl 11 (by decide +kernel) (List.mem_of_getElem? (i := 7) rfl) rfl dX3_hasEventAt_8 ?_
    obtain ⟨z50, z51, z52, z53, z54, yy55, yy56, z57, z58, z59, z60, z61, z62, z63, z64, z65, z66, z67, z68, yy69, h70, r71, r72, r73, r74, r75, r76, r77, r78, r79, r80, r81, r82, r83, r84, r85, r86, r87, r88, r89, r90⟩ : okLink τ (σ0 a22) := G0 a22 _ t42
    refine u_getN B Z (C := RX6) (T := TX6) (N := 20) (ci := 6) hi_Device_hasEventAt_X6 t42 h70 rfl 9 (by decide +kernel) (List.mem_of_getElem? (i := 76) rfl) rfl dX3_hasEventAt_11 ?_
    refine v_iload_n B dX3_hasEventAt_14 rfl rfl ?_
    refine u_icmp_ne B (tgt := 22) (by omega) (by omega) dX3_hasEventAt_15 (by decide +kernel) (fun c91 => ?_) (fun c91 => ?_)
    · refine v_iconst B (v := iI 0) dX3_hasEventAt_22 rfl ?_
      exact hend 0 _ _ ⟨by omega, by omega⟩ dX3_hasEventAt_23
    · refine v_iconst B (v := iI 1) dX3_hasEventAt_18 rfl ?_
      refine v_goto B (tgt := 23) dX3_hasEventAt_19 (by decide +kernel) ?_
      exact hend 1 _ _ ⟨by omega, by omega⟩ dX3_hasEventAt_23
set_option maxRecDepth 100000 in
theorem c_Device_hasEventAt (l : Launch) (D : va_G) (K : Nat → ClassId) {τ : Nat → Option Ty} {dom : List Nat} (Z : Sk τ dom) (zb zL : Nat) (zx : Nat → Int32) (zs : Nat → Nat) (h : Nat) (x1 : Int) (t_h : τ h = some (33, 0, 0)) (r_x1 : -2147483648 ≤ x1 ∧ x1 ≤ 2147483647) (σ0 : Nat → va_E) (G0 : Good K τ σ0) : MZ l yX3_hasEventAt wp_Device_hasEventAt ({ frames := 1, cells := 0, slots := 0, locals := 20 }) D (tysA K) [.ref h, .int (iI x1)] (fd dom σ0) zb zL zx zs (Qi D (fun r σ' => σ0 = σ' ∧ ∃ z : Int, r = iI z ∧ (0 ≤ z ∧ z ≤ 1)) (fun σ' => fd dom σ')) 0 0 := by
  refine mz_of (cc := cX3_hasEventAt) (maxL := 2) (ret := (some .boolean)) (by decide +kernel) rfl (Nat.le_of_ble_eq_true rfl) ?_
  intro p e s m below meth c A B hr hlk _ hz
  exact b_Device_hasEventAt ⟨Nat.le_refl _, Nat.le_refl _⟩ B Z hz h x1 t_h r_x1 σ0 G0 (fun z lv pc hZ hd => v_zret B hr hlk (nar01 (by omega)) σ0 ⟨rfl, z, rfl, hZ⟩ rfl (Nat.le_refl _) (Nat.le_refl _) hd)

def wp_Device_mayControl : List Cond := .code yX3_mayControl cX3_mayControl 1 (some .boolean) :: (([.fieldLink RX3 33 "LowEnergy$Device" "mail" "LLowEnergy$Mail;", .fieldLink RX3 77 "LowEnergy$Device" "guard" "LLowEnergy$Guard;"] : List Cond) ++ (wsX30 ++ (wsX70 ++ (wsX50 ++ ([])))))
theorem hi_Device_mayControl_X3 : ∀ x ∈ u_ws RX3 TX3 19, x ∈ wp_Device_mayControl := fun _ h => List.mem_cons_of_mem _ (List.mem_append_right _ (List.mem_append_left _ h))
theorem hi_Device_mayControl_X7 : ∀ x ∈ u_ws RX7 TX7 16, x ∈ wp_Device_mayControl := fun _ h => List.mem_cons_of_mem _ (List.mem_append_right _ (List.mem_append_right _ (List.mem_append_left _ h)))
theorem hi_Device_mayControl_X5 : ∀ x ∈ u_ws RX5 TX5 16, x ∈ wp_Device_mayControl := fun _ h => List.mem_cons_of_mem _ (List.mem_append_right _ (List.mem_append_right _ (List.mem_append_right _ (List.mem_append_left _ h))))
set_option maxHeartbeats 4000000 in
set_option maxRecDepth 100000 in
theorem b_Device_mayControl {p : Program} {l : Launch} {e : Env} {R : Room} {s : State} {m : MethodId} {args : Array Value} {below : List Frame} {meth : Method} {c : Code} {D : va_G} {K : Nat → ClassId} {A : Nat → Prop} {Q : State → Prop} {τ : Nat → Option Ty} {dom : List Nat} {zb zL : Nat} {zx : Nat → Int32} {zs : Nat → Nat} (hR : 0 ≤ R.frames ∧ 0 ≤ R.locals) (B : Bx p s m args c cX3_mayControl 1 RX3 wp_Device_mayControl D (tysA K) A) (Z : Sk τ dom) (hz : ZL zb zL zx zs A s s.heap) (h : Nat) (t_h : τ h = some (33, 0, 0)) (σ0 : Nat → va_E) (G0 : Good K τ σ0) (hend : ∀ (z : Int) (lv : List (Nat × Value)) (pc : Nat), (0 ≤ z ∧ z ≤ 1) → decode cX3_mayControl pc = .ok (.ireturn, 1) → V p l e R s m args below meth c 1 D A Q (0, 0) (fd dom σ0) lv pc [.int (iI z)]) : V p l e R s m args below meth c 1 D A Q (0, 0) (fd dom σ0) [(0, .ref h)] 0 [] := by
  have F0 : Fr τ [] σ0 σ0 := Fr.rf
  refine v_aload_n B dX3_mayControl_0 rfl rfl ?_
  obtain ⟨z1, yy2, z3, z4, z5, z6, a7, z8, yy9, a10, yy11, a12, a13, a14, a15, a16, a17, a18, a19, h20, r21, r22, r23, r24, r25, r26, t27, r28, r29, t30, r31, t32, t33, t34, t35, t36, t37, t38, t39⟩ : okDevice τ (σ0 h) := G0 h _ t_h
  refine u_get B Z (C := RX3) (T := TX3) (N := 19) (ci := 3) hi_Device_mayControl_X3 t_h h20 rfl 12 (by decide +kernel) (List.mem_of_getElem? (i := 1) rfl) rfl dX3_mayControl_1 ?_
  obtain ⟨a40, z41, z42, a43, z44, z45, z46, a47, z48, z49, z50, a51, z52, a53, z54, a55, h56, t57, r58, r59, t60, r61, r62, r63, t64, r65, r66, r67, t68, r69, t70, r71, t72⟩ : okMail τ (σ0 a13) := G0 a13 _ t33
  refine u_getN B Z (C := RX7) (T := TX7) (N := 16) (ci := 7) hi_Device_mayControl_X7 t33 h56 rfl 5 (by decide +kernel) (List.mem_of_getElem? (i := 77) rfl) rfl dX3_mayControl_4 ?_
  refine v_iconst B (v := iI 4) dX3_mayControl_7 rfl ?_
  refine u_icmp_gt B (tgt := 25) (by omega) (by omega) dX3_mayControl_8 (by decide +kernel) (fun c73 => ?_) (fun c73 => ?_)
  · refine v_iconst B (v := iI 0) dX3_mayControl_25 rfl ?_
    exact hend 0 _ _ ⟨by omega, by omega⟩ dX3_mayControl_26
  · refine v_aload_n B dX3_mayControl_11 rfl rfl ?_
    refine u_get B Z (C := RX3) (T := TX3) (N := 19) (ci := 3) hi_Device_mayControl_X3 t_h h20 rfl 13 (by decide +kernel) (List.mem_of_getElem? (i := 2) rfl) rfl dX3_mayControl_12 ?_
    obtain ⟨a74, a75, z76, a77, a78, a79, z80, z81, z82, z83, z84, z85, z86, z87, a88, a89, h90, t91, t92, r93, t94, t95, t96, r97, r98, r99, r100, r101, r102, r103, r104, t105, t106⟩ : okGuard τ (σ0 a14) := G0 a14 _ t34
    refine u_getN B Z (C := RX5) (T := TX5) (N := 16) (ci := 5) hi_Device_mayControl_X5 t34 h90 rfl 8 (by decide +kernel) (List.mem_of_getElem? (i := 78) rfl) rfl dX3_mayControl_15 ?_
    refine u_if_ne B (tgt := 25) (by omega) dX3_mayControl_18 (by decide +kernel) (fun c107 => ?_) (fun c107 => ?_)
    · refine v_iconst B (v := iI 0) dX3_mayControl_25 rfl ?_
      exact hend 0 _ _ ⟨by omega, by omega⟩ dX3_mayControl_26
    · refine v_iconst B (v := iI 1) dX3_mayControl_21 rfl ?_
      refine v_goto B (tgt := 26) dX3_mayControl_22 (by decide +kernel) ?_
      exact hend 1 _ _ ⟨by omega, by omega⟩ dX3_mayControl_26
set_option maxRecDepth 100000 in
theorem c_Device_mayControl (l : Launch) (D : va_G) (K : Nat → ClassId) {τ : Nat → Option Ty} {dom : List Nat} (Z : Sk τ dom) (zb zL : Nat) (zx : Nat → Int32) (zs : Nat → Nat) (h : Nat) (t_h : τ h = some (33, 0, 0)) (σ0 : Nat → va_E) (G0 : Good K τ σ0) : MZ l yX3_mayControl wp_Device_mayControl ({ frames := 0, cells := 0, slots := 0, locals := 0 }) D (tysA K) [.ref h] (fd dom σ0) zb zL zx zs (Qi D (fun r σ' => σ0 = σ' ∧ ∃ z : Int, r = iI z ∧ (0 ≤ z ∧ z ≤ 1)) (fun σ' => fd dom σ')) 0 0 := by
  refine mz_of (cc := cX3_mayControl) (maxL := 1) (ret := (some .boolean)) (by decide +kernel) rfl (Nat.le_of_ble_eq_true rfl) ?_
  intro p e s m below meth c A B hr hlk _ hz
  exact b_Device_mayControl ⟨Nat.le_refl _, Nat.le_refl _⟩ B Z hz h t_h σ0 G0 (fun z lv pc hZ hd => v_zret B hr hlk (nar01 (by omega)) σ0 ⟨rfl, z, rfl, hZ⟩ rfl (Nat.le_refl _) (Nat.le_refl _) hd)

def wp_drawIntoB : List Cond := .code yX3_drawInto cX3_drawInto 5 none :: (([.methodLink RX3 89 yX3_draw, .instanceMethod yX3_draw, .selects RX3 yX3_draw yX3_draw, .initialized RX3, .code yX3_draw cX3_draw 1 (some .int), .fieldLink RX3 69 "LowEnergy$Device" "x" "I", .constant RX3 88 (1103515245)] : List Cond) ++ (wsX30 ++ ([])))
theorem hi_drawIntoB_X3 : ∀ x ∈ u_ws RX3 TX3 19, x ∈ wp_drawIntoB := fun _ h => List.mem_cons_of_mem _ (List.mem_append_right _ (List.mem_append_left _ h))
set_option maxRecDepth 100000 in
theorem gd_drawIntoB_Device_draw_89 : GoodIn wp_drawIntoB (wsV RX3 89 RX3 yX3_draw wp_Device_draw) := goodIn_app (goodIn_r _ [1, 2, 3, 4] rfl rfl) (goodIn_ca (goodIn_r _ [5, 6, 7] rfl rfl) (goodIn_app (goodIn_cls hi_drawIntoB_X3 gw_X3) (goodIn_nil)))
set_option maxHeartbeats 4000000 in
set_option maxRecDepth 100000 in
theorem b_drawIntoB {p : Program} {l : Launch} {e : Env} {R : Room} {s : State} {m : MethodId} {args : Array Value} {below : List Frame} {meth : Method} {c : Code} {D : va_G} {K : Nat → ClassId} {A : Nat → Prop} {Q : State → Prop} {τ : Nat → Option Ty} {dom : List Nat} {zb zL : Nat} {zx : Nat → Int32} {zs : Nat → Nat} {π : Nat} {N : Nat} (hR : 1 ≤ R.frames ∧ 20 ≤ R.locals) (B : Bx p s m args c cX3_drawInto 5 RX3 wp_drawIntoB D (tysA K) A) (Z : Sk τ dom) (hz : ZL zb zL zx zs A s s.heap) (h : Nat) (g : Nat) (x2 : Int) (x3 : Int) (t_h : τ h = some (33, 0, 0)) (t_g : τ g = some (2, π, N)) (r_x2 : -2147483648 ≤ x2 ∧ x2 ≤ 2147483647) (r_x3 : -2147483648 ≤ x3 ∧ x3 ≤ 2147483647) (σ0 : Nat → va_E) (G0 : Good K τ σ0) (hend : ∀ (σ' : Nat → va_E) (lv : List (Nat × Value)) (pc : Nat), Good K τ σ' → Fr τ [(33, 0), (2, π)] σ0 σ' → decode cX3_drawInto pc = .ok (.return_, 1) → V p l e R s m args below meth c 5 D A Q (0, 0) (fd dom σ') lv pc []) : V p l e R s m args below meth c 5 D A Q (0, 0) (fd dom σ0) [(0, .ref h), (1, .ref g), (2, .int (iI x2)), (3, .int (iI x3))] 0 [] := by
  have F0 : Fr τ [(33, 0), (2, π)] σ0 σ0 := Fr.rf
  have J3 : ∀ (k3 : Nat) (σ_3 : Nat → va_E) (z3_4 : Int), (2147483648 - z3_4).toNat ≤ k3 → Good K τ σ_3 → Fr τ [(33, 0), (2, π)] σ0 σ_3 → (-2147483648 ≤ z3_4 ∧ z3_4 ≤ 2147483647) → V p l e R s m args below meth c 5 D A Q (0, 0) (fd dom σ_3) [(0, .ref h), (1, .ref g), (2, .int (iI x2)), (3, .int (iI x3)), (4, .int (iI z3_4))] 3 [] := by
    intro k3
    induction k3 with
    | zero => intro σ_3 z3_4 m3 G_3 F_3 r3_4; omega
    | succ k3 IH3 =>
      intro σ_3 z3_4 m3 G_3 F_3 r3_4
      refine v_iload B dX3_drawInto_3 rfl ?_
      refine v_iload_n B dX3_drawInto_5 rfl rfl ?_
      obtain ⟨z1, e2, r3⟩ := iI_any (iI z3_4 - iI x2)
      refine v_isub B (v := iI z1) dX3_drawInto_6 e2 ?_
      refine v_iload_n B dX3_drawInto_7 rfl rfl ?_
      refine u_icmp_ge B (tgt := 37) (by omega) (by omega) dX3_drawInto_8 (by decide +kernel) (fun c4 => ?_) (fun c4 => ?_)
      · exact hend σ_3 _ _ G_3 F_3 dX3_drawInto_37
      · refine v_iload B dX3_drawInto_11 rfl ?_
        refine u_if_lt B (tgt := 37) (by omega) dX3_drawInto_13 (by decide +kernel) (fun c5 => ?_) (fun c5 => ?_)
        · exact hend σ_3 _ _ G_3 F_3 dX3_drawInto_37
        · refine v_iload B dX3_drawInto_16 rfl ?_
          refine v_aload_n B dX3_drawInto_18 rfl rfl ?_
          obtain ⟨f6, h7, r8, e9⟩ : okB K N (σ_3 g) := G_3 g _ t_g
          refine u_alen B Z (t0 := 0) (v := ((N : Int))) t_g h7 rfl (by first | rfl | omega) dX3_drawInto_19 ?_
          refine u_icmp_ge B (tgt := 37) (by omega) (by omega) dX3_drawInto_20 (by decide +kernel) (fun c10 => ?_) (fun c10 => ?_)
          · exact hend σ_3 _ _ G_3 F_3 dX3_drawInto_37
          · refine v_aload_n B dX3_drawInto_23 rfl rfl ?_
            refine v_iload B dX3_drawInto_24 rfl ?_
            refine v_aload_n B dX3_drawInto_26 rfl rfl ?_
            refine u_callVi B Z hz (n := 0) (As := []) (rest := [.int (iI z3_4), .ref g]) (c_Device_draw l D K Z _ _ _ _ h t_h σ_3 G_3) gd_drawIntoB_Device_draw_89 rfl rfl rfl (by decide +kernel) ⟨Nat.le_trans (by decide +kernel) hR.1, Nat.le_trans (by decide +kernel) hR.2⟩ t_h (cls_Device G_3 t_h) rfl rfl rfl rfl (Nat.le_of_ble_eq_true rfl) dX3_drawInto_27 ⟨Nat.zero_le _, Nat.zero_le _⟩ (fun v13 σ11 p12 => ?_)
            obtain ⟨G14, F15, z17, e18, r19⟩ := p12
            subst e18
            have F16 := F_3.call F15 (by first | rfl | simp)
            have h20 := (F15 g _ t_g (by first | rfl | simp)).trans h7
            refine u_iast B Z (t0 := 0) t_g h20 rfl (by omega) dX3_drawInto_30 (fun σ21 h22 n23 => ?_)
            have G24 := G14.put t_g (⟨_, h22, r8, el_upd e9 (by omega) _⟩ : Ok K τ (2, π, N) (σ21 g)) n23
            have F25 := F16.put t_g (by simp) n23
            refine v_iinc B (k := 4) (v := iI (z3_4 + 1)) (lv' := [(4, .int (iI (z3_4 + 1))), (0, .ref h), (1, .ref g), (2, .int (iI x2)), (3, .int (iI x3))]) dX3_drawInto_31 rfl ((iI_add _ _).trans (congrArg iI (by omega))) (by decide +kernel) rfl ?_
            refine v_goto B (tgt := 3) dX3_drawInto_34 (by decide +kernel) ?_
            refine v_lv [1, 2, 3, 4, 0] rfl ?_
            exact IH3 σ21 (z3_4 + 1) (by omega) G24 F25 ⟨by omega, by omega⟩
  refine v_iload_n B dX3_drawInto_0 rfl rfl ?_
  refine v_istore B (lv' := [(4, .int (iI x2)), (0, .ref h), (1, .ref g), (2, .int (iI x2)), (3, .int (iI x3))]) dX3_drawInto_1 (by decide +kernel) rfl ?_
  refine v_lv [1, 2, 3, 4, 0] rfl ?_
  exact J3 _ σ0 x2 (Nat.le_refl _) G0 F0 ⟨by omega, by omega⟩
set_option maxRecDepth 100000 in
theorem c_drawIntoB (l : Launch) (D : va_G) (K : Nat → ClassId) {τ : Nat → Option Ty} {dom : List Nat} (Z : Sk τ dom) (zb zL : Nat) (zx : Nat → Int32) (zs : Nat → Nat) {π : Nat} {N : Nat} (h : Nat) (g : Nat) (x2 : Int) (x3 : Int) (t_h : τ h = some (33, 0, 0)) (t_g : τ g = some (2, π, N)) (r_x2 : -2147483648 ≤ x2 ∧ x2 ≤ 2147483647) (r_x3 : -2147483648 ≤ x3 ∧ x3 ≤ 2147483647) (σ0 : Nat → va_E) (G0 : Good K τ σ0) : MZ l yX3_drawInto wp_drawIntoB ({ frames := 1, cells := 0, slots := 0, locals := 20 }) D (tysA K) [.ref h, .ref g, .int (iI x2), .int (iI x3)] (fd dom σ0) zb zL zx zs (Qv D (fun σ' => Good K τ σ' ∧ Fr τ [(33, 0), (2, π)] σ0 σ') (fun σ' => fd dom σ')) 0 0 := by
  refine mz_of (cc := cX3_drawInto) (maxL := 5) (ret := none) (by decide +kernel) rfl (Nat.le_of_ble_eq_true rfl) ?_
  intro p e s m below meth c A B hr hlk _ hz
  exact b_drawIntoB ⟨Nat.le_refl _, Nat.le_refl _⟩ B Z hz h g x2 x3 t_h t_g r_x2 r_x3 σ0 G0 (fun σ' lv pc G F hd => v_vret B hr hlk σ' ⟨G, F⟩ rfl (Nat.le_refl _) (Nat.le_refl _) hd)

def wp_drawIntoP : List Cond := .code yX3_drawInto cX3_drawInto 5 none :: (([.methodLink RX3 89 yX3_draw, .instanceMethod yX3_draw, .selects RX3 yX3_draw yX3_draw, .initialized RX3, .code yX3_draw cX3_draw 1 (some .int), .fieldLink RX3 69 "LowEnergy$Device" "x" "I", .constant RX3 88 (1103515245)] : List Cond) ++ (wsX30 ++ ([])))
theorem hi_drawIntoP_X3 : ∀ x ∈ u_ws RX3 TX3 19, x ∈ wp_drawIntoP := fun _ h => List.mem_cons_of_mem _ (List.mem_append_right _ (List.mem_append_left _ h))
set_option maxRecDepth 100000 in
theorem gd_drawIntoP_Device_draw_89 : GoodIn wp_drawIntoP (wsV RX3 89 RX3 yX3_draw wp_Device_draw) := goodIn_app (goodIn_r _ [1, 2, 3, 4] rfl rfl) (goodIn_ca (goodIn_r _ [5, 6, 7] rfl rfl) (goodIn_app (goodIn_cls hi_drawIntoP_X3 gw_X3) (goodIn_nil)))
set_option maxHeartbeats 4000000 in
set_option maxRecDepth 100000 in
theorem b_drawIntoP {p : Program} {l : Launch} {e : Env} {R : Room} {s : State} {m : MethodId} {args : Array Value} {below : List Frame} {meth : Method} {c : Code} {D : va_G} {K : Nat → ClassId} {A : Nat → Prop} {Q : State → Prop} {τ : Nat → Option Ty} {dom : List Nat} {zb zL : Nat} {zx : Nat → Int32} {zs : Nat → Nat} {π : Nat} {N : Nat} (hR : 1 ≤ R.frames ∧ 20 ≤ R.locals) (B : Bx p s m args c cX3_drawInto 5 RX3 wp_drawIntoP D (tysA K) A) (Z : Sk τ dom) (hz : ZL zb zL zx zs A s s.heap) (h : Nat) (g : Nat) (x2 : Int) (x3 : Int) (t_h : τ h = some (33, 0, 0)) (t_g : τ g = some (3, π, N)) (r_x2 : -2147483648 ≤ x2 ∧ x2 ≤ 2147483647) (r_x3 : -2147483648 ≤ x3 ∧ x3 ≤ 2147483647) (σ0 : Nat → va_E) (G0 : Good K τ σ0) (hend : ∀ (σ' : Nat → va_E) (lv : List (Nat × Value)) (pc : Nat), Good K τ σ' → Fr τ [(33, 0), (3, π)] σ0 σ' → decode cX3_drawInto pc = .ok (.return_, 1) → V p l e R s m args below meth c 5 D A Q (0, 0) (fd dom σ') lv pc []) : V p l e R s m args below meth c 5 D A Q (0, 0) (fd dom σ0) [(0, .ref h), (1, .ref g), (2, .int (iI x2)), (3, .int (iI x3))] 0 [] := by
  have F0 : Fr τ [(33, 0), (3, π)] σ0 σ0 := Fr.rf
  have J3 : ∀ (k3 : Nat) (σ_3 : Nat → va_E) (z3_4 : Int), (2147483648 - z3_4).toNat ≤ k3 → Good K τ σ_3 → Fr τ [(33, 0), (3, π)] σ0 σ_3 → (-2147483648 ≤ z3_4 ∧ z3_4 ≤ 2147483647) → V p l e R s m args below meth c 5 D A Q (0, 0) (fd dom σ_3) [(0, .ref h), (1, .ref g), (2, .int (iI x2)), (3, .int (iI x3)), (4, .int (iI z3_4))] 3 [] := by
    intro k3
    induction k3 with
    | zero => intro σ_3 z3_4 m3 G_3 F_3 r3_4; omega
    | succ k3 IH3 =>
      intro σ_3 z3_4 m3 G_3 F_3 r3_4
      refine v_iload B dX3_drawInto_3 rfl ?_
      refine v_iload_n B dX3_drawInto_5 rfl rfl ?_
      obtain ⟨z1, e2, r3⟩ := iI_any (iI z3_4 - iI x2)
      refine v_isub B (v := iI z1) dX3_drawInto_6 e2 ?_
      refine v_iload_n B dX3_drawInto_7 rfl rfl ?_
      refine u_icmp_ge B (tgt := 37) (by omega) (by omega) dX3_drawInto_8 (by decide +kernel) (fun c4 => ?_) (fun c4 => ?_)
      · exact hend σ_3 _ _ G_3 F_3 dX3_drawInto_37
      · refine v_iload B dX3_drawInto_11 rfl ?_
        refine u_if_lt B (tgt := 37) (by omega) dX3_drawInto_13 (by decide +kernel) (fun c5 => ?_) (fun c5 => ?_)
        · exact hend σ_3 _ _ G_3 F_3 dX3_drawInto_37
        · refine v_iload B dX3_drawInto_16 rfl ?_
          refine v_aload_n B dX3_drawInto_18 rfl rfl ?_
          obtain ⟨f6, h7, r8⟩ : okP K N (σ_3 g) := G_3 g _ t_g
          refine u_alen B Z (t0 := 0) (v := ((N : Int))) t_g h7 rfl (by first | rfl | omega) dX3_drawInto_19 ?_
          refine u_icmp_ge B (tgt := 37) (by omega) (by omega) dX3_drawInto_20 (by decide +kernel) (fun c9 => ?_) (fun c9 => ?_)
          · exact hend σ_3 _ _ G_3 F_3 dX3_drawInto_37
          · refine v_aload_n B dX3_drawInto_23 rfl rfl ?_
            refine v_iload B dX3_drawInto_24 rfl ?_
            refine v_aload_n B dX3_drawInto_26 rfl rfl ?_
            refine u_callVi B Z hz (n := 0) (As := []) (rest := [.int (iI z3_4), .ref g]) (c_Device_draw l D K Z _ _ _ _ h t_h σ_3 G_3) gd_drawIntoP_Device_draw_89 rfl rfl rfl (by decide +kernel) ⟨Nat.le_trans (by decide +kernel) hR.1, Nat.le_trans (by decide +kernel) hR.2⟩ t_h (cls_Device G_3 t_h) rfl rfl rfl rfl (Nat.le_of_ble_eq_true rfl) dX3_drawInto_27 ⟨Nat.zero_le _, Nat.zero_le _⟩ (fun v12 σ10 p11 => ?_)
            obtain ⟨G13, F14, z16, e17, r18⟩ := p11
            subst e17
            have F15 := F_3.call F14 (by first | rfl | simp)
            have h19 := (F14 g _ t_g (by first | rfl | simp)).trans h7
            refine u_iast B Z (t0 := 0) t_g h19 rfl (by omega) dX3_drawInto_30 (fun σ20 h21 n22 => ?_)
            have G23 := G13.put t_g (⟨_, h21, r8⟩ : Ok K τ (3, π, N) (σ20 g)) n22
            have F24 := F15.put t_g (by simp) n22
            refine v_iinc B (k := 4) (v := iI (z3_4 + 1)) (lv' := [(4, .int (iI (z3_4 + 1))), (0, .ref h), (1, .ref g), (2, .int (iI x2)), (3, .int (iI x3))]) dX3_drawInto_31 rfl ((iI_add _ _).trans (congrArg iI (by omega))) (by decide +kernel) rfl ?_
            refine v_goto B (tgt := 3) dX3_drawInto_34 (by decide +kernel) ?_
            refine v_lv [1, 2, 3, 4, 0] rfl ?_
            exact IH3 σ20 (z3_4 + 1) (by omega) G23 F24 ⟨by omega, by omega⟩
  refine v_iload_n B dX3_drawInto_0 rfl rfl ?_
  refine v_istore B (lv' := [(4, .int (iI x2)), (0, .ref h), (1, .ref g), (2, .int (iI x2)), (3, .int (iI x3))]) dX3_drawInto_1 (by decide +kernel) rfl ?_
  refine v_lv [1, 2, 3, 4, 0] rfl ?_
  exact J3 _ σ0 x2 (Nat.le_refl _) G0 F0 ⟨by omega, by omega⟩
set_option maxRecDepth 100000 in
theorem c_drawIntoP (l : Launch) (D : va_G) (K : Nat → ClassId) {τ : Nat → Option Ty} {dom : List Nat} (Z : Sk τ dom) (zb zL : Nat) (zx : Nat → Int32) (zs : Nat → Nat) {π : Nat} {N : Nat} (h : Nat) (g : Nat) (x2 : Int) (x3 : Int) (t_h : τ h = some (33, 0, 0)) (t_g : τ g = some (3, π, N)) (r_x2 : -2147483648 ≤ x2 ∧ x2 ≤ 2147483647) (r_x3 : -2147483648 ≤ x3 ∧ x3 ≤ 2147483647) (σ0 : Nat → va_E) (G0 : Good K τ σ0) : MZ l yX3_drawInto wp_drawIntoP ({ frames := 1, cells := 0, slots := 0, locals := 20 }) D (tysA K) [.ref h, .ref g, .int (iI x2), .int (iI x3)] (fd dom σ0) zb zL zx zs (Qv D (fun σ' => Good K τ σ' ∧ Fr τ [(33, 0), (3, π)] σ0 σ') (fun σ' => fd dom σ')) 0 0 := by
  refine mz_of (cc := cX3_drawInto) (maxL := 5) (ret := none) (by decide +kernel) rfl (Nat.le_of_ble_eq_true rfl) ?_
  intro p e s m below meth c A B hr hlk _ hz
  exact b_drawIntoP ⟨Nat.le_refl _, Nat.le_refl _⟩ B Z hz h g x2 x3 t_h t_g r_x2 r_x3 σ0 G0 (fun σ' lv pc G F hd => v_vret B hr hlk σ' ⟨G, F⟩ rfl (Nat.le_refl _) (Nat.le_refl _) hd)

def wp_Device_report : List Cond := .code yX3_report cX3_report 2 none :: (([.fieldLink RX3 110 "LowEnergy$Device" "reports" "I", .methodLink RX3 113 yX9_numberAt, .instanceMethod yX9_numberAt, .selects RX9 yX9_numberAt yX9_numberAt, .initialized RX9, .code yX9_numberAt cX9_numberAt 7 (some .long), .fieldLink RX9 21 "LowEnergy$Row" "size" "I", .fieldLink RX9 15 "LowEnergy$Row" "bytes" "[I", .fieldLink RX3 117 "LowEnergy$Device" "reportAddress" "J", .fieldLink RX3 20 "LowEnergy$Device" "reportData" "LLowEnergy$Row;", .methodLink RX3 120 yX9_clear, .instanceMethod yX9_clear, .selects RX9 yX9_clear yX9_clear, .code yX9_clear cX9_clear 1 none, .methodLink RX3 126 yX9_putPart, .instanceMethod yX9_putPart, .selects RX9 yX9_putPart yX9_putPart, .code yX9_putPart cX9_putPart 6 none, .methodLink RX9 9 Lib.Math.max.name, .static Lib.Math.max.name, .initialized "java/lang/Math", .code Lib.Math.max.name Lib.Math.max.code 2 (some .int)] : List Cond) ++ (wsX30 ++ (wsX90 ++ ([]))))
theorem hi_Device_report_X3 : ∀ x ∈ u_ws RX3 TX3 19, x ∈ wp_Device_report := fun _ h => List.mem_cons_of_mem _ (List.mem_append_right _ (List.mem_append_left _ h))
theorem hi_Device_report_X9 : ∀ x ∈ u_ws RX9 TX9 2, x ∈ wp_Device_report := fun _ h => List.mem_cons_of_mem _ (List.mem_append_right _ (List.mem_append_right _ (List.mem_append_left _ h)))
set_option maxRecDepth 100000 in
theorem gd_Device_report_Row_numberAt_113 : GoodIn wp_Device_report (wsV RX3 113 RX9 yX9_numberAt wp_Row_numberAt) := goodIn_app (goodIn_r _ [2, 3, 4, 5] rfl rfl) (goodIn_ca (goodIn_r _ [6, 7, 8] rfl rfl) (goodIn_app (goodIn_cls hi_Device_report_X9 gw_X9) (goodIn_nil)))
set_option maxRecDepth 100000 in
theorem gd_Device_report_Row_clear_120 : GoodIn wp_Device_report (wsV RX3 120 RX9 yX9_clear wp_Row_clear) := goodIn_app (goodIn_r _ [11, 12, 13, 5] rfl rfl) (goodIn_ca (goodIn_r _ [14, 7] rfl rfl) (goodIn_app (goodIn_cls hi_Device_report_X9 gw_X9) (goodIn_nil)))
set_option maxRecDepth 100000 in
theorem gd_Device_report_Row_putPart_126 : GoodIn wp_Device_report (wsV RX3 126 RX9 yX9_putPart wp_Row_putPart) := goodIn_app (goodIn_r _ [15, 16, 17, 5] rfl rfl) (goodIn_ca (goodIn_r _ [18, 7, 8, 19, 20, 21, 22] rfl rfl) (goodIn_app (goodIn_cls hi_Device_report_X9 gw_X9) (goodIn_nil)))
set_option maxHeartbeats 4000000 in
set_option maxRecDepth 100000 in
theorem b_Device_report {p : Program} {l : Launch} {e : Env} {R : Room} {s : State} {m : MethodId} {args : Array Value} {below : List Frame} {meth : Method} {c : Code} {D : va_G} {K : Nat → ClassId} {A : Nat → Prop} {Q : State → Prop} {τ : Nat → Option Ty} {dom : List Nat} {zb zL : Nat} {zx : Nat → Int32} {zs : Nat → Nat} {π : Nat} (hR : 2 ≤ R.frames ∧ 38 ≤ R.locals) (B : Bx p s m args c cX3_report 2 RX3 wp_Device_report D (tysA K) A) (Z : Sk τ dom) (hz : ZL zb zL zx zs A s s.heap) (h : Nat) (g : Nat) (t_h : τ h = some (33, 0, 0)) (t_g : τ g = some (1, π, 0)) (σ0 : Nat → va_E) (G0 : Good K τ σ0) (hend : ∀ (σ' : Nat → va_E) (lv : List (Nat × Value)) (pc : Nat), Good K τ σ' → Fr τ [(33, 0), (1, 7), (2, 7)] σ0 σ' → decode cX3_report pc = .ok (.return_, 1) → V p l e R s m args below meth c 2 D A Q (0, 0) (fd dom σ') lv pc []) : V p l e R s m args below meth c 2 D A Q (0, 0) (fd dom σ0) [(0, .ref h), (1, .ref g)] 0 [] := by
  have F0 : Fr τ [(33, 0), (1, 7), (2, 7)] σ0 σ0 := Fr.rf
  refine v_aload_n B dX3_report_0 rfl rfl ?_
  refine v_dup B dX3_report_1 rfl ?_
  obtain ⟨z1, yy2, z3, z4, z5, z6, a7, z8, yy9, a10, yy11, a12, a13, a14, a15, a16, a17, a18, a19, h20, r21, r22, r23, r24, r25, r26, t27, r28, r29, t30, r31, t32, t33, t34, t35, t36, t37, t38, t39⟩ : okDevice τ (σ0 h) := G0 h _ t_h
  refine u_get B Z (C := RX3) (T := TX3) (N := 19) (ci := 3) hi_Device_report_X3 t_h h20 rfl 7 (by decide +kernel) (List.mem_of_getElem? (i := 1) rfl) rfl dX3_report_2 ?_
  refine v_iconst B (v := iI 1) dX3_report_5 rfl ?_
  obtain ⟨z40, e41, r42⟩ := iI_any (iI z8 + iI 1)
  refine v_iadd B (v := iI z40) dX3_report_6 e41 ?_
  refine u_put B Z (C := RX3) (T := TX3) (N := 19) (ci := 3) hi_Device_report_X3 t_h h20 rfl 7 (by decide +kernel) tyX3 tyX3_ok nmX3 (List.mem_of_getElem? (i := 1) rfl) rfl (ty := .int) (tyX3_ok 7 (by decide +kernel)) rfl rfl (Nat.le_of_ble_eq_true rfl) (fs' := [.int (iI z1), .long (lI yy2), .int (iI z3), .int (iI z4), .int (iI z5), .int (iI z6), .ref a7, .int (iI z40), .long (lI yy9), .ref a10, .long (lI yy11), .ref a12, .ref a13, .ref a14, .ref a15, .ref a16, .ref a17, .ref a18, .ref a19]) rfl dX3_report_7 (fun σ43 h44 n45 => ?_)
  have G46 := G0.put t_h (⟨z1, yy2, z3, z4, z5, z6, a7, z40, yy9, a10, yy11, a12, a13, a14, a15, a16, a17, a18, a19, h44, ⟨by omega, by omega⟩, ⟨by omega, by omega⟩, ⟨by omega, by omega⟩, ⟨by omega, by omega⟩, ⟨by omega, by omega⟩, ⟨by omega, by omega⟩, t27, ⟨by omega, by omega⟩, ⟨by omega, by omega⟩, t30, ⟨by omega, by omega⟩, t32, t33, t34, t35, t36, t37, t38, t39⟩ : Ok K τ (33, 0, 0) (σ43 h)) n45
  have F47 := F0.put t_h (by simp) n45
  refine v_aload_n B dX3_report_10 rfl rfl ?_
  refine v_aload_n B dX3_report_11 rfl rfl ?_
  refine v_iconst B (v := iI 0) dX3_report_12 rfl ?_
  refine v_bipush B (v := iI 6) dX3_report_13 (by decide +kernel) ?_
  refine u_callVl B Z hz (n := 2) (As := [.int (iI 0), .int (iI 6)]) (rest := [.ref h]) (c_Row_numberAt l D K Z _ _ _ _ g 0 6 t_g ⟨by omega, by omega⟩ ⟨by omega, by omega⟩ σ43 G46) gd_Device_report_Row_numberAt_113 rfl rfl rfl (by decide +kernel) ⟨Nat.le_trans (by decide +kernel) hR.1, Nat.le_trans (by decide +kernel) hR.2⟩ t_g (cls_Row G46 t_g) rfl rfl rfl rfl (Nat.le_of_ble_eq_true rfl) dX3_report_15 ⟨Nat.zero_le _, Nat.zero_le _⟩ (fun v50 σ48 p49 => ?_)
  obtain ⟨rfl, yy54, e55, r56⟩ := p49
  subst e55
  refine u_put B Z (C := RX3) (T := TX3) (N := 19) (ci := 3) hi_Device_report_X3 t_h h44 rfl 8 (by decide +kernel) tyX3 tyX3_ok nmX3 (List.mem_of_getElem? (i := 9) rfl) rfl (ty := .long) (tyX3_ok 8 (by decide +kernel)) rfl rfl (Nat.le_of_ble_eq_true rfl) (fs' := [.int (iI z1), .long (lI yy2), .int (iI z3), .int (iI z4), .int (iI z5), .int (iI z6), .ref a7, .int (iI z40), .long (lI yy54), .ref a10, .long (lI yy11), .ref a12, .ref a13, .ref a14, .ref a15, .ref a16, .ref a17, .ref a18, .ref a19]) rfl dX3_report_18 (fun σ57 h58 n59 => ?_)
  have G60 := G46.put t_h (⟨z1, yy2, z3, z4, z5, z6, a7, z40, yy54, a10, yy11, a12, a13, a14, a15, a16, a17, a18, a19, h58, ⟨by omega, by omega⟩, ⟨by omega, by omega⟩, ⟨by omega, by omega⟩, ⟨by omega, by omega⟩, ⟨by omega, by omega⟩, ⟨by omega, by omega⟩, t27, ⟨by omega, by omega⟩, ⟨by omega, by omega⟩, t30, ⟨by omega, by omega⟩, t32, t33, t34, t35, t36, t37, t38, t39⟩ : Ok K τ (33, 0, 0) (σ57 h)) n59
  have F61 := F47.put t_h (by simp) n59
  refine v_aload_n B dX3_report_21 rfl rfl ?_
  refine u_get B Z (C := RX3) (T := TX3) (N := 19) (ci := 3) hi_Device_report_X3 t_h h58 rfl 9 (by decide +kernel) (List.mem_of_getElem? (i := 10) rfl) rfl dX3_report_22 ?_
  refine u_callVv B Z hz (n := 0) (As := []) (rest := []) (c_Row_clear l D K Z _ _ _ _ a10 t30 σ57 G60) gd_Device_report_Row_clear_120 rfl rfl rfl (by decide +kernel) ⟨Nat.le_trans (by decide +kernel) hR.1, Nat.le_trans (by decide +kernel) hR.2⟩ t30 (cls_Row G60 t30) rfl rfl rfl rfl (Nat.le_of_ble_eq_true rfl) dX3_report_25 ⟨Nat.zero_le _, Nat.zero_le _⟩ (fun σ62 p63 => ?_)
  obtain ⟨G65, F66⟩ := p63
  have F67 := F61.call F66 (by first | rfl | simp)
  have h68 := (F66 h _ t_h (by first | rfl | simp)).trans h58
  refine v_aload_n B dX3_report_28 rfl rfl ?_
  refine u_get B Z (C := RX3) (T := TX3) (N := 19) (ci := 3) hi_Device_report_X3 t_h h68 rfl 9 (by decide +kernel) (List.mem_of_getElem? (i := 10) rfl) rfl dX3_report_29 ?_
  refine v_aload_n B dX3_report_32 rfl rfl ?_
  refine v_bipush B (v := iI 6) dX3_report_33 (by decide +kernel) ?_
  refine v_aload_n B dX3_report_35 rfl rfl ?_
  obtain ⟨b69, N70, n71, h72, t73, r74⟩ : okRow τ π (σ62 g) := G65 g _ t_g
  refine u_getN B Z (C := RX9) (T := TX9) (N := 2) (ci := 9) hi_Device_report_X9 t_g h72 rfl 1 (by decide +kernel) (List.mem_of_getElem? (i := 79) rfl) rfl dX3_report_36 ?_
  refine u_callVv B Z hz (n := 3) (As := [.ref g, .int (iI 6), .int (iI n71)]) (rest := []) (c_Row_putPart l D K Z _ _ _ _ a10 g 6 n71 t30 t_g ⟨by omega, by omega⟩ ⟨by omega, by omega⟩ σ62 G65) gd_Device_report_Row_putPart_126 rfl rfl rfl (by decide +kernel) ⟨Nat.le_trans (by decide +kernel) hR.1, Nat.le_trans (by decide +kernel) hR.2⟩ t30 (cls_Row G65 t30) rfl rfl rfl rfl (Nat.le_of_ble_eq_true rfl) dX3_report_39 ⟨Nat.zero_le _, Nat.zero_le _⟩ (fun σ75 p76 => ?_)
  obtain ⟨G78, F79⟩ := p76
  have F80 := F67.call F79 (by first | rfl | simp)
  have h81 := (F79 h _ t_h (by first | rfl | simp)).trans h68
  exact hend σ75 _ _ G78 F80 dX3_report_42
set_option maxRecDepth 100000 in
theorem c_Device_report (l : Launch) (D : va_G) (K : Nat → ClassId) {τ : Nat → Option Ty} {dom : List Nat} (Z : Sk τ dom) (zb zL : Nat) (zx : Nat → Int32) (zs : Nat → Nat) {π : Nat} (h : Nat) (g : Nat) (t_h : τ h = some (33, 0, 0)) (t_g : τ g = some (1, π, 0)) (σ0 : Nat → va_E) (G0 : Good K τ σ0) : MZ l yX3_report wp_Device_report ({ frames := 2, cells := 0, slots := 0, locals := 38 }) D (tysA K) [.ref h, .ref g] (fd dom σ0) zb zL zx zs (Qv D (fun σ' => Good K τ σ' ∧ Fr τ [(33, 0), (1, 7), (2, 7)] σ0 σ') (fun σ' => fd dom σ')) 0 0 := by
  refine mz_of (cc := cX3_report) (maxL := 2) (ret := none) (by decide +kernel) rfl (Nat.le_of_ble_eq_true rfl) ?_
  intro p e s m below meth c A B hr hlk _ hz
  exact b_Device_report ⟨Nat.le_refl _, Nat.le_refl _⟩ B Z hz h g t_h t_g σ0 G0 (fun σ' lv pc G F hd => v_vret B hr hlk σ' ⟨G, F⟩ rfl (Nat.le_refl _) (Nat.le_refl _) hd)

def wp_Device_accepts : List Cond := .code yX3_accepts cX3_accepts 7 (some .boolean) :: (([.methodLink RX3 113 yX9_numberAt, .instanceMethod yX9_numberAt, .selects RX9 yX9_numberAt yX9_numberAt, .initialized RX9, .code yX9_numberAt cX9_numberAt 7 (some .long), .fieldLink RX9 21 "LowEnergy$Row" "size" "I", .fieldLink RX9 15 "LowEnergy$Row" "bytes" "[I", .fieldLink RX3 65 "LowEnergy$Device" "address" "J", .methodLink RX3 130 yX9_two, .instanceMethod yX9_two, .selects RX9 yX9_two yX9_two, .code yX9_two cX9_two 2 (some .int), .methodLink RX3 134 yX9_at, .instanceMethod yX9_at, .selects RX9 yX9_at yX9_at, .code yX9_at cX9_at 2 (some .int), .methodLink RX3 137 yX6_isProper, .static yX6_isProper, .initialized RX6, .code yX6_isProper cX6_isProper 5 (some .boolean), .methodLink RX6 21 yX6_isProperMap, .static yX6_isProperMap, .code yX6_isProperMap cX6_isProperMap 2 (some .boolean), .methodLink RX6 25 yJ13_bitCount_95d88, .static yJ13_bitCount_95d88, .initialized RJ13, .code yJ13_bitCount_95d88 cJ13_bitCount_95d88 2 (some .int), .constantLong RJ13 314 (6148914691236517205), .constantLong RJ13 316 (3689348814741910323), .constantLong RJ13 318 (1085102592571150095), .fieldLink RX3 26 "LowEnergy$Device" "link" "LLowEnergy$Link;", .methodLink RX3 150 yX6_arrange, .instanceMethod yX6_arrange, .selects RX6 yX6_arrange yX6_arrange, .code yX6_arrange cX6_arrange 6 none, .fieldLink RX6 31 "LowEnergy$Link" "interval" "I", .fieldLink RX6 34 "LowEnergy$Link" "timeout" "I", .fieldLink RX6 37 "LowEnergy$Link" "hop" "I", .fieldLink RX6 40 "LowEnergy$Link" "map" "J"] : List Cond) ++ (wsX90 ++ (wsX30 ++ (wsX60 ++ ([])))))
theorem hi_Device_accepts_X9 : ∀ x ∈ u_ws RX9 TX9 2, x ∈ wp_Device_accepts := fun _ h => List.mem_cons_of_mem _ (List.mem_append_right _ (List.mem_append_left _ h))
theorem hi_Device_accepts_X3 : ∀ x ∈ u_ws RX3 TX3 19, x ∈ wp_Device_accepts := fun _ h => List.mem_cons_of_mem _ (List.mem_append_right _ (List.mem_append_right _ (List.mem_append_left _ h)))
theorem hi_Device_accepts_X6 : ∀ x ∈ u_ws RX6 TX6 20, x ∈ wp_Device_accepts := fun _ h => List.mem_cons_of_mem _ (List.mem_append_right _ (List.mem_append_right _ (List.mem_append_right _ (List.mem_append_left _ h))))
set_option maxRecDepth 100000 in
theorem gd_Device_accepts_Row_numberAt_113 : GoodIn wp_Device_accepts (wsV RX3 113 RX9 yX9_numberAt wp_Row_numberAt) := goodIn_app (goodIn_r _ [1, 2, 3, 4] rfl rfl) (goodIn_ca (goodIn_r _ [5, 6, 7] rfl rfl) (goodIn_app (goodIn_cls hi_Device_accepts_X9 gw_X9) (goodIn_nil)))
set_option maxRecDepth 100000 in
theorem gd_Device_accepts_Row_two_130 : GoodIn wp_Device_accepts (wsV RX3 130 RX9 yX9_two wp_Row_two) := goodIn_app (goodIn_r _ [9, 10, 11, 4] rfl rfl) (goodIn_ca (goodIn_r _ [12, 6, 7] rfl rfl) (goodIn_app (goodIn_cls hi_Device_accepts_X9 gw_X9) (goodIn_nil)))
set_option maxRecDepth 100000 in
theorem gd_Device_accepts_Row_at_134 : GoodIn wp_Device_accepts (wsV RX3 134 RX9 yX9_at wp_Row_at) := goodIn_app (goodIn_r _ [13, 14, 15, 4] rfl rfl) (goodIn_ca (goodIn_r _ [16, 6, 7] rfl rfl) (goodIn_app (goodIn_cls hi_Device_accepts_X9 gw_X9) (goodIn_nil)))
set_option maxRecDepth 100000 in
theorem gd_Device_accepts_Link_isProper_137 : GoodIn wp_Device_accepts (va_wsS RX3 137 yX6_isProper wp_Link_isProper) := goodIn_app (goodIn_r _ [17, 18, 19] rfl rfl) (goodIn_ca (goodIn_r _ [20, 21, 22, 19, 23, 24, 25, 26, 27, 28, 29, 30] rfl rfl) (goodIn_nil))
set_option maxRecDepth 100000 in
theorem gd_Device_accepts_Link_arrange_150 : GoodIn wp_Device_accepts (wsV RX3 150 RX6 yX6_arrange wp_Link_arrange) := goodIn_app (goodIn_r _ [32, 33, 34, 19] rfl rfl) (goodIn_ca (goodIn_r _ [35, 36, 37, 38, 39] rfl rfl) (goodIn_app (goodIn_cls hi_Device_accepts_X6 gw_X6) (goodIn_nil)))
set_option maxHeartbeats 4000000 in
set_option maxRecDepth 100000 in
theorem b_Device_accepts {p : Program} {l : Launch} {e : Env} {R : Room} {s : State} {m : MethodId} {args : Array Value} {below : List Frame} {meth : Method} {c : Code} {D : va_G} {K : Nat → ClassId} {A : Nat → Prop} {Q : State → Prop} {τ : Nat → Option Ty} {dom : List Nat} {zb zL : Nat} {zx : Nat → Int32} {zs : Nat → Nat} {π : Nat} (hR : 3 ≤ R.frames ∧ 66 ≤ R.locals) (B : Bx p s m args c cX3_accepts 7 RX3 wp_Device_accepts D (tysA K) A) (Z : Sk τ dom) (hz : ZL zb zL zx zs A s s.heap) (h : Nat) (g : Nat) (t_h : τ h = some (33, 0, 0)) (t_g : τ g = some (1, π, 0)) (σ0 : Nat → va_E) (G0 : Good K τ σ0) (hend : ∀ (σ' : Nat → va_E) (z : Int) (lv : List (Nat × Value)) (pc : Nat), Good K τ σ' → Fr τ [(36, 0)] σ0 σ' → (0 ≤ z ∧ z ≤ 1) → decode cX3_accepts pc = .ok (.ireturn, 1) → V p l e R s m args below meth c 7 D A Q (0, 0) (fd dom σ') lv pc [.int (iI z)]) : V p l e R s m args below meth c 7 D A Q (0, 0) (fd dom σ0) [(0, .ref h), (1, .ref g)] 0 [] := by
  have F0 : Fr τ [(36, 0)] σ0 σ0 := Fr.rf
  refine v_aload_n B dX3_accepts_0 rfl rfl ?_
  obtain ⟨b1, N2, n3, h4, t5, r6⟩ : okRow τ π (σ0 g) := G0 g _ t_g
  refine u_getN B Z (C := RX9) (T := TX9) (N := 2) (ci := 9) hi_Device_accepts_X9 t_g h4 rfl 1 (by decide +kernel) (List.mem_of_getElem? (i := 79) rfl) rfl dX3_accepts_1 ?_
  refine v_bipush B (v := iI 29) dX3_accepts_4 (by decide +kernel) ?_
  refine u_icmp_ne B (tgt := 25) (by omega) (by omega) dX3_accepts_6 (by decide +kernel) (fun c7 => ?_) (fun c7 => ?_)
  · refine v_iconst B (v := iI 0) dX3_accepts_25 rfl ?_
    exact hend σ0 0 _ _ G0 F0 ⟨by omega, by omega⟩ dX3_accepts_26
  · refine v_aload_n B dX3_accepts_9 rfl rfl ?_
    refine v_bipush B (v := iI 6) dX3_accepts_10 (by decide +kernel) ?_
    refine v_bipush B (v := iI 6) dX3_accepts_12 (by decide +kernel) ?_
    refine u_callVl B Z hz (n := 2) (As := [.int (iI 6), .int (iI 6)]) (rest := []) (c_Row_numberAt l D K Z _ _ _ _ g 6 6 t_g ⟨by omega, by omega⟩ ⟨by omega, by omega⟩ σ0 G0) gd_Device_accepts_Row_numberAt_113 rfl rfl rfl (by decide +kernel) ⟨Nat.le_trans (by decide +kernel) hR.1, Nat.le_trans (by decide +kernel) hR.2⟩ t_g (cls_Row G0 t_g) rfl rfl rfl rfl (Nat.le_of_ble_eq_true rfl) dX3_accepts_14 ⟨Nat.zero_le _, Nat.zero_le _⟩ (fun v10 σ8 p9 => ?_)
    obtain ⟨rfl, yy14, e15, r16⟩ := p9
    subst e15
    refine v_aload_n B dX3_accepts_17 rfl rfl ?_
    obtain ⟨z17, yy18, z19, z20, z21, z22, a23, z24, yy25, a26, yy27, a28, a29, a30, a31, a32, a33, a34, a35, h36, r37, r38, r39, r40, r41, r42, t43, r44, r45, t46, r47, t48, t49, t50, t51, t52, t53, t54, t55⟩ : okDevice τ (σ0 h) := G0 h _ t_h
    refine u_get B Z (C := RX3) (T := TX3) (N := 19) (ci := 3) hi_Device_accepts_X3 t_h h36 rfl 1 (by decide +kernel) (List.mem_of_getElem? (i := 8) rfl) rfl dX3_accepts_18 ?_
    obtain ⟨z56, e57, r58⟩ := iI_any (lg_cmp (lI yy14) (lI yy18))
    refine v_lcmp B (v := iI z56) dX3_accepts_21 e57 ?_
    refine u_if_eq B (tgt := 27) (by omega) dX3_accepts_22 (by decide +kernel) (fun c59 => ?_) (fun c59 => ?_)
    · refine v_aload_n B dX3_accepts_27 rfl rfl ?_
      refine v_bipush B (v := iI 19) dX3_accepts_28 (by decide +kernel) ?_
      refine u_callVi B Z hz (n := 1) (As := [.int (iI 19)]) (rest := []) (c_Row_two l D K Z _ _ _ _ g 19 t_g ⟨by omega, by omega⟩ σ0 G0) gd_Device_accepts_Row_two_130 rfl rfl rfl (by decide +kernel) ⟨Nat.le_trans (by decide +kernel) hR.1, Nat.le_trans (by decide +kernel) hR.2⟩ t_g (cls_Row G0 t_g) rfl rfl rfl rfl (Nat.le_of_ble_eq_true rfl) dX3_accepts_30 ⟨Nat.zero_le _, Nat.zero_le _⟩ (fun v62 σ60 p61 => ?_)
      obtain ⟨rfl, z66, e67, r68⟩ := p61
      subst e67
      refine v_istore_n B (lv' := [(2, .int (iI z66)), (0, .ref h), (1, .ref g)]) dX3_accepts_33 rfl (by decide +kernel) rfl ?_
      refine v_aload_n B dX3_accepts_34 rfl rfl ?_
      refine v_bipush B (v := iI 21) dX3_accepts_35 (by decide +kernel) ?_
      refine u_callVi B Z hz (n := 1) (As := [.int (iI 21)]) (rest := []) (c_Row_two l D K Z _ _ _ _ g 21 t_g ⟨by omega, by omega⟩ σ0 G0) gd_Device_accepts_Row_two_130 rfl rfl rfl (by decide +kernel) ⟨Nat.le_trans (by decide +kernel) hR.1, Nat.le_trans (by decide +kernel) hR.2⟩ t_g (cls_Row G0 t_g) rfl rfl rfl rfl (Nat.le_of_ble_eq_true rfl) dX3_accepts_37 ⟨Nat.zero_le _, Nat.zero_le _⟩ (fun v71 σ69 p70 => ?_)
      obtain ⟨rfl, z75, e76, r77⟩ := p70
      subst e76
      refine v_istore_n B (lv' := [(3, .int (iI z75)), (2, .int (iI z66)), (0, .ref h), (1, .ref g)]) dX3_accepts_40 rfl (by decide +kernel) rfl ?_
      refine v_aload_n B dX3_accepts_41 rfl rfl ?_
      refine v_bipush B (v := iI 28) dX3_accepts_42 (by decide +kernel) ?_
      refine u_callVi B Z hz (n := 1) (As := [.int (iI 28)]) (rest := []) (c_Row_at l D K Z _ _ _ _ g 28 t_g ⟨by omega, by omega⟩ σ0 G0) gd_Device_accepts_Row_at_134 rfl rfl rfl (by decide +kernel) ⟨Nat.le_trans (by decide +kernel) hR.1, Nat.le_trans (by decide +kernel) hR.2⟩ t_g (cls_Row G0 t_g) rfl rfl rfl rfl (Nat.le_of_ble_eq_true rfl) dX3_accepts_44 ⟨Nat.zero_le _, Nat.zero_le _⟩ (fun v80 σ78 p79 => ?_)
      obtain ⟨rfl, z84, e85, r86⟩ := p79
      subst e85
      refine v_istore B (lv' := [(4, .int (iI z84)), (3, .int (iI z75)), (2, .int (iI z66)), (0, .ref h), (1, .ref g)]) dX3_accepts_47 (by decide +kernel) rfl ?_
      refine v_aload_n B dX3_accepts_49 rfl rfl ?_
      refine v_bipush B (v := iI 23) dX3_accepts_50 (by decide +kernel) ?_
      refine v_iconst B (v := iI 5) dX3_accepts_52 rfl ?_
      refine u_callVl B Z hz (n := 2) (As := [.int (iI 23), .int (iI 5)]) (rest := []) (c_Row_numberAt l D K Z _ _ _ _ g 23 5 t_g ⟨by omega, by omega⟩ ⟨by omega, by omega⟩ σ0 G0) gd_Device_accepts_Row_numberAt_113 rfl rfl rfl (by decide +kernel) ⟨Nat.le_trans (by decide +kernel) hR.1, Nat.le_trans (by decide +kernel) hR.2⟩ t_g (cls_Row G0 t_g) rfl rfl rfl rfl (Nat.le_of_ble_eq_true rfl) dX3_accepts_53 ⟨Nat.zero_le _, Nat.zero_le _⟩ (fun v89 σ87 p88 => ?_)
      obtain ⟨rfl, yy93, e94, r95⟩ := p88
      subst e94
      refine v_lstore B (lv' := [(5, .long (lI yy93)), (4, .int (iI z84)), (3, .int (iI z75)), (2, .int (iI z66)), (0, .ref h), (1, .ref g)]) dX3_accepts_56 (by decide +kernel) rfl ?_
      refine v_iload_n B dX3_accepts_58 rfl rfl ?_
      refine v_iload_n B dX3_accepts_59 rfl rfl ?_
      refine v_iload B dX3_accepts_60 rfl ?_
      refine v_lload B dX3_accepts_62 rfl ?_
      refine u_callSi B Z hz (n := 4) (As := [.int (iI z66), .int (iI z75), .int (iI z84), .long (lI yy93)]) (rest := []) (c_Link_isProper l D K Z _ _ _ _ z66 z75 z84 yy93 ⟨by omega, by omega⟩ ⟨by omega, by omega⟩ ⟨by omega, by omega⟩ ⟨by omega, by omega⟩ σ0 G0) gd_Device_accepts_Link_isProper_137 rfl rfl rfl (by decide +kernel) ⟨Nat.le_trans (by decide +kernel) hR.1, Nat.le_trans (by decide +kernel) hR.2⟩ rfl rfl (Nat.le_of_ble_eq_true rfl) dX3_accepts_64 ⟨Nat.zero_le _, Nat.zero_le _⟩ (fun v98 σ96 p97 => ?_)
      obtain ⟨rfl, z102, e103, r104⟩ := p97
      subst e103
      refine u_if_ne B (tgt := 72) (by omega) dX3_accepts_67 (by decide +kernel) (fun c105 => ?_) (fun c105 => ?_)
      · refine v_aload_n B dX3_accepts_72 rfl rfl ?_
        refine u_get B Z (C := RX3) (T := TX3) (N := 19) (ci := 3) hi_Device_accepts_X3 t_h h36 rfl 11 (by decide +kernel) (List.mem_of_getElem? (i := 31) rfl) rfl dX3_accepts_73 ?_
        refine v_aload_n B dX3_accepts_76 rfl rfl ?_
        refine v_iconst B (v := iI 0) dX3_accepts_77 rfl ?_
        refine v_bipush B (v := iI 6) dX3_accepts_78 (by decide +kernel) ?_
        refine u_callVl B Z hz (n := 2) (As := [.int (iI 0), .int (iI 6)]) (rest := [.ref a28]) (c_Row_numberAt l D K Z _ _ _ _ g 0 6 t_g ⟨by omega, by omega⟩ ⟨by omega, by omega⟩ σ0 G0) gd_Device_accepts_Row_numberAt_113 rfl rfl rfl (by decide +kernel) ⟨Nat.le_trans (by decide +kernel) hR.1, Nat.le_trans (by decide +kernel) hR.2⟩ t_g (cls_Row G0 t_g) rfl rfl rfl rfl (Nat.le_of_ble_eq_true rfl) dX3_accepts_80 ⟨Nat.zero_le _, Nat.zero_le _⟩ (fun v108 σ106 p107 => ?_)
        obtain ⟨rfl, yy112, e113, r114⟩ := p107
        subst e113
        obtain ⟨z115, z116, z117, z118, z119, yy120, yy121, z122, z123, z124, z125, z126, z127, z128, z129, z130, z131, z132, z133, yy134, h135, r136, r137, r138, r139, r140, r141, r142, r143, r144, r145, r146, r147, r148, r149, r150, r151, r152, r153, r154, r155⟩ : okLink τ (σ0 a28) := G0 a28 _ t48
        refine u_putN B Z (C := RX6) (T := TX6) (N := 20) (ci := 6) hi_Device_accepts_X6 t48 h135 rfl 19 (by decide +kernel) tyX6 tyX6_ok nmX6 (List.mem_of_getElem? (i := 80) rfl) rfl (ty := .long) (tyX6_ok 19 (by decide +kernel)) rfl rfl (Nat.le_of_ble_eq_true rfl) (fs' := [.int (iI z115), .int (iI z116), .int (iI z117), .int (iI z118), .int (iI z119), .long (lI yy120), .long (lI yy121), .int (iI z122), .int (iI z123), .int (iI z124), .int (iI z125), .int (iI z126), .int (iI z127), .int (iI z128), .int (iI z129), .int (iI z130), .int (iI z131), .int (iI z132), .int (iI z133), .long (lI yy112)]) rfl dX3_accepts_83 (fun σ156 h157 n158 => ?_)
        have G159 := G0.put t48 (⟨z115, z116, z117, z118, z119, yy120, yy121, z122, z123, z124, z125, z126, z127, z128, z129, z130, z131, z132, z133, yy112, h157, ⟨by omega, by omega⟩, ⟨by omega, by omega⟩, ⟨by omega, by omega⟩, ⟨by omega, by omega⟩, ⟨by omega, by omega⟩, ⟨by omega, by omega⟩, ⟨by omega, by omega⟩, ⟨by omega, by omega⟩, ⟨by omega, by omega⟩, ⟨by omega, by omega⟩, ⟨by omega, by omega⟩, ⟨by omega, by omega⟩, ⟨by omega, by omega⟩, ⟨by omega, by omega⟩, ⟨by omega, by omega⟩, ⟨by omega, by omega⟩, ⟨by omega, by omega⟩, ⟨by omega, by omega⟩, ⟨by omega, by omega⟩, ⟨by omega, by omega⟩⟩ : Ok K τ (36, 0, 0) (σ156 a28)) n158
        have F160 := F0.put t48 (by simp) n158
        have h161 := (n158 g (ne_ty t_g t48 (by simp))).trans h4
        have h162 := (n158 h (ne_ty t_h t48 (by simp))).trans h36
        refine v_aload_n B dX3_accepts_86 rfl rfl ?_
        refine u_get B Z (C := RX3) (T := TX3) (N := 19) (ci := 3) hi_Device_accepts_X3 t_h h162 rfl 11 (by decide +kernel) (List.mem_of_getElem? (i := 31) rfl) rfl dX3_accepts_87 ?_
        refine v_aload_n B dX3_accepts_90 rfl rfl ?_
        refine v_bipush B (v := iI 12) dX3_accepts_91 (by decide +kernel) ?_
        refine v_iconst B (v := iI 4) dX3_accepts_93 rfl ?_
        refine u_callVl B Z hz (n := 2) (As := [.int (iI 12), .int (iI 4)]) (rest := [.ref a28]) (c_Row_numberAt l D K Z _ _ _ _ g 12 4 t_g ⟨by omega, by omega⟩ ⟨by omega, by omega⟩ σ156 G159) gd_Device_accepts_Row_numberAt_113 rfl rfl rfl (by decide +kernel) ⟨Nat.le_trans (by decide +kernel) hR.1, Nat.le_trans (by decide +kernel) hR.2⟩ t_g (cls_Row G159 t_g) rfl rfl rfl rfl (Nat.le_of_ble_eq_true rfl) dX3_accepts_94 ⟨Nat.zero_le _, Nat.zero_le _⟩ (fun v165 σ163 p164 => ?_)
        obtain ⟨rfl, yy169, e170, r171⟩ := p164
        subst e170
        obtain ⟨z172, e173, r174⟩ := iI_any ((lI yy169).toInt32)
        refine v_l2i B (v := iI z172) dX3_accepts_97 e173 ?_
        refine u_putN B Z (C := RX6) (T := TX6) (N := 20) (ci := 6) hi_Device_accepts_X6 t48 h157 rfl 0 (by decide +kernel) tyX6 tyX6_ok nmX6 (List.mem_of_getElem? (i := 81) rfl) rfl (ty := .int) (tyX6_ok 0 (by decide +kernel)) rfl rfl (Nat.le_of_ble_eq_true rfl) (fs' := [.int (iI z172), .int (iI z116), .int (iI z117), .int (iI z118), .int (iI z119), .long (lI yy120), .long (lI yy121), .int (iI z122), .int (iI z123), .int (iI z124), .int (iI z125), .int (iI z126), .int (iI z127), .int (iI z128), .int (iI z129), .int (iI z130), .int (iI z131), .int (iI z132), .int (iI z133), .long (lI yy112)]) rfl dX3_accepts_98 (fun σ175 h176 n177 => ?_)
        have G178 := G159.put t48 (⟨z172, z116, z117, z118, z119, yy120, yy121, z122, z123, z124, z125, z126, z127, z128, z129, z130, z131, z132, z133, yy112, h176, ⟨by omega, by omega⟩, ⟨by omega, by omega⟩, ⟨by omega, by omega⟩, ⟨by omega, by omega⟩, ⟨by omega, by omega⟩, ⟨by omega, by omega⟩, ⟨by omega, by omega⟩, ⟨by omega, by omega⟩, ⟨by omega, by omega⟩, ⟨by omega, by omega⟩, ⟨by omega, by omega⟩, ⟨by omega, by omega⟩, ⟨by omega, by omega⟩, ⟨by omega, by omega⟩, ⟨by omega, by omega⟩, ⟨by omega, by omega⟩, ⟨by omega, by omega⟩, ⟨by omega, by omega⟩, ⟨by omega, by omega⟩, ⟨by omega, by omega⟩⟩ : Ok K τ (36, 0, 0) (σ175 a28)) n177
        have F179 := F160.put t48 (by simp) n177
        have h180 := (n177 g (ne_ty t_g t48 (by simp))).trans h161
        have h181 := (n177 h (ne_ty t_h t48 (by simp))).trans h162
        refine v_aload_n B dX3_accepts_101 rfl rfl ?_
        refine u_get B Z (C := RX3) (T := TX3) (N := 19) (ci := 3) hi_Device_accepts_X3 t_h h181 rfl 11 (by decide +kernel) (List.mem_of_getElem? (i := 31) rfl) rfl dX3_accepts_102 ?_
        refine v_aload_n B dX3_accepts_105 rfl rfl ?_
        refine v_bipush B (v := iI 16) dX3_accepts_106 (by decide +kernel) ?_
        refine v_iconst B (v := iI 3) dX3_accepts_108 rfl ?_
        refine u_callVl B Z hz (n := 2) (As := [.int (iI 16), .int (iI 3)]) (rest := [.ref a28]) (c_Row_numberAt l D K Z _ _ _ _ g 16 3 t_g ⟨by omega, by omega⟩ ⟨by omega, by omega⟩ σ175 G178) gd_Device_accepts_Row_numberAt_113 rfl rfl rfl (by decide +kernel) ⟨Nat.le_trans (by decide +kernel) hR.1, Nat.le_trans (by decide +kernel) hR.2⟩ t_g (cls_Row G178 t_g) rfl rfl rfl rfl (Nat.le_of_ble_eq_true rfl) dX3_accepts_109 ⟨Nat.zero_le _, Nat.zero_le _⟩ (fun v184 σ182 p183 => ?_)
        obtain ⟨rfl, yy188, e189, r190⟩ := p183
        subst e189
        obtain ⟨z191, e192, r193⟩ := iI_any ((lI yy188).toInt32)
        refine v_l2i B (v := iI z191) dX3_accepts_112 e192 ?_
        refine u_putN B Z (C := RX6) (T := TX6) (N := 20) (ci := 6) hi_Device_accepts_X6 t48 h176 rfl 1 (by decide +kernel) tyX6 tyX6_ok nmX6 (List.mem_of_getElem? (i := 82) rfl) rfl (ty := .int) (tyX6_ok 1 (by decide +kernel)) rfl rfl (Nat.le_of_ble_eq_true rfl) (fs' := [.int (iI z172), .int (iI z191), .int (iI z117), .int (iI z118), .int (iI z119), .long (lI yy120), .long (lI yy121), .int (iI z122), .int (iI z123), .int (iI z124), .int (iI z125), .int (iI z126), .int (iI z127), .int (iI z128), .int (iI z129), .int (iI z130), .int (iI z131), .int (iI z132), .int (iI z133), .long (lI yy112)]) rfl dX3_accepts_113 (fun σ194 h195 n196 => ?_)
        have G197 := G178.put t48 (⟨z172, z191, z117, z118, z119, yy120, yy121, z122, z123, z124, z125, z126, z127, z128, z129, z130, z131, z132, z133, yy112, h195, ⟨by omega, by omega⟩, ⟨by omega, by omega⟩, ⟨by omega, by omega⟩, ⟨by omega, by omega⟩, ⟨by omega, by omega⟩, ⟨by omega, by omega⟩, ⟨by omega, by omega⟩, ⟨by omega, by omega⟩, ⟨by omega, by omega⟩, ⟨by omega, by omega⟩, ⟨by omega, by omega⟩, ⟨by omega, by omega⟩, ⟨by omega, by omega⟩, ⟨by omega, by omega⟩, ⟨by omega, by omega⟩, ⟨by omega, by omega⟩, ⟨by omega, by omega⟩, ⟨by omega, by omega⟩, ⟨by omega, by omega⟩, ⟨by omega, by omega⟩⟩ : Ok K τ (36, 0, 0) (σ194 a28)) n196
        have F198 := F179.put t48 (by simp) n196
        have h199 := (n196 g (ne_ty t_g t48 (by simp))).trans h180
        have h200 := (n196 h (ne_ty t_h t48 (by simp))).trans h181
        refine v_aload_n B dX3_accepts_116 rfl rfl ?_
        refine u_get B Z (C := RX3) (T := TX3) (N := 19) (ci := 3) hi_Device_accepts_X3 t_h h200 rfl 11 (by decide +kernel) (List.mem_of_getElem? (i := 31) rfl) rfl dX3_accepts_117 ?_
        refine v_iload_n B dX3_accepts_120 rfl rfl ?_
        refine v_iload_n B dX3_accepts_121 rfl rfl ?_
        refine v_iload B dX3_accepts_122 rfl ?_
        refine v_lload B dX3_accepts_124 rfl ?_
        refine u_callVv B Z hz (n := 4) (As := [.int (iI z66), .int (iI z75), .int (iI z84), .long (lI yy93)]) (rest := []) (c_Link_arrange l D K Z _ _ _ _ a28 z66 z75 z84 yy93 t48 ⟨by omega, by omega⟩ ⟨by omega, by omega⟩ ⟨by omega, by omega⟩ ⟨by omega, by omega⟩ σ194 G197) gd_Device_accepts_Link_arrange_150 rfl rfl rfl (by decide +kernel) ⟨Nat.le_trans (by decide +kernel) hR.1, Nat.le_trans (by decide +kernel) hR.2⟩ t48 (cls_Link G197 t48) rfl rfl rfl rfl (Nat.le_of_ble_eq_true rfl) dX3_accepts_126 ⟨Nat.zero_le _, Nat.zero_le _⟩ (fun σ201 p202 => ?_)
        obtain ⟨G204, F205⟩ := p202
        have F206 := F198.call F205 (by first | rfl | simp)
        have h207 := (F205 g _ t_g (by first | rfl | simp)).trans h199
        have h208 := (F205 h _ t_h (by first | rfl | simp)).trans h200
        refine v_iconst B (v := iI 1) dX3_accepts_129 rfl ?_
        exact hend σ201 1 _ _ G204 F206 ⟨by omega, by omega⟩ dX3_accepts_130
      · refine v_iconst B (v := iI 0) dX3_accepts_70 rfl ?_
        exact hend σ0 0 _ _ G0 F0 ⟨by omega, by omega⟩ dX3_accepts_71
    · refine v_iconst B (v := iI 0) dX3_accepts_25 rfl ?_
      exact hend σ0 0 _ _ G0 F0 ⟨by omega, by omega⟩ dX3_accepts_26
set_option maxRecDepth 100000 in
theorem c_Device_accepts (l : Launch) (D : va_G) (K : Nat → ClassId) {τ : Nat → Option Ty} {dom : List Nat} (Z : Sk τ dom) (zb zL : Nat) (zx : Nat → Int32) (zs : Nat → Nat) {π : Nat} (h : Nat) (g : Nat) (t_h : τ h = some (33, 0, 0)) (t_g : τ g = some (1, π, 0)) (σ0 : Nat → va_E) (G0 : Good K τ σ0) : MZ l yX3_accepts wp_Device_accepts ({ frames := 3, cells := 0, slots := 0, locals := 66 }) D (tysA K) [.ref h, .ref g] (fd dom σ0) zb zL zx zs (Qi D (fun r σ' => Good K τ σ' ∧ Fr τ [(36, 0)] σ0 σ' ∧ ∃ z : Int, r = iI z ∧ (0 ≤ z ∧ z ≤ 1)) (fun σ' => fd dom σ')) 0 0 := by
  refine mz_of (cc := cX3_accepts) (maxL := 7) (ret := (some .boolean)) (by decide +kernel) rfl (Nat.le_of_ble_eq_true rfl) ?_
  intro p e s m below meth c A B hr hlk _ hz
  exact b_Device_accepts ⟨Nat.le_refl _, Nat.le_refl _⟩ B Z hz h g t_h t_g σ0 G0 (fun σ' z lv pc G F hZ hd => v_zret B hr hlk (nar01 (by omega)) σ' ⟨G, F, z, rfl, hZ⟩ rfl (Nat.le_refl _) (Nat.le_refl _) hd)

def wp_Device_enterLink : List Cond := .code yX3_enterLink cX3_enterLink 3 none :: (([.fieldLink RX3 93 "LowEnergy$Device" "state" "I", .fieldLink RX3 26 "LowEnergy$Device" "link" "LLowEnergy$Link;", .methodLink RX3 154 yX6_begin, .instanceMethod yX6_begin, .selects RX6 yX6_begin yX6_begin, .initialized RX6, .code yX6_begin cX6_begin 2 none, .fieldLink RX6 31 "LowEnergy$Link" "interval" "I", .fieldLink RX6 44 "LowEnergy$Link" "anchor" "I", .fieldLink RX6 47 "LowEnergy$Link" "heardAt" "I", .fieldLink RX3 54 "LowEnergy$Device" "diary" "LLowEnergy$Diary;", .methodLink RX3 157 yX4_note, .instanceMethod yX4_note, .selects RX4 yX4_note yX4_note, .initialized RX4, .code yX4_note cX4_note 6 none, .fieldLink RX4 29 "LowEnergy$Diary" "count" "I", .fieldLink RX4 36 "LowEnergy$Diary" "head" "I", .fieldLink RX4 11 "LowEnergy$Diary" "kinds" "[I", .fieldLink RX4 17 "LowEnergy$Diary" "numbers" "[[I", .fieldLink RX4 22 "LowEnergy$Diary" "rows" "[LLowEnergy$Row;", .methodLink RX4 39 yX9_clear, .instanceMethod yX9_clear, .selects RX9 yX9_clear yX9_clear, .initialized RX9, .code yX9_clear cX9_clear 1 none, .fieldLink RX9 21 "LowEnergy$Row" "size" "I", .fieldLink RX4 33 "LowEnergy$Diary" "lost" "I"] : List Cond) ++ (wsX30 ++ (wsX60 ++ (wsX40 ++ (wsX90 ++ ([]))))))
theorem hi_Device_enterLink_X3 : ∀ x ∈ u_ws RX3 TX3 19, x ∈ wp_Device_enterLink := fun _ h => List.mem_cons_of_mem _ (List.mem_append_right _ (List.mem_append_left _ h))
theorem hi_Device_enterLink_X6 : ∀ x ∈ u_ws RX6 TX6 20, x ∈ wp_Device_enterLink := fun _ h => List.mem_cons_of_mem _ (List.mem_append_right _ (List.mem_append_right _ (List.mem_append_left _ h)))
theorem hi_Device_enterLink_X4 : ∀ x ∈ u_ws RX4 TX4 6, x ∈ wp_Device_enterLink := fun _ h => List.mem_cons_of_mem _ (List.mem_append_right _ (List.mem_append_right _ (List.mem_append_right _ (List.mem_append_left _ h))))
theorem hi_Device_enterLink_X9 : ∀ x ∈ u_ws RX9 TX9 2, x ∈ wp_Device_enterLink := fun _ h => List.mem_cons_of_mem _ (List.mem_append_right _ (List.mem_append_right _ (List.mem_append_right _ (List.mem_append_right _ (List.mem_append_left _ h)))))
set_option maxRecDepth 100000 in
theorem gd_Device_enterLink_Link_begin_154 : GoodIn wp_Device_enterLink (wsV RX3 154 RX6 yX6_begin wp_Link_begin) := goodIn_app (goodIn_r _ [3, 4, 5, 6] rfl rfl) (goodIn_ca (goodIn_r _ [7, 8, 9, 10] rfl rfl) (goodIn_app (goodIn_cls hi_Device_enterLink_X6 gw_X6) (goodIn_nil)))
set_option maxRecDepth 100000 in
theorem gd_Device_enterLink_Diary_note_157 : GoodIn wp_Device_enterLink (wsV RX3 157 RX4 yX4_note wp_Diary_note) := goodIn_app (goodIn_r _ [12, 13, 14, 15] rfl rfl) (goodIn_ca (goodIn_r _ [16, 17, 18, 19, 20, 21, 22, 23, 24, 25, 26, 27, 28] rfl rfl) (goodIn_app (goodIn_cls hi_Device_enterLink_X4 gw_X4) (goodIn_app (goodIn_cls hi_Device_enterLink_X9 gw_X9) (goodIn_nil))))
set_option maxHeartbeats 4000000 in
set_option maxRecDepth 100000 in
theorem b_Device_enterLink {p : Program} {l : Launch} {e : Env} {R : Room} {s : State} {m : MethodId} {args : Array Value} {below : List Frame} {meth : Method} {c : Code} {D : va_G} {K : Nat → ClassId} {A : Nat → Prop} {Q : State → Prop} {τ : Nat → Option Ty} {dom : List Nat} {zb zL : Nat} {zx : Nat → Int32} {zs : Nat → Nat} (hR : 2 ≤ R.frames ∧ 45 ≤ R.locals) (B : Bx p s m args c cX3_enterLink 3 RX3 wp_Device_enterLink D (tysA K) A) (Z : Sk τ dom) (hz : ZL zb zL zx zs A s s.heap) (h : Nat) (x1 : Int) (x2 : Int) (t_h : τ h = some (33, 0, 0)) (r_x1 : -2147483648 ≤ x1 ∧ x1 ≤ 2147483647) (r_x2 : -2147483648 ≤ x2 ∧ x2 ≤ 2147483647) (σ0 : Nat → va_E) (G0 : Good K τ σ0) (hend : ∀ (σ' : Nat → va_E) (lv : List (Nat × Value)) (pc : Nat), Good K τ σ' → Fr τ [(33, 0), (36, 0), (3, 23), (3, 22), (1, 16), (34, 0)] σ0 σ' → decode cX3_enterLink pc = .ok (.return_, 1) → V p l e R s m args below meth c 3 D A Q (0, 0) (fd dom σ') lv pc []) : V p l e R s m args below meth c 3 D A Q (0, 0) (fd dom σ0) [(0, .ref h), (1, .int (iI x1)), (2, .int (iI x2))] 0 [] := by
  have F0 : Fr τ [(33, 0), (36, 0), (3, 23), (3, 22), (1, 16), (34, 0)] σ0 σ0 := Fr.rf
  refine v_aload_n B dX3_enterLink_0 rfl rfl ?_
  refine v_iload_n B dX3_enterLink_1 rfl rfl ?_
  obtain ⟨z1, yy2, z3, z4, z5, z6, a7, z8, yy9, a10, yy11, a12, a13, a14, a15, a16, a17, a18, a19, h20, r21, r22, r23, r24, r25, r26, t27, r28, r29, t30, r31, t32, t33, t34, t35, t36, t37, t38, t39⟩ : okDevice τ (σ0 h) := G0 h _ t_h
  refine u_put B Z (C := RX3) (T := TX3) (N := 19) (ci := 3) hi_Device_enterLink_X3 t_h h20 rfl 2 (by decide +kernel) tyX3 tyX3_ok nmX3 (List.mem_of_getElem? (i := 1) rfl) rfl (ty := .int) (tyX3_ok 2 (by decide +kernel)) rfl rfl (Nat.le_of_ble_eq_true rfl) (fs' := [.int (iI z1), .long (lI yy2), .int (iI x1), .int (iI z4), .int (iI z5), .int (iI z6), .ref a7, .int (iI z8), .long (lI yy9), .ref a10, .long (lI yy11), .ref a12, .ref a13, .ref a14, .ref a15, .ref a16, .ref a17, .ref a18, .ref a19]) rfl dX3_enterLink_2 (fun σ40 h41 n42 => ?_)
  have G43 := G0.put t_h (⟨z1, yy2, x1, z4, z5, z6, a7, z8, yy9, a10, yy11, a12, a13, a14, a15, a16, a17, a18, a19, h41, ⟨by omega, by omega⟩, ⟨by omega, by omega⟩, ⟨by omega, by omega⟩, ⟨by omega, by omega⟩, ⟨by omega, by omega⟩, ⟨by omega, by omega⟩, t27, ⟨by omega, by omega⟩, ⟨by omega, by omega⟩, t30, ⟨by omega, by omega⟩, t32, t33, t34, t35, t36, t37, t38, t39⟩ : Ok K τ (33, 0, 0) (σ40 h)) n42
  have F44 := F0.put t_h (by simp) n42
  refine v_aload_n B dX3_enterLink_5 rfl rfl ?_
  refine u_get B Z (C := RX3) (T := TX3) (N := 19) (ci := 3) hi_Device_enterLink_X3 t_h h41 rfl 11 (by decide +kernel) (List.mem_of_getElem? (i := 2) rfl) rfl dX3_enterLink_6 ?_
  refine v_iload_n B dX3_enterLink_9 rfl rfl ?_
  refine u_callVv B Z hz (n := 1) (As := [.int (iI x2)]) (rest := []) (c_Link_begin l D K Z _ _ _ _ a12 x2 t32 ⟨by omega, by omega⟩ σ40 G43) gd_Device_enterLink_Link_begin_154 rfl rfl rfl (by decide +kernel) ⟨Nat.le_trans (by decide +kernel) hR.1, Nat.le_trans (by decide +kernel) hR.2⟩ t32 (cls_Link G43 t32) rfl rfl rfl rfl (Nat.le_of_ble_eq_true rfl) dX3_enterLink_10 ⟨Nat.zero_le _, Nat.zero_le _⟩ (fun σ45 p46 => ?_)
  obtain ⟨G48, F49⟩ := p46
  have F50 := F44.call F49 (by first | rfl | simp)
  have h51 := (F49 h _ t_h (by first | rfl | simp)).trans h41
  refine v_aload_n B dX3_enterLink_13 rfl rfl ?_
  refine u_get B Z (C := RX3) (T := TX3) (N := 19) (ci := 3) hi_Device_enterLink_X3 t_h h51 rfl 17 (by decide +kernel) (List.mem_of_getElem? (i := 11) rfl) rfl dX3_enterLink_14 ?_
  refine v_iconst B (v := iI 0) dX3_enterLink_17 rfl ?_
  refine v_iload_n B dX3_enterLink_18 rfl rfl ?_
  refine v_iconst B (v := iI 0) dX3_enterLink_19 rfl ?_
  refine v_iconst B (v := iI 0) dX3_enterLink_20 rfl ?_
  refine u_callVv B Z hz (n := 4) (As := [.int (iI 0), .int (iI x1), .int (iI 0), .int (iI 0)]) (rest := []) (c_Diary_note l D K Z _ _ _ _ a18 0 x1 0 0 t38 ⟨by omega, by omega⟩ ⟨by omega, by omega⟩ ⟨by omega, by omega⟩ ⟨by omega, by omega⟩ σ45 G48) gd_Device_enterLink_Diary_note_157 rfl rfl rfl (by decide +kernel) ⟨Nat.le_trans (by decide +kernel) hR.1, Nat.le_trans (by decide +kernel) hR.2⟩ t38 (cls_Diary G48 t38) rfl rfl rfl rfl (Nat.le_of_ble_eq_true rfl) dX3_enterLink_21 ⟨Nat.zero_le _, Nat.zero_le _⟩ (fun σ52 p53 => ?_)
  obtain ⟨G55, F56⟩ := p53
  have F57 := F50.call F56 (by first | rfl | simp)
  have h58 := (F56 h _ t_h (by first | rfl | simp)).trans h51
  exact hend σ52 _ _ G55 F57 dX3_enterLink_24
set_option maxRecDepth 100000 in
theorem c_Device_enterLink (l : Launch) (D : va_G) (K : Nat → ClassId) {τ : Nat → Option Ty} {dom : List Nat} (Z : Sk τ dom) (zb zL : Nat) (zx : Nat → Int32) (zs : Nat → Nat) (h : Nat) (x1 : Int) (x2 : Int) (t_h : τ h = some (33, 0, 0)) (r_x1 : -2147483648 ≤ x1 ∧ x1 ≤ 2147483647) (r_x2 : -2147483648 ≤ x2 ∧ x2 ≤ 2147483647) (σ0 : Nat → va_E) (G0 : Good K τ σ0) : MZ l yX3_enterLink wp_Device_enterLink ({ frames := 2, cells := 0, slots := 0, locals := 45 }) D (tysA K) [.ref h, .int (iI x1), .int (iI x2)] (fd dom σ0) zb zL zx zs (Qv D (fun σ' => Good K τ σ' ∧ Fr τ [(33, 0), (36, 0), (3, 23), (3, 22), (1, 16), (34, 0)] σ0 σ') (fun σ' => fd dom σ')) 0 0 := by
  refine mz_of (cc := cX3_enterLink) (maxL := 3) (ret := none) (by decide +kernel) rfl (Nat.le_of_ble_eq_true rfl) ?_
  intro p e s m below meth c A B hr hlk _ hz
  exact b_Device_enterLink ⟨Nat.le_refl _, Nat.le_refl _⟩ B Z hz h x1 x2 t_h r_x1 r_x2 σ0 G0 (fun σ' lv pc G F hd => v_vret B hr hlk σ' ⟨G, F⟩ rfl (Nat.le_refl _) (Nat.le_refl _) hd)

def wp_Mail_dropCurrent : List Cond := .code yX7_dropCurrent cX7_dropCurrent 1 none :: (([.fieldLink RX7 14 "LowEnergy$Mail" "current" "LLowEnergy$Row;", .methodLink RX7 62 yX9_clear, .instanceMethod yX9_clear, .selects RX9 yX9_clear yX9_clear, .initialized RX9, .code yX9_clear cX9_clear 1 none, .fieldLink RX9 21 "LowEnergy$Row" "size" "I", .fieldLink RX7 65 "LowEnergy$Mail" "sort" "I", .fieldLink RX7 68 "LowEnergy$Mail" "currentOp" "I"] : List Cond) ++ (wsX70 ++ (wsX90 ++ ([]))))
theorem hi_Mail_dropCurrent_X7 : ∀ x ∈ u_ws RX7 TX7 16, x ∈ wp_Mail_dropCurrent := fun _ h => List.mem_cons_of_mem _ (List.mem_append_right _ (List.mem_append_left _ h))
theorem hi_Mail_dropCurrent_X9 : ∀ x ∈ u_ws RX9 TX9 2, x ∈ wp_Mail_dropCurrent := fun _ h => List.mem_cons_of_mem _ (List.mem_append_right _ (List.mem_append_right _ (List.mem_append_left _ h)))
set_option maxRecDepth 100000 in
theorem gd_Mail_dropCurrent_Row_clear_62 : GoodIn wp_Mail_dropCurrent (wsV RX7 62 RX9 yX9_clear wp_Row_clear) := goodIn_app (goodIn_r _ [2, 3, 4, 5] rfl rfl) (goodIn_ca (goodIn_r _ [6, 7] rfl rfl) (goodIn_app (goodIn_cls hi_Mail_dropCurrent_X9 gw_X9) (goodIn_nil)))
set_option maxHeartbeats 4000000 in
set_option maxRecDepth 100000 in
theorem b_Mail_dropCurrent {p : Program} {l : Launch} {e : Env} {R : Room} {s : State} {m : MethodId} {args : Array Value} {below : List Frame} {meth : Method} {c : Code} {D : va_G} {K : Nat → ClassId} {A : Nat → Prop} {Q : State → Prop} {τ : Nat → Option Ty} {dom : List Nat} {zb zL : Nat} {zx : Nat → Int32} {zs : Nat → Nat} (hR : 1 ≤ R.frames ∧ 20 ≤ R.locals) (B : Bx p s m args c cX7_dropCurrent 1 RX7 wp_Mail_dropCurrent D (tysA K) A) (Z : Sk τ dom) (hz : ZL zb zL zx zs A s s.heap) (h : Nat) (t_h : τ h = some (37, 0, 0)) (σ0 : Nat → va_E) (G0 : Good K τ σ0) (hend : ∀ (σ' : Nat → va_E) (lv : List (Nat × Value)) (pc : Nat), Good K τ σ' → Fr τ [(1, 2), (37, 0)] σ0 σ' → decode cX7_dropCurrent pc = .ok (.return_, 1) → V p l e R s m args below meth c 1 D A Q (0, 0) (fd dom σ') lv pc []) : V p l e R s m args below meth c 1 D A Q (0, 0) (fd dom σ0) [(0, .ref h)] 0 [] := by
  have F0 : Fr τ [(1, 2), (37, 0)] σ0 σ0 := Fr.rf
  refine v_aload_n B dX7_dropCurrent_0 rfl rfl ?_
  obtain ⟨a1, z2, z3, a4, z5, z6, z7, a8, z9, z10, z11, a12, z13, a14, z15, a16, h17, t18, r19, r20, t21, r22, r23, r24, t25, r26, r27, r28, t29, r30, t31, r32, t33⟩ : okMail τ (σ0 h) := G0 h _ t_h
  refine u_get B Z (C := RX7) (T := TX7) (N := 16) (ci := 7) hi_Mail_dropCurrent_X7 t_h h17 rfl 0 (by decide +kernel) (List.mem_of_getElem? (i := 1) rfl) rfl dX7_dropCurrent_1 ?_
  refine u_callVv B Z hz (n := 0) (As := []) (rest := []) (c_Row_clear l D K Z _ _ _ _ a1 t18 σ0 G0) gd_Mail_dropCurrent_Row_clear_62 rfl rfl rfl (by decide +kernel) ⟨Nat.le_trans (by decide +kernel) hR.1, Nat.le_trans (by decide +kernel) hR.2⟩ t18 (cls_Row G0 t18) rfl rfl rfl rfl (Nat.le_of_ble_eq_true rfl) dX7_dropCurrent_4 ⟨Nat.zero_le _, Nat.zero_le _⟩ (fun σ34 p35 => ?_)
  obtain ⟨G37, F38⟩ := p35
  have F39 := F0.call F38 (by first | rfl | simp)
  have h40 := (F38 h _ t_h (by first | rfl | simp)).trans h17
  refine v_aload_n B dX7_dropCurrent_7 rfl rfl ?_
  refine v_iconst B (v := iI 0) dX7_dropCurrent_8 rfl ?_
  refine u_put B Z (C := RX7) (T := TX7) (N := 16) (ci := 7) hi_Mail_dropCurrent_X7 t_h h40 rfl 1 (by decide +kernel) tyX7 tyX7_ok nmX7 (List.mem_of_getElem? (i := 8) rfl) rfl (ty := .int) (tyX7_ok 1 (by decide +kernel)) rfl rfl (Nat.le_of_ble_eq_true rfl) (fs' := [.ref a1, .int (iI 0), .int (iI z3), .ref a4, .int (iI z5), .int (iI z6), .int (iI z7), .ref a8, .int (iI z9), .int (iI z10), .int (iI z11), .ref a12, .int (iI z13), .ref a14, .int (iI z15), .ref a16]) rfl dX7_dropCurrent_9 (fun σ41 h42 n43 => ?_)
  have G44 := G37.put t_h (⟨a1, 0, z3, a4, z5, z6, z7, a8, z9, z10, z11, a12, z13, a14, z15, a16, h42, t18, ⟨by omega, by omega⟩, ⟨by omega, by omega⟩, t21, ⟨by omega, by omega⟩, ⟨by omega, by omega⟩, ⟨by omega, by omega⟩, t25, ⟨by omega, by omega⟩, ⟨by omega, by omega⟩, ⟨by omega, by omega⟩, t29, ⟨by omega, by omega⟩, t31, ⟨by omega, by omega⟩, t33⟩ : Ok K τ (37, 0, 0) (σ41 h)) n43
  have F45 := F39.put t_h (by simp) n43
  refine v_aload_n B dX7_dropCurrent_12 rfl rfl ?_
  refine v_iconst B (v := iI 0) dX7_dropCurrent_13 rfl ?_
  refine u_put B Z (C := RX7) (T := TX7) (N := 16) (ci := 7) hi_Mail_dropCurrent_X7 t_h h42 rfl 2 (by decide +kernel) tyX7 tyX7_ok nmX7 (List.mem_of_getElem? (i := 9) rfl) rfl (ty := .int) (tyX7_ok 2 (by decide +kernel)) rfl rfl (Nat.le_of_ble_eq_true rfl) (fs' := [.ref a1, .int (iI 0), .int (iI 0), .ref a4, .int (iI z5), .int (iI z6), .int (iI z7), .ref a8, .int (iI z9), .int (iI z10), .int (iI z11), .ref a12, .int (iI z13), .ref a14, .int (iI z15), .ref a16]) rfl dX7_dropCurrent_14 (fun σ46 h47 n48 => ?_)
  have G49 := G44.put t_h (⟨a1, 0, 0, a4, z5, z6, z7, a8, z9, z10, z11, a12, z13, a14, z15, a16, h47, t18, ⟨by omega, by omega⟩, ⟨by omega, by omega⟩, t21, ⟨by omega, by omega⟩, ⟨by omega, by omega⟩, ⟨by omega, by omega⟩, t25, ⟨by omega, by omega⟩, ⟨by omega, by omega⟩, ⟨by omega, by omega⟩, t29, ⟨by omega, by omega⟩, t31, ⟨by omega, by omega⟩, t33⟩ : Ok K τ (37, 0, 0) (σ46 h)) n48
  have F50 := F45.put t_h (by simp) n48
  exact hend σ46 _ _ G49 F50 dX7_dropCurrent_17
set_option maxRecDepth 100000 in
theorem c_Mail_dropCurrent (l : Launch) (D : va_G) (K : Nat → ClassId) {τ : Nat → Option Ty} {dom : List Nat} (Z : Sk τ dom) (zb zL : Nat) (zx : Nat → Int32) (zs : Nat → Nat) (h : Nat) (t_h : τ h = some (37, 0, 0)) (σ0 : Nat → va_E) (G0 : Good K τ σ0) : MZ l yX7_dropCurrent wp_Mail_dropCurrent ({ frames := 1, cells := 0, slots := 0, locals := 20 }) D (tysA K) [.ref h] (fd dom σ0) zb zL zx zs (Qv D (fun σ' => Good K τ σ' ∧ Fr τ [(1, 2), (37, 0)] σ0 σ') (fun σ' => fd dom σ')) 0 0 := by
  refine mz_of (cc := cX7_dropCurrent) (maxL := 1) (ret := none) (by decide +kernel) rfl (Nat.le_of_ble_eq_true rfl) ?_
  intro p e s m below meth c A B hr hlk _ hz
  exact b_Mail_dropCurrent ⟨Nat.le_refl _, Nat.le_refl _⟩ B Z hz h t_h σ0 G0 (fun σ' lv pc G F hd => v_vret B hr hlk σ' ⟨G, F⟩ rfl (Nat.le_refl _) (Nat.le_refl _) hd)

def wp_Mail_reset : List Cond := .code yX7_reset cX7_reset 1 none :: (([.methodLink RX7 36 yX7_dropCurrent, .instanceMethod yX7_dropCurrent, .selects RX7 yX7_dropCurrent yX7_dropCurrent, .initialized RX7, .code yX7_dropCurrent cX7_dropCurrent 1 none, .fieldLink RX7 14 "LowEnergy$Mail" "current" "LLowEnergy$Row;", .methodLink RX7 62 yX9_clear, .instanceMethod yX9_clear, .selects RX9 yX9_clear yX9_clear, .initialized RX9, .code yX9_clear cX9_clear 1 none, .fieldLink RX9 21 "LowEnergy$Row" "size" "I", .fieldLink RX7 65 "LowEnergy$Mail" "sort" "I", .fieldLink RX7 68 "LowEnergy$Mail" "currentOp" "I", .fieldLink RX7 39 "LowEnergy$Mail" "controlHead" "I", .fieldLink RX7 43 "LowEnergy$Mail" "controlCount" "I", .fieldLink RX7 46 "LowEnergy$Mail" "versionSent" "Z", .fieldLink RX7 50 "LowEnergy$Mail" "messageHead" "I", .fieldLink RX7 53 "LowEnergy$Mail" "messageCount" "I", .fieldLink RX7 56 "LowEnergy$Mail" "placed" "I", .fieldLink RX7 59 "LowEnergy$Mail" "begun" "Z"] : List Cond) ++ (wsX70 ++ (wsX90 ++ ([]))))
theorem hi_Mail_reset_X7 : ∀ x ∈ u_ws RX7 TX7 16, x ∈ wp_Mail_reset := fun _ h => List.mem_cons_of_mem _ (List.mem_append_right _ (List.mem_append_left _ h))
theorem hi_Mail_reset_X9 : ∀ x ∈ u_ws RX9 TX9 2, x ∈ wp_Mail_reset := fun _ h => List.mem_cons_of_mem _ (List.mem_append_right _ (List.mem_append_right _ (List.mem_append_left _ h)))
set_option maxRecDepth 100000 in
theorem gd_Mail_reset_Mail_dropCurrent_36 : GoodIn wp_Mail_reset (wsV RX7 36 RX7 yX7_dropCurrent wp_Mail_dropCurrent) := goodIn_app (goodIn_r _ [1, 2, 3, 4] rfl rfl) (goodIn_ca (goodIn_r _ [5, 6, 7, 8, 9, 10, 11, 12, 13, 14] rfl rfl) (goodIn_app (goodIn_cls hi_Mail_reset_X7 gw_X7) (goodIn_app (goodIn_cls hi_Mail_reset_X9 gw_X9) (goodIn_nil))))
set_option maxHeartbeats 4000000 in
set_option maxRecDepth 100000 in
theorem b_Mail_reset {p : Program} {l : Launch} {e : Env} {R : Room} {s : State} {m : MethodId} {args : Array Value} {below : List Frame} {meth : Method} {c : Code} {D : va_G} {K : Nat → ClassId} {A : Nat → Prop} {Q : State → Prop} {τ : Nat → Option Ty} {dom : List Nat} {zb zL : Nat} {zx : Nat → Int32} {zs : Nat → Nat} (hR : 2 ≤ R.frames ∧ 40 ≤ R.locals) (B : Bx p s m args c cX7_reset 1 RX7 wp_Mail_reset D (tysA K) A) (Z : Sk τ dom) (hz : ZL zb zL zx zs A s s.heap) (h : Nat) (t_h : τ h = some (37, 0, 0)) (σ0 : Nat → va_E) (G0 : Good K τ σ0) (hend : ∀ (σ' : Nat → va_E) (lv : List (Nat × Value)) (pc : Nat), Good K τ σ' → Fr τ [(1, 2), (37, 0)] σ0 σ' → decode cX7_reset pc = .ok (.return_, 1) → V p l e R s m args below meth c 1 D A Q (0, 0) (fd dom σ') lv pc []) : V p l e R s m args below meth c 1 D A Q (0, 0) (fd dom σ0) [(0, .ref h)] 0 [] := by
  have F0 : Fr τ [(1, 2), (37, 0)] σ0 σ0 := Fr.rf
  refine v_aload_n B dX7_reset_0 rfl rfl ?_
  refine u_callVv B Z hz (n := 0) (As := []) (rest := []) (c_Mail_dropCurrent l D K Z _ _ _ _ h t_h σ0 G0) gd_Mail_reset_Mail_dropCurrent_36 rfl rfl rfl (by decide +kernel) ⟨Nat.le_trans (by decide +kernel) hR.1, Nat.le_trans (by decide +kernel) hR.2⟩ t_h (cls_Mail G0 t_h) rfl rfl rfl rfl (Nat.le_of_ble_eq_true rfl) dX7_reset_1 ⟨Nat.zero_le _, Nat.zero_le _⟩ (fun σ1 p2 => ?_)
  obtain ⟨G4, F5⟩ := p2
  have F6 := F0.call F5 (by first | rfl | simp)
  refine v_aload_n B dX7_reset_4 rfl rfl ?_
  refine v_iconst B (v := iI 0) dX7_reset_5 rfl ?_
  obtain ⟨a7, z8, z9, a10, z11, z12, z13, a14, z15, z16, z17, a18, z19, a20, z21, a22, h23, t24, r25, r26, t27, r28, r29, r30, t31, r32, r33, r34, t35, r36, t37, r38, t39⟩ : okMail τ (σ1 h) := G4 h _ t_h
  refine u_put B Z (C := RX7) (T := TX7) (N := 16) (ci := 7) hi_Mail_reset_X7 t_h h23 rfl 4 (by decide +kernel) tyX7 tyX7_ok nmX7 (List.mem_of_getElem? (i := 15) rfl) rfl (ty := .int) (tyX7_ok 4 (by decide +kernel)) rfl rfl (Nat.le_of_ble_eq_true rfl) (fs' := [.ref a7, .int (iI z8), .int (iI z9), .ref a10, .int (iI 0), .int (iI z12), .int (iI z13), .ref a14, .int (iI z15), .int (iI z16), .int (iI z17), .ref a18, .int (iI z19), .ref a20, .int (iI z21), .ref a22]) rfl dX7_reset_6 (fun σ40 h41 n42 => ?_)
  have G43 := G4.put t_h (⟨a7, z8, z9, a10, 0, z12, z13, a14, z15, z16, z17, a18, z19, a20, z21, a22, h41, t24, ⟨by omega, by omega⟩, ⟨by omega, by omega⟩, t27, ⟨by omega, by omega⟩, ⟨by omega, by omega⟩, ⟨by omega, by omega⟩, t31, ⟨by omega, by omega⟩, ⟨by omega, by omega⟩, ⟨by omega, by omega⟩, t35, ⟨by omega, by omega⟩, t37, ⟨by omega, by omega⟩, t39⟩ : Ok K τ (37, 0, 0) (σ40 h)) n42
  have F44 := F6.put t_h (by simp) n42
  refine v_aload_n B dX7_reset_9 rfl rfl ?_
  refine v_iconst B (v := iI 0) dX7_reset_10 rfl ?_
  refine u_put B Z (C := RX7) (T := TX7) (N := 16) (ci := 7) hi_Mail_reset_X7 t_h h41 rfl 5 (by decide +kernel) tyX7 tyX7_ok nmX7 (List.mem_of_getElem? (i := 16) rfl) rfl (ty := .int) (tyX7_ok 5 (by decide +kernel)) rfl rfl (Nat.le_of_ble_eq_true rfl) (fs' := [.ref a7, .int (iI z8), .int (iI z9), .ref a10, .int (iI 0), .int (iI 0), .int (iI z13), .ref a14, .int (iI z15), .int (iI z16), .int (iI z17), .ref a18, .int (iI z19), .ref a20, .int (iI z21), .ref a22]) rfl dX7_reset_11 (fun σ45 h46 n47 => ?_)
  have G48 := G43.put t_h (⟨a7, z8, z9, a10, 0, 0, z13, a14, z15, z16, z17, a18, z19, a20, z21, a22, h46, t24, ⟨by omega, by omega⟩, ⟨by omega, by omega⟩, t27, ⟨by omega, by omega⟩, ⟨by omega, by omega⟩, ⟨by omega, by omega⟩, t31, ⟨by omega, by omega⟩, ⟨by omega, by omega⟩, ⟨by omega, by omega⟩, t35, ⟨by omega, by omega⟩, t37, ⟨by omega, by omega⟩, t39⟩ : Ok K τ (37, 0, 0) (σ45 h)) n47
  have F49 := F44.put t_h (by simp) n47
  refine v_aload_n B dX7_reset_14 rfl rfl ?_
  refine v_iconst B (v := iI 0) dX7_reset_15 rfl ?_
  refine u_put B Z (C := RX7) (T := TX7) (N := 16) (ci := 7) hi_Mail_reset_X7 t_h h46 rfl 6 (by decide +kernel) tyX7 tyX7_ok nmX7 (List.mem_of_getElem? (i := 17) rfl) rfl (ty := .boolean) (tyX7_ok 6 (by decide +kernel)) (nar01 (by omega)) (fit01 (by omega)) (Nat.le_of_ble_eq_true rfl) (fs' := [.ref a7, .int (iI z8), .int (iI z9), .ref a10, .int (iI 0), .int (iI 0), .int (iI 0), .ref a14, .int (iI z15), .int (iI z16), .int (iI z17), .ref a18, .int (iI z19), .ref a20, .int (iI z21), .ref a22]) rfl dX7_reset_16 (fun σ50 h51 n52 => ?_)
  have G53 := G48.put t_h (⟨a7, z8, z9, a10, 0, 0, 0, a14, z15, z16, z17, a18, z19, a20, z21, a22, h51, t24, ⟨by omega, by omega⟩, ⟨by omega, by omega⟩, t27, ⟨by omega, by omega⟩, ⟨by omega, by omega⟩, ⟨by omega, by omega⟩, t31, ⟨by omega, by omega⟩, ⟨by omega, by omega⟩, ⟨by omega, by omega⟩, t35, ⟨by omega, by omega⟩, t37, ⟨by omega, by omega⟩, t39⟩ : Ok K τ (37, 0, 0) (σ50 h)) n52
  have F54 := F49.put t_h (by simp) n52
  refine v_aload_n B dX7_reset_19 rfl rfl ?_
  refine v_iconst B (v := iI 0) dX7_reset_20 rfl ?_
  refine u_put B Z (C := RX7) (T := TX7) (N := 16) (ci := 7) hi_Mail_reset_X7 t_h h51 rfl 8 (by decide +kernel) tyX7 tyX7_ok nmX7 (List.mem_of_getElem? (i := 18) rfl) rfl (ty := .int) (tyX7_ok 8 (by decide +kernel)) rfl rfl (Nat.le_of_ble_eq_true rfl) (fs' := [.ref a7, .int (iI z8), .int (iI z9), .ref a10, .int (iI 0), .int (iI 0), .int (iI 0), .ref a14, .int (iI 0), .int (iI z16), .int (iI z17), .ref a18, .int (iI z19), .ref a20, .int (iI z21), .ref a22]) rfl dX7_reset_21 (fun σ55 h56 n57 => ?_)
  have G58 := G53.put t_h (⟨a7, z8, z9, a10, 0, 0, 0, a14, 0, z16, z17, a18, z19, a20, z21, a22, h56, t24, ⟨by omega, by omega⟩, ⟨by omega, by omega⟩, t27, ⟨by omega, by omega⟩, ⟨by omega, by omega⟩, ⟨by omega, by omega⟩, t31, ⟨by omega, by omega⟩, ⟨by omega, by omega⟩, ⟨by omega, by omega⟩, t35, ⟨by omega, by omega⟩, t37, ⟨by omega, by omega⟩, t39⟩ : Ok K τ (37, 0, 0) (σ55 h)) n57
  have F59 := F54.put t_h (by simp) n57
  refine v_aload_n B dX7_reset_24 rfl rfl ?_
  refine v_iconst B (v := iI 0) dX7_reset_25 rfl ?_
  refine u_put B Z (C := RX7) (T := TX7) (N := 16) (ci := 7) hi_Mail_reset_X7 t_h h56 rfl 9 (by decide +kernel) tyX7 tyX7_ok nmX7 (List.mem_of_getElem? (i := 19) rfl) rfl (ty := .int) (tyX7_ok 9 (by decide +kernel)) rfl rfl (Nat.le_of_ble_eq_true rfl) (fs' := [.ref a7, .int (iI z8), .int (iI z9), .ref a10, .int (iI 0), .int (iI 0), .int (iI 0), .ref a14, .int (iI 0), .int (iI 0), .int (iI z17), .ref a18, .int (iI z19), .ref a20, .int (iI z21), .ref a22]) rfl dX7_reset_26 (fun σ60 h61 n62 => ?_)
  have G63 := G58.put t_h (⟨a7, z8, z9, a10, 0, 0, 0, a14, 0, 0, z17, a18, z19, a20, z21, a22, h61, t24, ⟨by omega, by omega⟩, ⟨by omega, by omega⟩, t27, ⟨by omega, by omega⟩, ⟨by omega, by omega⟩, ⟨by omega, by omega⟩, t31, ⟨by omega, by omega⟩, ⟨by omega, by omega⟩, ⟨by omega, by omega⟩, t35, ⟨by omega, by omega⟩, t37, ⟨by omega, by omega⟩, t39⟩ : Ok K τ (37, 0, 0) (σ60 h)) n62
  have F64 := F59.put t_h (by simp) n62
  refine v_aload_n B dX7_reset_29 rfl rfl ?_
  refine v_iconst B (v := iI 0) dX7_reset_30 rfl ?_
  refine u_put B Z (C := RX7) (T := TX7) (N := 16) (ci := 7) hi_Mail_reset_X7 t_h h61 rfl 10 (by decide +kernel) tyX7 tyX7_ok nmX7 (List.mem_of_getElem? (i := 20) rfl) rfl (ty := .int) (tyX7_ok 10 (by decide +kernel)) rfl rfl (Nat.le_of_ble_eq_true rfl) (fs' := [.ref a7, .int (iI z8), .int (iI z9), .ref a10, .int (iI 0), .int (iI 0), .int (iI 0), .ref a14, .int (iI 0), .int (iI 0), .int (iI 0), .ref a18, .int (iI z19), .ref a20, .int (iI z21), .ref a22]) rfl dX7_reset_31 (fun σ65 h66 n67 => ?_)
  have G68 := G63.put t_h (⟨a7, z8, z9, a10, 0, 0, 0, a14, 0, 0, 0, a18, z19, a20, z21, a22, h66, t24, ⟨by omega, by omega⟩, ⟨by omega, by omega⟩, t27, ⟨by omega, by omega⟩, ⟨by omega, by omega⟩, ⟨by omega, by omega⟩, t31, ⟨by omega, by omega⟩, ⟨by omega, by omega⟩, ⟨by omega, by omega⟩, t35, ⟨by omega, by omega⟩, t37, ⟨by omega, by omega⟩, t39⟩ : Ok K τ (37, 0, 0) (σ65 h)) n67
  have F69 := F64.put t_h (by simp) n67
  refine v_aload_n B dX7_reset_34 rfl rfl ?_
  refine v_iconst B (v := iI 0) dX7_reset_35 rfl ?_
  refine u_put B Z (C := RX7) (T := TX7) (N := 16) (ci := 7) hi_Mail_reset_X7 t_h h66 rfl 12 (by decide +kernel) tyX7 tyX7_ok nmX7 (List.mem_of_getElem? (i := 21) rfl) rfl (ty := .boolean) (tyX7_ok 12 (by decide +kernel)) (nar01 (by omega)) (fit01 (by omega)) (Nat.le_of_ble_eq_true rfl) (fs' := [.ref a7, .int (iI z8), .int (iI z9), .ref a10, .int (iI 0), .int (iI 0), .int (iI 0), .ref a14, .int (iI 0), .int (iI 0), .int (iI 0), .ref a18, .int (iI 0), .ref a20, .int (iI z21), .ref a22]) rfl dX7_reset_36 (fun σ70 h71 n72 => ?_)
  have G73 := G68.put t_h (⟨a7, z8, z9, a10, 0, 0, 0, a14, 0, 0, 0, a18, 0, a20, z21, a22, h71, t24, ⟨by omega, by omega⟩, ⟨by omega, by omega⟩, t27, ⟨by omega, by omega⟩, ⟨by omega, by omega⟩, ⟨by omega, by omega⟩, t31, ⟨by omega, by omega⟩, ⟨by omega, by omega⟩, ⟨by omega, by omega⟩, t35, ⟨by omega, by omega⟩, t37, ⟨by omega, by omega⟩, t39⟩ : Ok K τ (37, 0, 0) (σ70 h)) n72
  have F74 := F69.put t_h (by simp) n72
  exact hend σ70 _ _ G73 F74 dX7_reset_39
set_option maxRecDepth 100000 in
theorem c_Mail_reset (l : Launch) (D : va_G) (K : Nat → ClassId) {τ : Nat → Option Ty} {dom : List Nat} (Z : Sk τ dom) (zb zL : Nat) (zx : Nat → Int32) (zs : Nat → Nat) (h : Nat) (t_h : τ h = some (37, 0, 0)) (σ0 : Nat → va_E) (G0 : Good K τ σ0) : MZ l yX7_reset wp_Mail_reset ({ frames := 2, cells := 0, slots := 0, locals := 40 }) D (tysA K) [.ref h] (fd dom σ0) zb zL zx zs (Qv D (fun σ' => Good K τ σ' ∧ Fr τ [(1, 2), (37, 0)] σ0 σ') (fun σ' => fd dom σ')) 0 0 := by
  refine mz_of (cc := cX7_reset) (maxL := 1) (ret := none) (by decide +kernel) rfl (Nat.le_of_ble_eq_true rfl) ?_
  intro p e s m below meth c A B hr hlk _ hz
  exact b_Mail_reset ⟨Nat.le_refl _, Nat.le_refl _⟩ B Z hz h t_h σ0 G0 (fun σ' lv pc G F hd => v_vret B hr hlk σ' ⟨G, F⟩ rfl (Nat.le_refl _) (Nat.le_refl _) hd)

def wp_Mail_isFull : List Cond := .code yX7_isFull cX7_isFull 1 (some .boolean) :: (([.fieldLink RX7 53 "LowEnergy$Mail" "messageCount" "I"] : List Cond) ++ (wsX70 ++ ([])))
theorem hi_Mail_isFull_X7 : ∀ x ∈ u_ws RX7 TX7 16, x ∈ wp_Mail_isFull := fun _ h => List.mem_cons_of_mem _ (List.mem_append_right _ (List.mem_append_left _ h))
set_option maxHeartbeats 4000000 in
set_option maxRecDepth 100000 in
theorem b_Mail_isFull {p : Program} {l : Launch} {e : Env} {R : Room} {s : State} {m : MethodId} {args : Array Value} {below : List Frame} {meth : Method} {c : Code} {D : va_G} {K : Nat → ClassId} {A : Nat → Prop} {Q : State → Prop} {τ : Nat → Option Ty} {dom : List Nat} {zb zL : Nat} {zx : Nat → Int32} {zs : Nat → Nat} (hR : 0 ≤ R.frames ∧ 0 ≤ R.locals) (B : Bx p s m args c cX7_isFull 1 RX7 wp_Mail_isFull D (tysA K) A) (Z : Sk τ dom) (hz : ZL zb zL zx zs A s s.heap) (h : Nat) (t_h : τ h = some (37, 0, 0)) (σ0 : Nat → va_E) (G0 : Good K τ σ0) (hend : ∀ (z : Int) (lv : List (Nat × Value)) (pc : Nat), (0 ≤ z ∧ z ≤ 1) → (z = 0 → Fld σ0 h 7 9 (fun y => y ≤ 7)) → decode cX7_isFull pc = .ok (.ireturn, 1) → V p l e R s m args below meth c 1 D A Q (0, 0) (fd dom σ0) lv pc [.int (iI z)]) : V p l e R s m args below meth c 1 D A Q (0, 0) (fd dom σ0) [(0, .ref h)] 0 [] := by
  have F0 : Fr τ [] σ0 σ0 := Fr.rf
  obtain ⟨a1, z2, z3, a4, z5, z6, z7, a8, z9, z10, z11, a12, z13, a14, z15, a16, h17, t18, r19, r20, t21, r22, r23, r24, t25, r26, r27, r28, t29, r30, t31, r32, t33⟩ : okMail τ (σ0 h) := G0 h _ t_h
  refine v_aload_n B dX7_isFull_0 rfl rfl ?_
  refine u_get B Z (C := RX7) (T := TX7) (N := 16) (ci := 7) hi_Mail_isFull_X7 t_h h17 rfl 9 (by decide +kernel) (List.mem_of_getElem? (i := 1) rfl) rfl dX7_isFull_1 ?_
  refine v_bipush B (v := iI 8) dX7_isFull_4 (by decide +kernel) ?_
  refine u_icmp_lt B (tgt := 13) (by omega) (by omega) dX7_isFull_6 (by decide +kernel) (fun c34 => ?_) (fun c34 => ?_)
  · refine v_iconst B (v := iI 0) dX7_isFull_13 rfl ?_
    exact hend 0 _ _ ⟨by omega, by omega⟩ (fun _ => Fld.mk h17 (j := 9) rfl (by omega) (by omega)) dX7_isFull_14
  · refine v_iconst B (v := iI 1) dX7_isFull_9 rfl ?_
    refine v_goto B (tgt := 14) dX7_isFull_10 (by decide +kernel) ?_
    exact hend 1 _ _ ⟨by omega, by omega⟩ (fun q => by omega) dX7_isFull_14
set_option maxRecDepth 100000 in
theorem c_Mail_isFull (l : Launch) (D : va_G) (K : Nat → ClassId) {τ : Nat → Option Ty} {dom : List Nat} (Z : Sk τ dom) (zb zL : Nat) (zx : Nat → Int32) (zs : Nat → Nat) (h : Nat) (t_h : τ h = some (37, 0, 0)) (σ0 : Nat → va_E) (G0 : Good K τ σ0) : MZ l yX7_isFull wp_Mail_isFull ({ frames := 0, cells := 0, slots := 0, locals := 0 }) D (tysA K) [.ref h] (fd dom σ0) zb zL zx zs (Qi D (fun r σ' => σ0 = σ' ∧ ∃ z : Int, r = iI z ∧ (0 ≤ z ∧ z ≤ 1) ∧ (z = 0 → Fld σ0 h 7 9 (fun y => y ≤ 7))) (fun σ' => fd dom σ')) 0 0 := by
  refine mz_of (cc := cX7_isFull) (maxL := 1) (ret := (some .boolean)) (by decide +kernel) rfl (Nat.le_of_ble_eq_true rfl) ?_
  intro p e s m below meth c A B hr hlk _ hz
  exact b_Mail_isFull ⟨Nat.le_refl _, Nat.le_refl _⟩ B Z hz h t_h σ0 G0 (fun z lv pc hZ hP hd => v_zret B hr hlk (nar01 (by omega)) σ0 ⟨rfl, z, rfl, hZ, hP⟩ rfl (Nat.le_refl _) (Nat.le_refl _) hd)

def wp_Mail_newControl : List Cond := .code yX7_newControl cX7_newControl 3 (some (.object "LowEnergy$Row")) :: (([.methodLink RX7 62 yX9_clear, .instanceMethod yX9_clear, .selects RX9 yX9_clear yX9_clear, .initialized RX9, .code yX9_clear cX9_clear 1 none, .fieldLink RX9 21 "LowEnergy$Row" "size" "I", .methodLink RX7 71 yX9_put, .instanceMethod yX9_put, .selects RX9 yX9_put yX9_put, .code yX9_put cX9_put 2 none, .fieldLink RX9 15 "LowEnergy$Row" "bytes" "[I", .fieldLink RX7 33 "LowEnergy$Mail" "spare" "LLowEnergy$Row;", .fieldLink RX7 43 "LowEnergy$Mail" "controlCount" "I", .fieldLink RX7 20 "LowEnergy$Mail" "controls" "[LLowEnergy$Row;", .fieldLink RX7 39 "LowEnergy$Mail" "controlHead" "I"] : List Cond) ++ (wsX90 ++ (wsX70 ++ ([]))))
theorem hi_Mail_newControl_X9 : ∀ x ∈ u_ws RX9 TX9 2, x ∈ wp_Mail_newControl := fun _ h => List.mem_cons_of_mem _ (List.mem_append_right _ (List.mem_append_left _ h))
theorem hi_Mail_newControl_X7 : ∀ x ∈ u_ws RX7 TX7 16, x ∈ wp_Mail_newControl := fun _ h => List.mem_cons_of_mem _ (List.mem_append_right _ (List.mem_append_right _ (List.mem_append_left _ h)))
set_option maxRecDepth 100000 in
theorem gd_Mail_newControl_Row_clear_62 : GoodIn wp_Mail_newControl (wsV RX7 62 RX9 yX9_clear wp_Row_clear) := goodIn_app (goodIn_r _ [1, 2, 3, 4] rfl rfl) (goodIn_ca (goodIn_r _ [5, 6] rfl rfl) (goodIn_app (goodIn_cls hi_Mail_newControl_X9 gw_X9) (goodIn_nil)))
set_option maxRecDepth 100000 in
theorem gd_Mail_newControl_Row_put_71 : GoodIn wp_Mail_newControl (wsV RX7 71 RX9 yX9_put wp_Row_put) := goodIn_app (goodIn_r _ [7, 8, 9, 4] rfl rfl) (goodIn_ca (goodIn_r _ [10, 6, 11] rfl rfl) (goodIn_app (goodIn_cls hi_Mail_newControl_X9 gw_X9) (goodIn_nil)))
set_option maxHeartbeats 4000000 in
set_option maxRecDepth 100000 in
theorem b_Mail_newControl {p : Program} {l : Launch} {e : Env} {R : Room} {s : State} {m : MethodId} {args : Array Value} {below : List Frame} {meth : Method} {c : Code} {D : va_G} {K : Nat → ClassId} {A : Nat → Prop} {Q : State → Prop} {τ : Nat → Option Ty} {dom : List Nat} {zb zL : Nat} {zx : Nat → Int32} {zs : Nat → Nat} (hR : 1 ≤ R.frames ∧ 21 ≤ R.locals) (B : Bx p s m args c cX7_newControl 3 RX7 wp_Mail_newControl D (tysA K) A) (Z : Sk τ dom) (hz : ZL zb zL zx zs A s s.heap) (h : Nat) (x1 : Int) (t_h : τ h = some (37, 0, 0)) (r_x1 : -2147483648 ≤ x1 ∧ x1 ≤ 2147483647) (σ0 : Nat → va_E) (G0 : Good K τ σ0) (hend : ∀ (σ' : Nat → va_E) (r : Option Nat) (lv : List (Nat × Value)) (pc : Nat), Good K τ σ' → Fr τ [(37, 0), (1, 9), (2, 9)] σ0 σ' → (∃ a, r = some a ∧ τ a = some (1, 9, 0)) → decode cX7_newControl pc = .ok (.areturn, 1) → V p l e R s m args below meth c 3 D A Q (0, 0) (fd dom σ') lv pc [va_rf r]) : V p l e R s m args below meth c 3 D A Q (0, 0) (fd dom σ0) [(0, .ref h), (1, .int (iI x1))] 0 [] := by
  have F0 : Fr τ [(37, 0), (1, 9), (2, 9)] σ0 σ0 := Fr.rf
  have J48 : ∀ (σ_48 : Nat → va_E) (a48_2 : Nat), Good K τ σ_48 → Fr τ [(37, 0), (1, 9), (2, 9)] σ0 σ_48 → (τ a48_2 = some (1, 9, 0)) → V p l e R s m args below meth c 3 D A Q (0, 0) (fd dom σ_48) [(1, .int (iI x1)), (2, .ref a48_2)] 48 [] := by
    intro σ_48 a48_2 G_48 F_48 t48_2
    refine v_aload_n B dX7_newControl_48 rfl rfl ?_
    refine u_callVv B Z hz (n := 0) (As := []) (rest := []) (c_Row_clear l D K Z _ _ _ _ a48_2 t48_2 σ_48 G_48) gd_Mail_newControl_Row_clear_62 rfl rfl rfl (by decide +kernel) ⟨Nat.le_trans (by decide +kernel) hR.1, Nat.le_trans (by decide +kernel) hR.2⟩ t48_2 (cls_Row G_48 t48_2) rfl rfl rfl rfl (Nat.le_of_ble_eq_true rfl) dX7_newControl_49 ⟨Nat.zero_le _, Nat.zero_le _⟩ (fun σ1 p2 => ?_)
    obtain ⟨G4, F5⟩ := p2
    have F6 := F_48.call F5 (by first | rfl | simp)
    refine v_aload_n B dX7_newControl_52 rfl rfl ?_
    refine v_iload_n B dX7_newControl_53 rfl rfl ?_
    refine u_callVv B Z hz (n := 1) (As := [.int (iI x1)]) (rest := []) (c_Row_put l D K Z _ _ _ _ a48_2 x1 t48_2 ⟨by omega, by omega⟩ σ1 G4) gd_Mail_newControl_Row_put_71 rfl rfl rfl (by decide +kernel) ⟨Nat.le_trans (by decide +kernel) hR.1, Nat.le_trans (by decide +kernel) hR.2⟩ t48_2 (cls_Row G4 t48_2) rfl rfl rfl rfl (Nat.le_of_ble_eq_true rfl) dX7_newControl_54 ⟨Nat.zero_le _, Nat.zero_le _⟩ (fun σ7 p8 => ?_)
    obtain ⟨G10, F11⟩ := p8
    have F12 := F6.call F11 (by first | rfl | simp)
    refine v_aload_n B dX7_newControl_57 rfl rfl ?_
    exact hend σ7 (some a48_2) _ _ G10 F12 (⟨_, rfl, t48_2⟩) dX7_newControl_58
  refine v_aload_n B dX7_newControl_0 rfl rfl ?_
  obtain ⟨a13, z14, z15, a16, z17, z18, z19, a20, z21, z22, z23, a24, z25, a26, z27, a28, h29, t30, r31, r32, t33, r34, r35, r36, t37, r38, r39, r40, t41, r42, t43, r44, t45⟩ : okMail τ (σ0 h) := G0 h _ t_h
  refine u_get B Z (C := RX7) (T := TX7) (N := 16) (ci := 7) hi_Mail_newControl_X7 t_h h29 rfl 15 (by decide +kernel) (List.mem_of_getElem? (i := 12) rfl) rfl dX7_newControl_1 ?_
  refine v_astore_n B (lv' := [(2, .ref a28), (0, .ref h), (1, .int (iI x1))]) dX7_newControl_4 rfl (by decide +kernel) rfl ?_
  refine v_aload_n B dX7_newControl_5 rfl rfl ?_
  refine u_get B Z (C := RX7) (T := TX7) (N := 16) (ci := 7) hi_Mail_newControl_X7 t_h h29 rfl 5 (by decide +kernel) (List.mem_of_getElem? (i := 13) rfl) rfl dX7_newControl_6 ?_
  refine v_aload_n B dX7_newControl_9 rfl rfl ?_
  refine u_get B Z (C := RX7) (T := TX7) (N := 16) (ci := 7) hi_Mail_newControl_X7 t_h h29 rfl 3 (by decide +kernel) (List.mem_of_getElem? (i := 14) rfl) rfl dX7_newControl_10 ?_
  obtain ⟨f46, h47, e48⟩ : okRA K τ 9 6 (σ0 a16) := G0 a16 _ t33
  refine u_alen B Z (t0 := 4) (v := 6) t33 h47 rfl (by first | rfl | omega) dX7_newControl_13 ?_
  refine u_icmp_ge B (tgt := 48) (by omega) (by omega) dX7_newControl_14 (by decide +kernel) (fun c49 => ?_) (fun c49 => ?_)
  · refine v_lv [2, 0] rfl ?_
    exact J48 σ0 a28 G0 F0 t45
  · refine v_aload_n B dX7_newControl_17 rfl rfl ?_
    refine u_get B Z (C := RX7) (T := TX7) (N := 16) (ci := 7) hi_Mail_newControl_X7 t_h h29 rfl 3 (by decide +kernel) (List.mem_of_getElem? (i := 14) rfl) rfl dX7_newControl_18 ?_
    refine v_aload_n B dX7_newControl_21 rfl rfl ?_
    refine u_get B Z (C := RX7) (T := TX7) (N := 16) (ci := 7) hi_Mail_newControl_X7 t_h h29 rfl 4 (by decide +kernel) (List.mem_of_getElem? (i := 15) rfl) rfl dX7_newControl_22 ?_
    refine v_aload_n B dX7_newControl_25 rfl rfl ?_
    refine u_get B Z (C := RX7) (T := TX7) (N := 16) (ci := 7) hi_Mail_newControl_X7 t_h h29 rfl 5 (by decide +kernel) (List.mem_of_getElem? (i := 13) rfl) rfl dX7_newControl_26 ?_
    refine v_iadd B (v := iI (z17 + z18)) dX7_newControl_29 ((iI_add _ _).trans (congrArg iI (by omega))) ?_
    refine v_aload_n B dX7_newControl_30 rfl rfl ?_
    refine u_get B Z (C := RX7) (T := TX7) (N := 16) (ci := 7) hi_Mail_newControl_X7 t_h h29 rfl 3 (by decide +kernel) (List.mem_of_getElem? (i := 14) rfl) rfl dX7_newControl_31 ?_
    refine u_alen B Z (t0 := 4) (v := 6) t33 h47 rfl (by first | rfl | omega) dX7_newControl_34 ?_
    obtain ⟨z50, e51⟩ : ∃ z : Int, z = (z17 + z18) % 6 := ⟨_, rfl⟩
    refine v_irem B (v := iI z50) dX7_newControl_35 (fun q => absurd ((iI_eq (a := 6) (b := 0) (by omega) (by omega)).mp q) (by omega)) ((iI_rem (a := (z17 + z18)) (b := 6) (by omega) (by omega)).trans (congrArg iI e51.symm)) ?_
    obtain ⟨a52, e53, t54⟩ := e48 (z50 : Int).toNat (by omega)
    refine u_aald B Z (t0 := 4) (v := .ref a52) t33 h47 rfl (by omega) (by rw [e53]; rfl) dX7_newControl_36 ?_
    refine v_astore_n B (lv' := [(2, .ref a52), (0, .ref h), (1, .int (iI x1))]) dX7_newControl_37 rfl (by decide +kernel) rfl ?_
    refine v_aload_n B dX7_newControl_38 rfl rfl ?_
    refine v_dup B dX7_newControl_39 rfl ?_
    refine u_get B Z (C := RX7) (T := TX7) (N := 16) (ci := 7) hi_Mail_newControl_X7 t_h h29 rfl 5 (by decide +kernel) (List.mem_of_getElem? (i := 13) rfl) rfl dX7_newControl_40 ?_
    refine v_iconst B (v := iI 1) dX7_newControl_43 rfl ?_
    refine v_iadd B (v := iI (z18 + 1)) dX7_newControl_44 ((iI_add _ _).trans (congrArg iI (by omega))) ?_
    refine u_put B Z (C := RX7) (T := TX7) (N := 16) (ci := 7) hi_Mail_newControl_X7 t_h h29 rfl 5 (by decide +kernel) tyX7 tyX7_ok nmX7 (List.mem_of_getElem? (i := 13) rfl) rfl (ty := .int) (tyX7_ok 5 (by decide +kernel)) rfl rfl (Nat.le_of_ble_eq_true rfl) (fs' := [.ref a13, .int (iI z14), .int (iI z15), .ref a16, .int (iI z17), .int (iI (z18 + 1)), .int (iI z19), .ref a20, .int (iI z21), .int (iI z22), .int (iI z23), .ref a24, .int (iI z25), .ref a26, .int (iI z27), .ref a28]) rfl dX7_newControl_45 (fun σ55 h56 n57 => ?_)
    have G58 := G0.put t_h (⟨a13, z14, z15, a16, z17, (z18 + 1), z19, a20, z21, z22, z23, a24, z25, a26, z27, a28, h56, t30, ⟨by omega, by omega⟩, ⟨by omega, by omega⟩, t33, ⟨by omega, by omega⟩, ⟨by omega, by omega⟩, ⟨by omega, by omega⟩, t37, ⟨by omega, by omega⟩, ⟨by omega, by omega⟩, ⟨by omega, by omega⟩, t41, ⟨by omega, by omega⟩, t43, ⟨by omega, by omega⟩, t45⟩ : Ok K τ (37, 0, 0) (σ55 h)) n57
    have F59 := F0.put t_h (by simp) n57
    have h60 := (n57 a16 (ne_ty t33 t_h (by simp))).trans h47
    refine v_lv [2, 0] rfl ?_
    exact J48 σ55 a52 G58 F59 t54
set_option maxRecDepth 100000 in
theorem c_Mail_newControl (l : Launch) (D : va_G) (K : Nat → ClassId) {τ : Nat → Option Ty} {dom : List Nat} (Z : Sk τ dom) (zb zL : Nat) (zx : Nat → Int32) (zs : Nat → Nat) (h : Nat) (x1 : Int) (t_h : τ h = some (37, 0, 0)) (r_x1 : -2147483648 ≤ x1 ∧ x1 ≤ 2147483647) (σ0 : Nat → va_E) (G0 : Good K τ σ0) : MZ l yX7_newControl wp_Mail_newControl ({ frames := 1, cells := 0, slots := 0, locals := 21 }) D (tysA K) [.ref h, .int (iI x1)] (fd dom σ0) zb zL zx zs (Qq D (fun r σ' => Good K τ σ' ∧ Fr τ [(37, 0), (1, 9), (2, 9)] σ0 σ' ∧ (∃ a, r = some a ∧ τ a = some (1, 9, 0))) (fun σ' => fd dom σ')) 0 0 := by
  refine mz_of (cc := cX7_newControl) (maxL := 3) (ret := (some (.object "LowEnergy$Row"))) (by decide +kernel) rfl (Nat.le_of_ble_eq_true rfl) ?_
  intro p e s m below meth c A B hr hlk _ hz
  exact b_Mail_newControl ⟨Nat.le_refl _, Nat.le_refl _⟩ B Z hz h x1 t_h r_x1 σ0 G0 (fun σ' r lv pc G F hQ hd => v_aret B r hr hlk σ' ⟨G, F, hQ⟩ rfl (Nat.le_refl _) (Nat.le_refl _) hd)

def wp_Mail_addVersion : List Cond := .code yX7_addVersion cX7_addVersion 2 none :: (([.methodLink RX7 74 yX7_newControl, .instanceMethod yX7_newControl, .selects RX7 yX7_newControl yX7_newControl, .initialized RX7, .code yX7_newControl cX7_newControl 3 (some (.object "LowEnergy$Row")), .methodLink RX7 62 yX9_clear, .instanceMethod yX9_clear, .selects RX9 yX9_clear yX9_clear, .initialized RX9, .code yX9_clear cX9_clear 1 none, .fieldLink RX9 21 "LowEnergy$Row" "size" "I", .methodLink RX7 71 yX9_put, .instanceMethod yX9_put, .selects RX9 yX9_put yX9_put, .code yX9_put cX9_put 2 none, .fieldLink RX9 15 "LowEnergy$Row" "bytes" "[I", .fieldLink RX7 33 "LowEnergy$Mail" "spare" "LLowEnergy$Row;", .fieldLink RX7 43 "LowEnergy$Mail" "controlCount" "I", .fieldLink RX7 20 "LowEnergy$Mail" "controls" "[LLowEnergy$Row;", .fieldLink RX7 39 "LowEnergy$Mail" "controlHead" "I", .methodLink RX7 78 yX9_putNumber, .instanceMethod yX9_putNumber, .selects RX9 yX9_putNumber yX9_putNumber, .code yX9_putNumber cX9_putNumber 5 none, .constantLong RX9 25 (255), .constantLong RX7 82 (258), .fieldLink RX7 46 "LowEnergy$Mail" "versionSent" "Z"] : List Cond) ++ (wsX90 ++ (wsX70 ++ ([]))))
theorem hi_Mail_addVersion_X9 : ∀ x ∈ u_ws RX9 TX9 2, x ∈ wp_Mail_addVersion := fun _ h => List.mem_cons_of_mem _ (List.mem_append_right _ (List.mem_append_left _ h))
theorem hi_Mail_addVersion_X7 : ∀ x ∈ u_ws RX7 TX7 16, x ∈ wp_Mail_addVersion := fun _ h => List.mem_cons_of_mem _ (List.mem_append_right _ (List.mem_append_right _ (List.mem_append_left _ h)))
set_option maxRecDepth 100000 in
theorem gd_Mail_addVersion_Mail_newControl_74 : GoodIn wp_Mail_addVersion (wsV RX7 74 RX7 yX7_newControl wp_Mail_newControl) := goodIn_app (goodIn_r _ [1, 2, 3, 4] rfl rfl) (goodIn_ca (goodIn_r _ [5, 6, 7, 8, 9, 10, 11, 12, 13, 14, 15, 16, 17, 18, 19, 20] rfl rfl) (goodIn_app (goodIn_cls hi_Mail_addVersion_X9 gw_X9) (goodIn_app (goodIn_cls hi_Mail_addVersion_X7 gw_X7) (goodIn_nil))))
set_option maxRecDepth 100000 in
theorem gd_Mail_addVersion_Row_put_71 : GoodIn wp_Mail_addVersion (wsV RX7 71 RX9 yX9_put wp_Row_put) := goodIn_app (goodIn_r _ [12, 13, 14, 9] rfl rfl) (goodIn_ca (goodIn_r _ [15, 11, 16] rfl rfl) (goodIn_app (goodIn_cls hi_Mail_addVersion_X9 gw_X9) (goodIn_nil)))
set_option maxRecDepth 100000 in
theorem gd_Mail_addVersion_Row_putNumber_78 : GoodIn wp_Mail_addVersion (wsV RX7 78 RX9 yX9_putNumber wp_Row_putNumber) := goodIn_app (goodIn_r _ [21, 22, 23, 9] rfl rfl) (goodIn_ca (goodIn_r _ [24, 11, 16, 25] rfl rfl) (goodIn_app (goodIn_cls hi_Mail_addVersion_X9 gw_X9) (goodIn_nil)))
set_option maxHeartbeats 4000000 in
set_option maxRecDepth 100000 in
theorem b_Mail_addVersion {p : Program} {l : Launch} {e : Env} {R : Room} {s : State} {m : MethodId} {args : Array Value} {below : List Frame} {meth : Method} {c : Code} {D : va_G} {K : Nat → ClassId} {A : Nat → Prop} {Q : State → Prop} {τ : Nat → Option Ty} {dom : List Nat} {zb zL : Nat} {zx : Nat → Int32} {zs : Nat → Nat} (hR : 2 ≤ R.frames ∧ 43 ≤ R.locals) (B : Bx p s m args c cX7_addVersion 2 RX7 wp_Mail_addVersion D (tysA K) A) (Z : Sk τ dom) (hz : ZL zb zL zx zs A s s.heap) (h : Nat) (t_h : τ h = some (37, 0, 0)) (σ0 : Nat → va_E) (G0 : Good K τ σ0) (hend : ∀ (σ' : Nat → va_E) (lv : List (Nat × Value)) (pc : Nat), Good K τ σ' → Fr τ [(37, 0), (1, 9), (2, 9)] σ0 σ' → decode cX7_addVersion pc = .ok (.return_, 1) → V p l e R s m args below meth c 2 D A Q (0, 0) (fd dom σ') lv pc []) : V p l e R s m args below meth c 2 D A Q (0, 0) (fd dom σ0) [(0, .ref h)] 0 [] := by
  have F0 : Fr τ [(37, 0), (1, 9), (2, 9)] σ0 σ0 := Fr.rf
  refine v_aload_n B dX7_addVersion_0 rfl rfl ?_
  refine v_bipush B (v := iI 12) dX7_addVersion_1 (by decide +kernel) ?_
  refine u_callVq B Z hz (n := 1) (As := [.int (iI 12)]) (rest := []) (c_Mail_newControl l D K Z _ _ _ _ h 12 t_h ⟨by omega, by omega⟩ σ0 G0) gd_Mail_addVersion_Mail_newControl_74 rfl rfl rfl (by decide +kernel) ⟨Nat.le_trans (by decide +kernel) hR.1, Nat.le_trans (by decide +kernel) hR.2⟩ t_h (cls_Mail G0 t_h) rfl rfl rfl rfl (Nat.le_of_ble_eq_true rfl) dX7_addVersion_3 ⟨Nat.zero_le _, Nat.zero_le _⟩ (fun v3 σ1 p2 => ?_)
  obtain ⟨G4, F5, q7⟩ := p2
  have F6 := F0.call F5 (by first | rfl | simp)
  obtain ⟨a8, rfl, t9⟩ := q7
  show V _ _ _ _ _ _ _ _ _ _ _ _ _ _ _ _ _ _ [.ref a8]
  refine v_astore_n B (lv' := [(1, .ref a8), (0, .ref h)]) dX7_addVersion_6 rfl (by decide +kernel) rfl ?_
  refine v_aload_n B dX7_addVersion_7 rfl rfl ?_
  refine v_bipush B (v := iI 9) dX7_addVersion_8 (by decide +kernel) ?_
  refine u_callVv B Z hz (n := 1) (As := [.int (iI 9)]) (rest := []) (c_Row_put l D K Z _ _ _ _ a8 9 t9 ⟨by omega, by omega⟩ σ1 G4) gd_Mail_addVersion_Row_put_71 rfl rfl rfl (by decide +kernel) ⟨Nat.le_trans (by decide +kernel) hR.1, Nat.le_trans (by decide +kernel) hR.2⟩ t9 (cls_Row G4 t9) rfl rfl rfl rfl (Nat.le_of_ble_eq_true rfl) dX7_addVersion_10 ⟨Nat.zero_le _, Nat.zero_le _⟩ (fun σ10 p11 => ?_)
  obtain ⟨G13, F14⟩ := p11
  have F15 := F6.call F14 (by first | rfl | simp)
  refine v_aload_n B dX7_addVersion_13 rfl rfl ?_
  refine v_lconst B (v := lI 1) dX7_addVersion_14 (by decide +kernel) ?_
  refine v_iconst B (v := iI 2) dX7_addVersion_15 rfl ?_
  refine u_callVv B Z hz (n := 2) (As := [.long (lI 1), .int (iI 2)]) (rest := []) (c_Row_putNumber l D K Z _ _ _ _ a8 1 2 t9 ⟨by omega, by omega⟩ ⟨by omega, by omega⟩ σ10 G13) gd_Mail_addVersion_Row_putNumber_78 rfl rfl rfl (by decide +kernel) ⟨Nat.le_trans (by decide +kernel) hR.1, Nat.le_trans (by decide +kernel) hR.2⟩ t9 (cls_Row G13 t9) rfl rfl rfl rfl (Nat.le_of_ble_eq_true rfl) dX7_addVersion_16 ⟨Nat.zero_le _, Nat.zero_le _⟩ (fun σ16 p17 => ?_)
  obtain ⟨G19, F20⟩ := p17
  have F21 := F15.call F20 (by first | rfl | simp)
  refine v_aload_n B dX7_addVersion_19 rfl rfl ?_
  refine v_ldc2 B (v := lI 258) (u_cl (List.mem_of_getElem? (i := 26) rfl) (by decide +kernel)) dX7_addVersion_20 ?_
  refine v_iconst B (v := iI 2) dX7_addVersion_23 rfl ?_
  refine u_callVv B Z hz (n := 2) (As := [.long (lI 258), .int (iI 2)]) (rest := []) (c_Row_putNumber l D K Z _ _ _ _ a8 258 2 t9 ⟨by omega, by omega⟩ ⟨by omega, by omega⟩ σ16 G19) gd_Mail_addVersion_Row_putNumber_78 rfl rfl rfl (by decide +kernel) ⟨Nat.le_trans (by decide +kernel) hR.1, Nat.le_trans (by decide +kernel) hR.2⟩ t9 (cls_Row G19 t9) rfl rfl rfl rfl (Nat.le_of_ble_eq_true rfl) dX7_addVersion_24 ⟨Nat.zero_le _, Nat.zero_le _⟩ (fun σ22 p23 => ?_)
  obtain ⟨G25, F26⟩ := p23
  have F27 := F21.call F26 (by first | rfl | simp)
  refine v_aload_n B dX7_addVersion_27 rfl rfl ?_
  refine v_iconst B (v := iI 1) dX7_addVersion_28 rfl ?_
  obtain ⟨a28, z29, z30, a31, z32, z33, z34, a35, z36, z37, z38, a39, z40, a41, z42, a43, h44, t45, r46, r47, t48, r49, r50, r51, t52, r53, r54, r55, t56, r57, t58, r59, t60⟩ : okMail τ (σ22 h) := G25 h _ t_h
  refine u_put B Z (C := RX7) (T := TX7) (N := 16) (ci := 7) hi_Mail_addVersion_X7 t_h h44 rfl 6 (by decide +kernel) tyX7 tyX7_ok nmX7 (List.mem_of_getElem? (i := 27) rfl) rfl (ty := .boolean) (tyX7_ok 6 (by decide +kernel)) (nar01 (by omega)) (fit01 (by omega)) (Nat.le_of_ble_eq_true rfl) (fs' := [.ref a28, .int (iI z29), .int (iI z30), .ref a31, .int (iI z32), .int (iI z33), .int (iI 1), .ref a35, .int (iI z36), .int (iI z37), .int (iI z38), .ref a39, .int (iI z40), .ref a41, .int (iI z42), .ref a43]) rfl dX7_addVersion_29 (fun σ61 h62 n63 => ?_)
  have G64 := G25.put t_h (⟨a28, z29, z30, a31, z32, z33, 1, a35, z36, z37, z38, a39, z40, a41, z42, a43, h62, t45, ⟨by omega, by omega⟩, ⟨by omega, by omega⟩, t48, ⟨by omega, by omega⟩, ⟨by omega, by omega⟩, ⟨by omega, by omega⟩, t52, ⟨by omega, by omega⟩, ⟨by omega, by omega⟩, ⟨by omega, by omega⟩, t56, ⟨by omega, by omega⟩, t58, ⟨by omega, by omega⟩, t60⟩ : Ok K τ (37, 0, 0) (σ61 h)) n63
  have F65 := F27.put t_h (by simp) n63
  exact hend σ61 _ _ G64 F65 dX7_addVersion_32
set_option maxRecDepth 100000 in
theorem c_Mail_addVersion (l : Launch) (D : va_G) (K : Nat → ClassId) {τ : Nat → Option Ty} {dom : List Nat} (Z : Sk τ dom) (zb zL : Nat) (zx : Nat → Int32) (zs : Nat → Nat) (h : Nat) (t_h : τ h = some (37, 0, 0)) (σ0 : Nat → va_E) (G0 : Good K τ σ0) : MZ l yX7_addVersion wp_Mail_addVersion ({ frames := 2, cells := 0, slots := 0, locals := 43 }) D (tysA K) [.ref h] (fd dom σ0) zb zL zx zs (Qv D (fun σ' => Good K τ σ' ∧ Fr τ [(37, 0), (1, 9), (2, 9)] σ0 σ') (fun σ' => fd dom σ')) 0 0 := by
  refine mz_of (cc := cX7_addVersion) (maxL := 2) (ret := none) (by decide +kernel) rfl (Nat.le_of_ble_eq_true rfl) ?_
  intro p e s m below meth c A B hr hlk _ hz
  exact b_Mail_addVersion ⟨Nat.le_refl _, Nat.le_refl _⟩ B Z hz h t_h σ0 G0 (fun σ' lv pc G F hd => v_vret B hr hlk σ' ⟨G, F⟩ rfl (Nat.le_refl _) (Nat.le_refl _) hd)

def wp_Mail_post : List Cond := .code yX7_post cX7_post 4 none :: (([.methodLink RX7 84 yX7_isFull, .instanceMethod yX7_isFull, .selects RX7 yX7_isFull yX7_isFull, .initialized RX7, .code yX7_isFull cX7_isFull 1 (some .boolean), .fieldLink RX7 53 "LowEnergy$Mail" "messageCount" "I", .fieldLink RX7 24 "LowEnergy$Mail" "messages" "[LLowEnergy$Row;", .fieldLink RX7 50 "LowEnergy$Mail" "messageHead" "I", .methodLink RX7 62 yX9_clear, .instanceMethod yX9_clear, .selects RX9 yX9_clear yX9_clear, .initialized RX9, .code yX9_clear cX9_clear 1 none, .fieldLink RX9 21 "LowEnergy$Row" "size" "I", .methodLink RX7 78 yX9_putNumber, .instanceMethod yX9_putNumber, .selects RX9 yX9_putNumber yX9_putNumber, .code yX9_putNumber cX9_putNumber 5 none, .fieldLink RX9 15 "LowEnergy$Row" "bytes" "[I", .constantLong RX9 25 (255), .methodLink RX7 91 yX9_putPart, .instanceMethod yX9_putPart, .selects RX9 yX9_putPart yX9_putPart, .code yX9_putPart cX9_putPart 6 none, .methodLink RX9 9 Lib.Math.max.name, .static Lib.Math.max.name, .initialized "java/lang/Math", .code Lib.Math.max.name Lib.Math.max.code 2 (some .int)] : List Cond) ++ (wsX70 ++ (wsX90 ++ ([]))))
theorem hi_Mail_post_X7 : ∀ x ∈ u_ws RX7 TX7 16, x ∈ wp_Mail_post := fun _ h => List.mem_cons_of_mem _ (List.mem_append_right _ (List.mem_append_left _ h))
theorem hi_Mail_post_X9 : ∀ x ∈ u_ws RX9 TX9 2, x ∈ wp_Mail_post := fun _ h => List.mem_cons_of_mem _ (List.mem_append_right _ (List.mem_append_right _ (List.mem_append_left _ h)))
set_option maxRecDepth 100000 in
theorem gd_Mail_post_Mail_isFull_84 : GoodIn wp_Mail_post (wsV RX7 84 RX7 yX7_isFull wp_Mail_isFull) := goodIn_app (goodIn_r _ [1, 2, 3, 4] rfl rfl) (goodIn_ca (goodIn_r _ [5, 6] rfl rfl) (goodIn_app (goodIn_cls hi_Mail_post_X7 gw_X7) (goodIn_nil)))
set_option maxRecDepth 100000 in
theorem gd_Mail_post_Row_clear_62 : GoodIn wp_Mail_post (wsV RX7 62 RX9 yX9_clear wp_Row_clear) := goodIn_app (goodIn_r _ [9, 10, 11, 12] rfl rfl) (goodIn_ca (goodIn_r _ [13, 14] rfl rfl) (goodIn_app (goodIn_cls hi_Mail_post_X9 gw_X9) (goodIn_nil)))
set_option maxRecDepth 100000 in
theorem gd_Mail_post_Row_putNumber_78 : GoodIn wp_Mail_post (wsV RX7 78 RX9 yX9_putNumber wp_Row_putNumber) := goodIn_app (goodIn_r _ [15, 16, 17, 12] rfl rfl) (goodIn_ca (goodIn_r _ [18, 14, 19, 20] rfl rfl) (goodIn_app (goodIn_cls hi_Mail_post_X9 gw_X9) (goodIn_nil)))
set_option maxRecDepth 100000 in
theorem gd_Mail_post_Row_putPart_91 : GoodIn wp_Mail_post (wsV RX7 91 RX9 yX9_putPart wp_Row_putPart) := goodIn_app (goodIn_r _ [21, 22, 23, 12] rfl rfl) (goodIn_ca (goodIn_r _ [24, 14, 19, 25, 26, 27, 28] rfl rfl) (goodIn_app (goodIn_cls hi_Mail_post_X9 gw_X9) (goodIn_nil)))
set_option maxHeartbeats 4000000 in
set_option maxRecDepth 100000 in
theorem b_Mail_post {p : Program} {l : Launch} {e : Env} {R : Room} {s : State} {m : MethodId} {args : Array Value} {below : List Frame} {meth : Method} {c : Code} {D : va_G} {K : Nat → ClassId} {A : Nat → Prop} {Q : State → Prop} {τ : Nat → Option Ty} {dom : List Nat} {zb zL : Nat} {zx : Nat → Int32} {zs : Nat → Nat} {π : Nat} (hR : 2 ≤ R.frames ∧ 38 ≤ R.locals) (B : Bx p s m args c cX7_post 4 RX7 wp_Mail_post D (tysA K) A) (Z : Sk τ dom) (hz : ZL zb zL zx zs A s s.heap) (h : Nat) (x1 : Int) (g : Nat) (t_h : τ h = some (37, 0, 0)) (r_x1 : -2147483648 ≤ x1 ∧ x1 ≤ 2147483647) (t_g : τ g = some (1, π, 0)) (σ0 : Nat → va_E) (G0 : Good K τ σ0) (hend : ∀ (σ' : Nat → va_E) (lv : List (Nat × Value)) (pc : Nat), Good K τ σ' → Fr τ [(1, 10), (2, 10), (37, 0)] σ0 σ' → decode cX7_post pc = .ok (.return_, 1) → V p l e R s m args below meth c 4 D A Q (0, 0) (fd dom σ') lv pc []) : V p l e R s m args below meth c 4 D A Q (0, 0) (fd dom σ0) [(0, .ref h), (1, .int (iI x1)), (2, .ref g)] 0 [] := by
  have F0 : Fr τ [(1, 10), (2, 10), (37, 0)] σ0 σ0 := Fr.rf
  refine v_aload_n B dX7_post_0 rfl rfl ?_
  refine u_callVi B Z hz (n := 0) (As := []) (rest := []) (c_Mail_isFull l D K Z _ _ _ _ h t_h σ0 G0) gd_Mail_post_Mail_isFull_84 rfl rfl rfl (by decide +kernel) ⟨Nat.le_trans (by decide +kernel) hR.1, Nat.le_trans (by decide +kernel) hR.2⟩ t_h (cls_Mail G0 t_h) rfl rfl rfl rfl (Nat.le_of_ble_eq_true rfl) dX7_post_1 ⟨Nat.zero_le _, Nat.zero_le _⟩ (fun v3 σ1 p2 => ?_)
  obtain ⟨rfl, z7, e8, r9, fl10⟩ := p2
  subst e8
  obtain ⟨a11, z12, z13, a14, z15, z16, z17, a18, z19, z20, z21, a22, z23, a24, z25, a26, h27, t28, r29, r30, t31, r32, r33, r34, t35, r36, r37, r38, t39, r40, t41, r42, t43⟩ : okMail τ (σ0 h) := G0 h _ t_h
  have r44 : z7 = 0 → z20 ≤ 7 := fun q => (fl10 q).use h27 (j := 9) rfl (by omega)
  refine u_if_eq B (tgt := 8) (by omega) dX7_post_4 (by decide +kernel) (fun c45 => ?_) (fun c45 => ?_)
  · refine v_aload_n B dX7_post_8 rfl rfl ?_
    refine u_get B Z (C := RX7) (T := TX7) (N := 16) (ci := 7) hi_Mail_post_X7 t_h h27 rfl 7 (by decide +kernel) (List.mem_of_getElem? (i := 7) rfl) rfl dX7_post_9 ?_
    refine v_aload_n B dX7_post_12 rfl rfl ?_
    refine u_get B Z (C := RX7) (T := TX7) (N := 16) (ci := 7) hi_Mail_post_X7 t_h h27 rfl 8 (by decide +kernel) (List.mem_of_getElem? (i := 8) rfl) rfl dX7_post_13 ?_
    refine v_aload_n B dX7_post_16 rfl rfl ?_
    refine u_get B Z (C := RX7) (T := TX7) (N := 16) (ci := 7) hi_Mail_post_X7 t_h h27 rfl 9 (by decide +kernel) (List.mem_of_getElem? (i := 6) rfl) rfl dX7_post_17 ?_
    refine v_iadd B (v := iI (z19 + z20)) dX7_post_20 ((iI_add _ _).trans (congrArg iI (by omega))) ?_
    refine v_aload_n B dX7_post_21 rfl rfl ?_
    refine u_get B Z (C := RX7) (T := TX7) (N := 16) (ci := 7) hi_Mail_post_X7 t_h h27 rfl 7 (by decide +kernel) (List.mem_of_getElem? (i := 7) rfl) rfl dX7_post_22 ?_
    obtain ⟨f46, h47, e48⟩ : okRA K τ 10 8 (σ0 a18) := G0 a18 _ t35
    refine u_alen B Z (t0 := 4) (v := 8) t35 h47 rfl (by first | rfl | omega) dX7_post_25 ?_
    obtain ⟨z49, e50⟩ : ∃ z : Int, z = (z19 + z20) % 8 := ⟨_, rfl⟩
    refine v_irem B (v := iI z49) dX7_post_26 (fun q => absurd ((iI_eq (a := 8) (b := 0) (by omega) (by omega)).mp q) (by omega)) ((iI_rem (a := (z19 + z20)) (b := 8) (by omega) (by omega)).trans (congrArg iI e50.symm)) ?_
    obtain ⟨a51, e52, t53⟩ := e48 (z49 : Int).toNat (by omega)
    refine u_aald B Z (t0 := 4) (v := .ref a51) t35 h47 rfl (by omega) (by rw [e52]; rfl) dX7_post_27 ?_
    refine v_astore_n B (lv' := [(3, .ref a51), (0, .ref h), (1, .int (iI x1)), (2, .ref g)]) dX7_post_28 rfl (by decide +kernel) rfl ?_
    refine v_aload_n B dX7_post_29 rfl rfl ?_
    refine u_callVv B Z hz (n := 0) (As := []) (rest := []) (c_Row_clear l D K Z _ _ _ _ a51 t53 σ0 G0) gd_Mail_post_Row_clear_62 rfl rfl rfl (by decide +kernel) ⟨Nat.le_trans (by decide +kernel) hR.1, Nat.le_trans (by decide +kernel) hR.2⟩ t53 (cls_Row G0 t53) rfl rfl rfl rfl (Nat.le_of_ble_eq_true rfl) dX7_post_30 ⟨Nat.zero_le _, Nat.zero_le _⟩ (fun σ54 p55 => ?_)
    obtain ⟨G57, F58⟩ := p55
    have F59 := F0.call F58 (by first | rfl | simp)
    have h60 := (F58 h _ t_h (by first | rfl | simp)).trans h27
    have h61 := (F58 a18 _ t35 (by first | rfl | simp)).trans h47
    refine v_aload_n B dX7_post_33 rfl rfl ?_
    refine v_aload_n B dX7_post_34 rfl rfl ?_
    obtain ⟨b62, N63, n64, h65, t66, r67⟩ : okRow τ π (σ54 g) := G57 g _ t_g
    refine u_getN B Z (C := RX9) (T := TX9) (N := 2) (ci := 9) hi_Mail_post_X9 t_g h65 rfl 1 (by decide +kernel) (List.mem_of_getElem? (i := 88) rfl) rfl dX7_post_35 ?_
    refine v_i2l B (v := lI n64) dX7_post_38 (lI_i (by omega)) ?_
    refine v_iconst B (v := iI 2) dX7_post_39 rfl ?_
    refine u_callVv B Z hz (n := 2) (As := [.long (lI n64), .int (iI 2)]) (rest := []) (c_Row_putNumber l D K Z _ _ _ _ a51 n64 2 t53 ⟨by omega, by omega⟩ ⟨by omega, by omega⟩ σ54 G57) gd_Mail_post_Row_putNumber_78 rfl rfl rfl (by decide +kernel) ⟨Nat.le_trans (by decide +kernel) hR.1, Nat.le_trans (by decide +kernel) hR.2⟩ t53 (cls_Row G57 t53) rfl rfl rfl rfl (Nat.le_of_ble_eq_true rfl) dX7_post_40 ⟨Nat.zero_le _, Nat.zero_le _⟩ (fun σ68 p69 => ?_)
    obtain ⟨G71, F72⟩ := p69
    have F73 := F59.call F72 (by first | rfl | simp)
    have h74 := (F72 h _ t_h (by first | rfl | simp)).trans h60
    have h75 := (F72 a18 _ t35 (by first | rfl | simp)).trans h61
    refine v_aload_n B dX7_post_43 rfl rfl ?_
    refine v_iload_n B dX7_post_44 rfl rfl ?_
    refine v_i2l B (v := lI x1) dX7_post_45 (lI_i (by omega)) ?_
    refine v_iconst B (v := iI 2) dX7_post_46 rfl ?_
    refine u_callVv B Z hz (n := 2) (As := [.long (lI x1), .int (iI 2)]) (rest := []) (c_Row_putNumber l D K Z _ _ _ _ a51 x1 2 t53 ⟨by omega, by omega⟩ ⟨by omega, by omega⟩ σ68 G71) gd_Mail_post_Row_putNumber_78 rfl rfl rfl (by decide +kernel) ⟨Nat.le_trans (by decide +kernel) hR.1, Nat.le_trans (by decide +kernel) hR.2⟩ t53 (cls_Row G71 t53) rfl rfl rfl rfl (Nat.le_of_ble_eq_true rfl) dX7_post_47 ⟨Nat.zero_le _, Nat.zero_le _⟩ (fun σ76 p77 => ?_)
    obtain ⟨G79, F80⟩ := p77
    have F81 := F73.call F80 (by first | rfl | simp)
    have h82 := (F80 h _ t_h (by first | rfl | simp)).trans h74
    have h83 := (F80 a18 _ t35 (by first | rfl | simp)).trans h75
    refine v_aload_n B dX7_post_50 rfl rfl ?_
    refine v_aload_n B dX7_post_51 rfl rfl ?_
    refine v_iconst B (v := iI 0) dX7_post_52 rfl ?_
    refine v_aload_n B dX7_post_53 rfl rfl ?_
    obtain ⟨b84, N85, n86, h87, t88, r89⟩ : okRow τ π (σ76 g) := G79 g _ t_g
    refine u_getN B Z (C := RX9) (T := TX9) (N := 2) (ci := 9) hi_Mail_post_X9 t_g h87 rfl 1 (by decide +kernel) (List.mem_of_getElem? (i := 88) rfl) rfl dX7_post_54 ?_
    refine u_callVv B Z hz (n := 3) (As := [.ref g, .int (iI 0), .int (iI n86)]) (rest := []) (c_Row_putPart l D K Z _ _ _ _ a51 g 0 n86 t53 t_g ⟨by omega, by omega⟩ ⟨by omega, by omega⟩ σ76 G79) gd_Mail_post_Row_putPart_91 rfl rfl rfl (by decide +kernel) ⟨Nat.le_trans (by decide +kernel) hR.1, Nat.le_trans (by decide +kernel) hR.2⟩ t53 (cls_Row G79 t53) rfl rfl rfl rfl (Nat.le_of_ble_eq_true rfl) dX7_post_57 ⟨Nat.zero_le _, Nat.zero_le _⟩ (fun σ90 p91 => ?_)
    obtain ⟨G93, F94⟩ := p91
    have F95 := F81.call F94 (by first | rfl | simp)
    have h96 := (F94 h _ t_h (by first | rfl | simp)).trans h82
    have h97 := (F94 a18 _ t35 (by first | rfl | simp)).trans h83
    refine v_aload_n B dX7_post_60 rfl rfl ?_
    refine v_dup B dX7_post_61 rfl ?_
    refine u_get B Z (C := RX7) (T := TX7) (N := 16) (ci := 7) hi_Mail_post_X7 t_h h96 rfl 9 (by decide +kernel) (List.mem_of_getElem? (i := 6) rfl) rfl dX7_post_62 ?_
    refine v_iconst B (v := iI 1) dX7_post_65 rfl ?_
    refine v_iadd B (v := iI (z20 + 1)) dX7_post_66 ((iI_add _ _).trans (congrArg iI (by omega))) ?_
    refine u_put B Z (C := RX7) (T := TX7) (N := 16) (ci := 7) hi_Mail_post_X7 t_h h96 rfl 9 (by decide +kernel) tyX7 tyX7_ok nmX7 (List.mem_of_getElem? (i := 6) rfl) rfl (ty := .int) (tyX7_ok 9 (by decide +kernel)) rfl rfl (Nat.le_of_ble_eq_true rfl) (fs' := [.ref a11, .int (iI z12), .int (iI z13), .ref a14, .int (iI z15), .int (iI z16), .int (iI z17), .ref a18, .int (iI z19), .int (iI (z20 + 1)), .int (iI z21), .ref a22, .int (iI z23), .ref a24, .int (iI z25), .ref a26]) rfl dX7_post_67 (fun σ98 h99 n100 => ?_)
    have G101 := G93.put t_h (⟨a11, z12, z13, a14, z15, z16, z17, a18, z19, (z20 + 1), z21, a22, z23, a24, z25, a26, h99, t28, ⟨by omega, by omega⟩, ⟨by omega, by omega⟩, t31, ⟨by omega, by omega⟩, ⟨by omega, by omega⟩, ⟨by omega, by omega⟩, t35, ⟨by omega, by omega⟩, ⟨by omega, by omega⟩, ⟨by omega, by omega⟩, t39, ⟨by omega, by omega⟩, t41, ⟨by omega, by omega⟩, t43⟩ : Ok K τ (37, 0, 0) (σ98 h)) n100
    have F102 := F95.put t_h (by simp) n100
    have h103 := (n100 a18 (ne_ty t35 t_h (by simp))).trans h97
    exact hend σ98 _ _ G101 F102 dX7_post_70
  · exact hend σ0 _ _ G0 F0 dX7_post_7
set_option maxRecDepth 100000 in
theorem c_Mail_post (l : Launch) (D : va_G) (K : Nat → ClassId) {τ : Nat → Option Ty} {dom : List Nat} (Z : Sk τ dom) (zb zL : Nat) (zx : Nat → Int32) (zs : Nat → Nat) {π : Nat} (h : Nat) (x1 : Int) (g : Nat) (t_h : τ h = some (37, 0, 0)) (r_x1 : -2147483648 ≤ x1 ∧ x1 ≤ 2147483647) (t_g : τ g = some (1, π, 0)) (σ0 : Nat → va_E) (G0 : Good K τ σ0) : MZ l yX7_post wp_Mail_post ({ frames := 2, cells := 0, slots := 0, locals := 38 }) D (tysA K) [.ref h, .int (iI x1), .ref g] (fd dom σ0) zb zL zx zs (Qv D (fun σ' => Good K τ σ' ∧ Fr τ [(1, 10), (2, 10), (37, 0)] σ0 σ') (fun σ' => fd dom σ')) 0 0 := by
  refine mz_of (cc := cX7_post) (maxL := 4) (ret := none) (by decide +kernel) rfl (Nat.le_of_ble_eq_true rfl) ?_
  intro p e s m below meth c A B hr hlk _ hz
  exact b_Mail_post ⟨Nat.le_refl _, Nat.le_refl _⟩ B Z hz h x1 g t_h r_x1 t_g σ0 G0 (fun σ' lv pc G F hd => v_vret B hr hlk σ' ⟨G, F⟩ rfl (Nat.le_refl _) (Nat.le_refl _) hd)

def wp_Mail_pickPiece : List Cond := .code yX7_pickPiece cX7_pickPiece 2 none :: (([.fieldLink RX7 65 "LowEnergy$Mail" "sort" "I", .fieldLink RX7 14 "LowEnergy$Mail" "current" "LLowEnergy$Row;", .fieldLink RX7 56 "LowEnergy$Mail" "placed" "I", .methodLink RX7 91 yX9_putPart, .instanceMethod yX9_putPart, .selects RX9 yX9_putPart yX9_putPart, .initialized RX9, .code yX9_putPart cX9_putPart 6 none, .fieldLink RX9 21 "LowEnergy$Row" "size" "I", .fieldLink RX9 15 "LowEnergy$Row" "bytes" "[I", .methodLink RX9 9 Lib.Math.max.name, .static Lib.Math.max.name, .initialized "java/lang/Math", .code Lib.Math.max.name Lib.Math.max.code 2 (some .int), .fieldLink RX7 50 "LowEnergy$Mail" "messageHead" "I", .fieldLink RX7 24 "LowEnergy$Mail" "messages" "[LLowEnergy$Row;", .fieldLink RX7 53 "LowEnergy$Mail" "messageCount" "I"] : List Cond) ++ (wsX70 ++ (wsX90 ++ ([]))))
theorem hi_Mail_pickPiece_X7 : ∀ x ∈ u_ws RX7 TX7 16, x ∈ wp_Mail_pickPiece := fun _ h => List.mem_cons_of_mem _ (List.mem_append_right _ (List.mem_append_left _ h))
theorem hi_Mail_pickPiece_X9 : ∀ x ∈ u_ws RX9 TX9 2, x ∈ wp_Mail_pickPiece := fun _ h => List.mem_cons_of_mem _ (List.mem_append_right _ (List.mem_append_right _ (List.mem_append_left _ h)))
set_option maxRecDepth 100000 in
theorem gd_Mail_pickPiece_Row_putPart_91 : GoodIn wp_Mail_pickPiece (wsV RX7 91 RX9 yX9_putPart wp_Row_putPart) := goodIn_app (goodIn_r _ [4, 5, 6, 7] rfl rfl) (goodIn_ca (goodIn_r _ [8, 9, 10, 11, 12, 13, 14] rfl rfl) (goodIn_app (goodIn_cls hi_Mail_pickPiece_X9 gw_X9) (goodIn_nil)))
set_option maxHeartbeats 4000000 in
set_option maxRecDepth 100000 in
theorem b_Mail_pickPiece {p : Program} {l : Launch} {e : Env} {R : Room} {s : State} {m : MethodId} {args : Array Value} {below : List Frame} {meth : Method} {c : Code} {D : va_G} {K : Nat → ClassId} {A : Nat → Prop} {Q : State → Prop} {τ : Nat → Option Ty} {dom : List Nat} {zb zL : Nat} {zx : Nat → Int32} {zs : Nat → Nat} {π : Nat} (hR : 2 ≤ R.frames ∧ 38 ≤ R.locals) (B : Bx p s m args c cX7_pickPiece 2 RX7 wp_Mail_pickPiece D (tysA K) A) (Z : Sk τ dom) (hz : ZL zb zL zx zs A s s.heap) (h : Nat) (g : Nat) (t_h : τ h = some (37, 0, 0)) (t_g : τ g = some (1, π, 0)) (σ0 : Nat → va_E) (G0 : Good K τ σ0) (hM : Fld σ0 h 7 9 (fun y => 1 ≤ y)) (hend : ∀ (σ' : Nat → va_E) (lv : List (Nat × Value)) (pc : Nat), Good K τ σ' → Fr τ [(37, 0), (2, 2), (1, 2)] σ0 σ' → decode cX7_pickPiece pc = .ok (.return_, 1) → V p l e R s m args below meth c 2 D A Q (0, 0) (fd dom σ') lv pc []) : V p l e R s m args below meth c 2 D A Q (0, 0) (fd dom σ0) [(0, .ref h), (1, .ref g)] 0 [] := by
  have F0 : Fr τ [(37, 0), (2, 2), (1, 2)] σ0 σ0 := Fr.rf
  obtain ⟨a1, z2, z3, a4, z5, z6, z7, a8, z9, z10, z11, a12, z13, a14, z15, a16, h17, t18, r19, r20, t21, r22, r23, r24, t25, r26, r27, r28, t29, r30, t31, r32, t33⟩ : okMail τ (σ0 h) := G0 h _ t_h
  have r34 : 1 ≤ z10 := hM.use h17 (j := 9) rfl (by omega)
  have J13 : ∀ (z13_s0 : Int), (1 ≤ z13_s0 ∧ z13_s0 ≤ 2) → V p l e R s m args below meth c 2 D A Q (0, 0) (fd dom σ0) [(0, .ref h), (1, .ref g)] 13 [.int (iI z13_s0), .ref h] := by
    intro z13_s0 r13_s0
    refine u_put B Z (C := RX7) (T := TX7) (N := 16) (ci := 7) hi_Mail_pickPiece_X7 t_h h17 rfl 1 (by decide +kernel) tyX7 tyX7_ok nmX7 (List.mem_of_getElem? (i := 1) rfl) rfl (ty := .int) (tyX7_ok 1 (by decide +kernel)) rfl rfl (Nat.le_of_ble_eq_true rfl) (fs' := [.ref a1, .int (iI z13_s0), .int (iI z3), .ref a4, .int (iI z5), .int (iI z6), .int (iI z7), .ref a8, .int (iI z9), .int (iI z10), .int (iI z11), .ref a12, .int (iI z13), .ref a14, .int (iI z15), .ref a16]) rfl dX7_pickPiece_13 (fun σ35 h36 n37 => ?_)
    have G38 := G0.put t_h (⟨a1, z13_s0, z3, a4, z5, z6, z7, a8, z9, z10, z11, a12, z13, a14, z15, a16, h36, t18, ⟨by omega, by omega⟩, ⟨by omega, by omega⟩, t21, ⟨by omega, by omega⟩, ⟨by omega, by omega⟩, ⟨by omega, by omega⟩, t25, ⟨by omega, by omega⟩, ⟨by omega, by omega⟩, ⟨by omega, by omega⟩, t29, ⟨by omega, by omega⟩, t31, ⟨by omega, by omega⟩, t33⟩ : Ok K τ (37, 0, 0) (σ35 h)) n37
    have F39 := F0.put t_h (by simp) n37
    refine v_aload_n B dX7_pickPiece_16 rfl rfl ?_
    refine u_get B Z (C := RX7) (T := TX7) (N := 16) (ci := 7) hi_Mail_pickPiece_X7 t_h h36 rfl 0 (by decide +kernel) (List.mem_of_getElem? (i := 2) rfl) rfl dX7_pickPiece_17 ?_
    refine v_aload_n B dX7_pickPiece_20 rfl rfl ?_
    refine v_aload_n B dX7_pickPiece_21 rfl rfl ?_
    refine u_get B Z (C := RX7) (T := TX7) (N := 16) (ci := 7) hi_Mail_pickPiece_X7 t_h h36 rfl 10 (by decide +kernel) (List.mem_of_getElem? (i := 3) rfl) rfl dX7_pickPiece_22 ?_
    refine v_bipush B (v := iI 27) dX7_pickPiece_25 (by decide +kernel) ?_
    refine u_callVv B Z hz (n := 3) (As := [.ref g, .int (iI z11), .int (iI 27)]) (rest := []) (c_Row_putPart l D K Z _ _ _ _ a1 g z11 27 t18 t_g ⟨by omega, by omega⟩ ⟨by omega, by omega⟩ σ35 G38) gd_Mail_pickPiece_Row_putPart_91 rfl rfl rfl (by decide +kernel) ⟨Nat.le_trans (by decide +kernel) hR.1, Nat.le_trans (by decide +kernel) hR.2⟩ t18 (cls_Row G38 t18) rfl rfl rfl rfl (Nat.le_of_ble_eq_true rfl) dX7_pickPiece_27 ⟨Nat.zero_le _, Nat.zero_le _⟩ (fun σ40 p41 => ?_)
    obtain ⟨G43, F44⟩ := p41
    have F45 := F39.call F44 (by first | rfl | simp)
    have h46 := (F44 h _ t_h (by first | rfl | simp)).trans h36
    refine v_aload_n B dX7_pickPiece_30 rfl rfl ?_
    refine v_dup B dX7_pickPiece_31 rfl ?_
    refine u_get B Z (C := RX7) (T := TX7) (N := 16) (ci := 7) hi_Mail_pickPiece_X7 t_h h46 rfl 10 (by decide +kernel) (List.mem_of_getElem? (i := 3) rfl) rfl dX7_pickPiece_32 ?_
    refine v_bipush B (v := iI 27) dX7_pickPiece_35 (by decide +kernel) ?_
    obtain ⟨z47, e48, r49⟩ := iI_any (iI z11 + iI 27)
    refine v_iadd B (v := iI z47) dX7_pickPiece_37 e48 ?_
    refine u_put B Z (C := RX7) (T := TX7) (N := 16) (ci := 7) hi_Mail_pickPiece_X7 t_h h46 rfl 10 (by decide +kernel) tyX7 tyX7_ok nmX7 (List.mem_of_getElem? (i := 3) rfl) rfl (ty := .int) (tyX7_ok 10 (by decide +kernel)) rfl rfl (Nat.le_of_ble_eq_true rfl) (fs' := [.ref a1, .int (iI z13_s0), .int (iI z3), .ref a4, .int (iI z5), .int (iI z6), .int (iI z7), .ref a8, .int (iI z9), .int (iI z10), .int (iI z47), .ref a12, .int (iI z13), .ref a14, .int (iI z15), .ref a16]) rfl dX7_pickPiece_38 (fun σ50 h51 n52 => ?_)
    have G53 := G43.put t_h (⟨a1, z13_s0, z3, a4, z5, z6, z7, a8, z9, z10, z47, a12, z13, a14, z15, a16, h51, t18, ⟨by omega, by omega⟩, ⟨by omega, by omega⟩, t21, ⟨by omega, by omega⟩, ⟨by omega, by omega⟩, ⟨by omega, by omega⟩, t25, ⟨by omega, by omega⟩, ⟨by omega, by omega⟩, ⟨by omega, by omega⟩, t29, ⟨by omega, by omega⟩, t31, ⟨by omega, by omega⟩, t33⟩ : Ok K τ (37, 0, 0) (σ50 h)) n52
    have F54 := F45.put t_h (by simp) n52
    refine v_aload_n B dX7_pickPiece_41 rfl rfl ?_
    refine u_get B Z (C := RX7) (T := TX7) (N := 16) (ci := 7) hi_Mail_pickPiece_X7 t_h h51 rfl 10 (by decide +kernel) (List.mem_of_getElem? (i := 3) rfl) rfl dX7_pickPiece_42 ?_
    refine v_aload_n B dX7_pickPiece_45 rfl rfl ?_
    obtain ⟨b55, N56, n57, h58, t59, r60⟩ : okRow τ π (σ50 g) := G53 g _ t_g
    refine u_getN B Z (C := RX9) (T := TX9) (N := 2) (ci := 9) hi_Mail_pickPiece_X9 t_g h58 rfl 1 (by decide +kernel) (List.mem_of_getElem? (i := 88) rfl) rfl dX7_pickPiece_46 ?_
    refine u_icmp_lt B (tgt := 83) (by omega) (by omega) dX7_pickPiece_49 (by decide +kernel) (fun c61 => ?_) (fun c61 => ?_)
    · exact hend σ50 _ _ G53 F54 dX7_pickPiece_83
    · refine v_aload_n B dX7_pickPiece_52 rfl rfl ?_
      refine v_iconst B (v := iI 0) dX7_pickPiece_53 rfl ?_
      refine u_put B Z (C := RX7) (T := TX7) (N := 16) (ci := 7) hi_Mail_pickPiece_X7 t_h h51 rfl 10 (by decide +kernel) tyX7 tyX7_ok nmX7 (List.mem_of_getElem? (i := 3) rfl) rfl (ty := .int) (tyX7_ok 10 (by decide +kernel)) rfl rfl (Nat.le_of_ble_eq_true rfl) (fs' := [.ref a1, .int (iI z13_s0), .int (iI z3), .ref a4, .int (iI z5), .int (iI z6), .int (iI z7), .ref a8, .int (iI z9), .int (iI z10), .int (iI 0), .ref a12, .int (iI z13), .ref a14, .int (iI z15), .ref a16]) rfl dX7_pickPiece_54 (fun σ62 h63 n64 => ?_)
      have G65 := G53.put t_h (⟨a1, z13_s0, z3, a4, z5, z6, z7, a8, z9, z10, 0, a12, z13, a14, z15, a16, h63, t18, ⟨by omega, by omega⟩, ⟨by omega, by omega⟩, t21, ⟨by omega, by omega⟩, ⟨by omega, by omega⟩, ⟨by omega, by omega⟩, t25, ⟨by omega, by omega⟩, ⟨by omega, by omega⟩, ⟨by omega, by omega⟩, t29, ⟨by omega, by omega⟩, t31, ⟨by omega, by omega⟩, t33⟩ : Ok K τ (37, 0, 0) (σ62 h)) n64
      have F66 := F54.put t_h (by simp) n64
      have h67 := (n64 g (ne_ty t_g t_h (by simp))).trans h58
      refine v_aload_n B dX7_pickPiece_57 rfl rfl ?_
      refine v_aload_n B dX7_pickPiece_58 rfl rfl ?_
      refine u_get B Z (C := RX7) (T := TX7) (N := 16) (ci := 7) hi_Mail_pickPiece_X7 t_h h63 rfl 8 (by decide +kernel) (List.mem_of_getElem? (i := 15) rfl) rfl dX7_pickPiece_59 ?_
      refine v_iconst B (v := iI 1) dX7_pickPiece_62 rfl ?_
      refine v_iadd B (v := iI (z9 + 1)) dX7_pickPiece_63 ((iI_add _ _).trans (congrArg iI (by omega))) ?_
      refine v_aload_n B dX7_pickPiece_64 rfl rfl ?_
      refine u_get B Z (C := RX7) (T := TX7) (N := 16) (ci := 7) hi_Mail_pickPiece_X7 t_h h63 rfl 7 (by decide +kernel) (List.mem_of_getElem? (i := 16) rfl) rfl dX7_pickPiece_65 ?_
      obtain ⟨f68, h69, e70⟩ : okRA K τ 10 8 (σ62 a8) := G65 a8 _ t25
      refine u_alen B Z (t0 := 4) (v := 8) t25 h69 rfl (by first | rfl | omega) dX7_pickPiece_68 ?_
      obtain ⟨z71, e72⟩ : ∃ z : Int, z = (z9 + 1) % 8 := ⟨_, rfl⟩
      refine v_irem B (v := iI z71) dX7_pickPiece_69 (fun q => absurd ((iI_eq (a := 8) (b := 0) (by omega) (by omega)).mp q) (by omega)) ((iI_rem (a := (z9 + 1)) (b := 8) (by omega) (by omega)).trans (congrArg iI e72.symm)) ?_
      refine u_put B Z (C := RX7) (T := TX7) (N := 16) (ci := 7) hi_Mail_pickPiece_X7 t_h h63 rfl 8 (by decide +kernel) tyX7 tyX7_ok nmX7 (List.mem_of_getElem? (i := 15) rfl) rfl (ty := .int) (tyX7_ok 8 (by decide +kernel)) rfl rfl (Nat.le_of_ble_eq_true rfl) (fs' := [.ref a1, .int (iI z13_s0), .int (iI z3), .ref a4, .int (iI z5), .int (iI z6), .int (iI z7), .ref a8, .int (iI z71), .int (iI z10), .int (iI 0), .ref a12, .int (iI z13), .ref a14, .int (iI z15), .ref a16]) rfl dX7_pickPiece_70 (fun σ73 h74 n75 => ?_)
      have G76 := G65.put t_h (⟨a1, z13_s0, z3, a4, z5, z6, z7, a8, z71, z10, 0, a12, z13, a14, z15, a16, h74, t18, ⟨by omega, by omega⟩, ⟨by omega, by omega⟩, t21, ⟨by omega, by omega⟩, ⟨by omega, by omega⟩, ⟨by omega, by omega⟩, t25, ⟨by omega, by omega⟩, ⟨by omega, by omega⟩, ⟨by omega, by omega⟩, t29, ⟨by omega, by omega⟩, t31, ⟨by omega, by omega⟩, t33⟩ : Ok K τ (37, 0, 0) (σ73 h)) n75
      have F77 := F66.put t_h (by simp) n75
      have h78 := (n75 g (ne_ty t_g t_h (by simp))).trans h67
      have h79 := (n75 a8 (ne_ty t25 t_h (by simp))).trans h69
      refine v_aload_n B dX7_pickPiece_73 rfl rfl ?_
      refine v_dup B dX7_pickPiece_74 rfl ?_
      refine u_get B Z (C := RX7) (T := TX7) (N := 16) (ci := 7) hi_Mail_pickPiece_X7 t_h h74 rfl 9 (by decide +kernel) (List.mem_of_getElem? (i := 17) rfl) rfl dX7_pickPiece_75 ?_
      refine v_iconst B (v := iI 1) dX7_pickPiece_78 rfl ?_
      refine v_isub B (v := iI (z10 + (-1))) dX7_pickPiece_79 ((iI_sub _ _).trans (congrArg iI (by omega))) ?_
      refine u_put B Z (C := RX7) (T := TX7) (N := 16) (ci := 7) hi_Mail_pickPiece_X7 t_h h74 rfl 9 (by decide +kernel) tyX7 tyX7_ok nmX7 (List.mem_of_getElem? (i := 17) rfl) rfl (ty := .int) (tyX7_ok 9 (by decide +kernel)) rfl rfl (Nat.le_of_ble_eq_true rfl) (fs' := [.ref a1, .int (iI z13_s0), .int (iI z3), .ref a4, .int (iI z5), .int (iI z6), .int (iI z7), .ref a8, .int (iI z71), .int (iI (z10 + (-1))), .int (iI 0), .ref a12, .int (iI z13), .ref a14, .int (iI z15), .ref a16]) rfl dX7_pickPiece_80 (fun σ80 h81 n82 => ?_)
      have G83 := G76.put t_h (⟨a1, z13_s0, z3, a4, z5, z6, z7, a8, z71, (z10 + (-1)), 0, a12, z13, a14, z15, a16, h81, t18, ⟨by omega, by omega⟩, ⟨by omega, by omega⟩, t21, ⟨by omega, by omega⟩, ⟨by omega, by omega⟩, ⟨by omega, by omega⟩, t25, ⟨by omega, by omega⟩, ⟨by omega, by omega⟩, ⟨by omega, by omega⟩, t29, ⟨by omega, by omega⟩, t31, ⟨by omega, by omega⟩, t33⟩ : Ok K τ (37, 0, 0) (σ80 h)) n82
      have F84 := F77.put t_h (by simp) n82
      have h85 := (n82 g (ne_ty t_g t_h (by simp))).trans h78
      have h86 := (n82 a8 (ne_ty t25 t_h (by simp))).trans h79
      exact hend σ80 _ _ G83 F84 dX7_pickPiece_83
  refine v_aload_n B dX7_pickPiece_0 rfl rfl ?_
  refine v_aload_n B dX7_pickPiece_1 rfl rfl ?_
  refine u_get B Z (C := RX7) (T := TX7) (N := 16) (ci := 7) hi_Mail_pickPiece_X7 t_h h17 rfl 10 (by decide +kernel) (List.mem_of_getElem? (i := 3) rfl) rfl dX7_pickPiece_2 ?_
  refine u_if_ne B (tgt := 12) (by omega) dX7_pickPiece_5 (by decide +kernel) (fun c87 => ?_) (fun c87 => ?_)
  · refine v_iconst B (v := iI 1) dX7_pickPiece_12 rfl ?_
    exact J13 1 ⟨by omega, by omega⟩
  · refine v_iconst B (v := iI 2) dX7_pickPiece_8 rfl ?_
    refine v_goto B (tgt := 13) dX7_pickPiece_9 (by decide +kernel) ?_
    exact J13 2 ⟨by omega, by omega⟩
set_option maxRecDepth 100000 in
theorem c_Mail_pickPiece (l : Launch) (D : va_G) (K : Nat → ClassId) {τ : Nat → Option Ty} {dom : List Nat} (Z : Sk τ dom) (zb zL : Nat) (zx : Nat → Int32) (zs : Nat → Nat) {π : Nat} (h : Nat) (g : Nat) (t_h : τ h = some (37, 0, 0)) (t_g : τ g = some (1, π, 0)) (σ0 : Nat → va_E) (G0 : Good K τ σ0) (hM : Fld σ0 h 7 9 (fun y => 1 ≤ y)) : MZ l yX7_pickPiece wp_Mail_pickPiece ({ frames := 2, cells := 0, slots := 0, locals := 38 }) D (tysA K) [.ref h, .ref g] (fd dom σ0) zb zL zx zs (Qv D (fun σ' => Good K τ σ' ∧ Fr τ [(37, 0), (2, 2), (1, 2)] σ0 σ') (fun σ' => fd dom σ')) 0 0 := by
  refine mz_of (cc := cX7_pickPiece) (maxL := 2) (ret := none) (by decide +kernel) rfl (Nat.le_of_ble_eq_true rfl) ?_
  intro p e s m below meth c A B hr hlk _ hz
  exact b_Mail_pickPiece ⟨Nat.le_refl _, Nat.le_refl _⟩ B Z hz h g t_h t_g σ0 G0 hM (fun σ' lv pc G F hd => v_vret B hr hlk σ' ⟨G, F⟩ rfl (Nat.le_refl _) (Nat.le_refl _) hd)

def wp_Mail_pickNext : List Cond := .code yX7_pickNext cX7_pickNext 2 none :: (([.fieldLink RX7 65 "LowEnergy$Mail" "sort" "I", .methodLink RX7 36 yX7_dropCurrent, .instanceMethod yX7_dropCurrent, .selects RX7 yX7_dropCurrent yX7_dropCurrent, .initialized RX7, .code yX7_dropCurrent cX7_dropCurrent 1 none, .fieldLink RX7 14 "LowEnergy$Mail" "current" "LLowEnergy$Row;", .methodLink RX7 62 yX9_clear, .instanceMethod yX9_clear, .selects RX9 yX9_clear yX9_clear, .initialized RX9, .code yX9_clear cX9_clear 1 none, .fieldLink RX9 21 "LowEnergy$Row" "size" "I", .fieldLink RX7 68 "LowEnergy$Mail" "currentOp" "I", .fieldLink RX7 43 "LowEnergy$Mail" "controlCount" "I", .fieldLink RX7 53 "LowEnergy$Mail" "messageCount" "I", .fieldLink RX7 24 "LowEnergy$Mail" "messages" "[LLowEnergy$Row;", .fieldLink RX7 50 "LowEnergy$Mail" "messageHead" "I", .methodLink RX7 103 yX7_pickPiece, .instanceMethod yX7_pickPiece, .selects RX7 yX7_pickPiece yX7_pickPiece, .code yX7_pickPiece cX7_pickPiece 2 none, .fieldLink RX7 56 "LowEnergy$Mail" "placed" "I", .methodLink RX7 91 yX9_putPart, .instanceMethod yX9_putPart, .selects RX9 yX9_putPart yX9_putPart, .code yX9_putPart cX9_putPart 6 none, .fieldLink RX9 15 "LowEnergy$Row" "bytes" "[I", .methodLink RX9 9 Lib.Math.max.name, .static Lib.Math.max.name, .initialized "java/lang/Math", .code Lib.Math.max.name Lib.Math.max.code 2 (some .int), .fieldLink RX7 20 "LowEnergy$Mail" "controls" "[LLowEnergy$Row;", .fieldLink RX7 39 "LowEnergy$Mail" "controlHead" "I", .methodLink RX7 95 yX9_become, .instanceMethod yX9_become, .selects RX9 yX9_become yX9_become, .code yX9_become cX9_become 2 none, .methodLink RX9 27 yX9_putPart, .methodLink RX7 99 yX9_at, .instanceMethod yX9_at, .selects RX9 yX9_at yX9_at, .code yX9_at cX9_at 2 (some .int)] : List Cond) ++ (wsX70 ++ (wsX90 ++ ([]))))
theorem hi_Mail_pickNext_X7 : ∀ x ∈ u_ws RX7 TX7 16, x ∈ wp_Mail_pickNext := fun _ h => List.mem_cons_of_mem _ (List.mem_append_right _ (List.mem_append_left _ h))
theorem hi_Mail_pickNext_X9 : ∀ x ∈ u_ws RX9 TX9 2, x ∈ wp_Mail_pickNext := fun _ h => List.mem_cons_of_mem _ (List.mem_append_right _ (List.mem_append_right _ (List.mem_append_left _ h)))
set_option maxRecDepth 100000 in
theorem gd_Mail_pickNext_Mail_dropCurrent_36 : GoodIn wp_Mail_pickNext (wsV RX7 36 RX7 yX7_dropCurrent wp_Mail_dropCurrent) := goodIn_app (goodIn_r _ [2, 3, 4, 5] rfl rfl) (goodIn_ca (goodIn_r _ [6, 7, 8, 9, 10, 11, 12, 13, 1, 14] rfl rfl) (goodIn_app (goodIn_cls hi_Mail_pickNext_X7 gw_X7) (goodIn_app (goodIn_cls hi_Mail_pickNext_X9 gw_X9) (goodIn_nil))))
set_option maxRecDepth 100000 in
theorem gd_Mail_pickNext_Mail_pickPiece_103 : GoodIn wp_Mail_pickNext (wsV RX7 103 RX7 yX7_pickPiece wp_Mail_pickPiece) := goodIn_app (goodIn_r _ [19, 20, 21, 5] rfl rfl) (goodIn_ca (goodIn_r _ [22, 1, 7, 23, 24, 25, 26, 11, 27, 13, 28, 29, 30, 31, 32, 18, 17, 16] rfl rfl) (goodIn_app (goodIn_cls hi_Mail_pickNext_X7 gw_X7) (goodIn_app (goodIn_cls hi_Mail_pickNext_X9 gw_X9) (goodIn_nil))))
set_option maxRecDepth 100000 in
theorem gd_Mail_pickNext_Row_become_95 : GoodIn wp_Mail_pickNext (wsV RX7 95 RX9 yX9_become wp_Row_become) := goodIn_app (goodIn_r _ [35, 36, 37, 11] rfl rfl) (goodIn_ca (goodIn_r _ [38, 13, 39, 25, 26, 11, 27, 28, 29, 30, 31, 32] rfl rfl) (goodIn_app (goodIn_cls hi_Mail_pickNext_X9 gw_X9) (goodIn_nil)))
set_option maxRecDepth 100000 in
theorem gd_Mail_pickNext_Row_at_99 : GoodIn wp_Mail_pickNext (wsV RX7 99 RX9 yX9_at wp_Row_at) := goodIn_app (goodIn_r _ [40, 41, 42, 11] rfl rfl) (goodIn_ca (goodIn_r _ [43, 13, 28] rfl rfl) (goodIn_app (goodIn_cls hi_Mail_pickNext_X9 gw_X9) (goodIn_nil)))
set_option maxHeartbeats 4000000 in
set_option maxRecDepth 100000 in
theorem b_Mail_pickNext {p : Program} {l : Launch} {e : Env} {R : Room} {s : State} {m : MethodId} {args : Array Value} {below : List Frame} {meth : Method} {c : Code} {D : va_G} {K : Nat → ClassId} {A : Nat → Prop} {Q : State → Prop} {τ : Nat → Option Ty} {dom : List Nat} {zb zL : Nat} {zx : Nat → Int32} {zs : Nat → Nat} (hR : 3 ≤ R.frames ∧ 59 ≤ R.locals) (B : Bx p s m args c cX7_pickNext 2 RX7 wp_Mail_pickNext D (tysA K) A) (Z : Sk τ dom) (hz : ZL zb zL zx zs A s s.heap) (h : Nat) (x1 : Int) (t_h : τ h = some (37, 0, 0)) (r_x1 : 0 ≤ x1 ∧ x1 ≤ 1) (σ0 : Nat → va_E) (G0 : Good K τ σ0) (hend : ∀ (σ' : Nat → va_E) (lv : List (Nat × Value)) (pc : Nat), Good K τ σ' → Fr τ [(1, 2), (37, 0), (2, 2)] σ0 σ' → decode cX7_pickNext pc = .ok (.return_, 1) → V p l e R s m args below meth c 2 D A Q (0, 0) (fd dom σ') lv pc []) : V p l e R s m args below meth c 2 D A Q (0, 0) (fd dom σ0) [(0, .ref h), (1, .int (iI x1))] 0 [] := by
  have F0 : Fr τ [(1, 2), (37, 0), (2, 2)] σ0 σ0 := Fr.rf
  have J100 : ∀ (σ_100 : Nat → va_E), Good K τ σ_100 → Fr τ [(1, 2), (37, 0), (2, 2)] σ0 σ_100 → V p l e R s m args below meth c 2 D A Q (0, 0) (fd dom σ_100) [(0, .ref h)] 100 [] := by
    intro σ_100 G_100 F_100
    refine v_aload_n B dX7_pickNext_100 rfl rfl ?_
    refine v_iconst B (v := iI 1) dX7_pickNext_101 rfl ?_
    obtain ⟨a1, z2, z3, a4, z5, z6, z7, a8, z9, z10, z11, a12, z13, a14, z15, a16, h17, t18, r19, r20, t21, r22, r23, r24, t25, r26, r27, r28, t29, r30, t31, r32, t33⟩ : okMail τ (σ_100 h) := G_100 h _ t_h
    refine u_put B Z (C := RX7) (T := TX7) (N := 16) (ci := 7) hi_Mail_pickNext_X7 t_h h17 rfl 1 (by decide +kernel) tyX7 tyX7_ok nmX7 (List.mem_of_getElem? (i := 1) rfl) rfl (ty := .int) (tyX7_ok 1 (by decide +kernel)) rfl rfl (Nat.le_of_ble_eq_true rfl) (fs' := [.ref a1, .int (iI 1), .int (iI z3), .ref a4, .int (iI z5), .int (iI z6), .int (iI z7), .ref a8, .int (iI z9), .int (iI z10), .int (iI z11), .ref a12, .int (iI z13), .ref a14, .int (iI z15), .ref a16]) rfl dX7_pickNext_102 (fun σ34 h35 n36 => ?_)
    have G37 := G_100.put t_h (⟨a1, 1, z3, a4, z5, z6, z7, a8, z9, z10, z11, a12, z13, a14, z15, a16, h35, t18, ⟨by omega, by omega⟩, ⟨by omega, by omega⟩, t21, ⟨by omega, by omega⟩, ⟨by omega, by omega⟩, ⟨by omega, by omega⟩, t25, ⟨by omega, by omega⟩, ⟨by omega, by omega⟩, ⟨by omega, by omega⟩, t29, ⟨by omega, by omega⟩, t31, ⟨by omega, by omega⟩, t33⟩ : Ok K τ (37, 0, 0) (σ34 h)) n36
    have F38 := F_100.put t_h (by simp) n36
    exact hend σ34 _ _ G37 F38 dX7_pickNext_105
  refine v_aload_n B dX7_pickNext_0 rfl rfl ?_
  refine u_callVv B Z hz (n := 0) (As := []) (rest := []) (c_Mail_dropCurrent l D K Z _ _ _ _ h t_h σ0 G0) gd_Mail_pickNext_Mail_dropCurrent_36 rfl rfl rfl (by decide +kernel) ⟨Nat.le_trans (by decide +kernel) hR.1, Nat.le_trans (by decide +kernel) hR.2⟩ t_h (cls_Mail G0 t_h) rfl rfl rfl rfl (Nat.le_of_ble_eq_true rfl) dX7_pickNext_1 ⟨Nat.zero_le _, Nat.zero_le _⟩ (fun σ39 p40 => ?_)
  obtain ⟨G42, F43⟩ := p40
  have F44 := F0.call F43 (by first | rfl | simp)
  refine v_aload_n B dX7_pickNext_4 rfl rfl ?_
  obtain ⟨a45, z46, z47, a48, z49, z50, z51, a52, z53, z54, z55, a56, z57, a58, z59, a60, h61, t62, r63, r64, t65, r66, r67, r68, t69, r70, r71, r72, t73, r74, t75, r76, t77⟩ : okMail τ (σ39 h) := G42 h _ t_h
  refine u_get B Z (C := RX7) (T := TX7) (N := 16) (ci := 7) hi_Mail_pickNext_X7 t_h h61 rfl 5 (by decide +kernel) (List.mem_of_getElem? (i := 15) rfl) rfl dX7_pickNext_5 ?_
  refine u_if_le B (tgt := 73) (by omega) dX7_pickNext_8 (by decide +kernel) (fun c78 => ?_) (fun c78 => ?_)
  · refine v_iload_n B dX7_pickNext_73 rfl rfl ?_
    refine u_if_ne B (tgt := 100) (by omega) dX7_pickNext_74 (by decide +kernel) (fun c79 => ?_) (fun c79 => ?_)
    · refine v_lv [0] rfl ?_
      exact J100 σ39 G42 F44
    · refine v_aload_n B dX7_pickNext_77 rfl rfl ?_
      refine u_get B Z (C := RX7) (T := TX7) (N := 16) (ci := 7) hi_Mail_pickNext_X7 t_h h61 rfl 9 (by decide +kernel) (List.mem_of_getElem? (i := 16) rfl) rfl dX7_pickNext_78 ?_
      refine u_if_le B (tgt := 100) (by omega) dX7_pickNext_81 (by decide +kernel) (fun c80 => ?_) (fun c80 => ?_)
      · refine v_lv [0] rfl ?_
        exact J100 σ39 G42 F44
      · refine v_aload_n B dX7_pickNext_84 rfl rfl ?_
        refine v_aload_n B dX7_pickNext_85 rfl rfl ?_
        refine u_get B Z (C := RX7) (T := TX7) (N := 16) (ci := 7) hi_Mail_pickNext_X7 t_h h61 rfl 7 (by decide +kernel) (List.mem_of_getElem? (i := 17) rfl) rfl dX7_pickNext_86 ?_
        refine v_aload_n B dX7_pickNext_89 rfl rfl ?_
        refine u_get B Z (C := RX7) (T := TX7) (N := 16) (ci := 7) hi_Mail_pickNext_X7 t_h h61 rfl 8 (by decide +kernel) (List.mem_of_getElem? (i := 18) rfl) rfl dX7_pickNext_90 ?_
        obtain ⟨f81, h82, e83⟩ : okRA K τ 10 8 (σ39 a52) := G42 a52 _ t69
        obtain ⟨a84, e85, t86⟩ := e83 (z53 : Int).toNat (by omega)
        refine u_aald B Z (t0 := 4) (v := .ref a84) t69 h82 rfl (by omega) (by rw [e85]; rfl) dX7_pickNext_93 ?_
        refine u_callVv B Z hz (n := 1) (As := [.ref a84]) (rest := []) (c_Mail_pickPiece l D K Z _ _ _ _ h a84 t_h t86 σ39 G42 (Fld.mk h61 (j := 9) rfl (by omega) (by omega))) gd_Mail_pickNext_Mail_pickPiece_103 rfl rfl rfl (by decide +kernel) ⟨Nat.le_trans (by decide +kernel) hR.1, Nat.le_trans (by decide +kernel) hR.2⟩ t_h (cls_Mail G42 t_h) rfl rfl rfl rfl (Nat.le_of_ble_eq_true rfl) dX7_pickNext_94 ⟨Nat.zero_le _, Nat.zero_le _⟩ (fun σ87 p88 => ?_)
        obtain ⟨G90, F91⟩ := p88
        have F92 := F44.call F91 (by first | rfl | simp)
        have h93 := (F91 a52 _ t69 (by first | rfl | simp)).trans h82
        refine v_goto B (tgt := 105) dX7_pickNext_97 (by decide +kernel) ?_
        exact hend σ87 _ _ G90 F92 dX7_pickNext_105
  · refine v_aload_n B dX7_pickNext_11 rfl rfl ?_
    refine u_get B Z (C := RX7) (T := TX7) (N := 16) (ci := 7) hi_Mail_pickNext_X7 t_h h61 rfl 0 (by decide +kernel) (List.mem_of_getElem? (i := 7) rfl) rfl dX7_pickNext_12 ?_
    refine v_aload_n B dX7_pickNext_15 rfl rfl ?_
    refine u_get B Z (C := RX7) (T := TX7) (N := 16) (ci := 7) hi_Mail_pickNext_X7 t_h h61 rfl 3 (by decide +kernel) (List.mem_of_getElem? (i := 33) rfl) rfl dX7_pickNext_16 ?_
    refine v_aload_n B dX7_pickNext_19 rfl rfl ?_
    refine u_get B Z (C := RX7) (T := TX7) (N := 16) (ci := 7) hi_Mail_pickNext_X7 t_h h61 rfl 4 (by decide +kernel) (List.mem_of_getElem? (i := 34) rfl) rfl dX7_pickNext_20 ?_
    obtain ⟨f94, h95, e96⟩ : okRA K τ 9 6 (σ39 a48) := G42 a48 _ t65
    obtain ⟨a97, e98, t99⟩ := e96 (z49 : Int).toNat (by omega)
    refine u_aald B Z (t0 := 4) (v := .ref a97) t65 h95 rfl (by omega) (by rw [e98]; rfl) dX7_pickNext_23 ?_
    refine u_callVv B Z hz (n := 1) (As := [.ref a97]) (rest := []) (c_Row_become l D K Z _ _ _ _ a45 a97 t62 t99 σ39 G42) gd_Mail_pickNext_Row_become_95 rfl rfl rfl (by decide +kernel) ⟨Nat.le_trans (by decide +kernel) hR.1, Nat.le_trans (by decide +kernel) hR.2⟩ t62 (cls_Row G42 t62) rfl rfl rfl rfl (Nat.le_of_ble_eq_true rfl) dX7_pickNext_24 ⟨Nat.zero_le _, Nat.zero_le _⟩ (fun σ100 p101 => ?_)
    obtain ⟨G103, F104⟩ := p101
    have F105 := F44.call F104 (by first | rfl | simp)
    have h106 := (F104 h _ t_h (by first | rfl | simp)).trans h61
    have h107 := (F104 a48 _ t65 (by first | rfl | simp)).trans h95
    refine v_aload_n B dX7_pickNext_27 rfl rfl ?_
    refine v_iconst B (v := iI 3) dX7_pickNext_28 rfl ?_
    refine u_put B Z (C := RX7) (T := TX7) (N := 16) (ci := 7) hi_Mail_pickNext_X7 t_h h106 rfl 1 (by decide +kernel) tyX7 tyX7_ok nmX7 (List.mem_of_getElem? (i := 1) rfl) rfl (ty := .int) (tyX7_ok 1 (by decide +kernel)) rfl rfl (Nat.le_of_ble_eq_true rfl) (fs' := [.ref a45, .int (iI 3), .int (iI z47), .ref a48, .int (iI z49), .int (iI z50), .int (iI z51), .ref a52, .int (iI z53), .int (iI z54), .int (iI z55), .ref a56, .int (iI z57), .ref a58, .int (iI z59), .ref a60]) rfl dX7_pickNext_29 (fun σ108 h109 n110 => ?_)
    have G111 := G103.put t_h (⟨a45, 3, z47, a48, z49, z50, z51, a52, z53, z54, z55, a56, z57, a58, z59, a60, h109, t62, ⟨by omega, by omega⟩, ⟨by omega, by omega⟩, t65, ⟨by omega, by omega⟩, ⟨by omega, by omega⟩, ⟨by omega, by omega⟩, t69, ⟨by omega, by omega⟩, ⟨by omega, by omega⟩, ⟨by omega, by omega⟩, t73, ⟨by omega, by omega⟩, t75, ⟨by omega, by omega⟩, t77⟩ : Ok K τ (37, 0, 0) (σ108 h)) n110
    have F112 := F105.put t_h (by simp) n110
    have h113 := (n110 a48 (ne_ty t65 t_h (by simp))).trans h107
    refine v_aload_n B dX7_pickNext_32 rfl rfl ?_
    refine v_aload_n B dX7_pickNext_33 rfl rfl ?_
    refine u_get B Z (C := RX7) (T := TX7) (N := 16) (ci := 7) hi_Mail_pickNext_X7 t_h h109 rfl 0 (by decide +kernel) (List.mem_of_getElem? (i := 7) rfl) rfl dX7_pickNext_34 ?_
    refine v_iconst B (v := iI 0) dX7_pickNext_37 rfl ?_
    refine u_callVi B Z hz (n := 1) (As := [.int (iI 0)]) (rest := [.ref h]) (c_Row_at l D K Z _ _ _ _ a45 0 t62 ⟨by omega, by omega⟩ σ108 G111) gd_Mail_pickNext_Row_at_99 rfl rfl rfl (by decide +kernel) ⟨Nat.le_trans (by decide +kernel) hR.1, Nat.le_trans (by decide +kernel) hR.2⟩ t62 (cls_Row G111 t62) rfl rfl rfl rfl (Nat.le_of_ble_eq_true rfl) dX7_pickNext_38 ⟨Nat.zero_le _, Nat.zero_le _⟩ (fun v116 σ114 p115 => ?_)
    obtain ⟨rfl, z120, e121, r122⟩ := p115
    subst e121
    refine u_put B Z (C := RX7) (T := TX7) (N := 16) (ci := 7) hi_Mail_pickNext_X7 t_h h109 rfl 2 (by decide +kernel) tyX7 tyX7_ok nmX7 (List.mem_of_getElem? (i := 14) rfl) rfl (ty := .int) (tyX7_ok 2 (by decide +kernel)) rfl rfl (Nat.le_of_ble_eq_true rfl) (fs' := [.ref a45, .int (iI 3), .int (iI z120), .ref a48, .int (iI z49), .int (iI z50), .int (iI z51), .ref a52, .int (iI z53), .int (iI z54), .int (iI z55), .ref a56, .int (iI z57), .ref a58, .int (iI z59), .ref a60]) rfl dX7_pickNext_41 (fun σ123 h124 n125 => ?_)
    have G126 := G111.put t_h (⟨a45, 3, z120, a48, z49, z50, z51, a52, z53, z54, z55, a56, z57, a58, z59, a60, h124, t62, ⟨by omega, by omega⟩, ⟨by omega, by omega⟩, t65, ⟨by omega, by omega⟩, ⟨by omega, by omega⟩, ⟨by omega, by omega⟩, t69, ⟨by omega, by omega⟩, ⟨by omega, by omega⟩, ⟨by omega, by omega⟩, t73, ⟨by omega, by omega⟩, t75, ⟨by omega, by omega⟩, t77⟩ : Ok K τ (37, 0, 0) (σ123 h)) n125
    have F127 := F112.put t_h (by simp) n125
    have h128 := (n125 a48 (ne_ty t65 t_h (by simp))).trans h113
    refine v_aload_n B dX7_pickNext_44 rfl rfl ?_
    refine v_aload_n B dX7_pickNext_45 rfl rfl ?_
    refine u_get B Z (C := RX7) (T := TX7) (N := 16) (ci := 7) hi_Mail_pickNext_X7 t_h h124 rfl 4 (by decide +kernel) (List.mem_of_getElem? (i := 34) rfl) rfl dX7_pickNext_46 ?_
    refine v_iconst B (v := iI 1) dX7_pickNext_49 rfl ?_
    refine v_iadd B (v := iI (z49 + 1)) dX7_pickNext_50 ((iI_add _ _).trans (congrArg iI (by omega))) ?_
    refine v_aload_n B dX7_pickNext_51 rfl rfl ?_
    refine u_get B Z (C := RX7) (T := TX7) (N := 16) (ci := 7) hi_Mail_pickNext_X7 t_h h124 rfl 3 (by decide +kernel) (List.mem_of_getElem? (i := 33) rfl) rfl dX7_pickNext_52 ?_
    refine u_alen B Z (t0 := 4) (v := 6) t65 h128 rfl (by first | rfl | omega) dX7_pickNext_55 ?_
    obtain ⟨z129, e130⟩ : ∃ z : Int, z = (z49 + 1) % 6 := ⟨_, rfl⟩
    refine v_irem B (v := iI z129) dX7_pickNext_56 (fun q => absurd ((iI_eq (a := 6) (b := 0) (by omega) (by omega)).mp q) (by omega)) ((iI_rem (a := (z49 + 1)) (b := 6) (by omega) (by omega)).trans (congrArg iI e130.symm)) ?_
    refine u_put B Z (C := RX7) (T := TX7) (N := 16) (ci := 7) hi_Mail_pickNext_X7 t_h h124 rfl 4 (by decide +kernel) tyX7 tyX7_ok nmX7 (List.mem_of_getElem? (i := 34) rfl) rfl (ty := .int) (tyX7_ok 4 (by decide +kernel)) rfl rfl (Nat.le_of_ble_eq_true rfl) (fs' := [.ref a45, .int (iI 3), .int (iI z120), .ref a48, .int (iI z129), .int (iI z50), .int (iI z51), .ref a52, .int (iI z53), .int (iI z54), .int (iI z55), .ref a56, .int (iI z57), .ref a58, .int (iI z59), .ref a60]) rfl dX7_pickNext_57 (fun σ131 h132 n133 => ?_)
    have G134 := G126.put t_h (⟨a45, 3, z120, a48, z129, z50, z51, a52, z53, z54, z55, a56, z57, a58, z59, a60, h132, t62, ⟨by omega, by omega⟩, ⟨by omega, by omega⟩, t65, ⟨by omega, by omega⟩, ⟨by omega, by omega⟩, ⟨by omega, by omega⟩, t69, ⟨by omega, by omega⟩, ⟨by omega, by omega⟩, ⟨by omega, by omega⟩, t73, ⟨by omega, by omega⟩, t75, ⟨by omega, by omega⟩, t77⟩ : Ok K τ (37, 0, 0) (σ131 h)) n133
    have F135 := F127.put t_h (by simp) n133
    have h136 := (n133 a48 (ne_ty t65 t_h (by simp))).trans h128
    refine v_aload_n B dX7_pickNext_60 rfl rfl ?_
    refine v_dup B dX7_pickNext_61 rfl ?_
    refine u_get B Z (C := RX7) (T := TX7) (N := 16) (ci := 7) hi_Mail_pickNext_X7 t_h h132 rfl 5 (by decide +kernel) (List.mem_of_getElem? (i := 15) rfl) rfl dX7_pickNext_62 ?_
    refine v_iconst B (v := iI 1) dX7_pickNext_65 rfl ?_
    refine v_isub B (v := iI (z50 + (-1))) dX7_pickNext_66 ((iI_sub _ _).trans (congrArg iI (by omega))) ?_
    refine u_put B Z (C := RX7) (T := TX7) (N := 16) (ci := 7) hi_Mail_pickNext_X7 t_h h132 rfl 5 (by decide +kernel) tyX7 tyX7_ok nmX7 (List.mem_of_getElem? (i := 15) rfl) rfl (ty := .int) (tyX7_ok 5 (by decide +kernel)) rfl rfl (Nat.le_of_ble_eq_true rfl) (fs' := [.ref a45, .int (iI 3), .int (iI z120), .ref a48, .int (iI z129), .int (iI (z50 + (-1))), .int (iI z51), .ref a52, .int (iI z53), .int (iI z54), .int (iI z55), .ref a56, .int (iI z57), .ref a58, .int (iI z59), .ref a60]) rfl dX7_pickNext_67 (fun σ137 h138 n139 => ?_)
    have G140 := G134.put t_h (⟨a45, 3, z120, a48, z129, (z50 + (-1)), z51, a52, z53, z54, z55, a56, z57, a58, z59, a60, h138, t62, ⟨by omega, by omega⟩, ⟨by omega, by omega⟩, t65, ⟨by omega, by omega⟩, ⟨by omega, by omega⟩, ⟨by omega, by omega⟩, t69, ⟨by omega, by omega⟩, ⟨by omega, by omega⟩, ⟨by omega, by omega⟩, t73, ⟨by omega, by omega⟩, t75, ⟨by omega, by omega⟩, t77⟩ : Ok K τ (37, 0, 0) (σ137 h)) n139
    have F141 := F135.put t_h (by simp) n139
    have h142 := (n139 a48 (ne_ty t65 t_h (by simp))).trans h136
    refine v_goto B (tgt := 105) dX7_pickNext_70 (by decide +kernel) ?_
    exact hend σ137 _ _ G140 F141 dX7_pickNext_105
set_option maxRecDepth 100000 in
theorem c_Mail_pickNext (l : Launch) (D : va_G) (K : Nat → ClassId) {τ : Nat → Option Ty} {dom : List Nat} (Z : Sk τ dom) (zb zL : Nat) (zx : Nat → Int32) (zs : Nat → Nat) (h : Nat) (x1 : Int) (t_h : τ h = some (37, 0, 0)) (r_x1 : 0 ≤ x1 ∧ x1 ≤ 1) (σ0 : Nat → va_E) (G0 : Good K τ σ0) : MZ l yX7_pickNext wp_Mail_pickNext ({ frames := 3, cells := 0, slots := 0, locals := 59 }) D (tysA K) [.ref h, .int (iI x1)] (fd dom σ0) zb zL zx zs (Qv D (fun σ' => Good K τ σ' ∧ Fr τ [(1, 2), (37, 0), (2, 2)] σ0 σ') (fun σ' => fd dom σ')) 0 0 := by
  refine mz_of (cc := cX7_pickNext) (maxL := 2) (ret := none) (by decide +kernel) rfl (Nat.le_of_ble_eq_true rfl) ?_
  intro p e s m below meth c A B hr hlk _ hz
  exact b_Mail_pickNext ⟨Nat.le_refl _, Nat.le_refl _⟩ B Z hz h x1 t_h r_x1 σ0 G0 (fun σ' lv pc G F hd => v_vret B hr hlk σ' ⟨G, F⟩ rfl (Nat.le_refl _) (Nat.le_refl _) hd)

def wp_Mail_gather : List Cond := .code yX7_gather cX7_gather 4 (some .boolean) :: (([.fieldLink RX7 59 "LowEnergy$Mail" "begun" "Z", .fieldLink RX7 27 "LowEnergy$Mail" "gathered" "LLowEnergy$Row;", .methodLink RX7 106 yX9_two, .instanceMethod yX9_two, .selects RX9 yX9_two yX9_two, .initialized RX9, .code yX9_two cX9_two 2 (some .int), .fieldLink RX9 21 "LowEnergy$Row" "size" "I", .fieldLink RX9 15 "LowEnergy$Row" "bytes" "[I", .methodLink RX7 91 yX9_putPart, .instanceMethod yX9_putPart, .selects RX9 yX9_putPart yX9_putPart, .code yX9_putPart cX9_putPart 6 none, .methodLink RX9 9 Lib.Math.max.name, .static Lib.Math.max.name, .initialized "java/lang/Math", .code Lib.Math.max.name Lib.Math.max.code 2 (some .int), .fieldLink RX7 109 "LowEnergy$Mail" "letterChannel" "I", .fieldLink RX7 30 "LowEnergy$Mail" "letter" "LLowEnergy$Row;", .methodLink RX7 62 yX9_clear, .instanceMethod yX9_clear, .selects RX9 yX9_clear yX9_clear, .code yX9_clear cX9_clear 1 none, .methodLink RX7 84 yX7_isFull, .instanceMethod yX7_isFull, .selects RX7 yX7_isFull yX7_isFull, .initialized RX7, .code yX7_isFull cX7_isFull 1 (some .boolean), .fieldLink RX7 53 "LowEnergy$Mail" "messageCount" "I"] : List Cond) ++ (wsX70 ++ (wsX90 ++ ([]))))
theorem hi_Mail_gather_X7 : ∀ x ∈ u_ws RX7 TX7 16, x ∈ wp_Mail_gather := fun _ h => List.mem_cons_of_mem _ (List.mem_append_right _ (List.mem_append_left _ h))
theorem hi_Mail_gather_X9 : ∀ x ∈ u_ws RX9 TX9 2, x ∈ wp_Mail_gather := fun _ h => List.mem_cons_of_mem _ (List.mem_append_right _ (List.mem_append_right _ (List.mem_append_left _ h)))
set_option maxRecDepth 100000 in
theorem gd_Mail_gather_Row_two_106 : GoodIn wp_Mail_gather (wsV RX7 106 RX9 yX9_two wp_Row_two) := goodIn_app (goodIn_r _ [3, 4, 5, 6] rfl rfl) (goodIn_ca (goodIn_r _ [7, 8, 9] rfl rfl) (goodIn_app (goodIn_cls hi_Mail_gather_X9 gw_X9) (goodIn_nil)))
set_option maxRecDepth 100000 in
theorem gd_Mail_gather_Row_putPart_91 : GoodIn wp_Mail_gather (wsV RX7 91 RX9 yX9_putPart wp_Row_putPart) := goodIn_app (goodIn_r _ [10, 11, 12, 6] rfl rfl) (goodIn_ca (goodIn_r _ [13, 8, 9, 14, 15, 16, 17] rfl rfl) (goodIn_app (goodIn_cls hi_Mail_gather_X9 gw_X9) (goodIn_nil)))
set_option maxRecDepth 100000 in
theorem gd_Mail_gather_Row_clear_62 : GoodIn wp_Mail_gather (wsV RX7 62 RX9 yX9_clear wp_Row_clear) := goodIn_app (goodIn_r _ [20, 21, 22, 6] rfl rfl) (goodIn_ca (goodIn_r _ [23, 8] rfl rfl) (goodIn_app (goodIn_cls hi_Mail_gather_X9 gw_X9) (goodIn_nil)))
set_option maxRecDepth 100000 in
theorem gd_Mail_gather_Mail_isFull_84 : GoodIn wp_Mail_gather (wsV RX7 84 RX7 yX7_isFull wp_Mail_isFull) := goodIn_app (goodIn_r _ [24, 25, 26, 27] rfl rfl) (goodIn_ca (goodIn_r _ [28, 29] rfl rfl) (goodIn_app (goodIn_cls hi_Mail_gather_X7 gw_X7) (goodIn_nil)))
set_option maxHeartbeats 4000000 in
set_option maxRecDepth 100000 in
theorem b_Mail_gather {p : Program} {l : Launch} {e : Env} {R : Room} {s : State} {m : MethodId} {args : Array Value} {below : List Frame} {meth : Method} {c : Code} {D : va_G} {K : Nat → ClassId} {A : Nat → Prop} {Q : State → Prop} {τ : Nat → Option Ty} {dom : List Nat} {zb zL : Nat} {zx : Nat → Int32} {zs : Nat → Nat} {π : Nat} (hR : 2 ≤ R.frames ∧ 38 ≤ R.locals) (B : Bx p s m args c cX7_gather 4 RX7 wp_Mail_gather D (tysA K) A) (Z : Sk τ dom) (hz : ZL zb zL zx zs A s s.heap) (h : Nat) (x1 : Int) (g : Nat) (t_h : τ h = some (37, 0, 0)) (r_x1 : -2147483648 ≤ x1 ∧ x1 ≤ 2147483647) (t_g : τ g = some (1, π, 0)) (σ0 : Nat → va_E) (G0 : Good K τ σ0) (hend : ∀ (σ' : Nat → va_E) (z : Int) (lv : List (Nat × Value)) (pc : Nat), Good K τ σ' → Fr τ [(1, 11), (37, 0), (2, 11), (1, 12), (2, 12)] σ0 σ' → (0 ≤ z ∧ z ≤ 1) → decode cX7_gather pc = .ok (.ireturn, 1) → V p l e R s m args below meth c 4 D A Q (0, 0) (fd dom σ') lv pc [.int (iI z)]) : V p l e R s m args below meth c 4 D A Q (0, 0) (fd dom σ0) [(0, .ref h), (1, .int (iI x1)), (2, .ref g)] 0 [] := by
  have F0 : Fr τ [(1, 11), (37, 0), (2, 11), (1, 12), (2, 12)] σ0 σ0 := Fr.rf
  have J39 : ∀ (σ_39 : Nat → va_E), Good K τ σ_39 → Fr τ [(1, 11), (37, 0), (2, 11), (1, 12), (2, 12)] σ0 σ_39 → V p l e R s m args below meth c 4 D A Q (0, 0) (fd dom σ_39) [(0, .ref h), (2, .ref g)] 39 [] := by
    intro σ_39 G_39 F_39
    refine v_aload_n B dX7_gather_39 rfl rfl ?_
    obtain ⟨a1, z2, z3, a4, z5, z6, z7, a8, z9, z10, z11, a12, z13, a14, z15, a16, h17, t18, r19, r20, t21, r22, r23, r24, t25, r26, r27, r28, t29, r30, t31, r32, t33⟩ : okMail τ (σ_39 h) := G_39 h _ t_h
    refine u_get B Z (C := RX7) (T := TX7) (N := 16) (ci := 7) hi_Mail_gather_X7 t_h h17 rfl 12 (by decide +kernel) (List.mem_of_getElem? (i := 1) rfl) rfl dX7_gather_40 ?_
    refine u_if_ne B (tgt := 48) (by omega) dX7_gather_43 (by decide +kernel) (fun c34 => ?_) (fun c34 => ?_)
    · refine v_iconst B (v := iI 4) dX7_gather_48 rfl ?_
      refine v_aload_n B dX7_gather_49 rfl rfl ?_
      refine u_get B Z (C := RX7) (T := TX7) (N := 16) (ci := 7) hi_Mail_gather_X7 t_h h17 rfl 11 (by decide +kernel) (List.mem_of_getElem? (i := 2) rfl) rfl dX7_gather_50 ?_
      obtain ⟨b35, N36, n37, h38, t39, r40⟩ : okRow τ 11 (σ_39 a12) := G_39 a12 _ t29
      refine u_getN B Z (C := RX9) (T := TX9) (N := 2) (ci := 9) hi_Mail_gather_X9 t29 h38 rfl 1 (by decide +kernel) (List.mem_of_getElem? (i := 88) rfl) rfl dX7_gather_53 ?_
      refine u_if_ne B (tgt := 63) (by omega) dX7_gather_56 (by decide +kernel) (fun c41 => ?_) (fun c41 => ?_)
      · refine v_aload_n B dX7_gather_63 rfl rfl ?_
        refine u_get B Z (C := RX7) (T := TX7) (N := 16) (ci := 7) hi_Mail_gather_X7 t_h h17 rfl 11 (by decide +kernel) (List.mem_of_getElem? (i := 2) rfl) rfl dX7_gather_64 ?_
        refine v_iconst B (v := iI 0) dX7_gather_67 rfl ?_
        refine u_callVi B Z hz (n := 1) (As := [.int (iI 0)]) (rest := [.int (iI 4)]) (c_Row_two l D K Z _ _ _ _ a12 0 t29 ⟨by omega, by omega⟩ σ_39 G_39) gd_Mail_gather_Row_two_106 rfl rfl rfl (by decide +kernel) ⟨Nat.le_trans (by decide +kernel) hR.1, Nat.le_trans (by decide +kernel) hR.2⟩ t29 (cls_Row G_39 t29) rfl rfl rfl rfl (Nat.le_of_ble_eq_true rfl) dX7_gather_68 ⟨Nat.zero_le _, Nat.zero_le _⟩ (fun v44 σ42 p43 => ?_)
        obtain ⟨rfl, z48, e49, r50⟩ := p43
        subst e49
        refine v_iadd B (v := iI (z48 + 4)) dX7_gather_71 ((iI_add _ _).trans (congrArg iI (by omega))) ?_
        refine v_istore_n B (lv' := [(3, .int (iI (z48 + 4))), (0, .ref h), (2, .ref g)]) dX7_gather_72 rfl (by decide +kernel) rfl ?_
        refine v_aload_n B dX7_gather_73 rfl rfl ?_
        refine u_get B Z (C := RX7) (T := TX7) (N := 16) (ci := 7) hi_Mail_gather_X7 t_h h17 rfl 11 (by decide +kernel) (List.mem_of_getElem? (i := 2) rfl) rfl dX7_gather_74 ?_
        refine u_getN B Z (C := RX9) (T := TX9) (N := 2) (ci := 9) hi_Mail_gather_X9 t29 h38 rfl 1 (by decide +kernel) (List.mem_of_getElem? (i := 88) rfl) rfl dX7_gather_77 ?_
        refine v_aload_n B dX7_gather_80 rfl rfl ?_
        obtain ⟨b51, N52, n53, h54, t55, r56⟩ : okRow τ π (σ_39 g) := G_39 g _ t_g
        refine u_getN B Z (C := RX9) (T := TX9) (N := 2) (ci := 9) hi_Mail_gather_X9 t_g h54 rfl 1 (by decide +kernel) (List.mem_of_getElem? (i := 88) rfl) rfl dX7_gather_81 ?_
        refine v_iadd B (v := iI (n37 + n53)) dX7_gather_84 ((iI_add _ _).trans (congrArg iI (by omega))) ?_
        refine v_iload_n B dX7_gather_85 rfl rfl ?_
        refine u_icmp_le B (tgt := 96) (by omega) (by omega) dX7_gather_86 (by decide +kernel) (fun c57 => ?_) (fun c57 => ?_)
        · refine v_aload_n B dX7_gather_96 rfl rfl ?_
          refine u_get B Z (C := RX7) (T := TX7) (N := 16) (ci := 7) hi_Mail_gather_X7 t_h h17 rfl 11 (by decide +kernel) (List.mem_of_getElem? (i := 2) rfl) rfl dX7_gather_97 ?_
          refine v_aload_n B dX7_gather_100 rfl rfl ?_
          refine v_iconst B (v := iI 0) dX7_gather_101 rfl ?_
          refine v_aload_n B dX7_gather_102 rfl rfl ?_
          refine u_getN B Z (C := RX9) (T := TX9) (N := 2) (ci := 9) hi_Mail_gather_X9 t_g h54 rfl 1 (by decide +kernel) (List.mem_of_getElem? (i := 88) rfl) rfl dX7_gather_103 ?_
          refine u_callVv B Z hz (n := 3) (As := [.ref g, .int (iI 0), .int (iI n53)]) (rest := []) (c_Row_putPart l D K Z _ _ _ _ a12 g 0 n53 t29 t_g ⟨by omega, by omega⟩ ⟨by omega, by omega⟩ σ_39 G_39) gd_Mail_gather_Row_putPart_91 rfl rfl rfl (by decide +kernel) ⟨Nat.le_trans (by decide +kernel) hR.1, Nat.le_trans (by decide +kernel) hR.2⟩ t29 (cls_Row G_39 t29) rfl rfl rfl rfl (Nat.le_of_ble_eq_true rfl) dX7_gather_106 ⟨Nat.zero_le _, Nat.zero_le _⟩ (fun σ58 p59 => ?_)
          obtain ⟨G61, F62⟩ := p59
          have F63 := F_39.call F62 (by first | rfl | simp)
          have h64 := (F62 h _ t_h (by first | rfl | simp)).trans h17
          refine v_aload_n B dX7_gather_109 rfl rfl ?_
          refine u_get B Z (C := RX7) (T := TX7) (N := 16) (ci := 7) hi_Mail_gather_X7 t_h h64 rfl 11 (by decide +kernel) (List.mem_of_getElem? (i := 2) rfl) rfl dX7_gather_110 ?_
          obtain ⟨b65, N66, n67, h68, t69, r70⟩ : okRow τ 11 (σ58 a12) := G61 a12 _ t29
          refine u_getN B Z (C := RX9) (T := TX9) (N := 2) (ci := 9) hi_Mail_gather_X9 t29 h68 rfl 1 (by decide +kernel) (List.mem_of_getElem? (i := 88) rfl) rfl dX7_gather_113 ?_
          refine v_iload_n B dX7_gather_116 rfl rfl ?_
          refine u_icmp_ge B (tgt := 122) (by omega) (by omega) dX7_gather_117 (by decide +kernel) (fun c71 => ?_) (fun c71 => ?_)
          · refine v_aload_n B dX7_gather_122 rfl rfl ?_
            refine v_iconst B (v := iI 0) dX7_gather_123 rfl ?_
            refine u_put B Z (C := RX7) (T := TX7) (N := 16) (ci := 7) hi_Mail_gather_X7 t_h h64 rfl 12 (by decide +kernel) tyX7 tyX7_ok nmX7 (List.mem_of_getElem? (i := 1) rfl) rfl (ty := .boolean) (tyX7_ok 12 (by decide +kernel)) (nar01 (by omega)) (fit01 (by omega)) (Nat.le_of_ble_eq_true rfl) (fs' := [.ref a1, .int (iI z2), .int (iI z3), .ref a4, .int (iI z5), .int (iI z6), .int (iI z7), .ref a8, .int (iI z9), .int (iI z10), .int (iI z11), .ref a12, .int (iI 0), .ref a14, .int (iI z15), .ref a16]) rfl dX7_gather_124 (fun σ72 h73 n74 => ?_)
            have G75 := G61.put t_h (⟨a1, z2, z3, a4, z5, z6, z7, a8, z9, z10, z11, a12, 0, a14, z15, a16, h73, t18, ⟨by omega, by omega⟩, ⟨by omega, by omega⟩, t21, ⟨by omega, by omega⟩, ⟨by omega, by omega⟩, ⟨by omega, by omega⟩, t25, ⟨by omega, by omega⟩, ⟨by omega, by omega⟩, ⟨by omega, by omega⟩, t29, ⟨by omega, by omega⟩, t31, ⟨by omega, by omega⟩, t33⟩ : Ok K τ (37, 0, 0) (σ72 h)) n74
            have F76 := F63.put t_h (by simp) n74
            have h77 := (n74 a12 (ne_ty t29 t_h (by simp))).trans h68
            refine v_aload_n B dX7_gather_127 rfl rfl ?_
            refine v_aload_n B dX7_gather_128 rfl rfl ?_
            refine u_get B Z (C := RX7) (T := TX7) (N := 16) (ci := 7) hi_Mail_gather_X7 t_h h73 rfl 11 (by decide +kernel) (List.mem_of_getElem? (i := 2) rfl) rfl dX7_gather_129 ?_
            refine v_iconst B (v := iI 2) dX7_gather_132 rfl ?_
            refine u_callVi B Z hz (n := 1) (As := [.int (iI 2)]) (rest := [.ref h]) (c_Row_two l D K Z _ _ _ _ a12 2 t29 ⟨by omega, by omega⟩ σ72 G75) gd_Mail_gather_Row_two_106 rfl rfl rfl (by decide +kernel) ⟨Nat.le_trans (by decide +kernel) hR.1, Nat.le_trans (by decide +kernel) hR.2⟩ t29 (cls_Row G75 t29) rfl rfl rfl rfl (Nat.le_of_ble_eq_true rfl) dX7_gather_133 ⟨Nat.zero_le _, Nat.zero_le _⟩ (fun v80 σ78 p79 => ?_)
            obtain ⟨rfl, z84, e85, r86⟩ := p79
            subst e85
            refine u_put B Z (C := RX7) (T := TX7) (N := 16) (ci := 7) hi_Mail_gather_X7 t_h h73 rfl 14 (by decide +kernel) tyX7 tyX7_ok nmX7 (List.mem_of_getElem? (i := 18) rfl) rfl (ty := .int) (tyX7_ok 14 (by decide +kernel)) rfl rfl (Nat.le_of_ble_eq_true rfl) (fs' := [.ref a1, .int (iI z2), .int (iI z3), .ref a4, .int (iI z5), .int (iI z6), .int (iI z7), .ref a8, .int (iI z9), .int (iI z10), .int (iI z11), .ref a12, .int (iI 0), .ref a14, .int (iI z84), .ref a16]) rfl dX7_gather_136 (fun σ87 h88 n89 => ?_)
            have G90 := G75.put t_h (⟨a1, z2, z3, a4, z5, z6, z7, a8, z9, z10, z11, a12, 0, a14, z84, a16, h88, t18, ⟨by omega, by omega⟩, ⟨by omega, by omega⟩, t21, ⟨by omega, by omega⟩, ⟨by omega, by omega⟩, ⟨by omega, by omega⟩, t25, ⟨by omega, by omega⟩, ⟨by omega, by omega⟩, ⟨by omega, by omega⟩, t29, ⟨by omega, by omega⟩, t31, ⟨by omega, by omega⟩, t33⟩ : Ok K τ (37, 0, 0) (σ87 h)) n89
            have F91 := F76.put t_h (by simp) n89
            have h92 := (n89 a12 (ne_ty t29 t_h (by simp))).trans h77
            refine v_aload_n B dX7_gather_139 rfl rfl ?_
            refine u_get B Z (C := RX7) (T := TX7) (N := 16) (ci := 7) hi_Mail_gather_X7 t_h h88 rfl 13 (by decide +kernel) (List.mem_of_getElem? (i := 19) rfl) rfl dX7_gather_140 ?_
            refine u_callVv B Z hz (n := 0) (As := []) (rest := []) (c_Row_clear l D K Z _ _ _ _ a14 t31 σ87 G90) gd_Mail_gather_Row_clear_62 rfl rfl rfl (by decide +kernel) ⟨Nat.le_trans (by decide +kernel) hR.1, Nat.le_trans (by decide +kernel) hR.2⟩ t31 (cls_Row G90 t31) rfl rfl rfl rfl (Nat.le_of_ble_eq_true rfl) dX7_gather_143 ⟨Nat.zero_le _, Nat.zero_le _⟩ (fun σ93 p94 => ?_)
            obtain ⟨G96, F97⟩ := p94
            have F98 := F91.call F97 (by first | rfl | simp)
            have h99 := (F97 h _ t_h (by first | rfl | simp)).trans h88
            have h100 := (F97 a12 _ t29 (by first | rfl | simp)).trans h92
            refine v_aload_n B dX7_gather_146 rfl rfl ?_
            refine u_get B Z (C := RX7) (T := TX7) (N := 16) (ci := 7) hi_Mail_gather_X7 t_h h99 rfl 13 (by decide +kernel) (List.mem_of_getElem? (i := 19) rfl) rfl dX7_gather_147 ?_
            refine v_aload_n B dX7_gather_150 rfl rfl ?_
            refine u_get B Z (C := RX7) (T := TX7) (N := 16) (ci := 7) hi_Mail_gather_X7 t_h h99 rfl 11 (by decide +kernel) (List.mem_of_getElem? (i := 2) rfl) rfl dX7_gather_151 ?_
            refine v_iconst B (v := iI 4) dX7_gather_154 rfl ?_
            refine v_iload_n B dX7_gather_155 rfl rfl ?_
            refine u_callVv B Z hz (n := 3) (As := [.ref a12, .int (iI 4), .int (iI (z48 + 4))]) (rest := []) (c_Row_putPart l D K Z _ _ _ _ a14 a12 4 (z48 + 4) t31 t29 ⟨by omega, by omega⟩ ⟨by omega, by omega⟩ σ93 G96) gd_Mail_gather_Row_putPart_91 rfl rfl rfl (by decide +kernel) ⟨Nat.le_trans (by decide +kernel) hR.1, Nat.le_trans (by decide +kernel) hR.2⟩ t31 (cls_Row G96 t31) rfl rfl rfl rfl (Nat.le_of_ble_eq_true rfl) dX7_gather_156 ⟨Nat.zero_le _, Nat.zero_le _⟩ (fun σ101 p102 => ?_)
            obtain ⟨G104, F105⟩ := p102
            have F106 := F98.call F105 (by first | rfl | simp)
            have h107 := (F105 h _ t_h (by first | rfl | simp)).trans h99
            have h108 := (F105 a12 _ t29 (by first | rfl | simp)).trans h100
            refine v_aload_n B dX7_gather_159 rfl rfl ?_
            refine u_callVi B Z hz (n := 0) (As := []) (rest := []) (c_Mail_isFull l D K Z _ _ _ _ h t_h σ101 G104) gd_Mail_gather_Mail_isFull_84 rfl rfl rfl (by decide +kernel) ⟨Nat.le_trans (by decide +kernel) hR.1, Nat.le_trans (by decide +kernel) hR.2⟩ t_h (cls_Mail G104 t_h) rfl rfl rfl rfl (Nat.le_of_ble_eq_true rfl) dX7_gather_160 ⟨Nat.zero_le _, Nat.zero_le _⟩ (fun v111 σ109 p110 => ?_)
            obtain ⟨rfl, z115, e116, r117, fl118⟩ := p110
            subst e116
            have r119 : z115 = 0 → z10 ≤ 7 := fun q => (fl118 q).use h107 (j := 9) rfl (by omega)
            refine u_if_ne B (tgt := 197) (by omega) dX7_gather_163 (by decide +kernel) (fun c120 => ?_) (fun c120 => ?_)
            · refine v_iconst B (v := iI 0) dX7_gather_197 rfl ?_
              exact hend σ101 0 _ _ G104 F106 ⟨by omega, by omega⟩ dX7_gather_198
            · refine v_aload_n B dX7_gather_166 rfl rfl ?_
              refine u_get B Z (C := RX7) (T := TX7) (N := 16) (ci := 7) hi_Mail_gather_X7 t_h h107 rfl 13 (by decide +kernel) (List.mem_of_getElem? (i := 19) rfl) rfl dX7_gather_167 ?_
              obtain ⟨b121, N122, n123, h124, t125, r126⟩ : okRow τ 12 (σ101 a14) := G104 a14 _ t31
              refine u_getN B Z (C := RX9) (T := TX9) (N := 2) (ci := 9) hi_Mail_gather_X9 t31 h124 rfl 1 (by decide +kernel) (List.mem_of_getElem? (i := 88) rfl) rfl dX7_gather_170 ?_
              refine u_if_le B (tgt := 197) (by omega) dX7_gather_173 (by decide +kernel) (fun c127 => ?_) (fun c127 => ?_)
              · refine v_iconst B (v := iI 0) dX7_gather_197 rfl ?_
                exact hend σ101 0 _ _ G104 F106 ⟨by omega, by omega⟩ dX7_gather_198
              · refine v_aload_n B dX7_gather_176 rfl rfl ?_
                refine u_get B Z (C := RX7) (T := TX7) (N := 16) (ci := 7) hi_Mail_gather_X7 t_h h107 rfl 14 (by decide +kernel) (List.mem_of_getElem? (i := 18) rfl) rfl dX7_gather_177 ?_
                refine v_iconst B (v := iI 4) dX7_gather_180 rfl ?_
                refine u_icmp_eq B (tgt := 193) (by omega) (by omega) dX7_gather_181 (by decide +kernel) (fun c128 => ?_) (fun c128 => ?_)
                · refine v_iconst B (v := iI 1) dX7_gather_193 rfl ?_
                  refine v_goto B (tgt := 198) dX7_gather_194 (by decide +kernel) ?_
                  exact hend σ101 1 _ _ G104 F106 ⟨by omega, by omega⟩ dX7_gather_198
                · refine v_aload_n B dX7_gather_184 rfl rfl ?_
                  refine u_get B Z (C := RX7) (T := TX7) (N := 16) (ci := 7) hi_Mail_gather_X7 t_h h107 rfl 14 (by decide +kernel) (List.mem_of_getElem? (i := 18) rfl) rfl dX7_gather_185 ?_
                  refine v_bipush B (v := iI 6) dX7_gather_188 (by decide +kernel) ?_
                  refine u_icmp_ne B (tgt := 197) (by omega) (by omega) dX7_gather_190 (by decide +kernel) (fun c129 => ?_) (fun c129 => ?_)
                  · refine v_iconst B (v := iI 0) dX7_gather_197 rfl ?_
                    exact hend σ101 0 _ _ G104 F106 ⟨by omega, by omega⟩ dX7_gather_198
                  · refine v_iconst B (v := iI 1) dX7_gather_193 rfl ?_
                    refine v_goto B (tgt := 198) dX7_gather_194 (by decide +kernel) ?_
                    exact hend σ101 1 _ _ G104 F106 ⟨by omega, by omega⟩ dX7_gather_198
          · refine v_iconst B (v := iI 0) dX7_gather_120 rfl ?_
            exact hend σ58 0 _ _ G61 F63 ⟨by omega, by omega⟩ dX7_gather_121
        · refine v_aload_n B dX7_gather_89 rfl rfl ?_
          refine v_iconst B (v := iI 0) dX7_gather_90 rfl ?_
          refine u_put B Z (C := RX7) (T := TX7) (N := 16) (ci := 7) hi_Mail_gather_X7 t_h h17 rfl 12 (by decide +kernel) tyX7 tyX7_ok nmX7 (List.mem_of_getElem? (i := 1) rfl) rfl (ty := .boolean) (tyX7_ok 12 (by decide +kernel)) (nar01 (by omega)) (fit01 (by omega)) (Nat.le_of_ble_eq_true rfl) (fs' := [.ref a1, .int (iI z2), .int (iI z3), .ref a4, .int (iI z5), .int (iI z6), .int (iI z7), .ref a8, .int (iI z9), .int (iI z10), .int (iI z11), .ref a12, .int (iI 0), .ref a14, .int (iI z15), .ref a16]) rfl dX7_gather_91 (fun σ130 h131 n132 => ?_)
          have G133 := G_39.put t_h (⟨a1, z2, z3, a4, z5, z6, z7, a8, z9, z10, z11, a12, 0, a14, z15, a16, h131, t18, ⟨by omega, by omega⟩, ⟨by omega, by omega⟩, t21, ⟨by omega, by omega⟩, ⟨by omega, by omega⟩, ⟨by omega, by omega⟩, t25, ⟨by omega, by omega⟩, ⟨by omega, by omega⟩, ⟨by omega, by omega⟩, t29, ⟨by omega, by omega⟩, t31, ⟨by omega, by omega⟩, t33⟩ : Ok K τ (37, 0, 0) (σ130 h)) n132
          have F134 := F_39.put t_h (by simp) n132
          have h135 := (n132 a12 (ne_ty t29 t_h (by simp))).trans h38
          have h136 := (n132 g (ne_ty t_g t_h (by simp))).trans h54
          refine v_iconst B (v := iI 0) dX7_gather_94 rfl ?_
          exact hend σ130 0 _ _ G133 F134 ⟨by omega, by omega⟩ dX7_gather_95
      · refine v_aload_n B dX7_gather_59 rfl rfl ?_
        refine v_goto B (tgt := 67) dX7_gather_60 (by decide +kernel) ?_
        refine v_iconst B (v := iI 0) dX7_gather_67 rfl ?_
        refine u_callVi B Z hz (n := 1) (As := [.int (iI 0)]) (rest := [.int (iI 4)]) (c_Row_two l D K Z _ _ _ _ g 0 t_g ⟨by omega, by omega⟩ σ_39 G_39) gd_Mail_gather_Row_two_106 rfl rfl rfl (by decide +kernel) ⟨Nat.le_trans (by decide +kernel) hR.1, Nat.le_trans (by decide +kernel) hR.2⟩ t_g (cls_Row G_39 t_g) rfl rfl rfl rfl (Nat.le_of_ble_eq_true rfl) dX7_gather_68 ⟨Nat.zero_le _, Nat.zero_le _⟩ (fun v139 σ137 p138 => ?_)
        obtain ⟨rfl, z143, e144, r145⟩ := p138
        subst e144
        refine v_iadd B (v := iI (z143 + 4)) dX7_gather_71 ((iI_add _ _).trans (congrArg iI (by omega))) ?_
        refine v_istore_n B (lv' := [(3, .int (iI (z143 + 4))), (0, .ref h), (2, .ref g)]) dX7_gather_72 rfl (by decide +kernel) rfl ?_
        refine v_aload_n B dX7_gather_73 rfl rfl ?_
        refine u_get B Z (C := RX7) (T := TX7) (N := 16) (ci := 7) hi_Mail_gather_X7 t_h h17 rfl 11 (by decide +kernel) (List.mem_of_getElem? (i := 2) rfl) rfl dX7_gather_74 ?_
        refine u_getN B Z (C := RX9) (T := TX9) (N := 2) (ci := 9) hi_Mail_gather_X9 t29 h38 rfl 1 (by decide +kernel) (List.mem_of_getElem? (i := 88) rfl) rfl dX7_gather_77 ?_
        refine v_aload_n B dX7_gather_80 rfl rfl ?_
        obtain ⟨b146, N147, n148, h149, t150, r151⟩ : okRow τ π (σ_39 g) := G_39 g _ t_g
        refine u_getN B Z (C := RX9) (T := TX9) (N := 2) (ci := 9) hi_Mail_gather_X9 t_g h149 rfl 1 (by decide +kernel) (List.mem_of_getElem? (i := 88) rfl) rfl dX7_gather_81 ?_
        refine v_iadd B (v := iI (n37 + n148)) dX7_gather_84 ((iI_add _ _).trans (congrArg iI (by omega))) ?_
        refine v_iload_n B dX7_gather_85 rfl rfl ?_
        refine u_icmp_le B (tgt := 96) (by omega) (by omega) dX7_gather_86 (by decide +kernel) (fun c152 => ?_) (fun c152 => ?_)
        · refine v_aload_n B dX7_gather_96 rfl rfl ?_
          refine u_get B Z (C := RX7) (T := TX7) (N := 16) (ci := 7) hi_Mail_gather_X7 t_h h17 rfl 11 (by decide +kernel) (List.mem_of_getElem? (i := 2) rfl) rfl dX7_gather_97 ?_
          refine v_aload_n B dX7_gather_100 rfl rfl ?_
          refine v_iconst B (v := iI 0) dX7_gather_101 rfl ?_
          refine v_aload_n B dX7_gather_102 rfl rfl ?_
          refine u_getN B Z (C := RX9) (T := TX9) (N := 2) (ci := 9) hi_Mail_gather_X9 t_g h149 rfl 1 (by decide +kernel) (List.mem_of_getElem? (i := 88) rfl) rfl dX7_gather_103 ?_
          refine u_callVv B Z hz (n := 3) (As := [.ref g, .int (iI 0), .int (iI n148)]) (rest := []) (c_Row_putPart l D K Z _ _ _ _ a12 g 0 n148 t29 t_g ⟨by omega, by omega⟩ ⟨by omega, by omega⟩ σ_39 G_39) gd_Mail_gather_Row_putPart_91 rfl rfl rfl (by decide +kernel) ⟨Nat.le_trans (by decide +kernel) hR.1, Nat.le_trans (by decide +kernel) hR.2⟩ t29 (cls_Row G_39 t29) rfl rfl rfl rfl (Nat.le_of_ble_eq_true rfl) dX7_gather_106 ⟨Nat.zero_le _, Nat.zero_le _⟩ (fun σ153 p154 => ?_)
          obtain ⟨G156, F157⟩ := p154
          have F158 := F_39.call F157 (by first | rfl | simp)
          have h159 := (F157 h _ t_h (by first | rfl | simp)).trans h17
          refine v_aload_n B dX7_gather_109 rfl rfl ?_
          refine u_get B Z (C := RX7) (T := TX7) (N := 16) (ci := 7) hi_Mail_gather_X7 t_h h159 rfl 11 (by decide +kernel) (List.mem_of_getElem? (i := 2) rfl) rfl dX7_gather_110 ?_
          obtain ⟨b160, N161, n162, h163, t164, r165⟩ : okRow τ 11 (σ153 a12) := G156 a12 _ t29
          refine u_getN B Z (C := RX9) (T := TX9) (N := 2) (ci := 9) hi_Mail_gather_X9 t29 h163 rfl 1 (by decide +kernel) (List.mem_of_getElem? (i := 88) rfl) rfl dX7_gather_113 ?_
          refine v_iload_n B dX7_gather_116 rfl rfl ?_
          refine u_icmp_ge B (tgt := 122) (by omega) (by omega) dX7_gather_117 (by decide +kernel) (fun c166 => ?_) (fun c166 => ?_)
          · refine v_aload_n B dX7_gather_122 rfl rfl ?_
            refine v_iconst B (v := iI 0) dX7_gather_123 rfl ?_
            refine u_put B Z (C := RX7) (T := TX7) (N := 16) (ci := 7) hi_Mail_gather_X7 t_h h159 rfl 12 (by decide +kernel) tyX7 tyX7_ok nmX7 (List.mem_of_getElem? (i := 1) rfl) rfl (ty := .boolean) (tyX7_ok 12 (by decide +kernel)) (nar01 (by omega)) (fit01 (by omega)) (Nat.le_of_ble_eq_true rfl) (fs' := [.ref a1, .int (iI z2), .int (iI z3), .ref a4, .int (iI z5), .int (iI z6), .int (iI z7), .ref a8, .int (iI z9), .int (iI z10), .int (iI z11), .ref a12, .int (iI 0), .ref a14, .int (iI z15), .ref a16]) rfl dX7_gather_124 (fun σ167 h168 n169 => ?_)
            have G170 := G156.put t_h (⟨a1, z2, z3, a4, z5, z6, z7, a8, z9, z10, z11, a12, 0, a14, z15, a16, h168, t18, ⟨by omega, by omega⟩, ⟨by omega, by omega⟩, t21, ⟨by omega, by omega⟩, ⟨by omega, by omega⟩, ⟨by omega, by omega⟩, t25, ⟨by omega, by omega⟩, ⟨by omega, by omega⟩, ⟨by omega, by omega⟩, t29, ⟨by omega, by omega⟩, t31, ⟨by omega, by omega⟩, t33⟩ : Ok K τ (37, 0, 0) (σ167 h)) n169
            have F171 := F158.put t_h (by simp) n169
            have h172 := (n169 a12 (ne_ty t29 t_h (by simp))).trans h163
            refine v_aload_n B dX7_gather_127 rfl rfl ?_
            refine v_aload_n B dX7_gather_128 rfl rfl ?_
            refine u_get B Z (C := RX7) (T := TX7) (N := 16) (ci := 7) hi_Mail_gather_X7 t_h h168 rfl 11 (by decide +kernel) (List.mem_of_getElem? (i := 2) rfl) rfl dX7_gather_129 ?_
            refine v_iconst B (v := iI 2) dX7_gather_132 rfl ?_
            refine u_callVi B Z hz (n := 1) (As := [.int (iI 2)]) (rest := [.ref h]) (c_Row_two l D K Z _ _ _ _ a12 2 t29 ⟨by omega, by omega⟩ σ167 G170) gd_Mail_gather_Row_two_106 rfl rfl rfl (by decide +kernel) ⟨Nat.le_trans (by decide +kernel) hR.1, Nat.le_trans (by decide +kernel) hR.2⟩ t29 (cls_Row G170 t29) rfl rfl rfl rfl (Nat.le_of_ble_eq_true rfl) dX7_gather_133 ⟨Nat.zero_le _, Nat.zero_le _⟩ (fun v175 σ173 p174 => ?_)
            obtain ⟨rfl, z179, e180, r181⟩ := p174
            subst e180
            refine u_put B Z (C := RX7) (T := TX7) (N := 16) (ci := 7) hi_Mail_gather_X7 t_h h168 rfl 14 (by decide +kernel) tyX7 tyX7_ok nmX7 (List.mem_of_getElem? (i := 18) rfl) rfl (ty := .int) (tyX7_ok 14 (by decide +kernel)) rfl rfl (Nat.le_of_ble_eq_true rfl) (fs' := [.ref a1, .int (iI z2), .int (iI z3), .ref a4, .int (iI z5), .int (iI z6), .int (iI z7), .ref a8, .int (iI z9), .int (iI z10), .int (iI z11), .ref a12, .int (iI 0), .ref a14, .int (iI z179), .ref a16]) rfl dX7_gather_136 (fun σ182 h183 n184 => ?_)
            have G185 := G170.put t_h (⟨a1, z2, z3, a4, z5, z6, z7, a8, z9, z10, z11, a12, 0, a14, z179, a16, h183, t18, ⟨by omega, by omega⟩, ⟨by omega, by omega⟩, t21, ⟨by omega, by omega⟩, ⟨by omega, by omega⟩, ⟨by omega, by omega⟩, t25, ⟨by omega, by omega⟩, ⟨by omega, by omega⟩, ⟨by omega, by omega⟩, t29, ⟨by omega, by omega⟩, t31, ⟨by omega, by omega⟩, t33⟩ : Ok K τ (37, 0, 0) (σ182 h)) n184
            have F186 := F171.put t_h (by simp) n184
            have h187 := (n184 a12 (ne_ty t29 t_h (by simp))).trans h172
            refine v_aload_n B dX7_gather_139 rfl rfl ?_
            refine u_get B Z (C := RX7) (T := TX7) (N := 16) (ci := 7) hi_Mail_gather_X7 t_h h183 rfl 13 (by decide +kernel) (List.mem_of_getElem? (i := 19) rfl) rfl dX7_gather_140 ?_
            refine u_callVv B Z hz (n := 0) (As := []) (rest := []) (c_Row_clear l D K Z _ _ _ _ a14 t31 σ182 G185) gd_Mail_gather_Row_clear_62 rfl rfl rfl (by decide +kernel) ⟨Nat.le_trans (by decide +kernel) hR.1, Nat.le_trans (by decide +kernel) hR.2⟩ t31 (cls_Row G185 t31) rfl rfl rfl rfl (Nat.le_of_ble_eq_true rfl) dX7_gather_143 ⟨Nat.zero_le _, Nat.zero_le _⟩ (fun σ188 p189 => ?_)
            obtain ⟨G191, F192⟩ := p189
            have F193 := F186.call F192 (by first | rfl | simp)
            have h194 := (F192 h _ t_h (by first | rfl | simp)).trans h183
            have h195 := (F192 a12 _ t29 (by first | rfl | simp)).trans h187
            refine v_aload_n B dX7_gather_146 rfl rfl ?_
            refine u_get B Z (C := RX7) (T := TX7) (N := 16) (ci := 7) hi_Mail_gather_X7 t_h h194 rfl 13 (by decide +kernel) (List.mem_of_getElem? (i := 19) rfl) rfl dX7_gather_147 ?_
            refine v_aload_n B dX7_gather_150 rfl rfl ?_
            refine u_get B Z (C := RX7) (T := TX7) (N := 16) (ci := 7) hi_Mail_gather_X7 t_h h194 rfl 11 (by decide +kernel) (List.mem_of_getElem? (i := 2) rfl) rfl dX7_gather_151 ?_
            refine v_iconst B (v := iI 4) dX7_gather_154 rfl ?_
            refine v_iload_n B dX7_gather_155 rfl rfl ?_
            refine u_callVv B Z hz (n := 3) (As := [.ref a12, .int (iI 4), .int (iI (z143 + 4))]) (rest := []) (c_Row_putPart l D K Z _ _ _ _ a14 a12 4 (z143 + 4) t31 t29 ⟨by omega, by omega⟩ ⟨by omega, by omega⟩ σ188 G191) gd_Mail_gather_Row_putPart_91 rfl rfl rfl (by decide +kernel) ⟨Nat.le_trans (by decide +kernel) hR.1, Nat.le_trans (by decide +kernel) hR.2⟩ t31 (cls_Row G191 t31) rfl rfl rfl rfl (Nat.le_of_ble_eq_true rfl) dX7_gather_156 ⟨Nat.zero_le _, Nat.zero_le _⟩ (fun σ196 p197 => ?_)
            obtain ⟨G199, F200⟩ := p197
            have F201 := F193.call F200 (by first | rfl | simp)
            have h202 := (F200 h _ t_h (by first | rfl | simp)).trans h194
            have h203 := (F200 a12 _ t29 (by first | rfl | simp)).trans h195
            refine v_aload_n B dX7_gather_159 rfl rfl ?_
            refine u_callVi B Z hz (n := 0) (As := []) (rest := []) (c_Mail_isFull l D K Z _ _ _ _ h t_h σ196 G199) gd_Mail_gather_Mail_isFull_84 rfl rfl rfl (by decide +kernel) ⟨Nat.le_trans (by decide +kernel) hR.1, Nat.le_trans (by decide +kernel) hR.2⟩ t_h (cls_Mail G199 t_h) rfl rfl rfl rfl (Nat.le_of_ble_eq_true rfl) dX7_gather_160 ⟨Nat.zero_le _, Nat.zero_le _⟩ (fun v206 σ204 p205 => ?_)
            obtain ⟨rfl, z210, e211, r212, fl213⟩ := p205
            subst e211
            have r214 : z210 = 0 → z10 ≤ 7 := fun q => (fl213 q).use h202 (j := 9) rfl (by omega)
            refine u_if_ne B (tgt := 197) (by omega) dX7_gather_163 (by decide +kernel) (fun c215 => ?_) (fun c215 => ?_)
            · refine v_iconst B (v := iI 0) dX7_gather_197 rfl ?_
              exact hend σ196 0 _ _ G199 F201 ⟨by omega, by omega⟩ dX7_gather_198
            · refine v_aload_n B dX7_gather_166 rfl rfl ?_
              refine u_get B Z (C := RX7) (T := TX7) (N := 16) (ci := 7) hi_Mail_gather_X7 t_h h202 rfl 13 (by decide +kernel) (List.mem_of_getElem? (i := 19) rfl) rfl dX7_gather_167 ?_
              obtain ⟨b216, N217, n218, h219, t220, r221⟩ : okRow τ 12 (σ196 a14) := G199 a14 _ t31
              refine u_getN B Z (C := RX9) (T := TX9) (N := 2) (ci := 9) hi_Mail_gather_X9 t31 h219 rfl 1 (by decide +kernel) (List.mem_of_getElem? (i := 88) rfl) rfl dX7_gather_170 ?_
              refine u_if_le B (tgt := 197) (by omega) dX7_gather_173 (by decide +kernel) (fun c222 => ?_) (fun c222 => ?_)
              · refine v_iconst B (v := iI 0) dX7_gather_197 rfl ?_
                exact hend σ196 0 _ _ G199 F201 ⟨by omega, by omega⟩ dX7_gather_198
              · refine v_aload_n B dX7_gather_176 rfl rfl ?_
                refine u_get B Z (C := RX7) (T := TX7) (N := 16) (ci := 7) hi_Mail_gather_X7 t_h h202 rfl 14 (by decide +kernel) (List.mem_of_getElem? (i := 18) rfl) rfl dX7_gather_177 ?_
                refine v_iconst B (v := iI 4) dX7_gather_180 rfl ?_
                refine u_icmp_eq B (tgt := 193) (by omega) (by omega) dX7_gather_181 (by decide +kernel) (fun c223 => ?_) (fun c223 => ?_)
                · refine v_iconst B (v := iI 1) dX7_gather_193 rfl ?_
                  refine v_goto B (tgt := 198) dX7_gather_194 (by decide +kernel) ?_
                  exact hend σ196 1 _ _ G199 F201 ⟨by omega, by omega⟩ dX7_gather_198
                · refine v_aload_n B dX7_gather_184 rfl rfl ?_
                  refine u_get B Z (C := RX7) (T := TX7) (N := 16) (ci := 7) hi_Mail_gather_X7 t_h h202 rfl 14 (by decide +kernel) (List.mem_of_getElem? (i := 18) rfl) rfl dX7_gather_185 ?_
                  refine v_bipush B (v := iI 6) dX7_gather_188 (by decide +kernel) ?_
                  refine u_icmp_ne B (tgt := 197) (by omega) (by omega) dX7_gather_190 (by decide +kernel) (fun c224 => ?_) (fun c224 => ?_)
                  · refine v_iconst B (v := iI 0) dX7_gather_197 rfl ?_
                    exact hend σ196 0 _ _ G199 F201 ⟨by omega, by omega⟩ dX7_gather_198
                  · refine v_iconst B (v := iI 1) dX7_gather_193 rfl ?_
                    refine v_goto B (tgt := 198) dX7_gather_194 (by decide +kernel) ?_
                    exact hend σ196 1 _ _ G199 F201 ⟨by omega, by omega⟩ dX7_gather_198
          · refine v_iconst B (v := iI 0) dX7_gather_120 rfl ?_
            exact hend σ153 0 _ _ G156 F158 ⟨by omega, by omega⟩ dX7_gather_121
        · refine v_aload_n B dX7_gather_89 rfl rfl ?_
          refine v_iconst B (v := iI 0) dX7_gather_90 rfl ?_
          refine u_put B Z (C := RX7) (T := TX7) (N := 16) (ci := 7) hi_Mail_gather_X7 t_h h17 rfl 12 (by decide +kernel) tyX7 tyX7_ok nmX7 (List.mem_of_getElem? (i := 1) rfl) rfl (ty := .boolean) (tyX7_ok 12 (by decide +kernel)) (nar01 (by omega)) (fit01 (by omega)) (Nat.le_of_ble_eq_true rfl) (fs' := [.ref a1, .int (iI z2), .int (iI z3), .ref a4, .int (iI z5), .int (iI z6), .int (iI z7), .ref a8, .int (iI z9), .int (iI z10), .int (iI z11), .ref a12, .int (iI 0), .ref a14, .int (iI z15), .ref a16]) rfl dX7_gather_91 (fun σ225 h226 n227 => ?_)
          have G228 := G_39.put t_h (⟨a1, z2, z3, a4, z5, z6, z7, a8, z9, z10, z11, a12, 0, a14, z15, a16, h226, t18, ⟨by omega, by omega⟩, ⟨by omega, by omega⟩, t21, ⟨by omega, by omega⟩, ⟨by omega, by omega⟩, ⟨by omega, by omega⟩, t25, ⟨by omega, by omega⟩, ⟨by omega, by omega⟩, ⟨by omega, by omega⟩, t29, ⟨by omega, by omega⟩, t31, ⟨by omega, by omega⟩, t33⟩ : Ok K τ (37, 0, 0) (σ225 h)) n227
          have F229 := F_39.put t_h (by simp) n227
          have h230 := (n227 a12 (ne_ty t29 t_h (by simp))).trans h38
          have h231 := (n227 g (ne_ty t_g t_h (by simp))).trans h149
          refine v_iconst B (v := iI 0) dX7_gather_94 rfl ?_
          exact hend σ225 0 _ _ G228 F229 ⟨by omega, by omega⟩ dX7_gather_95
    · refine v_iconst B (v := iI 0) dX7_gather_46 rfl ?_
      exact hend σ_39 0 _ _ G_39 F_39 ⟨by omega, by omega⟩ dX7_gather_47
  have J36 : ∀ (σ_36 : Nat → va_E) (z36_s0 : Int), Good K τ σ_36 → Fr τ [(1, 11), (37, 0), (2, 11), (1, 12), (2, 12)] σ0 σ_36 → (0 ≤ z36_s0 ∧ z36_s0 ≤ 1) → V p l e R s m args below meth c 4 D A Q (0, 0) (fd dom σ_36) [(0, .ref h), (2, .ref g)] 36 [.int (iI z36_s0), .ref h] := by
    intro σ_36 z36_s0 G_36 F_36 r36_s0
    obtain ⟨a232, z233, z234, a235, z236, z237, z238, a239, z240, z241, z242, a243, z244, a245, z246, a247, h248, t249, r250, r251, t252, r253, r254, r255, t256, r257, r258, r259, t260, r261, t262, r263, t264⟩ : okMail τ (σ_36 h) := G_36 h _ t_h
    refine u_put B Z (C := RX7) (T := TX7) (N := 16) (ci := 7) hi_Mail_gather_X7 t_h h248 rfl 12 (by decide +kernel) tyX7 tyX7_ok nmX7 (List.mem_of_getElem? (i := 1) rfl) rfl (ty := .boolean) (tyX7_ok 12 (by decide +kernel)) (nar01 (by omega)) (fit01 (by omega)) (Nat.le_of_ble_eq_true rfl) (fs' := [.ref a232, .int (iI z233), .int (iI z234), .ref a235, .int (iI z236), .int (iI z237), .int (iI z238), .ref a239, .int (iI z240), .int (iI z241), .int (iI z242), .ref a243, .int (iI z36_s0), .ref a245, .int (iI z246), .ref a247]) rfl dX7_gather_36 (fun σ265 h266 n267 => ?_)
    have G268 := G_36.put t_h (⟨a232, z233, z234, a235, z236, z237, z238, a239, z240, z241, z242, a243, z36_s0, a245, z246, a247, h266, t249, ⟨by omega, by omega⟩, ⟨by omega, by omega⟩, t252, ⟨by omega, by omega⟩, ⟨by omega, by omega⟩, ⟨by omega, by omega⟩, t256, ⟨by omega, by omega⟩, ⟨by omega, by omega⟩, ⟨by omega, by omega⟩, t260, ⟨by omega, by omega⟩, t262, ⟨by omega, by omega⟩, t264⟩ : Ok K τ (37, 0, 0) (σ265 h)) n267
    have F269 := F_36.put t_h (by simp) n267
    exact J39 σ265 G268 F269
  have J35 : ∀ (σ_35 : Nat → va_E), Good K τ σ_35 → Fr τ [(1, 11), (37, 0), (2, 11), (1, 12), (2, 12)] σ0 σ_35 → V p l e R s m args below meth c 4 D A Q (0, 0) (fd dom σ_35) [(0, .ref h), (2, .ref g)] 35 [.ref h] := by
    intro σ_35 G_35 F_35
    refine v_iconst B (v := iI 0) dX7_gather_35 rfl ?_
    exact J36 σ_35 0 G_35 F_35 ⟨by omega, by omega⟩
  refine v_iload_n B dX7_gather_0 rfl rfl ?_
  refine v_iconst B (v := iI 2) dX7_gather_1 rfl ?_
  refine u_icmp_ne B (tgt := 39) (by omega) (by omega) dX7_gather_2 (by decide +kernel) (fun c270 => ?_) (fun c270 => ?_)
  · refine v_lv [0, 2] rfl ?_
    exact J39 σ0 G0 F0
  · refine v_aload_n B dX7_gather_5 rfl rfl ?_
    obtain ⟨a271, z272, z273, a274, z275, z276, z277, a278, z279, z280, z281, a282, z283, a284, z285, a286, h287, t288, r289, r290, t291, r292, r293, r294, t295, r296, r297, r298, t299, r300, t301, r302, t303⟩ : okMail τ (σ0 h) := G0 h _ t_h
    refine u_get B Z (C := RX7) (T := TX7) (N := 16) (ci := 7) hi_Mail_gather_X7 t_h h287 rfl 11 (by decide +kernel) (List.mem_of_getElem? (i := 2) rfl) rfl dX7_gather_6 ?_
    refine u_callVv B Z hz (n := 0) (As := []) (rest := []) (c_Row_clear l D K Z _ _ _ _ a282 t299 σ0 G0) gd_Mail_gather_Row_clear_62 rfl rfl rfl (by decide +kernel) ⟨Nat.le_trans (by decide +kernel) hR.1, Nat.le_trans (by decide +kernel) hR.2⟩ t299 (cls_Row G0 t299) rfl rfl rfl rfl (Nat.le_of_ble_eq_true rfl) dX7_gather_9 ⟨Nat.zero_le _, Nat.zero_le _⟩ (fun σ304 p305 => ?_)
    obtain ⟨G307, F308⟩ := p305
    have F309 := F0.call F308 (by first | rfl | simp)
    have h310 := (F308 h _ t_h (by first | rfl | simp)).trans h287
    refine v_aload_n B dX7_gather_12 rfl rfl ?_
    refine v_aload_n B dX7_gather_13 rfl rfl ?_
    obtain ⟨b311, N312, n313, h314, t315, r316⟩ : okRow τ π (σ304 g) := G307 g _ t_g
    refine u_getN B Z (C := RX9) (T := TX9) (N := 2) (ci := 9) hi_Mail_gather_X9 t_g h314 rfl 1 (by decide +kernel) (List.mem_of_getElem? (i := 88) rfl) rfl dX7_gather_14 ?_
    refine v_iconst B (v := iI 4) dX7_gather_17 rfl ?_
    refine u_icmp_lt B (tgt := 35) (by omega) (by omega) dX7_gather_18 (by decide +kernel) (fun c317 => ?_) (fun c317 => ?_)
    · refine v_lv [0, 2] rfl ?_
      exact J35 σ304 G307 F309
    · refine v_aload_n B dX7_gather_21 rfl rfl ?_
      refine v_iconst B (v := iI 0) dX7_gather_22 rfl ?_
      refine u_callVi B Z hz (n := 1) (As := [.int (iI 0)]) (rest := [.ref h]) (c_Row_two l D K Z _ _ _ _ g 0 t_g ⟨by omega, by omega⟩ σ304 G307) gd_Mail_gather_Row_two_106 rfl rfl rfl (by decide +kernel) ⟨Nat.le_trans (by decide +kernel) hR.1, Nat.le_trans (by decide +kernel) hR.2⟩ t_g (cls_Row G307 t_g) rfl rfl rfl rfl (Nat.le_of_ble_eq_true rfl) dX7_gather_23 ⟨Nat.zero_le _, Nat.zero_le _⟩ (fun v320 σ318 p319 => ?_)
      obtain ⟨rfl, z324, e325, r326⟩ := p319
      subst e325
      refine v_bipush B (v := iI 92) dX7_gather_26 (by decide +kernel) ?_
      refine u_icmp_gt B (tgt := 35) (by omega) (by omega) dX7_gather_28 (by decide +kernel) (fun c327 => ?_) (fun c327 => ?_)
      · refine v_lv [0, 2] rfl ?_
        exact J35 σ304 G307 F309
      · refine v_iconst B (v := iI 1) dX7_gather_31 rfl ?_
        refine v_goto B (tgt := 36) dX7_gather_32 (by decide +kernel) ?_
        refine v_lv [0, 2] rfl ?_
        exact J36 σ304 1 G307 F309 ⟨by omega, by omega⟩
set_option maxRecDepth 100000 in
theorem c_Mail_gather (l : Launch) (D : va_G) (K : Nat → ClassId) {τ : Nat → Option Ty} {dom : List Nat} (Z : Sk τ dom) (zb zL : Nat) (zx : Nat → Int32) (zs : Nat → Nat) {π : Nat} (h : Nat) (x1 : Int) (g : Nat) (t_h : τ h = some (37, 0, 0)) (r_x1 : -2147483648 ≤ x1 ∧ x1 ≤ 2147483647) (t_g : τ g = some (1, π, 0)) (σ0 : Nat → va_E) (G0 : Good K τ σ0) : MZ l yX7_gather wp_Mail_gather ({ frames := 2, cells := 0, slots := 0, locals := 38 }) D (tysA K) [.ref h, .int (iI x1), .ref g] (fd dom σ0) zb zL zx zs (Qi D (fun r σ' => Good K τ σ' ∧ Fr τ [(1, 11), (37, 0), (2, 11), (1, 12), (2, 12)] σ0 σ' ∧ ∃ z : Int, r = iI z ∧ (0 ≤ z ∧ z ≤ 1)) (fun σ' => fd dom σ')) 0 0 := by
  refine mz_of (cc := cX7_gather) (maxL := 4) (ret := (some .boolean)) (by decide +kernel) rfl (Nat.le_of_ble_eq_true rfl) ?_
  intro p e s m below meth c A B hr hlk _ hz
  exact b_Mail_gather ⟨Nat.le_refl _, Nat.le_refl _⟩ B Z hz h x1 g t_h r_x1 t_g σ0 G0 (fun σ' z lv pc G F hZ hd => v_zret B hr hlk (nar01 (by omega)) σ' ⟨G, F, z, rfl, hZ⟩ rfl (Nat.le_refl _) (Nat.le_refl _) hd)
