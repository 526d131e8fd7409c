def wp_Guard_reset : List Cond := .code yX5_reset cX5_reset 1 none :: (([.fieldLink RX5 32 "LowEnergy$Guard" "hasSession" "Z", .fieldLink RX5 36 "LowEnergy$Guard" "asked" "Z", .fieldLink RX5 39 "LowEnergy$Guard" "held" "Z", .fieldLink RX5 42 "LowEnergy$Guard" "secure" "Z", .fieldLink RX5 45 "LowEnergy$Guard" "sends" "Z", .fieldLink RX5 48 "LowEnergy$Guard" "comes" "Z", .fieldLink RX5 51 "LowEnergy$Guard" "sent" "I", .fieldLink RX5 55 "LowEnergy$Guard" "opened" "I"] : List Cond) ++ (wsX50 ++ ([])))
theorem hi_Guard_reset_X5 : ∀ x ∈ u_ws RX5 TX5 16, x ∈ wp_Guard_reset := fun _ h => List.mem_cons_of_mem _ (List.mem_append_right _ (List.mem_append_left _ h))
set_option maxHeartbeats 4000000 in
set_option maxRecDepth 100000 in
theorem b_Guard_reset {p : Program} {l : Launch} {e : Env} {R : Room} {s : State} {m : MethodId} {args : Array Value} {below : List Frame} {meth : Method} {c : Code} {D : va_G} {K : Nat → ClassId} {A : Nat → Prop} {Q : State → Prop} {τ : Nat → Option Ty} {dom : List Nat} {zb zL : Nat} {zx : Nat → Int32} {zs : Nat → Nat} (hR : 0 ≤ R.frames ∧ 0 ≤ R.locals) (B : Bx p s m args c cX5_reset 1 RX5 wp_Guard_reset D (tysA K) A) (Z : Sk τ dom) (hz : ZL zb zL zx zs A s s.heap) (h : Nat) (t_h : τ h = some (35, 0, 0)) (σ0 : Nat → va_E) (G0 : Good K τ σ0) (hend : ∀ (σ' : Nat → va_E) (lv : List (Nat × Value)) (pc : Nat), Good K τ σ' → Fr τ [(35, 0)] σ0 σ' → decode cX5_reset pc = .ok (.return_, 1) → V p l e R s m args below meth c 1 D A Q (0, 0) (fd dom σ') lv pc []) : V p l e R s m args below meth c 1 D A Q (0, 0) (fd dom σ0) [(0, .ref h)] 0 [] := by
  have F0 : Fr τ [(35, 0)] σ0 σ0 := Fr.rf
  refine v_aload_n B dX5_reset_0 rfl rfl ?_
  refine v_iconst B (v := iI 0) dX5_reset_1 rfl ?_
  obtain ⟨a1, a2, z3, a4, a5, a6, z7, z8, z9, z10, z11, z12, z13, z14, a15, a16, h17, t18, t19, r20, t21, t22, t23, r24, r25, r26, r27, r28, r29, r30, r31, t32, t33⟩ : okGuard τ (σ0 h) := G0 h _ t_h
  refine u_put B Z (C := RX5) (T := TX5) (N := 16) (ci := 5) hi_Guard_reset_X5 t_h h17 rfl 6 (by decide +kernel) tyX5 tyX5_ok nmX5 (List.mem_of_getElem? (i := 1) rfl) rfl (ty := .boolean) (tyX5_ok 6 (by decide +kernel)) (nar01 (by omega)) (fit01 (by omega)) (Nat.le_of_ble_eq_true rfl) (fs' := [.ref a1, .ref a2, .int (iI z3), .ref a4, .ref a5, .ref a6, .int (iI 0), .int (iI z8), .int (iI z9), .int (iI z10), .int (iI z11), .int (iI z12), .int (iI z13), .int (iI z14), .ref a15, .ref a16]) rfl dX5_reset_2 (fun σ34 h35 n36 => ?_)
  have G37 := G0.put t_h (⟨a1, a2, z3, a4, a5, a6, 0, z8, z9, z10, z11, z12, z13, z14, a15, a16, h35, t18, t19, ⟨by omega, by omega⟩, t21, t22, t23, ⟨by omega, by omega⟩, ⟨by omega, by omega⟩, ⟨by omega, by omega⟩, ⟨by omega, by omega⟩, ⟨by omega, by omega⟩, ⟨by omega, by omega⟩, ⟨by omega, by omega⟩, ⟨by omega, by omega⟩, t32, t33⟩ : Ok K τ (35, 0, 0) (σ34 h)) n36
  have F38 := F0.put t_h (by simp) n36
  refine v_aload_n B dX5_reset_5 rfl rfl ?_
  refine v_iconst B (v := iI 0) dX5_reset_6 rfl ?_
  refine u_put B Z (C := RX5) (T := TX5) (N := 16) (ci := 5) hi_Guard_reset_X5 t_h h35 rfl 7 (by decide +kernel) tyX5 tyX5_ok nmX5 (List.mem_of_getElem? (i := 2) rfl) rfl (ty := .boolean) (tyX5_ok 7 (by decide +kernel)) (nar01 (by omega)) (fit01 (by omega)) (Nat.le_of_ble_eq_true rfl) (fs' := [.ref a1, .ref a2, .int (iI z3), .ref a4, .ref a5, .ref a6, .int (iI 0), .int (iI 0), .int (iI z9), .int (iI z10), .int (iI z11), .int (iI z12), .int (iI z13), .int (iI z14), .ref a15, .ref a16]) rfl dX5_reset_7 (fun σ39 h40 n41 => ?_)
  have G42 := G37.put t_h (⟨a1, a2, z3, a4, a5, a6, 0, 0, z9, z10, z11, z12, z13, z14, a15, a16, h40, t18, t19, ⟨by omega, by omega⟩, t21, t22, t23, ⟨by omega, by omega⟩, ⟨by omega, by omega⟩, ⟨by omega, by omega⟩, ⟨by omega, by omega⟩, ⟨by omega, by omega⟩, ⟨by omega, by omega⟩, ⟨by omega, by omega⟩, ⟨by omega, by omega⟩, t32, t33⟩ : Ok K τ (35, 0, 0) (σ39 h)) n41
  have F43 := F38.put t_h (by simp) n41
  refine v_aload_n B dX5_reset_10 rfl rfl ?_
  refine v_iconst B (v := iI 0) dX5_reset_11 rfl ?_
  refine u_put B Z (C := RX5) (T := TX5) (N := 16) (ci := 5) hi_Guard_reset_X5 t_h h40 rfl 8 (by decide +kernel) tyX5 tyX5_ok nmX5 (List.mem_of_getElem? (i := 3) rfl) rfl (ty := .boolean) (tyX5_ok 8 (by decide +kernel)) (nar01 (by omega)) (fit01 (by omega)) (Nat.le_of_ble_eq_true rfl) (fs' := [.ref a1, .ref a2, .int (iI z3), .ref a4, .ref a5, .ref a6, .int (iI 0), .int (iI 0), .int (iI 0), .int (iI z10), .int (iI z11), .int (iI z12), .int (iI z13), .int (iI z14), .ref a15, .ref a16]) rfl dX5_reset_12 (fun σ44 h45 n46 => ?_)
  have G47 := G42.put t_h (⟨a1, a2, z3, a4, a5, a6, 0, 0, 0, z10, z11, z12, z13, z14, a15, a16, h45, t18, t19, ⟨by omega, by omega⟩, t21, t22, t23, ⟨by omega, by omega⟩, ⟨by omega, by omega⟩, ⟨by omega, by omega⟩, ⟨by omega, by omega⟩, ⟨by omega, by omega⟩, ⟨by omega, by omega⟩, ⟨by omega, by omega⟩, ⟨by omega, by omega⟩, t32, t33⟩ : Ok K τ (35, 0, 0) (σ44 h)) n46
  have F48 := F43.put t_h (by simp) n46
  refine v_aload_n B dX5_reset_15 rfl rfl ?_
  refine v_iconst B (v := iI 0) dX5_reset_16 rfl ?_
  refine u_put B Z (C := RX5) (T := TX5) (N := 16) (ci := 5) hi_Guard_reset_X5 t_h h45 rfl 9 (by decide +kernel) tyX5 tyX5_ok nmX5 (List.mem_of_getElem? (i := 4) rfl) rfl (ty := .boolean) (tyX5_ok 9 (by decide +kernel)) (nar01 (by omega)) (fit01 (by omega)) (Nat.le_of_ble_eq_true rfl) (fs' := [.ref a1, .ref a2, .int (iI z3), .ref a4, .ref a5, .ref a6, .int (iI 0), .int (iI 0), .int (iI 0), .int (iI 0), .int (iI z11), .int (iI z12), .int (iI z13), .int (iI z14), .ref a15, .ref a16]) rfl dX5_reset_17 (fun σ49 h50 n51 => ?_)
  have G52 := G47.put t_h (⟨a1, a2, z3, a4, a5, a6, 0, 0, 0, 0, z11, z12, z13, z14, a15, a16, h50, t18, t19, ⟨by omega, by omega⟩, t21, t22, t23, ⟨by omega, by omega⟩, ⟨by omega, by omega⟩, ⟨by omega, by omega⟩, ⟨by omega, by omega⟩, ⟨by omega, by omega⟩, ⟨by omega, by omega⟩, ⟨by omega, by omega⟩, ⟨by omega, by omega⟩, t32, t33⟩ : Ok K τ (35, 0, 0) (σ49 h)) n51
  have F53 := F48.put t_h (by simp) n51
  refine v_aload_n B dX5_reset_20 rfl rfl ?_
  refine v_iconst B (v := iI 0) dX5_reset_21 rfl ?_
  refine u_put B Z (C := RX5) (T := TX5) (N := 16) (ci := 5) hi_Guard_reset_X5 t_h h50 rfl 10 (by decide +kernel) tyX5 tyX5_ok nmX5 (List.mem_of_getElem? (i := 5) rfl) rfl (ty := .boolean) (tyX5_ok 10 (by decide +kernel)) (nar01 (by omega)) (fit01 (by omega)) (Nat.le_of_ble_eq_true rfl) (fs' := [.ref a1, .ref a2, .int (iI z3), .ref a4, .ref a5, .ref a6, .int (iI 0), .int (iI 0), .int (iI 0), .int (iI 0), .int (iI 0), .int (iI z12), .int (iI z13), .int (iI z14), .ref a15, .ref a16]) rfl dX5_reset_22 (fun σ54 h55 n56 => ?_)
  have G57 := G52.put t_h (⟨a1, a2, z3, a4, a5, a6, 0, 0, 0, 0, 0, z12, z13, z14, a15, a16, h55, t18, t19, ⟨by omega, by omega⟩, t21, t22, t23, ⟨by omega, by omega⟩, ⟨by omega, by omega⟩, ⟨by omega, by omega⟩, ⟨by omega, by omega⟩, ⟨by omega, by omega⟩, ⟨by omega, by omega⟩, ⟨by omega, by omega⟩, ⟨by omega, by omega⟩, t32, t33⟩ : Ok K τ (35, 0, 0) (σ54 h)) n56
  have F58 := F53.put t_h (by simp) n56
  refine v_aload_n B dX5_reset_25 rfl rfl ?_
  refine v_iconst B (v := iI 0) dX5_reset_26 rfl ?_
  refine u_put B Z (C := RX5) (T := TX5) (N := 16) (ci := 5) hi_Guard_reset_X5 t_h h55 rfl 11 (by decide +kernel) tyX5 tyX5_ok nmX5 (List.mem_of_getElem? (i := 6) rfl) rfl (ty := .boolean) (tyX5_ok 11 (by decide +kernel)) (nar01 (by omega)) (fit01 (by omega)) (Nat.le_of_ble_eq_true rfl) (fs' := [.ref a1, .ref a2, .int (iI z3), .ref a4, .ref a5, .ref a6, .int (iI 0), .int (iI 0), .int (iI 0), .int (iI 0), .int (iI 0), .int (iI 0), .int (iI z13), .int (iI z14), .ref a15, .ref a16]) rfl dX5_reset_27 (fun σ59 h60 n61 => ?_)
  have G62 := G57.put t_h (⟨a1, a2, z3, a4, a5, a6, 0, 0, 0, 0, 0, 0, z13, z14, a15, a16, h60, t18, t19, ⟨by omega, by omega⟩, t21, t22, t23, ⟨by omega, by omega⟩, ⟨by omega, by omega⟩, ⟨by omega, by omega⟩, ⟨by omega, by omega⟩, ⟨by omega, by omega⟩, ⟨by omega, by omega⟩, ⟨by omega, by omega⟩, ⟨by omega, by omega⟩, t32, t33⟩ : Ok K τ (35, 0, 0) (σ59 h)) n61
  have F63 := F58.put t_h (by simp) n61
  refine v_aload_n B dX5_reset_30 rfl rfl ?_
  refine v_iconst B (v := iI 0) dX5_reset_31 rfl ?_
  refine u_put B Z (C := RX5) (T := TX5) (N := 16) (ci := 5) hi_Guard_reset_X5 t_h h60 rfl 12 (by decide +kernel) tyX5 tyX5_ok nmX5 (List.mem_of_getElem? (i := 7) rfl) rfl (ty := .int) (tyX5_ok 12 (by decide +kernel)) rfl rfl (Nat.le_of_ble_eq_true rfl) (fs' := [.ref a1, .ref a2, .int (iI z3), .ref a4, .ref a5, .ref a6, .int (iI 0), .int (iI 0), .int (iI 0), .int (iI 0), .int (iI 0), .int (iI 0), .int (iI 0), .int (iI z14), .ref a15, .ref a16]) rfl dX5_reset_32 (fun σ64 h65 n66 => ?_)
  have G67 := G62.put t_h (⟨a1, a2, z3, a4, a5, a6, 0, 0, 0, 0, 0, 0, 0, z14, a15, a16, h65, t18, t19, ⟨by omega, by omega⟩, t21, t22, t23, ⟨by omega, by omega⟩, ⟨by omega, by omega⟩, ⟨by omega, by omega⟩, ⟨by omega, by omega⟩, ⟨by omega, by omega⟩, ⟨by omega, by omega⟩, ⟨by omega, by omega⟩, ⟨by omega, by omega⟩, t32, t33⟩ : Ok K τ (35, 0, 0) (σ64 h)) n66
  have F68 := F63.put t_h (by simp) n66
  refine v_aload_n B dX5_reset_35 rfl rfl ?_
  refine v_iconst B (v := iI 0) dX5_reset_36 rfl ?_
  refine u_put B Z (C := RX5) (T := TX5) (N := 16) (ci := 5) hi_Guard_reset_X5 t_h h65 rfl 13 (by decide +kernel) tyX5 tyX5_ok nmX5 (List.mem_of_getElem? (i := 8) rfl) rfl (ty := .int) (tyX5_ok 13 (by decide +kernel)) rfl rfl (Nat.le_of_ble_eq_true rfl) (fs' := [.ref a1, .ref a2, .int (iI z3), .ref a4, .ref a5, .ref a6, .int (iI 0), .int (iI 0), .int (iI 0), .int (iI 0), .int (iI 0), .int (iI 0), .int (iI 0), .int (iI 0), .ref a15, .ref a16]) rfl dX5_reset_37 (fun σ69 h70 n71 => ?_)
  have G72 := G67.put t_h (⟨a1, a2, z3, a4, a5, a6, 0, 0, 0, 0, 0, 0, 0, 0, a15, a16, h70, t18, t19, ⟨by omega, by omega⟩, t21, t22, t23, ⟨by omega, by omega⟩, ⟨by omega, by omega⟩, ⟨by omega, by omega⟩, ⟨by omega, by omega⟩, ⟨by omega, by omega⟩, ⟨by omega, by omega⟩, ⟨by omega, by omega⟩, ⟨by omega, by omega⟩, t32, t33⟩ : Ok K τ (35, 0, 0) (σ69 h)) n71
  have F73 := F68.put t_h (by simp) n71
  exact hend σ69 _ _ G72 F73 dX5_reset_40
set_option maxRecDepth 100000 in
theorem c_Guard_reset (l : Launch) (D : va_G) (K : Nat → ClassId) {τ : Nat → Option Ty} {dom : List Nat} (Z : Sk τ dom) (zb zL : Nat) (zx : Nat → Int32) (zs : Nat → Nat) (h : Nat) (t_h : τ h = some (35, 0, 0)) (σ0 : Nat → va_E) (G0 : Good K τ σ0) : MZ l yX5_reset wp_Guard_reset ({ frames := 0, cells := 0, slots := 0, locals := 0 }) D (tysA K) [.ref h] (fd dom σ0) zb zL zx zs (Qv D (fun σ' => Good K τ σ' ∧ Fr τ [(35, 0)] σ0 σ') (fun σ' => fd dom σ')) 0 0 := by
  refine mz_of (cc := cX5_reset) (maxL := 1) (ret := none) (by decide +kernel) rfl (Nat.le_of_ble_eq_true rfl) ?_
  intro p e s m below meth c A B hr hlk _ hz
  exact b_Guard_reset ⟨Nat.le_refl _, Nat.le_refl _⟩ B Z hz h t_h σ0 G0 (fun σ' lv pc G F hd => v_vret B hr hlk σ' ⟨G, F⟩ rfl (Nat.le_refl _) (Nat.le_refl _) hd)

def wp_Guard_beginSending : List Cond := .code yX5_beginSending cX5_beginSending 1 none :: (([.fieldLink RX5 45 "LowEnergy$Guard" "sends" "Z", .fieldLink RX5 51 "LowEnergy$Guard" "sent" "I"] : List Cond) ++ (wsX50 ++ ([])))
theorem hi_Guard_beginSending_X5 : ∀ x ∈ u_ws RX5 TX5 16, x ∈ wp_Guard_beginSending := fun _ h => List.mem_cons_of_mem _ (List.mem_append_right _ (List.mem_append_left _ h))
set_option maxHeartbeats 4000000 in
set_option maxRecDepth 100000 in
theorem b_Guard_beginSending {p : Program} {l : Launch} {e : Env} {R : Room} {s : State} {m : MethodId} {args : Array Value} {below : List Frame} {meth : Method} {c : Code} {D : va_G} {K : Nat → ClassId} {A : Nat → Prop} {Q : State → Prop} {τ : Nat → Option Ty} {dom : List Nat} {zb zL : Nat} {zx : Nat → Int32} {zs : Nat → Nat} (hR : 0 ≤ R.frames ∧ 0 ≤ R.locals) (B : Bx p s m args c cX5_beginSending 1 RX5 wp_Guard_beginSending D (tysA K) A) (Z : Sk τ dom) (hz : ZL zb zL zx zs A s s.heap) (h : Nat) (t_h : τ h = some (35, 0, 0)) (σ0 : Nat → va_E) (G0 : Good K τ σ0) (hend : ∀ (σ' : Nat → va_E) (lv : List (Nat × Value)) (pc : Nat), Good K τ σ' → Fr τ [(35, 0)] σ0 σ' → decode cX5_beginSending pc = .ok (.return_, 1) → V p l e R s m args below meth c 1 D A Q (0, 0) (fd dom σ') lv pc []) : V p l e R s m args below meth c 1 D A Q (0, 0) (fd dom σ0) [(0, .ref h)] 0 [] := by
  have F0 : Fr τ [(35, 0)] σ0 σ0 := Fr.rf
  refine v_aload_n B dX5_beginSending_0 rfl rfl ?_
  refine v_iconst B (v := iI 1) dX5_beginSending_1 rfl ?_
  obtain ⟨a1, a2, z3, a4, a5, a6, z7, z8, z9, z10, z11, z12, z13, z14, a15, a16, h17, t18, t19, r20, t21, t22, t23, r24, r25, r26, r27, r28, r29, r30, r31, t32, t33⟩ : okGuard τ (σ0 h) := G0 h _ t_h
  refine u_put B Z (C := RX5) (T := TX5) (N := 16) (ci := 5) hi_Guard_beginSending_X5 t_h h17 rfl 10 (by decide +kernel) tyX5 tyX5_ok nmX5 (List.mem_of_getElem? (i := 1) rfl) rfl (ty := .boolean) (tyX5_ok 10 (by decide +kernel)) (nar01 (by omega)) (fit01 (by omega)) (Nat.le_of_ble_eq_true rfl) (fs' := [.ref a1, .ref a2, .int (iI z3), .ref a4, .ref a5, .ref a6, .int (iI z7), .int (iI z8), .int (iI z9), .int (iI z10), .int (iI 1), .int (iI z12), .int (iI z13), .int (iI z14), .ref a15, .ref a16]) rfl dX5_beginSending_2 (fun σ34 h35 n36 => ?_)
  have G37 := G0.put t_h (⟨a1, a2, z3, a4, a5, a6, z7, z8, z9, z10, 1, z12, z13, z14, a15, a16, h35, t18, t19, ⟨by omega, by omega⟩, t21, t22, t23, ⟨by omega, by omega⟩, ⟨by omega, by omega⟩, ⟨by omega, by omega⟩, ⟨by omega, by omega⟩, ⟨by omega, by omega⟩, ⟨by omega, by omega⟩, ⟨by omega, by omega⟩, ⟨by omega, by omega⟩, t32, t33⟩ : Ok K τ (35, 0, 0) (σ34 h)) n36
  have F38 := F0.put t_h (by simp) n36
  refine v_aload_n B dX5_beginSending_5 rfl rfl ?_
  refine v_iconst B (v := iI 0) dX5_beginSending_6 rfl ?_
  refine u_put B Z (C := RX5) (T := TX5) (N := 16) (ci := 5) hi_Guard_beginSending_X5 t_h h35 rfl 12 (by decide +kernel) tyX5 tyX5_ok nmX5 (List.mem_of_getElem? (i := 2) rfl) rfl (ty := .int) (tyX5_ok 12 (by decide +kernel)) rfl rfl (Nat.le_of_ble_eq_true rfl) (fs' := [.ref a1, .ref a2, .int (iI z3), .ref a4, .ref a5, .ref a6, .int (iI z7), .int (iI z8), .int (iI z9), .int (iI z10), .int (iI 1), .int (iI z12), .int (iI 0), .int (iI z14), .ref a15, .ref a16]) rfl dX5_beginSending_7 (fun σ39 h40 n41 => ?_)
  have G42 := G37.put t_h (⟨a1, a2, z3, a4, a5, a6, z7, z8, z9, z10, 1, z12, 0, z14, a15, a16, h40, t18, t19, ⟨by omega, by omega⟩, t21, t22, t23, ⟨by omega, by omega⟩, ⟨by omega, by omega⟩, ⟨by omega, by omega⟩, ⟨by omega, by omega⟩, ⟨by omega, by omega⟩, ⟨by omega, by omega⟩, ⟨by omega, by omega⟩, ⟨by omega, by omega⟩, t32, t33⟩ : Ok K τ (35, 0, 0) (σ39 h)) n41
  have F43 := F38.put t_h (by simp) n41
  exact hend σ39 _ _ G42 F43 dX5_beginSending_10
set_option maxRecDepth 100000 in
theorem c_Guard_beginSending (l : Launch) (D : va_G) (K : Nat → ClassId) {τ : Nat → Option Ty} {dom : List Nat} (Z : Sk τ dom) (zb zL : Nat) (zx : Nat → Int32) (zs : Nat → Nat) (h : Nat) (t_h : τ h = some (35, 0, 0)) (σ0 : Nat → va_E) (G0 : Good K τ σ0) : MZ l yX5_beginSending wp_Guard_beginSending ({ frames := 0, cells := 0, slots := 0, locals := 0 }) D (tysA K) [.ref h] (fd dom σ0) zb zL zx zs (Qv D (fun σ' => Good K τ σ' ∧ Fr τ [(35, 0)] σ0 σ') (fun σ' => fd dom σ')) 0 0 := by
  refine mz_of (cc := cX5_beginSending) (maxL := 1) (ret := none) (by decide +kernel) rfl (Nat.le_of_ble_eq_true rfl) ?_
  intro p e s m below meth c A B hr hlk _ hz
  exact b_Guard_beginSending ⟨Nat.le_refl _, Nat.le_refl _⟩ B Z hz h t_h σ0 G0 (fun σ' lv pc G F hd => v_vret B hr hlk σ' ⟨G, F⟩ rfl (Nat.le_refl _) (Nat.le_refl _) hd)

def wp_Guard_beginComing : List Cond := .code yX5_beginComing cX5_beginComing 1 none :: (([.fieldLink RX5 48 "LowEnergy$Guard" "comes" "Z", .fieldLink RX5 55 "LowEnergy$Guard" "opened" "I"] : List Cond) ++ (wsX50 ++ ([])))
theorem hi_Guard_beginComing_X5 : ∀ x ∈ u_ws RX5 TX5 16, x ∈ wp_Guard_beginComing := fun _ h => List.mem_cons_of_mem _ (List.mem_append_right _ (List.mem_append_left _ h))
set_option maxHeartbeats 4000000 in
set_option maxRecDepth 100000 in
theorem b_Guard_beginComing {p : Program} {l : Launch} {e : Env} {R : Room} {s : State} {m : MethodId} {args : Array Value} {below : List Frame} {meth : Method} {c : Code} {D : va_G} {K : Nat → ClassId} {A : Nat → Prop} {Q : State → Prop} {τ : Nat → Option Ty} {dom : List Nat} {zb zL : Nat} {zx : Nat → Int32} {zs : Nat → Nat} (hR : 0 ≤ R.frames ∧ 0 ≤ R.locals) (B : Bx p s m args c cX5_beginComing 1 RX5 wp_Guard_beginComing D (tysA K) A) (Z : Sk τ dom) (hz : ZL zb zL zx zs A s s.heap) (h : Nat) (t_h : τ h = some (35, 0, 0)) (σ0 : Nat → va_E) (G0 : Good K τ σ0) (hend : ∀ (σ' : Nat → va_E) (lv : List (Nat × Value)) (pc : Nat), Good K τ σ' → Fr τ [(35, 0)] σ0 σ' → decode cX5_beginComing pc = .ok (.return_, 1) → V p l e R s m args below meth c 1 D A Q (0, 0) (fd dom σ') lv pc []) : V p l e R s m args below meth c 1 D A Q (0, 0) (fd dom σ0) [(0, .ref h)] 0 [] := by
  have F0 : Fr τ [(35, 0)] σ0 σ0 := Fr.rf
  refine v_aload_n B dX5_beginComing_0 rfl rfl ?_
  refine v_iconst B (v := iI 1) dX5_beginComing_1 rfl ?_
  obtain ⟨a1, a2, z3, a4, a5, a6, z7, z8, z9, z10, z11, z12, z13, z14, a15, a16, h17, t18, t19, r20, t21, t22, t23, r24, r25, r26, r27, r28, r29, r30, r31, t32, t33⟩ : okGuard τ (σ0 h) := G0 h _ t_h
  refine u_put B Z (C := RX5) (T := TX5) (N := 16) (ci := 5) hi_Guard_beginComing_X5 t_h h17 rfl 11 (by decide +kernel) tyX5 tyX5_ok nmX5 (List.mem_of_getElem? (i := 1) rfl) rfl (ty := .boolean) (tyX5_ok 11 (by decide +kernel)) (nar01 (by omega)) (fit01 (by omega)) (Nat.le_of_ble_eq_true rfl) (fs' := [.ref a1, .ref a2, .int (iI z3), .ref a4, .ref a5, .ref a6, .int (iI z7), .int (iI z8), .int (iI z9), .int (iI z10), .int (iI z11), .int (iI 1), .int (iI z13), .int (iI z14), .ref a15, .ref a16]) rfl dX5_beginComing_2 (fun σ34 h35 n36 => ?_)
  have G37 := G0.put t_h (⟨a1, a2, z3, a4, a5, a6, z7, z8, z9, z10, z11, 1, z13, z14, a15, a16, h35, t18, t19, ⟨by omega, by omega⟩, t21, t22, t23, ⟨by omega, by omega⟩, ⟨by omega, by omega⟩, ⟨by omega, by omega⟩, ⟨by omega, by omega⟩, ⟨by omega, by omega⟩, ⟨by omega, by omega⟩, ⟨by omega, by omega⟩, ⟨by omega, by omega⟩, t32, t33⟩ : Ok K τ (35, 0, 0) (σ34 h)) n36
  have F38 := F0.put t_h (by simp) n36
  refine v_aload_n B dX5_beginComing_5 rfl rfl ?_
  refine v_iconst B (v := iI 0) dX5_beginComing_6 rfl ?_
  refine u_put B Z (C := RX5) (T := TX5) (N := 16) (ci := 5) hi_Guard_beginComing_X5 t_h h35 rfl 13 (by decide +kernel) tyX5 tyX5_ok nmX5 (List.mem_of_getElem? (i := 2) rfl) rfl (ty := .int) (tyX5_ok 13 (by decide +kernel)) rfl rfl (Nat.le_of_ble_eq_true rfl) (fs' := [.ref a1, .ref a2, .int (iI z3), .ref a4, .ref a5, .ref a6, .int (iI z7), .int (iI z8), .int (iI z9), .int (iI z10), .int (iI z11), .int (iI 1), .int (iI z13), .int (iI 0), .ref a15, .ref a16]) rfl dX5_beginComing_7 (fun σ39 h40 n41 => ?_)
  have G42 := G37.put t_h (⟨a1, a2, z3, a4, a5, a6, z7, z8, z9, z10, z11, 1, z13, 0, a15, a16, h40, t18, t19, ⟨by omega, by omega⟩, t21, t22, t23, ⟨by omega, by omega⟩, ⟨by omega, by omega⟩, ⟨by omega, by omega⟩, ⟨by omega, by omega⟩, ⟨by omega, by omega⟩, ⟨by omega, by omega⟩, ⟨by omega, by omega⟩, ⟨by omega, by omega⟩, t32, t33⟩ : Ok K τ (35, 0, 0) (σ39 h)) n41
  have F43 := F38.put t_h (by simp) n41
  exact hend σ39 _ _ G42 F43 dX5_beginComing_10
set_option maxRecDepth 100000 in
theorem c_Guard_beginComing (l : Launch) (D : va_G) (K : Nat → ClassId) {τ : Nat → Option Ty} {dom : List Nat} (Z : Sk τ dom) (zb zL : Nat) (zx : Nat → Int32) (zs : Nat → Nat) (h : Nat) (t_h : τ h = some (35, 0, 0)) (σ0 : Nat → va_E) (G0 : Good K τ σ0) : MZ l yX5_beginComing wp_Guard_beginComing ({ frames := 0, cells := 0, slots := 0, locals := 0 }) D (tysA K) [.ref h] (fd dom σ0) zb zL zx zs (Qv D (fun σ' => Good K τ σ' ∧ Fr τ [(35, 0)] σ0 σ') (fun σ' => fd dom σ')) 0 0 := by
  refine mz_of (cc := cX5_beginComing) (maxL := 1) (ret := none) (by decide +kernel) rfl (Nat.le_of_ble_eq_true rfl) ?_
  intro p e s m below meth c A B hr hlk _ hz
  exact b_Guard_beginComing ⟨Nat.le_refl _, Nat.le_refl _⟩ B Z hz h t_h σ0 G0 (fun σ' lv pc G F hd => v_vret B hr hlk σ' ⟨G, F⟩ rfl (Nat.le_refl _) (Nat.le_refl _) hd)

def wp_Guard_keepKey : List Cond := .code yX5_keepKey cX5_keepKey 3 none :: (([.fieldLink RX5 58 "LowEnergy$Guard" "hasKey" "Z", .fieldLink RX5 7 "LowEnergy$Guard" "key" "[I"] : List Cond) ++ (wsX50 ++ ([])))
theorem hi_Guard_keepKey_X5 : ∀ x ∈ u_ws RX5 TX5 16, x ∈ wp_Guard_keepKey := fun _ h => List.mem_cons_of_mem _ (List.mem_append_right _ (List.mem_append_left _ h))
set_option maxHeartbeats 4000000 in
set_option maxRecDepth 100000 in
theorem b_Guard_keepKey {p : Program} {l : Launch} {e : Env} {R : Room} {s : State} {m : MethodId} {args : Array Value} {below : List Frame} {meth : Method} {c : Code} {D : va_G} {K : Nat → ClassId} {A : Nat → Prop} {Q : State → Prop} {τ : Nat → Option Ty} {dom : List Nat} {zb zL : Nat} {zx : Nat → Int32} {zs : Nat → Nat} {π : Nat} {N : Nat} (hR : 0 ≤ R.frames ∧ 0 ≤ R.locals) (B : Bx p s m args c cX5_keepKey 3 RX5 wp_Guard_keepKey D (tysA K) A) (Z : Sk τ dom) (hz : ZL zb zL zx zs A s s.heap) (h : Nat) (g : Nat) (t_h : τ h = some (35, 0, 0)) (t_g : τ g = some (2, π, N)) (σ0 : Nat → va_E) (G0 : Good K τ σ0) (hend : ∀ (σ' : Nat → va_E) (lv : List (Nat × Value)) (pc : Nat), Good K τ σ' → Fr τ [(3, 40), (35, 0)] σ0 σ' → decode cX5_keepKey pc = .ok (.return_, 1) → V p l e R s m args below meth c 3 D A Q (0, 0) (fd dom σ') lv pc []) : V p l e R s m args below meth c 3 D A Q (0, 0) (fd dom σ0) [(0, .ref h), (1, .ref g)] 0 [] := by
  have F0 : Fr τ [(3, 40), (35, 0)] σ0 σ0 := Fr.rf
  have J32 : ∀ (σ_32 : Nat → va_E), Good K τ σ_32 → Fr τ [(3, 40), (35, 0)] σ0 σ_32 → V p l e R s m args below meth c 3 D A Q (0, 0) (fd dom σ_32) [(0, .ref h)] 32 [] := by
    intro σ_32 G_32 F_32
    refine v_aload_n B dX5_keepKey_32 rfl rfl ?_
    refine v_iconst B (v := iI 1) dX5_keepKey_33 rfl ?_
    obtain ⟨a1, a2, z3, a4, a5, a6, z7, z8, z9, z10, z11, z12, z13, z14, a15, a16, h17, t18, t19, r20, t21, t22, t23, r24, r25, r26, r27, r28, r29, r30, r31, t32, t33⟩ : okGuard τ (σ_32 h) := G_32 h _ t_h
    refine u_put B Z (C := RX5) (T := TX5) (N := 16) (ci := 5) hi_Guard_keepKey_X5 t_h h17 rfl 2 (by decide +kernel) tyX5 tyX5_ok nmX5 (List.mem_of_getElem? (i := 1) rfl) rfl (ty := .boolean) (tyX5_ok 2 (by decide +kernel)) (nar01 (by omega)) (fit01 (by omega)) (Nat.le_of_ble_eq_true rfl) (fs' := [.ref a1, .ref a2, .int (iI 1), .ref a4, .ref a5, .ref a6, .int (iI z7), .int (iI z8), .int (iI z9), .int (iI z10), .int (iI z11), .int (iI z12), .int (iI z13), .int (iI z14), .ref a15, .ref a16]) rfl dX5_keepKey_34 (fun σ34 h35 n36 => ?_)
    have G37 := G_32.put t_h (⟨a1, a2, 1, a4, a5, a6, z7, z8, z9, z10, z11, z12, z13, z14, a15, a16, h35, t18, t19, ⟨by omega, by omega⟩, t21, t22, t23, ⟨by omega, by omega⟩, ⟨by omega, by omega⟩, ⟨by omega, by omega⟩, ⟨by omega, by omega⟩, ⟨by omega, by omega⟩, ⟨by omega, by omega⟩, ⟨by omega, by omega⟩, ⟨by omega, by omega⟩, t32, t33⟩ : Ok K τ (35, 0, 0) (σ34 h)) n36
    have F38 := F_32.put t_h (by simp) n36
    exact hend σ34 _ _ G37 F38 dX5_keepKey_37
  have J2 : ∀ (k2 : Nat) (σ_2 : Nat → va_E) (z2_2 : Int), (2147483648 - z2_2).toNat ≤ k2 → Good K τ σ_2 → Fr τ [(3, 40), (35, 0)] σ0 σ_2 → (0 ≤ z2_2 ∧ z2_2 ≤ 16) → V p l e R s m args below meth c 3 D A Q (0, 0) (fd dom σ_2) [(0, .ref h), (1, .ref g), (2, .int (iI z2_2))] 2 [] := by
    intro k2
    induction k2 with
    | zero => intro σ_2 z2_2 m2 G_2 F_2 r2_2; omega
    | succ k2 IH2 =>
      intro σ_2 z2_2 m2 G_2 F_2 r2_2
      refine v_iload_n B dX5_keepKey_2 rfl rfl ?_
      refine v_aload_n B dX5_keepKey_3 rfl rfl ?_
      obtain ⟨a39, a40, z41, a42, a43, a44, z45, z46, z47, z48, z49, z50, z51, z52, a53, a54, h55, t56, t57, r58, t59, t60, t61, r62, r63, r64, r65, r66, r67, r68, r69, t70, t71⟩ : okGuard τ (σ_2 h) := G_2 h _ t_h
      refine u_get B Z (C := RX5) (T := TX5) (N := 16) (ci := 5) hi_Guard_keepKey_X5 t_h h55 rfl 1 (by decide +kernel) (List.mem_of_getElem? (i := 2) rfl) rfl dX5_keepKey_4 ?_
      obtain ⟨f72, h73, r74⟩ : okP K 16 (σ_2 a40) := G_2 a40 _ t57
      refine u_alen B Z (t0 := 0) (v := 16) t57 h73 rfl (by first | rfl | omega) dX5_keepKey_7 ?_
      refine u_icmp_ge B (tgt := 32) (by omega) (by omega) dX5_keepKey_8 (by decide +kernel) (fun c75 => ?_) (fun c75 => ?_)
      · refine v_lv [0] rfl ?_
        exact J32 σ_2 G_2 F_2
      · refine v_iload_n B dX5_keepKey_11 rfl rfl ?_
        refine v_aload_n B dX5_keepKey_12 rfl rfl ?_
        obtain ⟨f76, h77, r78, e79⟩ : okB K N (σ_2 g) := G_2 g _ t_g
        refine u_alen B Z (t0 := 0) (v := ((N : Int))) t_g h77 rfl (by first | rfl | omega) dX5_keepKey_13 ?_
        refine u_icmp_ge B (tgt := 32) (by omega) (by omega) dX5_keepKey_14 (by decide +kernel) (fun c80 => ?_) (fun c80 => ?_)
        · refine v_lv [0] rfl ?_
          exact J32 σ_2 G_2 F_2
        · refine v_aload_n B dX5_keepKey_17 rfl rfl ?_
          refine u_get B Z (C := RX5) (T := TX5) (N := 16) (ci := 5) hi_Guard_keepKey_X5 t_h h55 rfl 1 (by decide +kernel) (List.mem_of_getElem? (i := 2) rfl) rfl dX5_keepKey_18 ?_
          refine v_iload_n B dX5_keepKey_21 rfl rfl ?_
          refine v_aload_n B dX5_keepKey_22 rfl rfl ?_
          refine v_iload_n B dX5_keepKey_23 rfl rfl ?_
          obtain ⟨z81, e82, r83⟩ := e79 (z2_2 : Int).toNat
          refine u_iald B Z (t0 := 0) t_g h77 rfl (by omega) e82 dX5_keepKey_24 ?_
          refine u_iast B Z (t0 := 0) t57 h73 rfl (by omega) dX5_keepKey_25 (fun σ84 h85 n86 => ?_)
          have G87 := G_2.put t57 (⟨_, h85, r74⟩ : Ok K τ (3, 40, 16) (σ84 a40)) n86
          have F88 := F_2.put t57 (by simp) n86
          have h89 := (n86 h (ne_ty t_h t57 (by simp))).trans h55
          have h90 := (n86 g (ne_ty t_g t57 (by simp))).trans h77
          refine v_iinc B (k := 2) (v := iI (z2_2 + 1)) (lv' := [(2, .int (iI (z2_2 + 1))), (0, .ref h), (1, .ref g)]) dX5_keepKey_26 rfl ((iI_add _ _).trans (congrArg iI (by omega))) (by decide +kernel) rfl ?_
          refine v_goto B (tgt := 2) dX5_keepKey_29 (by decide +kernel) ?_
          refine v_lv [1, 2, 0] rfl ?_
          exact IH2 σ84 (z2_2 + 1) (by omega) G87 F88 ⟨by omega, by omega⟩
  refine v_iconst B (v := iI 0) dX5_keepKey_0 rfl ?_
  refine v_istore_n B (lv' := [(2, .int (iI 0)), (0, .ref h), (1, .ref g)]) dX5_keepKey_1 rfl (by decide +kernel) rfl ?_
  refine v_lv [1, 2, 0] rfl ?_
  exact J2 _ σ0 0 (Nat.le_refl _) G0 F0 ⟨by omega, by omega⟩
set_option maxRecDepth 100000 in
theorem c_Guard_keepKey (l : Launch) (D : va_G) (K : Nat → ClassId) {τ : Nat → Option Ty} {dom : List Nat} (Z : Sk τ dom) (zb zL : Nat) (zx : Nat → Int32) (zs : Nat → Nat) {π : Nat} {N : Nat} (h : Nat) (g : Nat) (t_h : τ h = some (35, 0, 0)) (t_g : τ g = some (2, π, N)) (σ0 : Nat → va_E) (G0 : Good K τ σ0) : MZ l yX5_keepKey wp_Guard_keepKey ({ frames := 0, cells := 0, slots := 0, locals := 0 }) D (tysA K) [.ref h, .ref g] (fd dom σ0) zb zL zx zs (Qv D (fun σ' => Good K τ σ' ∧ Fr τ [(3, 40), (35, 0)] σ0 σ') (fun σ' => fd dom σ')) 0 0 := by
  refine mz_of (cc := cX5_keepKey) (maxL := 3) (ret := none) (by decide +kernel) rfl (Nat.le_of_ble_eq_true rfl) ?_
  intro p e s m below meth c A B hr hlk _ hz
  exact b_Guard_keepKey ⟨Nat.le_refl _, Nat.le_refl _⟩ B Z hz h g t_h t_g σ0 G0 (fun σ' lv pc G F hd => v_vret B hr hlk σ' ⟨G, F⟩ rfl (Nat.le_refl _) (Nat.le_refl _) hd)

def wp_Guard_putSessionParts : List Cond := .code yX5_putSessionParts cX5_putSessionParts 4 none :: (([.methodLink RX5 61 yX9_put, .instanceMethod yX9_put, .selects RX9 yX9_put yX9_put, .initialized RX9, .code yX9_put cX9_put 2 none, .fieldLink RX9 21 "LowEnergy$Row" "size" "I", .fieldLink RX9 15 "LowEnergy$Row" "bytes" "[I", .fieldLink RX5 19 "LowEnergy$Guard" "iv" "[I", .fieldLink RX5 13 "LowEnergy$Guard" "diversifier" "[I"] : List Cond) ++ (wsX90 ++ (wsX50 ++ ([]))))
theorem hi_Guard_putSessionParts_X9 : ∀ x ∈ u_ws RX9 TX9 2, x ∈ wp_Guard_putSessionParts := fun _ h => List.mem_cons_of_mem _ (List.mem_append_right _ (List.mem_append_left _ h))
theorem hi_Guard_putSessionParts_X5 : ∀ x ∈ u_ws RX5 TX5 16, x ∈ wp_Guard_putSessionParts := fun _ h => List.mem_cons_of_mem _ (List.mem_append_right _ (List.mem_append_right _ (List.mem_append_left _ h)))
set_option maxRecDepth 100000 in
theorem gd_Guard_putSessionParts_Row_put_61 : GoodIn wp_Guard_putSessionParts (wsV RX5 61 RX9 yX9_put wp_Row_put) := goodIn_app (goodIn_r _ [1, 2, 3, 4] rfl rfl) (goodIn_ca (goodIn_r _ [5, 6, 7] rfl rfl) (goodIn_app (goodIn_cls hi_Guard_putSessionParts_X9 gw_X9) (goodIn_nil)))
set_option maxHeartbeats 4000000 in
set_option maxRecDepth 100000 in
theorem b_Guard_putSessionParts {p : Program} {l : Launch} {e : Env} {R : Room} {s : State} {m : MethodId} {args : Array Value} {below : List Frame} {meth : Method} {c : Code} {D : va_G} {K : Nat → ClassId} {A : Nat → Prop} {Q : State → Prop} {τ : Nat → Option Ty} {dom : List Nat} {zb zL : Nat} {zx : Nat → Int32} {zs : Nat → Nat} {π : Nat} (hR : 1 ≤ R.frames ∧ 21 ≤ R.locals) (B : Bx p s m args c cX5_putSessionParts 4 RX5 wp_Guard_putSessionParts D (tysA K) A) (Z : Sk τ dom) (hz : ZL zb zL zx zs A s s.heap) (h : Nat) (g : Nat) (x2 : Int) (t_h : τ h = some (35, 0, 0)) (t_g : τ g = some (1, π, 0)) (r_x2 : -2147483648 ≤ x2 ∧ x2 ≤ 2147483647) (σ0 : Nat → va_E) (G0 : Good K τ σ0) (hend : ∀ (σ' : Nat → va_E) (lv : List (Nat × Value)) (pc : Nat), Good K τ σ' → Fr τ [(2, π), (1, π)] σ0 σ' → decode cX5_putSessionParts pc = .ok (.return_, 1) → V p l e R s m args below meth c 4 D A Q (0, 0) (fd dom σ') lv pc []) : V p l e R s m args below meth c 4 D A Q (0, 0) (fd dom σ0) [(0, .ref h), (1, .ref g), (2, .int (iI x2))] 0 [] := by
  have F0 : Fr τ [(2, π), (1, π)] σ0 σ0 := Fr.rf
  have J37 : ∀ (k37 : Nat) (σ_37 : Nat → va_E) (z37_3 : Int), (2147483648 - z37_3).toNat ≤ k37 → Good K τ σ_37 → Fr τ [(2, π), (1, π)] σ0 σ_37 → (0 ≤ z37_3 ∧ z37_3 ≤ 4) → V p l e R s m args below meth c 4 D A Q (0, 0) (fd dom σ_37) [(0, .ref h), (1, .ref g), (2, .int (iI x2)), (3, .int (iI z37_3))] 37 [] := by
    intro k37
    induction k37 with
    | zero => intro σ_37 z37_3 m37 G_37 F_37 r37_3; omega
    | succ k37 IH37 =>
      intro σ_37 z37_3 m37 G_37 F_37 r37_3
      have J58 : ∀ (z58_s0 : Int) (a58_s1 : Nat), (0 ≤ z37_3 ∧ z37_3 ≤ 3) → (0 ≤ z58_s0 ∧ z58_s0 ≤ 7) → (τ a58_s1 = some (3, 43, 8)) → V p l e R s m args below meth c 4 D A Q (0, 0) (fd dom σ_37) [(0, .ref h), (1, .ref g), (2, .int (iI x2)), (3, .int (iI z37_3))] 58 [.int (iI z58_s0), .ref a58_s1, .ref g] := by
        intro z58_s0 a58_s1 r58_3 r58_s0 t58_s1
        obtain ⟨f1, h2, r3⟩ : okP K 8 (σ_37 a58_s1) := G_37 a58_s1 _ t58_s1
        obtain ⟨z4, e5, r6⟩ := iI_any (f1 (z58_s0 : Int).toNat)
        refine u_iald B Z (t0 := 0) t58_s1 h2 rfl (by omega) e5 dX5_putSessionParts_58 ?_
        refine u_callVv B Z hz (n := 1) (As := [.int (iI z4)]) (rest := []) (c_Row_put l D K Z _ _ _ _ g z4 t_g ⟨by omega, by omega⟩ σ_37 G_37) gd_Guard_putSessionParts_Row_put_61 rfl rfl rfl (by decide +kernel) ⟨Nat.le_trans (by decide +kernel) hR.1, Nat.le_trans (by decide +kernel) hR.2⟩ t_g (cls_Row G_37 t_g) rfl rfl rfl rfl (Nat.le_of_ble_eq_true rfl) dX5_putSessionParts_59 ⟨Nat.zero_le _, Nat.zero_le _⟩ (fun σ7 p8 => ?_)
        obtain ⟨G10, F11⟩ := p8
        have F12 := F_37.call F11 (by first | rfl | simp)
        have h13 := (F11 a58_s1 _ t58_s1 (by first | rfl | simp)).trans h2
        refine v_iinc B (k := 3) (v := iI (z37_3 + 1)) (lv' := [(3, .int (iI (z37_3 + 1))), (0, .ref h), (1, .ref g), (2, .int (iI x2))]) dX5_putSessionParts_62 rfl ((iI_add _ _).trans (congrArg iI (by omega))) (by decide +kernel) rfl ?_
        refine v_goto B (tgt := 37) dX5_putSessionParts_65 (by decide +kernel) ?_
        refine v_lv [1, 2, 3, 0] rfl ?_
        exact IH37 σ7 (z37_3 + 1) (by omega) G10 F12 ⟨by omega, by omega⟩
      refine v_iload_n B dX5_putSessionParts_37 rfl rfl ?_
      refine v_iconst B (v := iI 4) dX5_putSessionParts_38 rfl ?_
      refine u_icmp_ge B (tgt := 68) (by omega) (by omega) dX5_putSessionParts_39 (by decide +kernel) (fun c14 => ?_) (fun c14 => ?_)
      · exact hend σ_37 _ _ G_37 F_37 dX5_putSessionParts_68
      · refine v_aload_n B dX5_putSessionParts_42 rfl rfl ?_
        refine v_aload_n B dX5_putSessionParts_43 rfl rfl ?_
        obtain ⟨a15, a16, z17, a18, a19, a20, z21, z22, z23, z24, z25, z26, z27, z28, a29, a30, h31, t32, t33, r34, t35, t36, t37, r38, r39, r40, r41, r42, r43, r44, r45, t46, t47⟩ : okGuard τ (σ_37 h) := G_37 h _ t_h
        refine u_get B Z (C := RX5) (T := TX5) (N := 16) (ci := 5) hi_Guard_putSessionParts_X5 t_h h31 rfl 5 (by decide +kernel) (List.mem_of_getElem? (i := 8) rfl) rfl dX5_putSessionParts_44 ?_
        refine v_iload_n B dX5_putSessionParts_47 rfl rfl ?_
        refine u_if_ne B (tgt := 55) (by omega) dX5_putSessionParts_48 (by decide +kernel) (fun c48 => ?_) (fun c48 => ?_)
        · refine v_iconst B (v := iI 4) dX5_putSessionParts_55 rfl ?_
          refine v_iload_n B dX5_putSessionParts_56 rfl rfl ?_
          refine v_iadd B (v := iI (z37_3 + 4)) dX5_putSessionParts_57 ((iI_add _ _).trans (congrArg iI (by omega))) ?_
          exact J58 (z37_3 + 4) a20 ⟨by omega, by omega⟩ ⟨by omega, by omega⟩ t37
        · refine v_iload_n B dX5_putSessionParts_51 rfl rfl ?_
          refine v_goto B (tgt := 58) dX5_putSessionParts_52 (by decide +kernel) ?_
          exact J58 z37_3 a20 ⟨by omega, by omega⟩ ⟨by omega, by omega⟩ t37
  have J2 : ∀ (k2 : Nat) (σ_2 : Nat → va_E) (z2_3 : Int), (2147483648 - z2_3).toNat ≤ k2 → Good K τ σ_2 → Fr τ [(2, π), (1, π)] σ0 σ_2 → (0 ≤ z2_3 ∧ z2_3 ≤ 8) → V p l e R s m args below meth c 4 D A Q (0, 0) (fd dom σ_2) [(0, .ref h), (1, .ref g), (2, .int (iI x2)), (3, .int (iI z2_3))] 2 [] := by
    intro k2
    induction k2 with
    | zero => intro σ_2 z2_3 m2 G_2 F_2 r2_3; omega
    | succ k2 IH2 =>
      intro σ_2 z2_3 m2 G_2 F_2 r2_3
      have J25 : ∀ (z25_s0 : Int) (a25_s1 : Nat), (0 ≤ z2_3 ∧ z2_3 ≤ 7) → (0 ≤ z25_s0 ∧ z25_s0 ≤ 15) → (τ a25_s1 = some (3, 41, 16)) → V p l e R s m args below meth c 4 D A Q (0, 0) (fd dom σ_2) [(0, .ref h), (1, .ref g), (2, .int (iI x2)), (3, .int (iI z2_3))] 25 [.int (iI z25_s0), .ref a25_s1, .ref g] := by
        intro z25_s0 a25_s1 r25_3 r25_s0 t25_s1
        obtain ⟨f49, h50, r51⟩ : okP K 16 (σ_2 a25_s1) := G_2 a25_s1 _ t25_s1
        obtain ⟨z52, e53, r54⟩ := iI_any (f49 (z25_s0 : Int).toNat)
        refine u_iald B Z (t0 := 0) t25_s1 h50 rfl (by omega) e53 dX5_putSessionParts_25 ?_
        refine u_callVv B Z hz (n := 1) (As := [.int (iI z52)]) (rest := []) (c_Row_put l D K Z _ _ _ _ g z52 t_g ⟨by omega, by omega⟩ σ_2 G_2) gd_Guard_putSessionParts_Row_put_61 rfl rfl rfl (by decide +kernel) ⟨Nat.le_trans (by decide +kernel) hR.1, Nat.le_trans (by decide +kernel) hR.2⟩ t_g (cls_Row G_2 t_g) rfl rfl rfl rfl (Nat.le_of_ble_eq_true rfl) dX5_putSessionParts_26 ⟨Nat.zero_le _, Nat.zero_le _⟩ (fun σ55 p56 => ?_)
        obtain ⟨G58, F59⟩ := p56
        have F60 := F_2.call F59 (by first | rfl | simp)
        have h61 := (F59 a25_s1 _ t25_s1 (by first | rfl | simp)).trans h50
        refine v_iinc B (k := 3) (v := iI (z2_3 + 1)) (lv' := [(3, .int (iI (z2_3 + 1))), (0, .ref h), (1, .ref g), (2, .int (iI x2))]) dX5_putSessionParts_29 rfl ((iI_add _ _).trans (congrArg iI (by omega))) (by decide +kernel) rfl ?_
        refine v_goto B (tgt := 2) dX5_putSessionParts_32 (by decide +kernel) ?_
        refine v_lv [1, 2, 3, 0] rfl ?_
        exact IH2 σ55 (z2_3 + 1) (by omega) G58 F60 ⟨by omega, by omega⟩
      refine v_iload_n B dX5_putSessionParts_2 rfl rfl ?_
      refine v_bipush B (v := iI 8) dX5_putSessionParts_3 (by decide +kernel) ?_
      refine u_icmp_ge B (tgt := 35) (by omega) (by omega) dX5_putSessionParts_5 (by decide +kernel) (fun c62 => ?_) (fun c62 => ?_)
      · refine v_iconst B (v := iI 0) dX5_putSessionParts_35 rfl ?_
        refine v_istore_n B (lv' := [(3, .int (iI 0)), (0, .ref h), (1, .ref g), (2, .int (iI x2))]) dX5_putSessionParts_36 rfl (by decide +kernel) rfl ?_
        refine v_lv [1, 2, 3, 0] rfl ?_
        exact J37 _ σ_2 0 (Nat.le_refl _) G_2 F_2 ⟨by omega, by omega⟩
      · refine v_aload_n B dX5_putSessionParts_8 rfl rfl ?_
        refine v_aload_n B dX5_putSessionParts_9 rfl rfl ?_
        obtain ⟨a63, a64, z65, a66, a67, a68, z69, z70, z71, z72, z73, z74, z75, z76, a77, a78, h79, t80, t81, r82, t83, t84, t85, r86, r87, r88, r89, r90, r91, r92, r93, t94, t95⟩ : okGuard τ (σ_2 h) := G_2 h _ t_h
        refine u_get B Z (C := RX5) (T := TX5) (N := 16) (ci := 5) hi_Guard_putSessionParts_X5 t_h h79 rfl 3 (by decide +kernel) (List.mem_of_getElem? (i := 9) rfl) rfl dX5_putSessionParts_10 ?_
        refine v_iload_n B dX5_putSessionParts_13 rfl rfl ?_
        refine u_if_ne B (tgt := 21) (by omega) dX5_putSessionParts_14 (by decide +kernel) (fun c96 => ?_) (fun c96 => ?_)
        · refine v_bipush B (v := iI 8) dX5_putSessionParts_21 (by decide +kernel) ?_
          refine v_iload_n B dX5_putSessionParts_23 rfl rfl ?_
          refine v_iadd B (v := iI (z2_3 + 8)) dX5_putSessionParts_24 ((iI_add _ _).trans (congrArg iI (by omega))) ?_
          exact J25 (z2_3 + 8) a66 ⟨by omega, by omega⟩ ⟨by omega, by omega⟩ t83
        · refine v_iload_n B dX5_putSessionParts_17 rfl rfl ?_
          refine v_goto B (tgt := 25) dX5_putSessionParts_18 (by decide +kernel) ?_
          exact J25 z2_3 a66 ⟨by omega, by omega⟩ ⟨by omega, by omega⟩ t83
  refine v_iconst B (v := iI 0) dX5_putSessionParts_0 rfl ?_
  refine v_istore_n B (lv' := [(3, .int (iI 0)), (0, .ref h), (1, .ref g), (2, .int (iI x2))]) dX5_putSessionParts_1 rfl (by decide +kernel) rfl ?_
  refine v_lv [1, 2, 3, 0] rfl ?_
  exact J2 _ σ0 0 (Nat.le_refl _) G0 F0 ⟨by omega, by omega⟩
set_option maxRecDepth 100000 in
theorem c_Guard_putSessionParts (l : Launch) (D : va_G) (K : Nat → ClassId) {τ : Nat → Option Ty} {dom : List Nat} (Z : Sk τ dom) (zb zL : Nat) (zx : Nat → Int32) (zs : Nat → Nat) {π : Nat} (h : Nat) (g : Nat) (x2 : Int) (t_h : τ h = some (35, 0, 0)) (t_g : τ g = some (1, π, 0)) (r_x2 : -2147483648 ≤ x2 ∧ x2 ≤ 2147483647) (σ0 : Nat → va_E) (G0 : Good K τ σ0) : MZ l yX5_putSessionParts wp_Guard_putSessionParts ({ frames := 1, cells := 0, slots := 0, locals := 21 }) D (tysA K) [.ref h, .ref g, .int (iI x2)] (fd dom σ0) zb zL zx zs (Qv D (fun σ' => Good K τ σ' ∧ Fr τ [(2, π), (1, π)] σ0 σ') (fun σ' => fd dom σ')) 0 0 := by
  refine mz_of (cc := cX5_putSessionParts) (maxL := 4) (ret := none) (by decide +kernel) rfl (Nat.le_of_ble_eq_true rfl) ?_
  intro p e s m below meth c A B hr hlk _ hz
  exact b_Guard_putSessionParts ⟨Nat.le_refl _, Nat.le_refl _⟩ B Z hz h g x2 t_h t_g r_x2 σ0 G0 (fun σ' lv pc G F hd => v_vret B hr hlk σ' ⟨G, F⟩ rfl (Nat.le_refl _) (Nat.le_refl _) hd)

def wp_Guard_takeSessionParts : List Cond := .code yX5_takeSessionParts cX5_takeSessionParts 4 none :: (([.methodLink RX5 67 yX9_at, .instanceMethod yX9_at, .selects RX9 yX9_at yX9_at, .initialized RX9, .code yX9_at cX9_at 2 (some .int), .fieldLink RX9 21 "LowEnergy$Row" "size" "I", .fieldLink RX9 15 "LowEnergy$Row" "bytes" "[I", .fieldLink RX5 19 "LowEnergy$Guard" "iv" "[I", .fieldLink RX5 13 "LowEnergy$Guard" "diversifier" "[I"] : List Cond) ++ (wsX90 ++ (wsX50 ++ ([]))))
theorem hi_Guard_takeSessionParts_X9 : ∀ x ∈ u_ws RX9 TX9 2, x ∈ wp_Guard_takeSessionParts := fun _ h => List.mem_cons_of_mem _ (List.mem_append_right _ (List.mem_append_left _ h))
theorem hi_Guard_takeSessionParts_X5 : ∀ x ∈ u_ws RX5 TX5 16, x ∈ wp_Guard_takeSessionParts := fun _ h => List.mem_cons_of_mem _ (List.mem_append_right _ (List.mem_append_right _ (List.mem_append_left _ h)))
set_option maxRecDepth 100000 in
theorem gd_Guard_takeSessionParts_Row_at_67 : GoodIn wp_Guard_takeSessionParts (wsV RX5 67 RX9 yX9_at wp_Row_at) := goodIn_app (goodIn_r _ [1, 2, 3, 4] rfl rfl) (goodIn_ca (goodIn_r _ [5, 6, 7] rfl rfl) (goodIn_app (goodIn_cls hi_Guard_takeSessionParts_X9 gw_X9) (goodIn_nil)))
set_option maxHeartbeats 4000000 in
set_option maxRecDepth 100000 in
theorem b_Guard_takeSessionParts {p : Program} {l : Launch} {e : Env} {R : Room} {s : State} {m : MethodId} {args : Array Value} {below : List Frame} {meth : Method} {c : Code} {D : va_G} {K : Nat → ClassId} {A : Nat → Prop} {Q : State → Prop} {τ : Nat → Option Ty} {dom : List Nat} {zb zL : Nat} {zx : Nat → Int32} {zs : Nat → Nat} {π : Nat} (hR : 1 ≤ R.frames ∧ 21 ≤ R.locals) (B : Bx p s m args c cX5_takeSessionParts 4 RX5 wp_Guard_takeSessionParts D (tysA K) A) (Z : Sk τ dom) (hz : ZL zb zL zx zs A s s.heap) (h : Nat) (g : Nat) (x2 : Int) (t_h : τ h = some (35, 0, 0)) (t_g : τ g = some (1, π, 0)) (r_x2 : -2147483648 ≤ x2 ∧ x2 ≤ 2147483647) (σ0 : Nat → va_E) (G0 : Good K τ σ0) (hend : ∀ (σ' : Nat → va_E) (lv : List (Nat × Value)) (pc : Nat), Good K τ σ' → Fr τ [(3, 41), (3, 43)] σ0 σ' → decode cX5_takeSessionParts pc = .ok (.return_, 1) → V p l e R s m args below meth c 4 D A Q (0, 0) (fd dom σ') lv pc []) : V p l e R s m args below meth c 4 D A Q (0, 0) (fd dom σ0) [(0, .ref h), (1, .ref g), (2, .int (iI x2))] 0 [] := by
  have F0 : Fr τ [(3, 41), (3, 43)] σ0 σ0 := Fr.rf
  have J40 : ∀ (k40 : Nat) (σ_40 : Nat → va_E) (z40_3 : Int), (2147483648 - z40_3).toNat ≤ k40 → Good K τ σ_40 → Fr τ [(3, 41), (3, 43)] σ0 σ_40 → (0 ≤ z40_3 ∧ z40_3 ≤ 4) → V p l e R s m args below meth c 4 D A Q (0, 0) (fd dom σ_40) [(0, .ref h), (1, .ref g), (2, .int (iI x2)), (3, .int (iI z40_3))] 40 [] := by
    intro k40
    induction k40 with
    | zero => intro σ_40 z40_3 m40 G_40 F_40 r40_3; omega
    | succ k40 IH40 =>
      intro σ_40 z40_3 m40 G_40 F_40 r40_3
      have J60 : ∀ (z60_s0 : Int) (a60_s1 : Nat), (0 ≤ z40_3 ∧ z40_3 ≤ 3) → (0 ≤ z60_s0 ∧ z60_s0 ≤ 7) → (τ a60_s1 = some (3, 43, 8)) → V p l e R s m args below meth c 4 D A Q (0, 0) (fd dom σ_40) [(0, .ref h), (1, .ref g), (2, .int (iI x2)), (3, .int (iI z40_3))] 60 [.int (iI z60_s0), .ref a60_s1] := by
        intro z60_s0 a60_s1 r60_3 r60_s0 t60_s1
        refine v_aload_n B dX5_takeSessionParts_60 rfl rfl ?_
        refine v_bipush B (v := iI 9) dX5_takeSessionParts_61 (by decide +kernel) ?_
        refine v_iload_n B dX5_takeSessionParts_63 rfl rfl ?_
        refine v_iadd B (v := iI (z40_3 + 9)) dX5_takeSessionParts_64 ((iI_add _ _).trans (congrArg iI (by omega))) ?_
        refine u_callVi B Z hz (n := 1) (As := [.int (iI (z40_3 + 9))]) (rest := [.int (iI z60_s0), .ref a60_s1]) (c_Row_at l D K Z _ _ _ _ g (z40_3 + 9) t_g ⟨by omega, by omega⟩ σ_40 G_40) gd_Guard_takeSessionParts_Row_at_67 rfl rfl rfl (by decide +kernel) ⟨Nat.le_trans (by decide +kernel) hR.1, Nat.le_trans (by decide +kernel) hR.2⟩ t_g (cls_Row G_40 t_g) rfl rfl rfl rfl (Nat.le_of_ble_eq_true rfl) dX5_takeSessionParts_65 ⟨Nat.zero_le _, Nat.zero_le _⟩ (fun v3 σ1 p2 => ?_)
        obtain ⟨rfl, z7, e8, r9⟩ := p2
        subst e8
        obtain ⟨f10, h11, r12⟩ : okP K 8 (σ_40 a60_s1) := G_40 a60_s1 _ t60_s1
        refine u_iast B Z (t0 := 0) t60_s1 h11 rfl (by omega) dX5_takeSessionParts_68 (fun σ13 h14 n15 => ?_)
        have G16 := G_40.put t60_s1 (⟨_, h14, r12⟩ : Ok K τ (3, 43, 8) (σ13 a60_s1)) n15
        have F17 := F_40.put t60_s1 (by simp) n15
        refine v_iinc B (k := 3) (v := iI (z40_3 + 1)) (lv' := [(3, .int (iI (z40_3 + 1))), (0, .ref h), (1, .ref g), (2, .int (iI x2))]) dX5_takeSessionParts_69 rfl ((iI_add _ _).trans (congrArg iI (by omega))) (by decide +kernel) rfl ?_
        refine v_goto B (tgt := 40) dX5_takeSessionParts_72 (by decide +kernel) ?_
        refine v_lv [1, 2, 3, 0] rfl ?_
        exact IH40 σ13 (z40_3 + 1) (by omega) G16 F17 ⟨by omega, by omega⟩
      refine v_iload_n B dX5_takeSessionParts_40 rfl rfl ?_
      refine v_iconst B (v := iI 4) dX5_takeSessionParts_41 rfl ?_
      refine u_icmp_ge B (tgt := 75) (by omega) (by omega) dX5_takeSessionParts_42 (by decide +kernel) (fun c18 => ?_) (fun c18 => ?_)
      · exact hend σ_40 _ _ G_40 F_40 dX5_takeSessionParts_75
      · refine v_aload_n B dX5_takeSessionParts_45 rfl rfl ?_
        obtain ⟨a19, a20, z21, a22, a23, a24, z25, z26, z27, z28, z29, z30, z31, z32, a33, a34, h35, t36, t37, r38, t39, t40, t41, r42, r43, r44, r45, r46, r47, r48, r49, t50, t51⟩ : okGuard τ (σ_40 h) := G_40 h _ t_h
        refine u_get B Z (C := RX5) (T := TX5) (N := 16) (ci := 5) hi_Guard_takeSessionParts_X5 t_h h35 rfl 5 (by decide +kernel) (List.mem_of_getElem? (i := 8) rfl) rfl dX5_takeSessionParts_46 ?_
        refine v_iload_n B dX5_takeSessionParts_49 rfl rfl ?_
        refine u_if_ne B (tgt := 57) (by omega) dX5_takeSessionParts_50 (by decide +kernel) (fun c52 => ?_) (fun c52 => ?_)
        · refine v_iconst B (v := iI 4) dX5_takeSessionParts_57 rfl ?_
          refine v_iload_n B dX5_takeSessionParts_58 rfl rfl ?_
          refine v_iadd B (v := iI (z40_3 + 4)) dX5_takeSessionParts_59 ((iI_add _ _).trans (congrArg iI (by omega))) ?_
          exact J60 (z40_3 + 4) a24 ⟨by omega, by omega⟩ ⟨by omega, by omega⟩ t41
        · refine v_iload_n B dX5_takeSessionParts_53 rfl rfl ?_
          refine v_goto B (tgt := 60) dX5_takeSessionParts_54 (by decide +kernel) ?_
          exact J60 z40_3 a24 ⟨by omega, by omega⟩ ⟨by omega, by omega⟩ t41
  have J2 : ∀ (k2 : Nat) (σ_2 : Nat → va_E) (z2_3 : Int), (2147483648 - z2_3).toNat ≤ k2 → Good K τ σ_2 → Fr τ [(3, 41), (3, 43)] σ0 σ_2 → (0 ≤ z2_3 ∧ z2_3 ≤ 8) → V p l e R s m args below meth c 4 D A Q (0, 0) (fd dom σ_2) [(0, .ref h), (1, .ref g), (2, .int (iI x2)), (3, .int (iI z2_3))] 2 [] := by
    intro k2
    induction k2 with
    | zero => intro σ_2 z2_3 m2 G_2 F_2 r2_3; omega
    | succ k2 IH2 =>
      intro σ_2 z2_3 m2 G_2 F_2 r2_3
      have J24 : ∀ (z24_s0 : Int) (a24_s1 : Nat), (0 ≤ z2_3 ∧ z2_3 ≤ 7) → (0 ≤ z24_s0 ∧ z24_s0 ≤ 15) → (τ a24_s1 = some (3, 41, 16)) → V p l e R s m args below meth c 4 D A Q (0, 0) (fd dom σ_2) [(0, .ref h), (1, .ref g), (2, .int (iI x2)), (3, .int (iI z2_3))] 24 [.int (iI z24_s0), .ref a24_s1] := by
        intro z24_s0 a24_s1 r24_3 r24_s0 t24_s1
        refine v_aload_n B dX5_takeSessionParts_24 rfl rfl ?_
        refine v_iconst B (v := iI 1) dX5_takeSessionParts_25 rfl ?_
        refine v_iload_n B dX5_takeSessionParts_26 rfl rfl ?_
        refine v_iadd B (v := iI (z2_3 + 1)) dX5_takeSessionParts_27 ((iI_add _ _).trans (congrArg iI (by omega))) ?_
        refine u_callVi B Z hz (n := 1) (As := [.int (iI (z2_3 + 1))]) (rest := [.int (iI z24_s0), .ref a24_s1]) (c_Row_at l D K Z _ _ _ _ g (z2_3 + 1) t_g ⟨by omega, by omega⟩ σ_2 G_2) gd_Guard_takeSessionParts_Row_at_67 rfl rfl rfl (by decide +kernel) ⟨Nat.le_trans (by decide +kernel) hR.1, Nat.le_trans (by decide +kernel) hR.2⟩ t_g (cls_Row G_2 t_g) rfl rfl rfl rfl (Nat.le_of_ble_eq_true rfl) dX5_takeSessionParts_28 ⟨Nat.zero_le _, Nat.zero_le _⟩ (fun v55 σ53 p54 => ?_)
        obtain ⟨rfl, z59, e60, r61⟩ := p54
        subst e60
        obtain ⟨f62, h63, r64⟩ : okP K 16 (σ_2 a24_s1) := G_2 a24_s1 _ t24_s1
        refine u_iast B Z (t0 := 0) t24_s1 h63 rfl (by omega) dX5_takeSessionParts_31 (fun σ65 h66 n67 => ?_)
        have G68 := G_2.put t24_s1 (⟨_, h66, r64⟩ : Ok K τ (3, 41, 16) (σ65 a24_s1)) n67
        have F69 := F_2.put t24_s1 (by simp) n67
        refine v_iinc B (k := 3) (v := iI (z2_3 + 1)) (lv' := [(3, .int (iI (z2_3 + 1))), (0, .ref h), (1, .ref g), (2, .int (iI x2))]) dX5_takeSessionParts_32 rfl ((iI_add _ _).trans (congrArg iI (by omega))) (by decide +kernel) rfl ?_
        refine v_goto B (tgt := 2) dX5_takeSessionParts_35 (by decide +kernel) ?_
        refine v_lv [1, 2, 3, 0] rfl ?_
        exact IH2 σ65 (z2_3 + 1) (by omega) G68 F69 ⟨by omega, by omega⟩
      refine v_iload_n B dX5_takeSessionParts_2 rfl rfl ?_
      refine v_bipush B (v := iI 8) dX5_takeSessionParts_3 (by decide +kernel) ?_
      refine u_icmp_ge B (tgt := 38) (by omega) (by omega) dX5_takeSessionParts_5 (by decide +kernel) (fun c70 => ?_) (fun c70 => ?_)
      · refine v_iconst B (v := iI 0) dX5_takeSessionParts_38 rfl ?_
        refine v_istore_n B (lv' := [(3, .int (iI 0)), (0, .ref h), (1, .ref g), (2, .int (iI x2))]) dX5_takeSessionParts_39 rfl (by decide +kernel) rfl ?_
        refine v_lv [1, 2, 3, 0] rfl ?_
        exact J40 _ σ_2 0 (Nat.le_refl _) G_2 F_2 ⟨by omega, by omega⟩
      · refine v_aload_n B dX5_takeSessionParts_8 rfl rfl ?_
        obtain ⟨a71, a72, z73, a74, a75, a76, z77, z78, z79, z80, z81, z82, z83, z84, a85, a86, h87, t88, t89, r90, t91, t92, t93, r94, r95, r96, r97, r98, r99, r100, r101, t102, t103⟩ : okGuard τ (σ_2 h) := G_2 h _ t_h
        refine u_get B Z (C := RX5) (T := TX5) (N := 16) (ci := 5) hi_Guard_takeSessionParts_X5 t_h h87 rfl 3 (by decide +kernel) (List.mem_of_getElem? (i := 9) rfl) rfl dX5_takeSessionParts_9 ?_
        refine v_iload_n B dX5_takeSessionParts_12 rfl rfl ?_
        refine u_if_ne B (tgt := 20) (by omega) dX5_takeSessionParts_13 (by decide +kernel) (fun c104 => ?_) (fun c104 => ?_)
        · refine v_bipush B (v := iI 8) dX5_takeSessionParts_20 (by decide +kernel) ?_
          refine v_iload_n B dX5_takeSessionParts_22 rfl rfl ?_
          refine v_iadd B (v := iI (z2_3 + 8)) dX5_takeSessionParts_23 ((iI_add _ _).trans (congrArg iI (by omega))) ?_
          exact J24 (z2_3 + 8) a74 ⟨by omega, by omega⟩ ⟨by omega, by omega⟩ t91
        · refine v_iload_n B dX5_takeSessionParts_16 rfl rfl ?_
          refine v_goto B (tgt := 24) dX5_takeSessionParts_17 (by decide +kernel) ?_
          exact J24 z2_3 a74 ⟨by omega, by omega⟩ ⟨by omega, by omega⟩ t91
  refine v_iconst B (v := iI 0) dX5_takeSessionParts_0 rfl ?_
  refine v_istore_n B (lv' := [(3, .int (iI 0)), (0, .ref h), (1, .ref g), (2, .int (iI x2))]) dX5_takeSessionParts_1 rfl (by decide +kernel) rfl ?_
  refine v_lv [1, 2, 3, 0] rfl ?_
  exact J2 _ σ0 0 (Nat.le_refl _) G0 F0 ⟨by omega, by omega⟩
set_option maxRecDepth 100000 in
theorem c_Guard_takeSessionParts (l : Launch) (D : va_G) (K : Nat → ClassId) {τ : Nat → Option Ty} {dom : List Nat} (Z : Sk τ dom) (zb zL : Nat) (zx : Nat → Int32) (zs : Nat → Nat) {π : Nat} (h : Nat) (g : Nat) (x2 : Int) (t_h : τ h = some (35, 0, 0)) (t_g : τ g = some (1, π, 0)) (r_x2 : -2147483648 ≤ x2 ∧ x2 ≤ 2147483647) (σ0 : Nat → va_E) (G0 : Good K τ σ0) : MZ l yX5_takeSessionParts wp_Guard_takeSessionParts ({ frames := 1, cells := 0, slots := 0, locals := 21 }) D (tysA K) [.ref h, .ref g, .int (iI x2)] (fd dom σ0) zb zL zx zs (Qv D (fun σ' => Good K τ σ' ∧ Fr τ [(3, 41), (3, 43)] σ0 σ') (fun σ' => fd dom σ')) 0 0 := by
  refine mz_of (cc := cX5_takeSessionParts) (maxL := 4) (ret := none) (by decide +kernel) rfl (Nat.le_of_ble_eq_true rfl) ?_
  intro p e s m below meth c A B hr hlk _ hz
  exact b_Guard_takeSessionParts ⟨Nat.le_refl _, Nat.le_refl _⟩ B Z hz h g x2 t_h t_g r_x2 σ0 G0 (fun σ' lv pc G F hd => v_vret B hr hlk σ' ⟨G, F⟩ rfl (Nat.le_refl _) (Nat.le_refl _) hd)

def wp_Guard_makeSession : List Cond := .code yX5_makeSession cX5_makeSession 2 none :: (([.fieldLink RX5 28 "LowEnergy$Guard" "cipher" "LLowEnergy$Cipher;", .fieldLink RX5 7 "LowEnergy$Guard" "key" "[I", .methodLink RX5 71 yX1_loadKey, .instanceMethod yX1_loadKey, .selects RX1 yX1_loadKey yX1_loadKey, .initialized RX1, .code yX1_loadKey cX1_loadKey 6 none, .fieldLink RX1 9 "LowEnergy$Cipher" "roundKeys" "[I", .fieldLink RX1 16 "LowEnergy$Cipher" "SBOX" "[I", .fieldLink RX5 16 "LowEnergy$Guard" "session" "[I", .methodLink RX5 77 yX1_encipher, .instanceMethod yX1_encipher, .selects RX1 yX1_encipher yX1_encipher, .code yX1_encipher cX1_encipher 7 none, .fieldLink RX1 13 "LowEnergy$Cipher" "moved" "[I", .fieldLink RX5 32 "LowEnergy$Guard" "hasSession" "Z", .fieldLink RX5 13 "LowEnergy$Guard" "diversifier" "[I"] : List Cond) ++ (wsX50 ++ (wsX10 ++ ([]))))
theorem hi_Guard_makeSession_X5 : ∀ x ∈ u_ws RX5 TX5 16, x ∈ wp_Guard_makeSession := fun _ h => List.mem_cons_of_mem _ (List.mem_append_right _ (List.mem_append_left _ h))
theorem hi_Guard_makeSession_X1 : ∀ x ∈ u_ws RX1 TX1 2, x ∈ wp_Guard_makeSession := fun _ h => List.mem_cons_of_mem _ (List.mem_append_right _ (List.mem_append_right _ (List.mem_append_left _ h)))
set_option maxRecDepth 100000 in
theorem gd_Guard_makeSession_loadKey_71 : GoodIn wp_Guard_makeSession (wsV RX5 71 RX1 yX1_loadKey wp_loadKey) := goodIn_app (goodIn_r _ [3, 4, 5, 6] rfl rfl) (goodIn_ca (goodIn_r _ [7, 8, 9] rfl rfl) (goodIn_app (goodIn_cls hi_Guard_makeSession_X1 gw_X1) (goodIn_nil)))
set_option maxRecDepth 100000 in
theorem gd_Guard_makeSession_encipherP_77 : GoodIn wp_Guard_makeSession (wsV RX5 77 RX1 yX1_encipher wp_encipherP) := goodIn_app (goodIn_r _ [11, 12, 13, 6] rfl rfl) (goodIn_ca (goodIn_r _ [14, 8, 15, 9] rfl rfl) (goodIn_app (goodIn_cls hi_Guard_makeSession_X1 gw_X1) (goodIn_nil)))
set_option maxHeartbeats 4000000 in
set_option maxRecDepth 100000 in
theorem b_Guard_makeSession {p : Program} {l : Launch} {e : Env} {R : Room} {s : State} {m : MethodId} {args : Array Value} {below : List Frame} {meth : Method} {c : Code} {D : va_G} {K : Nat → ClassId} {A : Nat → Prop} {Q : State → Prop} {τ : Nat → Option Ty} {dom : List Nat} {zb zL : Nat} {zx : Nat → Int32} {zs : Nat → Nat} (hR : 1 ≤ R.frames ∧ 26 ≤ R.locals) (B : Bx p s m args c cX5_makeSession 2 RX5 wp_Guard_makeSession D (tysA K) A) (Z : Sk τ dom) (hz : ZL zb zL zx zs A s s.heap) (h : Nat) (t_h : τ h = some (35, 0, 0)) (σ0 : Nat → va_E) (G0 : Good K τ σ0) (hend : ∀ (σ' : Nat → va_E) (lv : List (Nat × Value)) (pc : Nat), Good K τ σ' → Fr τ [(3, 42), (2, 31), (2, 32), (35, 0)] σ0 σ' → decode cX5_makeSession pc = .ok (.return_, 1) → V p l e R s m args below meth c 2 D A Q (0, 0) (fd dom σ') lv pc []) : V p l e R s m args below meth c 2 D A Q (0, 0) (fd dom σ0) [(0, .ref h)] 0 [] := by
  have F0 : Fr τ [(3, 42), (2, 31), (2, 32), (35, 0)] σ0 σ0 := Fr.rf
  have J38 : ∀ (σ_38 : Nat → va_E), Good K τ σ_38 → Fr τ [(3, 42), (2, 31), (2, 32), (35, 0)] σ0 σ_38 → V p l e R s m args below meth c 2 D A Q (0, 0) (fd dom σ_38) [(0, .ref h)] 38 [] := by
    intro σ_38 G_38 F_38
    refine v_aload_n B dX5_makeSession_38 rfl rfl ?_
    obtain ⟨a1, a2, z3, a4, a5, a6, z7, z8, z9, z10, z11, z12, z13, z14, a15, a16, h17, t18, t19, r20, t21, t22, t23, r24, r25, r26, r27, r28, r29, r30, r31, t32, t33⟩ : okGuard τ (σ_38 h) := G_38 h _ t_h
    refine u_get B Z (C := RX5) (T := TX5) (N := 16) (ci := 5) hi_Guard_makeSession_X5 t_h h17 rfl 0 (by decide +kernel) (List.mem_of_getElem? (i := 1) rfl) rfl dX5_makeSession_39 ?_
    refine v_aload_n B dX5_makeSession_42 rfl rfl ?_
    refine u_get B Z (C := RX5) (T := TX5) (N := 16) (ci := 5) hi_Guard_makeSession_X5 t_h h17 rfl 1 (by decide +kernel) (List.mem_of_getElem? (i := 2) rfl) rfl dX5_makeSession_43 ?_
    refine u_callVv B Z hz (n := 1) (As := [.ref a2]) (rest := []) (c_loadKey l D K Z _ _ _ _ a1 a2 t18 t19 σ_38 G_38) gd_Guard_makeSession_loadKey_71 rfl rfl rfl (by decide +kernel) ⟨Nat.le_trans (by decide +kernel) hR.1, Nat.le_trans (by decide +kernel) hR.2⟩ t18 (cls_Cipher G_38 t18) rfl rfl rfl rfl (Nat.le_of_ble_eq_true rfl) dX5_makeSession_46 ⟨Nat.zero_le _, Nat.zero_le _⟩ (fun σ34 p35 => ?_)
    obtain ⟨G37, F38⟩ := p35
    have F39 := F_38.call F38 (by first | rfl | simp)
    have h40 := (F38 h _ t_h (by first | rfl | simp)).trans h17
    refine v_aload_n B dX5_makeSession_49 rfl rfl ?_
    refine u_get B Z (C := RX5) (T := TX5) (N := 16) (ci := 5) hi_Guard_makeSession_X5 t_h h40 rfl 0 (by decide +kernel) (List.mem_of_getElem? (i := 1) rfl) rfl dX5_makeSession_50 ?_
    refine v_aload_n B dX5_makeSession_53 rfl rfl ?_
    refine u_get B Z (C := RX5) (T := TX5) (N := 16) (ci := 5) hi_Guard_makeSession_X5 t_h h40 rfl 4 (by decide +kernel) (List.mem_of_getElem? (i := 10) rfl) rfl dX5_makeSession_54 ?_
    refine u_callVv B Z hz (n := 1) (As := [.ref a5]) (rest := []) (c_encipherP l D K Z _ _ _ _ a1 a5 t18 t22 σ34 G37) gd_Guard_makeSession_encipherP_77 rfl rfl rfl (by decide +kernel) ⟨Nat.le_trans (by decide +kernel) hR.1, Nat.le_trans (by decide +kernel) hR.2⟩ t18 (cls_Cipher G37 t18) rfl rfl rfl rfl (Nat.le_of_ble_eq_true rfl) dX5_makeSession_57 ⟨Nat.zero_le _, Nat.zero_le _⟩ (fun σ41 p42 => ?_)
    obtain ⟨G44, F45⟩ := p42
    have F46 := F39.call F45 (by first | rfl | simp)
    have h47 := (F45 h _ t_h (by first | rfl | simp)).trans h40
    refine v_aload_n B dX5_makeSession_60 rfl rfl ?_
    refine v_iconst B (v := iI 1) dX5_makeSession_61 rfl ?_
    refine u_put B Z (C := RX5) (T := TX5) (N := 16) (ci := 5) hi_Guard_makeSession_X5 t_h h47 rfl 6 (by decide +kernel) tyX5 tyX5_ok nmX5 (List.mem_of_getElem? (i := 16) rfl) rfl (ty := .boolean) (tyX5_ok 6 (by decide +kernel)) (nar01 (by omega)) (fit01 (by omega)) (Nat.le_of_ble_eq_true rfl) (fs' := [.ref a1, .ref a2, .int (iI z3), .ref a4, .ref a5, .ref a6, .int (iI 1), .int (iI z8), .int (iI z9), .int (iI z10), .int (iI z11), .int (iI z12), .int (iI z13), .int (iI z14), .ref a15, .ref a16]) rfl dX5_makeSession_62 (fun σ48 h49 n50 => ?_)
    have G51 := G44.put t_h (⟨a1, a2, z3, a4, a5, a6, 1, z8, z9, z10, z11, z12, z13, z14, a15, a16, h49, t18, t19, ⟨by omega, by omega⟩, t21, t22, t23, ⟨by omega, by omega⟩, ⟨by omega, by omega⟩, ⟨by omega, by omega⟩, ⟨by omega, by omega⟩, ⟨by omega, by omega⟩, ⟨by omega, by omega⟩, ⟨by omega, by omega⟩, ⟨by omega, by omega⟩, t32, t33⟩ : Ok K τ (35, 0, 0) (σ48 h)) n50
    have F52 := F46.put t_h (by simp) n50
    exact hend σ48 _ _ G51 F52 dX5_makeSession_65
  have J2 : ∀ (k2 : Nat) (σ_2 : Nat → va_E) (z2_1 : Int), (2147483648 - z2_1).toNat ≤ k2 → Good K τ σ_2 → Fr τ [(3, 42), (2, 31), (2, 32), (35, 0)] σ0 σ_2 → (0 ≤ z2_1 ∧ z2_1 ≤ 16) → V p l e R s m args below meth c 2 D A Q (0, 0) (fd dom σ_2) [(0, .ref h), (1, .int (iI z2_1))] 2 [] := by
    intro k2
    induction k2 with
    | zero => intro σ_2 z2_1 m2 G_2 F_2 r2_1; omega
    | succ k2 IH2 =>
      intro σ_2 z2_1 m2 G_2 F_2 r2_1
      refine v_iload_n B dX5_makeSession_2 rfl rfl ?_
      refine v_aload_n B dX5_makeSession_3 rfl rfl ?_
      obtain ⟨a53, a54, z55, a56, a57, a58, z59, z60, z61, z62, z63, z64, z65, z66, a67, a68, h69, t70, t71, r72, t73, t74, t75, r76, r77, r78, r79, r80, r81, r82, r83, t84, t85⟩ : okGuard τ (σ_2 h) := G_2 h _ t_h
      refine u_get B Z (C := RX5) (T := TX5) (N := 16) (ci := 5) hi_Guard_makeSession_X5 t_h h69 rfl 4 (by decide +kernel) (List.mem_of_getElem? (i := 10) rfl) rfl dX5_makeSession_4 ?_
      obtain ⟨f86, h87, r88⟩ : okP K 16 (σ_2 a57) := G_2 a57 _ t74
      refine u_alen B Z (t0 := 0) (v := 16) t74 h87 rfl (by first | rfl | omega) dX5_makeSession_7 ?_
      refine u_icmp_ge B (tgt := 38) (by omega) (by omega) dX5_makeSession_8 (by decide +kernel) (fun c89 => ?_) (fun c89 => ?_)
      · refine v_lv [0] rfl ?_
        exact J38 σ_2 G_2 F_2
      · refine v_iload_n B dX5_makeSession_11 rfl rfl ?_
        refine v_aload_n B dX5_makeSession_12 rfl rfl ?_
        refine u_get B Z (C := RX5) (T := TX5) (N := 16) (ci := 5) hi_Guard_makeSession_X5 t_h h69 rfl 3 (by decide +kernel) (List.mem_of_getElem? (i := 17) rfl) rfl dX5_makeSession_13 ?_
        obtain ⟨f90, h91, r92⟩ : okP K 16 (σ_2 a56) := G_2 a56 _ t73
        refine u_alen B Z (t0 := 0) (v := 16) t73 h91 rfl (by first | rfl | omega) dX5_makeSession_16 ?_
        refine u_icmp_ge B (tgt := 38) (by omega) (by omega) dX5_makeSession_17 (by decide +kernel) (fun c93 => by omega) (fun c93 => ?_)
        refine v_aload_n B dX5_makeSession_20 rfl rfl ?_
        refine u_get B Z (C := RX5) (T := TX5) (N := 16) (ci := 5) hi_Guard_makeSession_X5 t_h h69 rfl 4 (by decide +kernel) (List.mem_of_getElem? (i := 10) rfl) rfl dX5_makeSession_21 ?_
        refine v_iload_n B dX5_makeSession_24 rfl rfl ?_
        refine v_aload_n B dX5_makeSession_25 rfl rfl ?_
        refine u_get B Z (C := RX5) (T := TX5) (N := 16) (ci := 5) hi_Guard_makeSession_X5 t_h h69 rfl 3 (by decide +kernel) (List.mem_of_getElem? (i := 17) rfl) rfl dX5_makeSession_26 ?_
        refine v_iload_n B dX5_makeSession_29 rfl rfl ?_
        obtain ⟨z94, e95, r96⟩ := iI_any (f90 (z2_1 : Int).toNat)
        refine u_iald B Z (t0 := 0) t73 h91 rfl (by omega) e95 dX5_makeSession_30 ?_
        refine u_iast B Z (t0 := 0) t74 h87 rfl (by omega) dX5_makeSession_31 (fun σ97 h98 n99 => ?_)
        have G100 := G_2.put t74 (⟨_, h98, r88⟩ : Ok K τ (3, 42, 16) (σ97 a57)) n99
        have F101 := F_2.put t74 (by simp) n99
        have h102 := (n99 h (ne_ty t_h t74 (by simp))).trans h69
        have h103 := (n99 a56 (ne_ty t73 t74 (by simp))).trans h91
        refine v_iinc B (k := 1) (v := iI (z2_1 + 1)) (lv' := [(1, .int (iI (z2_1 + 1))), (0, .ref h)]) dX5_makeSession_32 rfl ((iI_add _ _).trans (congrArg iI (by omega))) (by decide +kernel) rfl ?_
        refine v_goto B (tgt := 2) dX5_makeSession_35 (by decide +kernel) ?_
        refine v_lv [1, 0] rfl ?_
        exact IH2 σ97 (z2_1 + 1) (by omega) G100 F101 ⟨by omega, by omega⟩
  refine v_iconst B (v := iI 0) dX5_makeSession_0 rfl ?_
  refine v_istore_n B (lv' := [(1, .int (iI 0)), (0, .ref h)]) dX5_makeSession_1 rfl (by decide +kernel) rfl ?_
  refine v_lv [1, 0] rfl ?_
  exact J2 _ σ0 0 (Nat.le_refl _) G0 F0 ⟨by omega, by omega⟩
set_option maxRecDepth 100000 in
theorem c_Guard_makeSession (l : Launch) (D : va_G) (K : Nat → ClassId) {τ : Nat → Option Ty} {dom : List Nat} (Z : Sk τ dom) (zb zL : Nat) (zx : Nat → Int32) (zs : Nat → Nat) (h : Nat) (t_h : τ h = some (35, 0, 0)) (σ0 : Nat → va_E) (G0 : Good K τ σ0) : MZ l yX5_makeSession wp_Guard_makeSession ({ frames := 1, cells := 0, slots := 0, locals := 26 }) D (tysA K) [.ref h] (fd dom σ0) zb zL zx zs (Qv D (fun σ' => Good K τ σ' ∧ Fr τ [(3, 42), (2, 31), (2, 32), (35, 0)] σ0 σ') (fun σ' => fd dom σ')) 0 0 := by
  refine mz_of (cc := cX5_makeSession) (maxL := 2) (ret := none) (by decide +kernel) rfl (Nat.le_of_ble_eq_true rfl) ?_
  intro p e s m below meth c A B hr hlk _ hz
  exact b_Guard_makeSession ⟨Nat.le_refl _, Nat.le_refl _⟩ B Z hz h t_h σ0 G0 (fun σ' lv pc G F hd => v_vret B hr hlk σ' ⟨G, F⟩ rfl (Nat.le_refl _) (Nat.le_refl _) hd)

def wp_Guard_fillNonce : List Cond := .code yX5_fillNonce cX5_fillNonce 8 none :: (([.fieldLink RX5 19 "LowEnergy$Guard" "iv" "[I", .constantLong RX5 102 (255)] : List Cond) ++ (wsX50 ++ ([])))
theorem hi_Guard_fillNonce_X5 : ∀ x ∈ u_ws RX5 TX5 16, x ∈ wp_Guard_fillNonce := fun _ h => List.mem_cons_of_mem _ (List.mem_append_right _ (List.mem_append_left _ h))
set_option maxHeartbeats 4000000 in
set_option maxRecDepth 100000 in
theorem b_Guard_fillNonce {p : Program} {l : Launch} {e : Env} {R : Room} {s : State} {m : MethodId} {args : Array Value} {below : List Frame} {meth : Method} {c : Code} {D : va_G} {K : Nat → ClassId} {A : Nat → Prop} {Q : State → Prop} {τ : Nat → Option Ty} {dom : List Nat} {zb zL : Nat} {zx : Nat → Int32} {zs : Nat → Nat} {π : Nat} (hR : 0 ≤ R.frames ∧ 0 ≤ R.locals) (B : Bx p s m args c cX5_fillNonce 8 RX5 wp_Guard_fillNonce D (tysA K) A) (Z : Sk τ dom) (hz : ZL zb zL zx zs A s s.heap) (h : Nat) (g : Nat) (x2 : Int) (x3 : Int) (y4 : Int) (x6 : Int) (t_h : τ h = some (35, 0, 0)) (t_g : τ g = some (3, π, 16)) (r_x2 : -2147483648 ≤ x2 ∧ x2 ≤ 2147483647) (r_x3 : -2147483648 ≤ x3 ∧ x3 ≤ 2147483647) (r_y4 : InL y4) (r_x6 : -2147483648 ≤ x6 ∧ x6 ≤ 2147483647) (σ0 : Nat → va_E) (G0 : Good K τ σ0) (hend : ∀ (σ' : Nat → va_E) (lv : List (Nat × Value)) (pc : Nat), Good K τ σ' → Fr τ [(3, π)] σ0 σ' → decode cX5_fillNonce pc = .ok (.return_, 1) → V p l e R s m args below meth c 8 D A Q (0, 0) (fd dom σ') lv pc []) : V p l e R s m args below meth c 8 D A Q (0, 0) (fd dom σ0) [(0, .ref h), (1, .ref g), (2, .int (iI x2)), (3, .int (iI x3)), (4, .long (lI y4)), (6, .int (iI x6))] 0 [] := by
  have F0 : Fr τ [(3, π)] σ0 σ0 := Fr.rf
  have J66 : ∀ (k66 : Nat) (σ_66 : Nat → va_E) (z66_7 : Int), (2147483648 - z66_7).toNat ≤ k66 → Good K τ σ_66 → Fr τ [(3, π)] σ0 σ_66 → (0 ≤ z66_7 ∧ z66_7 ≤ 8) → V p l e R s m args below meth c 8 D A Q (0, 0) (fd dom σ_66) [(0, .ref h), (1, .ref g), (3, .int (iI x3)), (7, .int (iI z66_7))] 66 [] := by
    intro k66
    induction k66 with
    | zero => intro σ_66 z66_7 m66 G_66 F_66 r66_7; omega
    | succ k66 IH66 =>
      intro σ_66 z66_7 m66 G_66 F_66 r66_7
      refine v_iload B dX5_fillNonce_66 rfl ?_
      refine v_bipush B (v := iI 8) dX5_fillNonce_68 (by decide +kernel) ?_
      refine u_icmp_ge B (tgt := 93) (by omega) (by omega) dX5_fillNonce_70 (by decide +kernel) (fun c1 => ?_) (fun c1 => ?_)
      · refine v_aload_n B dX5_fillNonce_93 rfl rfl ?_
        refine v_bipush B (v := iI 14) dX5_fillNonce_94 (by decide +kernel) ?_
        refine v_iconst B (v := iI 0) dX5_fillNonce_96 rfl ?_
        obtain ⟨f2, h3, r4⟩ : okP K 16 (σ_66 g) := G_66 g _ t_g
        refine u_iast B Z (t0 := 0) t_g h3 rfl (by omega) dX5_fillNonce_97 (fun σ5 h6 n7 => ?_)
        have G8 := G_66.put t_g (⟨_, h6, r4⟩ : Ok K τ (3, π, 16) (σ5 g)) n7
        have F9 := F_66.put t_g (by simp) n7
        refine v_aload_n B dX5_fillNonce_98 rfl rfl ?_
        refine v_bipush B (v := iI 15) dX5_fillNonce_99 (by decide +kernel) ?_
        refine v_iload_n B dX5_fillNonce_101 rfl rfl ?_
        obtain ⟨f10, h11, r12⟩ : okP K 16 (σ5 g) := G8 g _ t_g
        refine u_iast B Z (t0 := 0) t_g h11 rfl (by omega) dX5_fillNonce_102 (fun σ13 h14 n15 => ?_)
        have G16 := G8.put t_g (⟨_, h14, r12⟩ : Ok K τ (3, π, 16) (σ13 g)) n15
        have F17 := F9.put t_g (by simp) n15
        exact hend σ13 _ _ G16 F17 dX5_fillNonce_103
      · refine v_aload_n B dX5_fillNonce_73 rfl rfl ?_
        refine v_bipush B (v := iI 6) dX5_fillNonce_74 (by decide +kernel) ?_
        refine v_iload B dX5_fillNonce_76 rfl ?_
        refine v_iadd B (v := iI (z66_7 + 6)) dX5_fillNonce_78 ((iI_add _ _).trans (congrArg iI (by omega))) ?_
        refine v_aload_n B dX5_fillNonce_79 rfl rfl ?_
        obtain ⟨a18, a19, z20, a21, a22, a23, z24, z25, z26, z27, z28, z29, z30, z31, a32, a33, h34, t35, t36, r37, t38, t39, t40, r41, r42, r43, r44, r45, r46, r47, r48, t49, t50⟩ : okGuard τ (σ_66 h) := G_66 h _ t_h
        refine u_get B Z (C := RX5) (T := TX5) (N := 16) (ci := 5) hi_Guard_fillNonce_X5 t_h h34 rfl 5 (by decide +kernel) (List.mem_of_getElem? (i := 1) rfl) rfl dX5_fillNonce_80 ?_
        refine v_iload B dX5_fillNonce_83 rfl ?_
        obtain ⟨f51, h52, r53⟩ : okP K 8 (σ_66 a23) := G_66 a23 _ t40
        obtain ⟨z54, e55, r56⟩ := iI_any (f51 (z66_7 : Int).toNat)
        refine u_iald B Z (t0 := 0) t40 h52 rfl (by omega) e55 dX5_fillNonce_85 ?_
        obtain ⟨f57, h58, r59⟩ : okP K 16 (σ_66 g) := G_66 g _ t_g
        refine u_iast B Z (t0 := 0) t_g h58 rfl (by omega) dX5_fillNonce_86 (fun σ60 h61 n62 => ?_)
        have G63 := G_66.put t_g (⟨_, h61, r59⟩ : Ok K τ (3, π, 16) (σ60 g)) n62
        have F64 := F_66.put t_g (by simp) n62
        have h65 := (n62 h (ne_ty t_h t_g (by simp))).trans h34
        refine v_iinc B (k := 3) (v := iI (z66_7 + 1)) (lv' := [(7, .int (iI (z66_7 + 1))), (0, .ref h), (1, .ref g), (3, .int (iI x3))]) dX5_fillNonce_87 rfl ((iI_add _ _).trans (congrArg iI (by omega))) (by decide +kernel) rfl ?_
        refine v_goto B (tgt := 66) dX5_fillNonce_90 (by decide +kernel) ?_
        refine v_lv [1, 2, 3, 0] rfl ?_
        exact IH66 σ60 (z66_7 + 1) (by omega) G63 F64 ⟨by omega, by omega⟩
  have J15 : ∀ (k15 : Nat) (σ_15 : Nat → va_E) (z15_7 : Int), (2147483648 - z15_7).toNat ≤ k15 → Good K τ σ_15 → Fr τ [(3, π)] σ0 σ_15 → (0 ≤ z15_7 ∧ z15_7 ≤ 5) → V p l e R s m args below meth c 8 D A Q (0, 0) (fd dom σ_15) [(0, .ref h), (1, .ref g), (3, .int (iI x3)), (4, .long (lI y4)), (6, .int (iI x6)), (7, .int (iI z15_7))] 15 [] := by
    intro k15
    induction k15 with
    | zero => intro σ_15 z15_7 m15 G_15 F_15 r15_7; omega
    | succ k15 IH15 =>
      intro σ_15 z15_7 m15 G_15 F_15 r15_7
      refine v_iload B dX5_fillNonce_15 rfl ?_
      refine v_iconst B (v := iI 5) dX5_fillNonce_17 rfl ?_
      refine u_icmp_ge B (tgt := 46) (by omega) (by omega) dX5_fillNonce_18 (by decide +kernel) (fun c66 => ?_) (fun c66 => ?_)
      · refine v_aload_n B dX5_fillNonce_46 rfl rfl ?_
        refine v_iconst B (v := iI 5) dX5_fillNonce_47 rfl ?_
        refine v_aload_n B dX5_fillNonce_48 rfl rfl ?_
        refine v_iconst B (v := iI 5) dX5_fillNonce_49 rfl ?_
        obtain ⟨f67, h68, r69⟩ : okP K 16 (σ_15 g) := G_15 g _ t_g
        obtain ⟨z70, e71, r72⟩ := iI_any (f67 (5 : Int).toNat)
        refine u_iald B Z (t0 := 0) t_g h68 rfl (by omega) e71 dX5_fillNonce_50 ?_
        refine v_sipush B (v := iI 128) dX5_fillNonce_51 (by decide +kernel) ?_
        refine v_iload B dX5_fillNonce_54 rfl ?_
        obtain ⟨z73, e74, r75⟩ := iI_any (iI 128 * iI x6)
        refine v_imul B (v := iI z73) dX5_fillNonce_56 e74 ?_
        obtain ⟨z76, e77, r78⟩ := iI_any (iI z70 + iI z73)
        refine v_iadd B (v := iI z76) dX5_fillNonce_57 e77 ?_
        refine v_sipush B (v := iI 255) dX5_fillNonce_58 (by decide +kernel) ?_
        obtain ⟨z79, e80, r81⟩ := iI_and z76 (c := 255) (by decide) (by decide)
        refine v_iand B (v := iI z79) dX5_fillNonce_61 e80 ?_
        refine u_iast B Z (t0 := 0) t_g h68 rfl (by omega) dX5_fillNonce_62 (fun σ82 h83 n84 => ?_)
        have G85 := G_15.put t_g (⟨_, h83, r69⟩ : Ok K τ (3, π, 16) (σ82 g)) n84
        have F86 := F_15.put t_g (by simp) n84
        refine v_iconst B (v := iI 0) dX5_fillNonce_63 rfl ?_
        refine v_istore B (lv' := [(7, .int (iI 0)), (0, .ref h), (1, .ref g), (3, .int (iI x3)), (4, .long (lI y4)), (6, .int (iI x6))]) dX5_fillNonce_64 (by decide +kernel) rfl ?_
        refine v_lv [1, 2, 3, 0] rfl ?_
        exact J66 _ σ82 0 (Nat.le_refl _) G85 F86 ⟨by omega, by omega⟩
      · refine v_aload_n B dX5_fillNonce_21 rfl rfl ?_
        refine v_iconst B (v := iI 1) dX5_fillNonce_22 rfl ?_
        refine v_iload B dX5_fillNonce_23 rfl ?_
        refine v_iadd B (v := iI (z15_7 + 1)) dX5_fillNonce_25 ((iI_add _ _).trans (congrArg iI (by omega))) ?_
        refine v_lload B dX5_fillNonce_26 rfl ?_
        refine v_bipush B (v := iI 8) dX5_fillNonce_28 (by decide +kernel) ?_
        refine v_iload B dX5_fillNonce_30 rfl ?_
        refine v_imul B (v := iI (8 * z15_7)) dX5_fillNonce_32 ((iI_mul _ _).trans (congrArg iI (by omega))) ?_
        obtain ⟨yy87, e88, r89⟩ := lI_any (((lI y4).toUInt64 >>> ((iI (8 * z15_7)).toInt64.toUInt64 &&& Int64.toUInt64 63)).toInt64)
        refine v_lushr B (v := lI yy87) dX5_fillNonce_33 e88 ?_
        refine v_ldc2 B (v := lI 255) (u_cl (List.mem_of_getElem? (i := 2) rfl) (by decide +kernel)) dX5_fillNonce_34 ?_
        obtain ⟨yy90, e91, r92⟩ := lI_and yy87 (c := 255) (by decide) (by decide)
        refine v_land B (v := lI yy90) dX5_fillNonce_37 e91 ?_
        refine v_l2i B (v := iI yy90) dX5_fillNonce_38 (iI_l (by omega)) ?_
        obtain ⟨f93, h94, r95⟩ : okP K 16 (σ_15 g) := G_15 g _ t_g
        refine u_iast B Z (t0 := 0) t_g h94 rfl (by omega) dX5_fillNonce_39 (fun σ96 h97 n98 => ?_)
        have G99 := G_15.put t_g (⟨_, h97, r95⟩ : Ok K τ (3, π, 16) (σ96 g)) n98
        have F100 := F_15.put t_g (by simp) n98
        refine v_iinc B (k := 5) (v := iI (z15_7 + 1)) (lv' := [(7, .int (iI (z15_7 + 1))), (0, .ref h), (1, .ref g), (3, .int (iI x3)), (4, .long (lI y4)), (6, .int (iI x6))]) dX5_fillNonce_40 rfl ((iI_add _ _).trans (congrArg iI (by omega))) (by decide +kernel) rfl ?_
        refine v_goto B (tgt := 15) dX5_fillNonce_43 (by decide +kernel) ?_
        refine v_lv [1, 2, 3, 4, 5, 0] rfl ?_
        exact IH15 σ96 (z15_7 + 1) (by omega) G99 F100 ⟨by omega, by omega⟩
  refine v_aload_n B dX5_fillNonce_0 rfl rfl ?_
  obtain ⟨f101, h102, r103⟩ : okP K 16 (σ0 g) := G0 g _ t_g
  refine u_alen B Z (t0 := 0) (v := 16) t_g h102 rfl (by first | rfl | omega) dX5_fillNonce_1 ?_
  refine v_bipush B (v := iI 16) dX5_fillNonce_2 (by decide +kernel) ?_
  refine u_icmp_ge B (tgt := 8) (by omega) (by omega) dX5_fillNonce_4 (by decide +kernel) (fun c104 => ?_) (fun c104 => by omega)
  refine v_aload_n B dX5_fillNonce_8 rfl rfl ?_
  refine v_iconst B (v := iI 0) dX5_fillNonce_9 rfl ?_
  refine v_iload_n B dX5_fillNonce_10 rfl rfl ?_
  refine u_iast B Z (t0 := 0) t_g h102 rfl (by omega) dX5_fillNonce_11 (fun σ105 h106 n107 => ?_)
  have G108 := G0.put t_g (⟨_, h106, r103⟩ : Ok K τ (3, π, 16) (σ105 g)) n107
  have F109 := F0.put t_g (by simp) n107
  refine v_iconst B (v := iI 0) dX5_fillNonce_12 rfl ?_
  refine v_istore B (lv' := [(7, .int (iI 0)), (0, .ref h), (1, .ref g), (2, .int (iI x2)), (3, .int (iI x3)), (4, .long (lI y4)), (6, .int (iI x6))]) dX5_fillNonce_13 (by decide +kernel) rfl ?_
  refine v_lv [1, 2, 4, 5, 6, 0] rfl ?_
  exact J15 _ σ105 0 (Nat.le_refl _) G108 F109 ⟨by omega, by omega⟩
set_option maxRecDepth 100000 in
theorem c_Guard_fillNonce (l : Launch) (D : va_G) (K : Nat → ClassId) {τ : Nat → Option Ty} {dom : List Nat} (Z : Sk τ dom) (zb zL : Nat) (zx : Nat → Int32) (zs : Nat → Nat) {π : Nat} (h : Nat) (g : Nat) (x2 : Int) (x3 : Int) (y4 : Int) (x6 : Int) (t_h : τ h = some (35, 0, 0)) (t_g : τ g = some (3, π, 16)) (r_x2 : -2147483648 ≤ x2 ∧ x2 ≤ 2147483647) (r_x3 : -2147483648 ≤ x3 ∧ x3 ≤ 2147483647) (r_y4 : InL y4) (r_x6 : -2147483648 ≤ x6 ∧ x6 ≤ 2147483647) (σ0 : Nat → va_E) (G0 : Good K τ σ0) : MZ l yX5_fillNonce wp_Guard_fillNonce ({ frames := 0, cells := 0, slots := 0, locals := 0 }) D (tysA K) [.ref h, .ref g, .int (iI x2), .int (iI x3), .long (lI y4), .int (iI x6)] (fd dom σ0) zb zL zx zs (Qv D (fun σ' => Good K τ σ' ∧ Fr τ [(3, π)] σ0 σ') (fun σ' => fd dom σ')) 0 0 := by
  refine mz_of (cc := cX5_fillNonce) (maxL := 8) (ret := none) (by decide +kernel) rfl (Nat.le_of_ble_eq_true rfl) ?_
  intro p e s m below meth c A B hr hlk _ hz
  exact b_Guard_fillNonce ⟨Nat.le_refl _, Nat.le_refl _⟩ B Z hz h g x2 x3 y4 x6 t_h t_g r_x2 r_x3 r_y4 r_x6 σ0 G0 (fun σ' lv pc G F hd => v_vret B hr hlk σ' ⟨G, F⟩ rfl (Nat.le_refl _) (Nat.le_refl _) hd)

def wp_Guard_findMac : List Cond := .code yX5_findMac cX5_findMac 8 none :: (([.fieldLink RX5 28 "LowEnergy$Guard" "cipher" "LLowEnergy$Cipher;", .fieldLink RX5 22 "LowEnergy$Guard" "mac" "[I", .methodLink RX5 77 yX1_encipher, .instanceMethod yX1_encipher, .selects RX1 yX1_encipher yX1_encipher, .initialized RX1, .code yX1_encipher cX1_encipher 7 none, .fieldLink RX1 9 "LowEnergy$Cipher" "roundKeys" "[I", .fieldLink RX1 13 "LowEnergy$Cipher" "moved" "[I", .fieldLink RX1 16 "LowEnergy$Cipher" "SBOX" "[I", .methodLink RX5 67 yX9_at, .instanceMethod yX9_at, .selects RX9 yX9_at yX9_at, .initialized RX9, .code yX9_at cX9_at 2 (some .int), .fieldLink RX9 21 "LowEnergy$Row" "size" "I", .fieldLink RX9 15 "LowEnergy$Row" "bytes" "[I", .methodLink RX5 94 yX5_fillNonce, .instanceMethod yX5_fillNonce, .selects RX5 yX5_fillNonce yX5_fillNonce, .initialized RX5, .code yX5_fillNonce cX5_fillNonce 8 none, .fieldLink RX5 19 "LowEnergy$Guard" "iv" "[I", .constantLong RX5 102 (255)] : List Cond) ++ (wsX50 ++ (wsX10 ++ (wsX90 ++ ([])))))
theorem hi_Guard_findMac_X5 : ∀ x ∈ u_ws RX5 TX5 16, x ∈ wp_Guard_findMac := fun _ h => List.mem_cons_of_mem _ (List.mem_append_right _ (List.mem_append_left _ h))
theorem hi_Guard_findMac_X1 : ∀ x ∈ u_ws RX1 TX1 2, x ∈ wp_Guard_findMac := fun _ h => List.mem_cons_of_mem _ (List.mem_append_right _ (List.mem_append_right _ (List.mem_append_left _ h)))
theorem hi_Guard_findMac_X9 : ∀ x ∈ u_ws RX9 TX9 2, x ∈ wp_Guard_findMac := fun _ h => List.mem_cons_of_mem _ (List.mem_append_right _ (List.mem_append_right _ (List.mem_append_right _ (List.mem_append_left _ h))))
set_option maxRecDepth 100000 in
theorem gd_Guard_findMac_encipherP_77 : GoodIn wp_Guard_findMac (wsV RX5 77 RX1 yX1_encipher wp_encipherP) := goodIn_app (goodIn_r _ [3, 4, 5, 6] rfl rfl) (goodIn_ca (goodIn_r _ [7, 8, 9, 10] rfl rfl) (goodIn_app (goodIn_cls hi_Guard_findMac_X1 gw_X1) (goodIn_nil)))
set_option maxRecDepth 100000 in
theorem gd_Guard_findMac_Row_at_67 : GoodIn wp_Guard_findMac (wsV RX5 67 RX9 yX9_at wp_Row_at) := goodIn_app (goodIn_r _ [11, 12, 13, 14] rfl rfl) (goodIn_ca (goodIn_r _ [15, 16, 17] rfl rfl) (goodIn_app (goodIn_cls hi_Guard_findMac_X9 gw_X9) (goodIn_nil)))
set_option maxRecDepth 100000 in
theorem gd_Guard_findMac_Guard_fillNonce_94 : GoodIn wp_Guard_findMac (wsV RX5 94 RX5 yX5_fillNonce wp_Guard_fillNonce) := goodIn_app (goodIn_r _ [18, 19, 20, 21] rfl rfl) (goodIn_ca (goodIn_r _ [22, 23, 24] rfl rfl) (goodIn_app (goodIn_cls hi_Guard_findMac_X5 gw_X5) (goodIn_nil)))
set_option maxHeartbeats 4000000 in
set_option maxRecDepth 100000 in
theorem b_Guard_findMac {p : Program} {l : Launch} {e : Env} {R : Room} {s : State} {m : MethodId} {args : Array Value} {below : List Frame} {meth : Method} {c : Code} {D : va_G} {K : Nat → ClassId} {A : Nat → Prop} {Q : State → Prop} {τ : Nat → Option Ty} {dom : List Nat} {zb zL : Nat} {zx : Nat → Int32} {zs : Nat → Nat} {π : Nat} (hR : 1 ≤ R.frames ∧ 27 ≤ R.locals) (B : Bx p s m args c cX5_findMac 8 RX5 wp_Guard_findMac D (tysA K) A) (Z : Sk τ dom) (hz : ZL zb zL zx zs A s s.heap) (h : Nat) (x1 : Int) (g : Nat) (x3 : Int) (y4 : Int) (x6 : Int) (t_h : τ h = some (35, 0, 0)) (r_x1 : -2147483648 ≤ x1 ∧ x1 ≤ 2147483647) (t_g : τ g = some (1, π, 0)) (r_x3 : -2147483648 ≤ x3 ∧ x3 ≤ 2147483647) (r_y4 : InL y4) (r_x6 : -2147483648 ≤ x6 ∧ x6 ≤ 2147483647) (σ0 : Nat → va_E) (G0 : Good K τ σ0) (hend : ∀ (σ' : Nat → va_E) (lv : List (Nat × Value)) (pc : Nat), Good K τ σ' → Fr τ [(3, 44), (2, 32)] σ0 σ' → decode cX5_findMac pc = .ok (.return_, 1) → V p l e R s m args below meth c 8 D A Q (0, 0) (fd dom σ') lv pc []) : V p l e R s m args below meth c 8 D A Q (0, 0) (fd dom σ0) [(0, .ref h), (1, .int (iI x1)), (2, .ref g), (3, .int (iI x3)), (4, .long (lI y4)), (6, .int (iI x6))] 0 [] := by
  have F0 : Fr τ [(3, 44), (2, 32)] σ0 σ0 := Fr.rf
  have J64 : ∀ (k64 : Nat) (σ_64 : Nat → va_E) (z64_7 : Int), (2147483648 - z64_7).toNat ≤ k64 → Good K τ σ_64 → Fr τ [(3, 44), (2, 32)] σ0 σ_64 → (0 ≤ z64_7 ∧ z64_7 ≤ 2147483647) → V p l e R s m args below meth c 8 D A Q (0, 0) (fd dom σ_64) [(0, .ref h), (2, .ref g), (3, .int (iI x3)), (7, .int (iI z64_7))] 64 [] := by
    intro k64
    induction k64 with
    | zero => intro σ_64 z64_7 m64 G_64 F_64 r64_7; omega
    | succ k64 IH64 =>
      intro σ_64 z64_7 m64 G_64 F_64 r64_7
      have J122 : ∀ (σ_122 : Nat → va_E), Good K τ σ_122 → Fr τ [(3, 44), (2, 32)] σ0 σ_122 → (1 ≤ x3 ∧ x3 ≤ 2147483647) → (0 ≤ z64_7 ∧ z64_7 ≤ 2147483646) → V p l e R s m args below meth c 8 D A Q (0, 0) (fd dom σ_122) [(0, .ref h), (2, .ref g), (3, .int (iI x3)), (7, .int (iI z64_7))] 122 [] := by
        intro σ_122 G_122 F_122 r122_3 r122_7
        refine v_iinc B (k := 3) (v := iI (z64_7 + 1)) (lv' := [(7, .int (iI (z64_7 + 1))), (0, .ref h), (2, .ref g), (3, .int (iI x3))]) dX5_findMac_122 rfl ((iI_add _ _).trans (congrArg iI (by omega))) (by decide +kernel) rfl ?_
        refine v_goto B (tgt := 64) dX5_findMac_125 (by decide +kernel) ?_
        refine v_lv [1, 2, 3, 0] rfl ?_
        exact IH64 σ_122 (z64_7 + 1) (by omega) G_122 F_122 ⟨by omega, by omega⟩
      have J111 : ∀ (σ_111 : Nat → va_E), Good K τ σ_111 → Fr τ [(3, 44), (2, 32)] σ0 σ_111 → (1 ≤ x3 ∧ x3 ≤ 2147483647) → (0 ≤ z64_7 ∧ z64_7 ≤ 2147483646) → V p l e R s m args below meth c 8 D A Q (0, 0) (fd dom σ_111) [(0, .ref h), (2, .ref g), (3, .int (iI x3)), (7, .int (iI z64_7))] 111 [] := by
        intro σ_111 G_111 F_111 r111_3 r111_7
        refine v_aload_n B dX5_findMac_111 rfl rfl ?_
        obtain ⟨a1, a2, z3, a4, a5, a6, z7, z8, z9, z10, z11, z12, z13, z14, a15, a16, h17, t18, t19, r20, t21, t22, t23, r24, r25, r26, r27, r28, r29, r30, r31, t32, t33⟩ : okGuard τ (σ_111 h) := G_111 h _ t_h
        refine u_get B Z (C := RX5) (T := TX5) (N := 16) (ci := 5) hi_Guard_findMac_X5 t_h h17 rfl 0 (by decide +kernel) (List.mem_of_getElem? (i := 1) rfl) rfl dX5_findMac_112 ?_
        refine v_aload_n B dX5_findMac_115 rfl rfl ?_
        refine u_get B Z (C := RX5) (T := TX5) (N := 16) (ci := 5) hi_Guard_findMac_X5 t_h h17 rfl 14 (by decide +kernel) (List.mem_of_getElem? (i := 2) rfl) rfl dX5_findMac_116 ?_
        refine u_callVv B Z hz (n := 1) (As := [.ref a15]) (rest := []) (c_encipherP l D K Z _ _ _ _ a1 a15 t18 t32 σ_111 G_111) gd_Guard_findMac_encipherP_77 rfl rfl rfl (by decide +kernel) ⟨Nat.le_trans (by decide +kernel) hR.1, Nat.le_trans (by decide +kernel) hR.2⟩ t18 (cls_Cipher G_111 t18) rfl rfl rfl rfl (Nat.le_of_ble_eq_true rfl) dX5_findMac_119 ⟨Nat.zero_le _, Nat.zero_le _⟩ (fun σ34 p35 => ?_)
        obtain ⟨G37, F38⟩ := p35
        have F39 := F_111.call F38 (by first | rfl | simp)
        have h40 := (F38 h _ t_h (by first | rfl | simp)).trans h17
        exact J122 σ34 G37 F39 ⟨by omega, by omega⟩ ⟨by omega, by omega⟩
      refine v_iload B dX5_findMac_64 rfl ?_
      refine v_iload_n B dX5_findMac_66 rfl rfl ?_
      refine u_icmp_ge B (tgt := 128) (by omega) (by omega) dX5_findMac_67 (by decide +kernel) (fun c41 => ?_) (fun c41 => ?_)
      · exact hend σ_64 _ _ G_64 F_64 dX5_findMac_128
      · refine v_aload_n B dX5_findMac_70 rfl rfl ?_
        obtain ⟨a42, a43, z44, a45, a46, a47, z48, z49, z50, z51, z52, z53, z54, z55, a56, a57, h58, t59, t60, r61, t62, t63, t64, r65, r66, r67, r68, r69, r70, r71, r72, t73, t74⟩ : okGuard τ (σ_64 h) := G_64 h _ t_h
        refine u_get B Z (C := RX5) (T := TX5) (N := 16) (ci := 5) hi_Guard_findMac_X5 t_h h58 rfl 14 (by decide +kernel) (List.mem_of_getElem? (i := 2) rfl) rfl dX5_findMac_71 ?_
        refine v_iload B dX5_findMac_74 rfl ?_
        refine v_bipush B (v := iI 15) dX5_findMac_76 (by decide +kernel) ?_
        obtain ⟨z75, e76, r77⟩ := iI_and z64_7 (c := 15) (by decide) (by decide)
        refine v_iand B (v := iI z75) dX5_findMac_78 e76 ?_
        refine v_dup2 B dX5_findMac_79 rfl rfl ?_
        obtain ⟨f78, h79, r80⟩ : okP K 16 (σ_64 a56) := G_64 a56 _ t73
        obtain ⟨z81, e82, r83⟩ := iI_any (f78 (z75 : Int).toNat)
        refine u_iald B Z (t0 := 0) t73 h79 rfl (by omega) e82 dX5_findMac_80 ?_
        refine v_aload_n B dX5_findMac_81 rfl rfl ?_
        refine v_iload B dX5_findMac_82 rfl ?_
        refine u_callVi B Z hz (n := 1) (As := [.int (iI z64_7)]) (rest := [.int (iI z81), .int (iI z75), .ref a56]) (c_Row_at l D K Z _ _ _ _ g z64_7 t_g ⟨by omega, by omega⟩ σ_64 G_64) gd_Guard_findMac_Row_at_67 rfl rfl rfl (by decide +kernel) ⟨Nat.le_trans (by decide +kernel) hR.1, Nat.le_trans (by decide +kernel) hR.2⟩ t_g (cls_Row G_64 t_g) rfl rfl rfl rfl (Nat.le_of_ble_eq_true rfl) dX5_findMac_84 ⟨Nat.zero_le _, Nat.zero_le _⟩ (fun v86 σ84 p85 => ?_)
        obtain ⟨rfl, z90, e91, r92⟩ := p85
        subst e91
        refine v_sipush B (v := iI 255) dX5_findMac_87 (by decide +kernel) ?_
        obtain ⟨z93, e94, r95⟩ := iI_and z90 (c := 255) (by decide) (by decide)
        refine v_iand B (v := iI z93) dX5_findMac_90 e94 ?_
        obtain ⟨z96, e97, r98⟩ := iI_any (iI z81 ^^^ iI z93)
        refine v_ixor B (v := iI z96) dX5_findMac_91 e97 ?_
        refine u_iast B Z (t0 := 0) t73 h79 rfl (by omega) dX5_findMac_92 (fun σ99 h100 n101 => ?_)
        have G102 := G_64.put t73 (⟨_, h100, r80⟩ : Ok K τ (3, 44, 16) (σ99 a56)) n101
        have F103 := F_64.put t73 (by simp) n101
        have h104 := (n101 h (ne_ty t_h t73 (by simp))).trans h58
        refine v_iload B dX5_findMac_93 rfl ?_
        refine v_bipush B (v := iI 15) dX5_findMac_95 (by decide +kernel) ?_
        obtain ⟨z105, e106, r107⟩ := iI_and z64_7 (c := 15) (by decide) (by decide)
        refine v_iand B (v := iI z105) dX5_findMac_97 e106 ?_
        refine v_bipush B (v := iI 15) dX5_findMac_98 (by decide +kernel) ?_
        refine u_icmp_eq B (tgt := 111) (by omega) (by omega) dX5_findMac_100 (by decide +kernel) (fun c108 => ?_) (fun c108 => ?_)
        · exact J111 σ99 G102 F103 ⟨by omega, by omega⟩ ⟨by omega, by omega⟩
        · refine v_iload B dX5_findMac_103 rfl ?_
          refine v_iload_n B dX5_findMac_105 rfl rfl ?_
          refine v_iconst B (v := iI 1) dX5_findMac_106 rfl ?_
          refine v_isub B (v := iI (x3 + (-1))) dX5_findMac_107 ((iI_sub _ _).trans (congrArg iI (by omega))) ?_
          refine u_icmp_ne B (tgt := 122) (by omega) (by omega) dX5_findMac_108 (by decide +kernel) (fun c109 => ?_) (fun c109 => ?_)
          · exact J122 σ99 G102 F103 ⟨by omega, by omega⟩ ⟨by omega, by omega⟩
          · exact J111 σ99 G102 F103 ⟨by omega, by omega⟩ ⟨by omega, by omega⟩
  refine v_aload_n B dX5_findMac_0 rfl rfl ?_
  refine v_aload_n B dX5_findMac_1 rfl rfl ?_
  obtain ⟨a110, a111, z112, a113, a114, a115, z116, z117, z118, z119, z120, z121, z122, z123, a124, a125, h126, t127, t128, r129, t130, t131, t132, r133, r134, r135, r136, r137, r138, r139, r140, t141, t142⟩ : okGuard τ (σ0 h) := G0 h _ t_h
  refine u_get B Z (C := RX5) (T := TX5) (N := 16) (ci := 5) hi_Guard_findMac_X5 t_h h126 rfl 14 (by decide +kernel) (List.mem_of_getElem? (i := 2) rfl) rfl dX5_findMac_2 ?_
  refine v_bipush B (v := iI 73) dX5_findMac_5 (by decide +kernel) ?_
  refine v_iload_n B dX5_findMac_7 rfl rfl ?_
  refine v_lload B dX5_findMac_8 rfl ?_
  refine v_iload B dX5_findMac_10 rfl ?_
  refine u_callVv B Z hz (n := 5) (As := [.ref a124, .int (iI 73), .int (iI x3), .long (lI y4), .int (iI x6)]) (rest := []) (c_Guard_fillNonce l D K Z _ _ _ _ h a124 73 x3 y4 x6 t_h t141 ⟨by omega, by omega⟩ ⟨by omega, by omega⟩ ⟨by omega, by omega⟩ ⟨by omega, by omega⟩ σ0 G0) gd_Guard_findMac_Guard_fillNonce_94 rfl rfl rfl (by decide +kernel) ⟨Nat.le_trans (by decide +kernel) hR.1, Nat.le_trans (by decide +kernel) hR.2⟩ t_h (cls_Guard G0 t_h) rfl rfl rfl rfl (Nat.le_of_ble_eq_true rfl) dX5_findMac_12 ⟨Nat.zero_le _, Nat.zero_le _⟩ (fun σ143 p144 => ?_)
  obtain ⟨G146, F147⟩ := p144
  have F148 := F0.call F147 (by first | rfl | simp)
  have h149 := (F147 h _ t_h (by first | rfl | simp)).trans h126
  refine v_aload_n B dX5_findMac_15 rfl rfl ?_
  refine u_get B Z (C := RX5) (T := TX5) (N := 16) (ci := 5) hi_Guard_findMac_X5 t_h h149 rfl 0 (by decide +kernel) (List.mem_of_getElem? (i := 1) rfl) rfl dX5_findMac_16 ?_
  refine v_aload_n B dX5_findMac_19 rfl rfl ?_
  refine u_get B Z (C := RX5) (T := TX5) (N := 16) (ci := 5) hi_Guard_findMac_X5 t_h h149 rfl 14 (by decide +kernel) (List.mem_of_getElem? (i := 2) rfl) rfl dX5_findMac_20 ?_
  refine u_callVv B Z hz (n := 1) (As := [.ref a124]) (rest := []) (c_encipherP l D K Z _ _ _ _ a110 a124 t127 t141 σ143 G146) gd_Guard_findMac_encipherP_77 rfl rfl rfl (by decide +kernel) ⟨Nat.le_trans (by decide +kernel) hR.1, Nat.le_trans (by decide +kernel) hR.2⟩ t127 (cls_Cipher G146 t127) rfl rfl rfl rfl (Nat.le_of_ble_eq_true rfl) dX5_findMac_23 ⟨Nat.zero_le _, Nat.zero_le _⟩ (fun σ150 p151 => ?_)
  obtain ⟨G153, F154⟩ := p151
  have F155 := F148.call F154 (by first | rfl | simp)
  have h156 := (F154 h _ t_h (by first | rfl | simp)).trans h149
  refine v_aload_n B dX5_findMac_26 rfl rfl ?_
  refine u_get B Z (C := RX5) (T := TX5) (N := 16) (ci := 5) hi_Guard_findMac_X5 t_h h156 rfl 14 (by decide +kernel) (List.mem_of_getElem? (i := 2) rfl) rfl dX5_findMac_27 ?_
  refine v_iconst B (v := iI 1) dX5_findMac_30 rfl ?_
  refine v_dup2 B dX5_findMac_31 rfl rfl ?_
  obtain ⟨f157, h158, r159⟩ : okP K 16 (σ150 a124) := G153 a124 _ t141
  obtain ⟨z160, e161, r162⟩ := iI_any (f157 (1 : Int).toNat)
  refine u_iald B Z (t0 := 0) t141 h158 rfl (by omega) e161 dX5_findMac_32 ?_
  refine v_iconst B (v := iI 1) dX5_findMac_33 rfl ?_
  obtain ⟨z163, e164, r165⟩ := iI_any (iI z160 ^^^ iI 1)
  refine v_ixor B (v := iI z163) dX5_findMac_34 e164 ?_
  refine u_iast B Z (t0 := 0) t141 h158 rfl (by omega) dX5_findMac_35 (fun σ166 h167 n168 => ?_)
  have G169 := G153.put t141 (⟨_, h167, r159⟩ : Ok K τ (3, 44, 16) (σ166 a124)) n168
  have F170 := F155.put t141 (by simp) n168
  have h171 := (n168 h (ne_ty t_h t141 (by simp))).trans h156
  refine v_aload_n B dX5_findMac_36 rfl rfl ?_
  refine u_get B Z (C := RX5) (T := TX5) (N := 16) (ci := 5) hi_Guard_findMac_X5 t_h h171 rfl 14 (by decide +kernel) (List.mem_of_getElem? (i := 2) rfl) rfl dX5_findMac_37 ?_
  refine v_iconst B (v := iI 2) dX5_findMac_40 rfl ?_
  refine v_dup2 B dX5_findMac_41 rfl rfl ?_
  obtain ⟨f172, h173, r174⟩ : okP K 16 (σ166 a124) := G169 a124 _ t141
  obtain ⟨z175, e176, r177⟩ := iI_any (f172 (2 : Int).toNat)
  refine u_iald B Z (t0 := 0) t141 h173 rfl (by omega) e176 dX5_findMac_42 ?_
  refine v_iload_n B dX5_findMac_43 rfl rfl ?_
  refine v_sipush B (v := iI 227) dX5_findMac_44 (by decide +kernel) ?_
  obtain ⟨z178, e179, r180⟩ := iI_and x1 (c := 227) (by decide) (by decide)
  refine v_iand B (v := iI z178) dX5_findMac_47 e179 ?_
  obtain ⟨z181, e182, r183⟩ := iI_any (iI z175 ^^^ iI z178)
  refine v_ixor B (v := iI z181) dX5_findMac_48 e182 ?_
  refine u_iast B Z (t0 := 0) t141 h173 rfl (by omega) dX5_findMac_49 (fun σ184 h185 n186 => ?_)
  have G187 := G169.put t141 (⟨_, h185, r174⟩ : Ok K τ (3, 44, 16) (σ184 a124)) n186
  have F188 := F170.put t141 (by simp) n186
  have h189 := (n186 h (ne_ty t_h t141 (by simp))).trans h171
  refine v_aload_n B dX5_findMac_50 rfl rfl ?_
  refine u_get B Z (C := RX5) (T := TX5) (N := 16) (ci := 5) hi_Guard_findMac_X5 t_h h189 rfl 0 (by decide +kernel) (List.mem_of_getElem? (i := 1) rfl) rfl dX5_findMac_51 ?_
  refine v_aload_n B dX5_findMac_54 rfl rfl ?_
  refine u_get B Z (C := RX5) (T := TX5) (N := 16) (ci := 5) hi_Guard_findMac_X5 t_h h189 rfl 14 (by decide +kernel) (List.mem_of_getElem? (i := 2) rfl) rfl dX5_findMac_55 ?_
  refine u_callVv B Z hz (n := 1) (As := [.ref a124]) (rest := []) (c_encipherP l D K Z _ _ _ _ a110 a124 t127 t141 σ184 G187) gd_Guard_findMac_encipherP_77 rfl rfl rfl (by decide +kernel) ⟨Nat.le_trans (by decide +kernel) hR.1, Nat.le_trans (by decide +kernel) hR.2⟩ t127 (cls_Cipher G187 t127) rfl rfl rfl rfl (Nat.le_of_ble_eq_true rfl) dX5_findMac_58 ⟨Nat.zero_le _, Nat.zero_le _⟩ (fun σ190 p191 => ?_)
  obtain ⟨G193, F194⟩ := p191
  have F195 := F188.call F194 (by first | rfl | simp)
  have h196 := (F194 h _ t_h (by first | rfl | simp)).trans h189
  refine v_iconst B (v := iI 0) dX5_findMac_61 rfl ?_
  refine v_istore B (lv' := [(7, .int (iI 0)), (0, .ref h), (1, .int (iI x1)), (2, .ref g), (3, .int (iI x3)), (4, .long (lI y4)), (6, .int (iI x6))]) dX5_findMac_62 (by decide +kernel) rfl ?_
  refine v_lv [1, 3, 4, 0] rfl ?_
  exact J64 _ σ190 0 (Nat.le_refl _) G193 F195 ⟨by omega, by omega⟩
set_option maxRecDepth 100000 in
theorem c_Guard_findMac (l : Launch) (D : va_G) (K : Nat → ClassId) {τ : Nat → Option Ty} {dom : List Nat} (Z : Sk τ dom) (zb zL : Nat) (zx : Nat → Int32) (zs : Nat → Nat) {π : Nat} (h : Nat) (x1 : Int) (g : Nat) (x3 : Int) (y4 : Int) (x6 : Int) (t_h : τ h = some (35, 0, 0)) (r_x1 : -2147483648 ≤ x1 ∧ x1 ≤ 2147483647) (t_g : τ g = some (1, π, 0)) (r_x3 : -2147483648 ≤ x3 ∧ x3 ≤ 2147483647) (r_y4 : InL y4) (r_x6 : -2147483648 ≤ x6 ∧ x6 ≤ 2147483647) (σ0 : Nat → va_E) (G0 : Good K τ σ0) : MZ l yX5_findMac wp_Guard_findMac ({ frames := 1, cells := 0, slots := 0, locals := 27 }) D (tysA K) [.ref h, .int (iI x1), .ref g, .int (iI x3), .long (lI y4), .int (iI x6)] (fd dom σ0) zb zL zx zs (Qv D (fun σ' => Good K τ σ' ∧ Fr τ [(3, 44), (2, 32)] σ0 σ') (fun σ' => fd dom σ')) 0 0 := by
  refine mz_of (cc := cX5_findMac) (maxL := 8) (ret := none) (by decide +kernel) rfl (Nat.le_of_ble_eq_true rfl) ?_
  intro p e s m below meth c A B hr hlk _ hz
  exact b_Guard_findMac ⟨Nat.le_refl _, Nat.le_refl _⟩ B Z hz h x1 g x3 y4 x6 t_h r_x1 t_g r_x3 r_y4 r_x6 σ0 G0 (fun σ' lv pc G F hd => v_vret B hr hlk σ' ⟨G, F⟩ rfl (Nat.le_refl _) (Nat.le_refl _) hd)

def wp_Guard_whiten : List Cond := .code yX5_whitenBySession cX5_whitenBySession 7 none :: (([.fieldLink RX5 25 "LowEnergy$Guard" "pad" "[I", .methodLink RX5 98 yX9_turn, .instanceMethod yX9_turn, .selects RX9 yX9_turn yX9_turn, .initialized RX9, .code yX9_turn cX9_turn 3 none, .fieldLink RX9 21 "LowEnergy$Row" "size" "I", .fieldLink RX9 15 "LowEnergy$Row" "bytes" "[I", .methodLink RX5 94 yX5_fillNonce, .instanceMethod yX5_fillNonce, .selects RX5 yX5_fillNonce yX5_fillNonce, .initialized RX5, .code yX5_fillNonce cX5_fillNonce 8 none, .fieldLink RX5 19 "LowEnergy$Guard" "iv" "[I", .constantLong RX5 102 (255), .fieldLink RX5 28 "LowEnergy$Guard" "cipher" "LLowEnergy$Cipher;", .methodLink RX5 77 yX1_encipher, .instanceMethod yX1_encipher, .selects RX1 yX1_encipher yX1_encipher, .initialized RX1, .code yX1_encipher cX1_encipher 7 none, .fieldLink RX1 9 "LowEnergy$Cipher" "roundKeys" "[I", .fieldLink RX1 13 "LowEnergy$Cipher" "moved" "[I", .fieldLink RX1 16 "LowEnergy$Cipher" "SBOX" "[I"] : List Cond) ++ (wsX50 ++ (wsX90 ++ (wsX10 ++ ([])))))
theorem hi_Guard_whiten_X5 : ∀ x ∈ u_ws RX5 TX5 16, x ∈ wp_Guard_whiten := fun _ h => List.mem_cons_of_mem _ (List.mem_append_right _ (List.mem_append_left _ h))
theorem hi_Guard_whiten_X9 : ∀ x ∈ u_ws RX9 TX9 2, x ∈ wp_Guard_whiten := fun _ h => List.mem_cons_of_mem _ (List.mem_append_right _ (List.mem_append_right _ (List.mem_append_left _ h)))
theorem hi_Guard_whiten_X1 : ∀ x ∈ u_ws RX1 TX1 2, x ∈ wp_Guard_whiten := fun _ h => List.mem_cons_of_mem _ (List.mem_append_right _ (List.mem_append_right _ (List.mem_append_right _ (List.mem_append_left _ h))))
set_option maxRecDepth 100000 in
theorem gd_Guard_whiten_Row_turn_98 : GoodIn wp_Guard_whiten (wsV RX5 98 RX9 yX9_turn wp_Row_turn) := goodIn_app (goodIn_r _ [2, 3, 4, 5] rfl rfl) (goodIn_ca (goodIn_r _ [6, 7, 8] rfl rfl) (goodIn_app (goodIn_cls hi_Guard_whiten_X9 gw_X9) (goodIn_nil)))
set_option maxRecDepth 100000 in
theorem gd_Guard_whiten_Guard_fillNonce_94 : GoodIn wp_Guard_whiten (wsV RX5 94 RX5 yX5_fillNonce wp_Guard_fillNonce) := goodIn_app (goodIn_r _ [9, 10, 11, 12] rfl rfl) (goodIn_ca (goodIn_r _ [13, 14, 15] rfl rfl) (goodIn_app (goodIn_cls hi_Guard_whiten_X5 gw_X5) (goodIn_nil)))
set_option maxRecDepth 100000 in
theorem gd_Guard_whiten_encipherP_77 : GoodIn wp_Guard_whiten (wsV RX5 77 RX1 yX1_encipher wp_encipherP) := goodIn_app (goodIn_r _ [17, 18, 19, 20] rfl rfl) (goodIn_ca (goodIn_r _ [21, 22, 23, 24] rfl rfl) (goodIn_app (goodIn_cls hi_Guard_whiten_X1 gw_X1) (goodIn_nil)))
set_option maxHeartbeats 4000000 in
set_option maxRecDepth 100000 in
theorem b_Guard_whiten {p : Program} {l : Launch} {e : Env} {R : Room} {s : State} {m : MethodId} {args : Array Value} {below : List Frame} {meth : Method} {c : Code} {D : va_G} {K : Nat → ClassId} {A : Nat → Prop} {Q : State → Prop} {τ : Nat → Option Ty} {dom : List Nat} {zb zL : Nat} {zx : Nat → Int32} {zs : Nat → Nat} {π : Nat} (hR : 1 ≤ R.frames ∧ 27 ≤ R.locals) (B : Bx p s m args c cX5_whitenBySession 7 RX5 wp_Guard_whiten D (tysA K) A) (Z : Sk τ dom) (hz : ZL zb zL zx zs A s s.heap) (h : Nat) (g : Nat) (x2 : Int) (y3 : Int) (x5 : Int) (t_h : τ h = some (35, 0, 0)) (t_g : τ g = some (1, π, 0)) (r_x2 : -2147483648 ≤ x2 ∧ x2 ≤ 2147483647) (r_y3 : InL y3) (r_x5 : -2147483648 ≤ x5 ∧ x5 ≤ 2147483647) (σ0 : Nat → va_E) (G0 : Good K τ σ0) (hend : ∀ (σ' : Nat → va_E) (lv : List (Nat × Value)) (pc : Nat), Good K τ σ' → Fr τ [(3, 45), (2, 32), (2, π)] σ0 σ' → decode cX5_whitenBySession pc = .ok (.return_, 1) → V p l e R s m args below meth c 7 D A Q (0, 0) (fd dom σ') lv pc []) : V p l e R s m args below meth c 7 D A Q (0, 0) (fd dom σ0) [(0, .ref h), (1, .ref g), (2, .int (iI x2)), (3, .long (lI y3)), (5, .int (iI x5))] 0 [] := by
  have F0 : Fr τ [(3, 45), (2, 32), (2, π)] σ0 σ0 := Fr.rf
  have J3 : ∀ (k3 : Nat) (σ_3 : Nat → va_E) (z3_6 : Int), (2147483648 - z3_6).toNat ≤ k3 → Good K τ σ_3 → Fr τ [(3, 45), (2, 32), (2, π)] σ0 σ_3 → (0 ≤ z3_6 ∧ z3_6 ≤ 2147483647) → V p l e R s m args below meth c 7 D A Q (0, 0) (fd dom σ_3) [(0, .ref h), (1, .ref g), (2, .int (iI x2)), (3, .long (lI y3)), (5, .int (iI x5)), (6, .int (iI z3_6))] 3 [] := by
    intro k3
    induction k3 with
    | zero => intro σ_3 z3_6 m3 G_3 F_3 r3_6; omega
    | succ k3 IH3 =>
      intro σ_3 z3_6 m3 G_3 F_3 r3_6
      have J46 : ∀ (σ_46 : Nat → va_E), Good K τ σ_46 → Fr τ [(3, 45), (2, 32), (2, π)] σ0 σ_46 → (1 ≤ x2 ∧ x2 ≤ 2147483647) → (0 ≤ z3_6 ∧ z3_6 ≤ 2147483646) → V p l e R s m args below meth c 7 D A Q (0, 0) (fd dom σ_46) [(0, .ref h), (1, .ref g), (2, .int (iI x2)), (3, .long (lI y3)), (5, .int (iI x5)), (6, .int (iI z3_6))] 46 [] := by
        intro σ_46 G_46 F_46 r46_2 r46_6
        refine v_aload_n B dX5_whitenBySession_46 rfl rfl ?_
        refine v_iload B dX5_whitenBySession_47 rfl ?_
        refine v_aload_n B dX5_whitenBySession_49 rfl rfl ?_
        obtain ⟨a1, a2, z3, a4, a5, a6, z7, z8, z9, z10, z11, z12, z13, z14, a15, a16, h17, t18, t19, r20, t21, t22, t23, r24, r25, r26, r27, r28, r29, r30, r31, t32, t33⟩ : okGuard τ (σ_46 h) := G_46 h _ t_h
        refine u_get B Z (C := RX5) (T := TX5) (N := 16) (ci := 5) hi_Guard_whiten_X5 t_h h17 rfl 15 (by decide +kernel) (List.mem_of_getElem? (i := 1) rfl) rfl dX5_whitenBySession_50 ?_
        refine v_iload B dX5_whitenBySession_53 rfl ?_
        refine v_bipush B (v := iI 15) dX5_whitenBySession_55 (by decide +kernel) ?_
        obtain ⟨z34, e35, r36⟩ := iI_and z3_6 (c := 15) (by decide) (by decide)
        refine v_iand B (v := iI z34) dX5_whitenBySession_57 e35 ?_
        obtain ⟨f37, h38, r39⟩ : okP K 16 (σ_46 a16) := G_46 a16 _ t33
        obtain ⟨z40, e41, r42⟩ := iI_any (f37 (z34 : Int).toNat)
        refine u_iald B Z (t0 := 0) t33 h38 rfl (by omega) e41 dX5_whitenBySession_58 ?_
        refine u_callVv B Z hz (n := 2) (As := [.int (iI z3_6), .int (iI z40)]) (rest := []) (c_Row_turn l D K Z _ _ _ _ g z3_6 z40 t_g ⟨by omega, by omega⟩ ⟨by omega, by omega⟩ σ_46 G_46) gd_Guard_whiten_Row_turn_98 rfl rfl rfl (by decide +kernel) ⟨Nat.le_trans (by decide +kernel) hR.1, Nat.le_trans (by decide +kernel) hR.2⟩ t_g (cls_Row G_46 t_g) rfl rfl rfl rfl (Nat.le_of_ble_eq_true rfl) dX5_whitenBySession_59 ⟨Nat.zero_le _, Nat.zero_le _⟩ (fun σ43 p44 => ?_)
        obtain ⟨G46, F47⟩ := p44
        have F48 := F_46.call F47 (by first | rfl | simp)
        have h49 := (F47 h _ t_h (by first | rfl | simp)).trans h17
        have h50 := (F47 a16 _ t33 (by first | rfl | simp)).trans h38
        refine v_iinc B (k := 5) (v := iI (z3_6 + 1)) (lv' := [(6, .int (iI (z3_6 + 1))), (0, .ref h), (1, .ref g), (2, .int (iI x2)), (3, .long (lI y3)), (5, .int (iI x5))]) dX5_whitenBySession_62 rfl ((iI_add _ _).trans (congrArg iI (by omega))) (by decide +kernel) rfl ?_
        refine v_goto B (tgt := 3) dX5_whitenBySession_65 (by decide +kernel) ?_
        refine v_lv [1, 2, 3, 4, 5, 0] rfl ?_
        exact IH3 σ43 (z3_6 + 1) (by omega) G46 F48 ⟨by omega, by omega⟩
      refine v_iload B dX5_whitenBySession_3 rfl ?_
      refine v_iload_n B dX5_whitenBySession_5 rfl rfl ?_
      refine u_icmp_ge B (tgt := 68) (by omega) (by omega) dX5_whitenBySession_6 (by decide +kernel) (fun c51 => ?_) (fun c51 => ?_)
      · refine v_aload_n B dX5_whitenBySession_68 rfl rfl ?_
        refine v_aload_n B dX5_whitenBySession_69 rfl rfl ?_
        obtain ⟨a52, a53, z54, a55, a56, a57, z58, z59, z60, z61, z62, z63, z64, z65, a66, a67, h68, t69, t70, r71, t72, t73, t74, r75, r76, r77, r78, r79, r80, r81, r82, t83, t84⟩ : okGuard τ (σ_3 h) := G_3 h _ t_h
        refine u_get B Z (C := RX5) (T := TX5) (N := 16) (ci := 5) hi_Guard_whiten_X5 t_h h68 rfl 15 (by decide +kernel) (List.mem_of_getElem? (i := 1) rfl) rfl dX5_whitenBySession_70 ?_
        refine v_iconst B (v := iI 1) dX5_whitenBySession_73 rfl ?_
        refine v_iconst B (v := iI 0) dX5_whitenBySession_74 rfl ?_
        refine v_lload_n B dX5_whitenBySession_75 rfl rfl ?_
        refine v_iload B dX5_whitenBySession_76 rfl ?_
        refine u_callVv B Z hz (n := 5) (As := [.ref a67, .int (iI 1), .int (iI 0), .long (lI y3), .int (iI x5)]) (rest := []) (c_Guard_fillNonce l D K Z _ _ _ _ h a67 1 0 y3 x5 t_h t84 ⟨by omega, by omega⟩ ⟨by omega, by omega⟩ ⟨by omega, by omega⟩ ⟨by omega, by omega⟩ σ_3 G_3) gd_Guard_whiten_Guard_fillNonce_94 rfl rfl rfl (by decide +kernel) ⟨Nat.le_trans (by decide +kernel) hR.1, Nat.le_trans (by decide +kernel) hR.2⟩ t_h (cls_Guard G_3 t_h) rfl rfl rfl rfl (Nat.le_of_ble_eq_true rfl) dX5_whitenBySession_78 ⟨Nat.zero_le _, Nat.zero_le _⟩ (fun σ85 p86 => ?_)
        obtain ⟨G88, F89⟩ := p86
        have F90 := F_3.call F89 (by first | rfl | simp)
        have h91 := (F89 h _ t_h (by first | rfl | simp)).trans h68
        refine v_aload_n B dX5_whitenBySession_81 rfl rfl ?_
        refine u_get B Z (C := RX5) (T := TX5) (N := 16) (ci := 5) hi_Guard_whiten_X5 t_h h91 rfl 0 (by decide +kernel) (List.mem_of_getElem? (i := 16) rfl) rfl dX5_whitenBySession_82 ?_
        refine v_aload_n B dX5_whitenBySession_85 rfl rfl ?_
        refine u_get B Z (C := RX5) (T := TX5) (N := 16) (ci := 5) hi_Guard_whiten_X5 t_h h91 rfl 15 (by decide +kernel) (List.mem_of_getElem? (i := 1) rfl) rfl dX5_whitenBySession_86 ?_
        refine u_callVv B Z hz (n := 1) (As := [.ref a67]) (rest := []) (c_encipherP l D K Z _ _ _ _ a52 a67 t69 t84 σ85 G88) gd_Guard_whiten_encipherP_77 rfl rfl rfl (by decide +kernel) ⟨Nat.le_trans (by decide +kernel) hR.1, Nat.le_trans (by decide +kernel) hR.2⟩ t69 (cls_Cipher G88 t69) rfl rfl rfl rfl (Nat.le_of_ble_eq_true rfl) dX5_whitenBySession_89 ⟨Nat.zero_le _, Nat.zero_le _⟩ (fun σ92 p93 => ?_)
        obtain ⟨G95, F96⟩ := p93
        have F97 := F90.call F96 (by first | rfl | simp)
        have h98 := (F96 h _ t_h (by first | rfl | simp)).trans h91
        exact hend σ92 _ _ G95 F97 dX5_whitenBySession_92
      · refine v_iload B dX5_whitenBySession_9 rfl ?_
        refine v_bipush B (v := iI 15) dX5_whitenBySession_11 (by decide +kernel) ?_
        obtain ⟨z99, e100, r101⟩ := iI_and z3_6 (c := 15) (by decide) (by decide)
        refine v_iand B (v := iI z99) dX5_whitenBySession_13 e100 ?_
        refine u_if_ne B (tgt := 46) (by omega) dX5_whitenBySession_14 (by decide +kernel) (fun c102 => ?_) (fun c102 => ?_)
        · exact J46 σ_3 G_3 F_3 ⟨by omega, by omega⟩ ⟨by omega, by omega⟩
        · refine v_aload_n B dX5_whitenBySession_17 rfl rfl ?_
          refine v_aload_n B dX5_whitenBySession_18 rfl rfl ?_
          obtain ⟨a103, a104, z105, a106, a107, a108, z109, z110, z111, z112, z113, z114, z115, z116, a117, a118, h119, t120, t121, r122, t123, t124, t125, r126, r127, r128, r129, r130, r131, r132, r133, t134, t135⟩ : okGuard τ (σ_3 h) := G_3 h _ t_h
          refine u_get B Z (C := RX5) (T := TX5) (N := 16) (ci := 5) hi_Guard_whiten_X5 t_h h119 rfl 15 (by decide +kernel) (List.mem_of_getElem? (i := 1) rfl) rfl dX5_whitenBySession_19 ?_
          refine v_iconst B (v := iI 1) dX5_whitenBySession_22 rfl ?_
          refine v_iconst B (v := iI 1) dX5_whitenBySession_23 rfl ?_
          refine v_iload B dX5_whitenBySession_24 rfl ?_
          refine v_iconst B (v := iI 4) dX5_whitenBySession_26 rfl ?_
          obtain ⟨z136, e137⟩ : ∃ z : Int, z = z3_6 / 16 := ⟨_, rfl⟩
          refine v_ishr B (v := iI z136) dX5_whitenBySession_27 ((iI_shr (a := z3_6) (by omega) 4 (by decide)).trans (congrArg iI (by omega))) ?_
          refine v_iadd B (v := iI (z136 + 1)) dX5_whitenBySession_28 ((iI_add _ _).trans (congrArg iI (by omega))) ?_
          refine v_lload_n B dX5_whitenBySession_29 rfl rfl ?_
          refine v_iload B dX5_whitenBySession_30 rfl ?_
          refine u_callVv B Z hz (n := 5) (As := [.ref a118, .int (iI 1), .int (iI (z136 + 1)), .long (lI y3), .int (iI x5)]) (rest := []) (c_Guard_fillNonce l D K Z _ _ _ _ h a118 1 (z136 + 1) y3 x5 t_h t135 ⟨by omega, by omega⟩ ⟨by omega, by omega⟩ ⟨by omega, by omega⟩ ⟨by omega, by omega⟩ σ_3 G_3) gd_Guard_whiten_Guard_fillNonce_94 rfl rfl rfl (by decide +kernel) ⟨Nat.le_trans (by decide +kernel) hR.1, Nat.le_trans (by decide +kernel) hR.2⟩ t_h (cls_Guard G_3 t_h) rfl rfl rfl rfl (Nat.le_of_ble_eq_true rfl) dX5_whitenBySession_32 ⟨Nat.zero_le _, Nat.zero_le _⟩ (fun σ138 p139 => ?_)
          obtain ⟨G141, F142⟩ := p139
          have F143 := F_3.call F142 (by first | rfl | simp)
          have h144 := (F142 h _ t_h (by first | rfl | simp)).trans h119
          refine v_aload_n B dX5_whitenBySession_35 rfl rfl ?_
          refine u_get B Z (C := RX5) (T := TX5) (N := 16) (ci := 5) hi_Guard_whiten_X5 t_h h144 rfl 0 (by decide +kernel) (List.mem_of_getElem? (i := 16) rfl) rfl dX5_whitenBySession_36 ?_
          refine v_aload_n B dX5_whitenBySession_39 rfl rfl ?_
          refine u_get B Z (C := RX5) (T := TX5) (N := 16) (ci := 5) hi_Guard_whiten_X5 t_h h144 rfl 15 (by decide +kernel) (List.mem_of_getElem? (i := 1) rfl) rfl dX5_whitenBySession_40 ?_
          refine u_callVv B Z hz (n := 1) (As := [.ref a118]) (rest := []) (c_encipherP l D K Z _ _ _ _ a103 a118 t120 t135 σ138 G141) gd_Guard_whiten_encipherP_77 rfl rfl rfl (by decide +kernel) ⟨Nat.le_trans (by decide +kernel) hR.1, Nat.le_trans (by decide +kernel) hR.2⟩ t120 (cls_Cipher G141 t120) rfl rfl rfl rfl (Nat.le_of_ble_eq_true rfl) dX5_whitenBySession_43 ⟨Nat.zero_le _, Nat.zero_le _⟩ (fun σ145 p146 => ?_)
          obtain ⟨G148, F149⟩ := p146
          have F150 := F143.call F149 (by first | rfl | simp)
          have h151 := (F149 h _ t_h (by first | rfl | simp)).trans h144
          exact J46 σ145 G148 F150 ⟨by omega, by omega⟩ ⟨by omega, by omega⟩
  refine v_iconst B (v := iI 0) dX5_whitenBySession_0 rfl ?_
  refine v_istore B (lv' := [(6, .int (iI 0)), (0, .ref h), (1, .ref g), (2, .int (iI x2)), (3, .long (lI y3)), (5, .int (iI x5))]) dX5_whitenBySession_1 (by decide +kernel) rfl ?_
  refine v_lv [1, 2, 3, 4, 5, 0] rfl ?_
  exact J3 _ σ0 0 (Nat.le_refl _) G0 F0 ⟨by omega, by omega⟩
set_option maxRecDepth 100000 in
theorem c_Guard_whiten (l : Launch) (D : va_G) (K : Nat → ClassId) {τ : Nat → Option Ty} {dom : List Nat} (Z : Sk τ dom) (zb zL : Nat) (zx : Nat → Int32) (zs : Nat → Nat) {π : Nat} (h : Nat) (g : Nat) (x2 : Int) (y3 : Int) (x5 : Int) (t_h : τ h = some (35, 0, 0)) (t_g : τ g = some (1, π, 0)) (r_x2 : -2147483648 ≤ x2 ∧ x2 ≤ 2147483647) (r_y3 : InL y3) (r_x5 : -2147483648 ≤ x5 ∧ x5 ≤ 2147483647) (σ0 : Nat → va_E) (G0 : Good K τ σ0) : MZ l yX5_whitenBySession wp_Guard_whiten ({ frames := 1, cells := 0, slots := 0, locals := 27 }) D (tysA K) [.ref h, .ref g, .int (iI x2), .long (lI y3), .int (iI x5)] (fd dom σ0) zb zL zx zs (Qv D (fun σ' => Good K τ σ' ∧ Fr τ [(3, 45), (2, 32), (2, π)] σ0 σ') (fun σ' => fd dom σ')) 0 0 := by
  refine mz_of (cc := cX5_whitenBySession) (maxL := 7) (ret := none) (by decide +kernel) rfl (Nat.le_of_ble_eq_true rfl) ?_
  intro p e s m below meth c A B hr hlk _ hz
  exact b_Guard_whiten ⟨Nat.le_refl _, Nat.le_refl _⟩ B Z hz h g x2 y3 x5 t_h t_g r_x2 r_y3 r_x5 σ0 G0 (fun σ' lv pc G F hd => v_vret B hr hlk σ' ⟨G, F⟩ rfl (Nat.le_refl _) (Nat.le_refl _) hd)

def wp_Guard_seal : List Cond := .code yX5_seal cX5_seal 6 none :: (([.fieldLink RX5 51 "LowEnergy$Guard" "sent" "I", .fieldLink RX5 22 "LowEnergy$Guard" "mac" "[I", .fieldLink RX5 25 "LowEnergy$Guard" "pad" "[I", .methodLink RX5 61 yX9_put, .instanceMethod yX9_put, .selects RX9 yX9_put yX9_put, .initialized RX9, .code yX9_put cX9_put 2 none, .fieldLink RX9 21 "LowEnergy$Row" "size" "I", .fieldLink RX9 15 "LowEnergy$Row" "bytes" "[I", .fieldLink RX5 28 "LowEnergy$Guard" "cipher" "LLowEnergy$Cipher;", .fieldLink RX5 16 "LowEnergy$Guard" "session" "[I", .methodLink RX5 71 yX1_loadKey, .instanceMethod yX1_loadKey, .selects RX1 yX1_loadKey yX1_loadKey, .initialized RX1, .code yX1_loadKey cX1_loadKey 6 none, .fieldLink RX1 9 "LowEnergy$Cipher" "roundKeys" "[I", .fieldLink RX1 16 "LowEnergy$Cipher" "SBOX" "[I", .methodLink RX5 83 yX5_findMac, .instanceMethod yX5_findMac, .selects RX5 yX5_findMac yX5_findMac, .initialized RX5, .code yX5_findMac cX5_findMac 8 none, .methodLink RX5 77 yX1_encipher, .instanceMethod yX1_encipher, .selects RX1 yX1_encipher yX1_encipher, .code yX1_encipher cX1_encipher 7 none, .fieldLink RX1 13 "LowEnergy$Cipher" "moved" "[I", .methodLink RX5 67 yX9_at, .instanceMethod yX9_at, .selects RX9 yX9_at yX9_at, .code yX9_at cX9_at 2 (some .int), .methodLink RX5 94 yX5_fillNonce, .instanceMethod yX5_fillNonce, .selects RX5 yX5_fillNonce yX5_fillNonce, .code yX5_fillNonce cX5_fillNonce 8 none, .fieldLink RX5 19 "LowEnergy$Guard" "iv" "[I", .constantLong RX5 102 (255), .methodLink RX5 87 yX5_whitenBySession, .instanceMethod yX5_whitenBySession, .selects RX5 yX5_whitenBySession yX5_whitenBySession, .code yX5_whitenBySession cX5_whitenBySession 7 none, .methodLink RX5 98 yX9_turn, .instanceMethod yX9_turn, .selects RX9 yX9_turn yX9_turn, .code yX9_turn cX9_turn 3 none] : List Cond) ++ (wsX50 ++ (wsX90 ++ (wsX10 ++ ([])))))
theorem hi_Guard_seal_X5 : ∀ x ∈ u_ws RX5 TX5 16, x ∈ wp_Guard_seal := fun _ h => List.mem_cons_of_mem _ (List.mem_append_right _ (List.mem_append_left _ h))
theorem hi_Guard_seal_X9 : ∀ x ∈ u_ws RX9 TX9 2, x ∈ wp_Guard_seal := fun _ h => List.mem_cons_of_mem _ (List.mem_append_right _ (List.mem_append_right _ (List.mem_append_left _ h)))
theorem hi_Guard_seal_X1 : ∀ x ∈ u_ws RX1 TX1 2, x ∈ wp_Guard_seal := fun _ h => List.mem_cons_of_mem _ (List.mem_append_right _ (List.mem_append_right _ (List.mem_append_right _ (List.mem_append_left _ h))))
set_option maxRecDepth 100000 in
theorem gd_Guard_seal_Row_put_61 : GoodIn wp_Guard_seal (wsV RX5 61 RX9 yX9_put wp_Row_put) := goodIn_app (goodIn_r _ [4, 5, 6, 7] rfl rfl) (goodIn_ca (goodIn_r _ [8, 9, 10] rfl rfl) (goodIn_app (goodIn_cls hi_Guard_seal_X9 gw_X9) (goodIn_nil)))
set_option maxRecDepth 100000 in
theorem gd_Guard_seal_loadKey_71 : GoodIn wp_Guard_seal (wsV RX5 71 RX1 yX1_loadKey wp_loadKey) := goodIn_app (goodIn_r _ [13, 14, 15, 16] rfl rfl) (goodIn_ca (goodIn_r _ [17, 18, 19] rfl rfl) (goodIn_app (goodIn_cls hi_Guard_seal_X1 gw_X1) (goodIn_nil)))
set_option maxRecDepth 100000 in
theorem gd_Guard_seal_Guard_findMac_83 : GoodIn wp_Guard_seal (wsV RX5 83 RX5 yX5_findMac wp_Guard_findMac) := goodIn_app (goodIn_r _ [20, 21, 22, 23] rfl rfl) (goodIn_ca (goodIn_r _ [24, 11, 2, 25, 26, 27, 16, 28, 18, 29, 19, 30, 31, 32, 7, 33, 9, 10, 34, 35, 36, 23, 37, 38, 39] rfl rfl) (goodIn_app (goodIn_cls hi_Guard_seal_X5 gw_X5) (goodIn_app (goodIn_cls hi_Guard_seal_X1 gw_X1) (goodIn_app (goodIn_cls hi_Guard_seal_X9 gw_X9) (goodIn_nil)))))
set_option maxRecDepth 100000 in
theorem gd_Guard_seal_Guard_whiten_87 : GoodIn wp_Guard_seal (wsV RX5 87 RX5 yX5_whitenBySession wp_Guard_whiten) := goodIn_app (goodIn_r _ [40, 41, 42, 23] rfl rfl) (goodIn_ca (goodIn_r _ [43, 3, 44, 45, 46, 7, 47, 9, 10, 34, 35, 36, 23, 37, 38, 39, 11, 25, 26, 27, 16, 28, 18, 29, 19] rfl rfl) (goodIn_app (goodIn_cls hi_Guard_seal_X5 gw_X5) (goodIn_app (goodIn_cls hi_Guard_seal_X9 gw_X9) (goodIn_app (goodIn_cls hi_Guard_seal_X1 gw_X1) (goodIn_nil)))))
set_option maxHeartbeats 4000000 in
set_option maxRecDepth 100000 in
theorem b_Guard_seal {p : Program} {l : Launch} {e : Env} {R : Room} {s : State} {m : MethodId} {args : Array Value} {below : List Frame} {meth : Method} {c : Code} {D : va_G} {K : Nat → ClassId} {A : Nat → Prop} {Q : State → Prop} {τ : Nat → Option Ty} {dom : List Nat} {zb zL : Nat} {zx : Nat → Int32} {zs : Nat → Nat} {π : Nat} (hR : 2 ≤ R.frames ∧ 54 ≤ R.locals) (B : Bx p s m args c cX5_seal 6 RX5 wp_Guard_seal D (tysA K) A) (Z : Sk τ dom) (hz : ZL zb zL zx zs A s s.heap) (h : Nat) (x1 : Int) (g : Nat) (x3 : Int) (t_h : τ h = some (35, 0, 0)) (r_x1 : -2147483648 ≤ x1 ∧ x1 ≤ 2147483647) (t_g : τ g = some (1, π, 0)) (r_x3 : -2147483648 ≤ x3 ∧ x3 ≤ 2147483647) (σ0 : Nat → va_E) (G0 : Good K τ σ0) (hend : ∀ (σ' : Nat → va_E) (lv : List (Nat × Value)) (pc : Nat), Good K τ σ' → Fr τ [(2, 31), (3, 44), (2, 32), (3, 45), (2, π), (1, π), (35, 0)] σ0 σ' → decode cX5_seal pc = .ok (.return_, 1) → V p l e R s m args below meth c 6 D A Q (0, 0) (fd dom σ') lv pc []) : V p l e R s m args below meth c 6 D A Q (0, 0) (fd dom σ0) [(0, .ref h), (1, .int (iI x1)), (2, .ref g), (3, .int (iI x3))] 0 [] := by
  have F0 : Fr τ [(2, 31), (3, 44), (2, 32), (3, 45), (2, π), (1, π), (35, 0)] σ0 σ0 := Fr.rf
  have J47 : ∀ (k47 : Nat) (σ_47 : Nat → va_E) (z47_5 : Int), (2147483648 - z47_5).toNat ≤ k47 → Good K τ σ_47 → Fr τ [(2, 31), (3, 44), (2, 32), (3, 45), (2, π), (1, π), (35, 0)] σ0 σ_47 → (0 ≤ z47_5 ∧ z47_5 ≤ 4) → V p l e R s m args below meth c 6 D A Q (0, 0) (fd dom σ_47) [(0, .ref h), (2, .ref g), (5, .int (iI z47_5))] 47 [] := by
    intro k47
    induction k47 with
    | zero => intro σ_47 z47_5 m47 G_47 F_47 r47_5; omega
    | succ k47 IH47 =>
      intro σ_47 z47_5 m47 G_47 F_47 r47_5
      refine v_iload B dX5_seal_47 rfl ?_
      refine v_iconst B (v := iI 4) dX5_seal_49 rfl ?_
      refine u_icmp_ge B (tgt := 78) (by omega) (by omega) dX5_seal_50 (by decide +kernel) (fun c1 => ?_) (fun c1 => ?_)
      · refine v_aload_n B dX5_seal_78 rfl rfl ?_
        refine v_dup B dX5_seal_79 rfl ?_
        obtain ⟨a2, a3, z4, a5, a6, a7, z8, z9, z10, z11, z12, z13, z14, z15, a16, a17, h18, t19, t20, r21, t22, t23, t24, r25, r26, r27, r28, r29, r30, r31, r32, t33, t34⟩ : okGuard τ (σ_47 h) := G_47 h _ t_h
        refine u_get B Z (C := RX5) (T := TX5) (N := 16) (ci := 5) hi_Guard_seal_X5 t_h h18 rfl 12 (by decide +kernel) (List.mem_of_getElem? (i := 1) rfl) rfl dX5_seal_80 ?_
        refine v_iconst B (v := iI 1) dX5_seal_83 rfl ?_
        obtain ⟨z35, e36, r37⟩ := iI_any (iI z14 + iI 1)
        refine v_iadd B (v := iI z35) dX5_seal_84 e36 ?_
        refine u_put B Z (C := RX5) (T := TX5) (N := 16) (ci := 5) hi_Guard_seal_X5 t_h h18 rfl 12 (by decide +kernel) tyX5 tyX5_ok nmX5 (List.mem_of_getElem? (i := 1) rfl) rfl (ty := .int) (tyX5_ok 12 (by decide +kernel)) rfl rfl (Nat.le_of_ble_eq_true rfl) (fs' := [.ref a2, .ref a3, .int (iI z4), .ref a5, .ref a6, .ref a7, .int (iI z8), .int (iI z9), .int (iI z10), .int (iI z11), .int (iI z12), .int (iI z13), .int (iI z35), .int (iI z15), .ref a16, .ref a17]) rfl dX5_seal_85 (fun σ38 h39 n40 => ?_)
        have G41 := G_47.put t_h (⟨a2, a3, z4, a5, a6, a7, z8, z9, z10, z11, z12, z13, z35, z15, a16, a17, h39, t19, t20, ⟨by omega, by omega⟩, t22, t23, t24, ⟨by omega, by omega⟩, ⟨by omega, by omega⟩, ⟨by omega, by omega⟩, ⟨by omega, by omega⟩, ⟨by omega, by omega⟩, ⟨by omega, by omega⟩, ⟨by omega, by omega⟩, ⟨by omega, by omega⟩, t33, t34⟩ : Ok K τ (35, 0, 0) (σ38 h)) n40
        have F42 := F_47.put t_h (by simp) n40
        exact hend σ38 _ _ G41 F42 dX5_seal_88
      · refine v_aload_n B dX5_seal_53 rfl rfl ?_
        refine v_aload_n B dX5_seal_54 rfl rfl ?_
        obtain ⟨a43, a44, z45, a46, a47, a48, z49, z50, z51, z52, z53, z54, z55, z56, a57, a58, h59, t60, t61, r62, t63, t64, t65, r66, r67, r68, r69, r70, r71, r72, r73, t74, t75⟩ : okGuard τ (σ_47 h) := G_47 h _ t_h
        refine u_get B Z (C := RX5) (T := TX5) (N := 16) (ci := 5) hi_Guard_seal_X5 t_h h59 rfl 14 (by decide +kernel) (List.mem_of_getElem? (i := 2) rfl) rfl dX5_seal_55 ?_
        refine v_iload B dX5_seal_58 rfl ?_
        obtain ⟨f76, h77, r78⟩ : okP K 16 (σ_47 a57) := G_47 a57 _ t74
        obtain ⟨z79, e80, r81⟩ := iI_any (f76 (z47_5 : Int).toNat)
        refine u_iald B Z (t0 := 0) t74 h77 rfl (by omega) e80 dX5_seal_60 ?_
        refine v_aload_n B dX5_seal_61 rfl rfl ?_
        refine u_get B Z (C := RX5) (T := TX5) (N := 16) (ci := 5) hi_Guard_seal_X5 t_h h59 rfl 15 (by decide +kernel) (List.mem_of_getElem? (i := 3) rfl) rfl dX5_seal_62 ?_
        refine v_iload B dX5_seal_65 rfl ?_
        obtain ⟨f82, h83, r84⟩ : okP K 16 (σ_47 a58) := G_47 a58 _ t75
        obtain ⟨z85, e86, r87⟩ := iI_any (f82 (z47_5 : Int).toNat)
        refine u_iald B Z (t0 := 0) t75 h83 rfl (by omega) e86 dX5_seal_67 ?_
        obtain ⟨z88, e89, r90⟩ := iI_any (iI z79 ^^^ iI z85)
        refine v_ixor B (v := iI z88) dX5_seal_68 e89 ?_
        refine u_callVv B Z hz (n := 1) (As := [.int (iI z88)]) (rest := []) (c_Row_put l D K Z _ _ _ _ g z88 t_g ⟨by omega, by omega⟩ σ_47 G_47) gd_Guard_seal_Row_put_61 rfl rfl rfl (by decide +kernel) ⟨Nat.le_trans (by decide +kernel) hR.1, Nat.le_trans (by decide +kernel) hR.2⟩ t_g (cls_Row G_47 t_g) rfl rfl rfl rfl (Nat.le_of_ble_eq_true rfl) dX5_seal_69 ⟨Nat.zero_le _, Nat.zero_le _⟩ (fun σ91 p92 => ?_)
        obtain ⟨G94, F95⟩ := p92
        have F96 := F_47.call F95 (by first | rfl | simp)
        have h97 := (F95 h _ t_h (by first | rfl | simp)).trans h59
        have h98 := (F95 a57 _ t74 (by first | rfl | simp)).trans h77
        have h99 := (F95 a58 _ t75 (by first | rfl | simp)).trans h83
        refine v_iinc B (k := 2) (v := iI (z47_5 + 1)) (lv' := [(5, .int (iI (z47_5 + 1))), (0, .ref h), (2, .ref g)]) dX5_seal_72 rfl ((iI_add _ _).trans (congrArg iI (by omega))) (by decide +kernel) rfl ?_
        refine v_goto B (tgt := 47) dX5_seal_75 (by decide +kernel) ?_
        refine v_lv [1, 2, 0] rfl ?_
        exact IH47 σ91 (z47_5 + 1) (by omega) G94 F96 ⟨by omega, by omega⟩
  refine v_aload_n B dX5_seal_0 rfl rfl ?_
  obtain ⟨b100, N101, n102, h103, t104, r105⟩ : okRow τ π (σ0 g) := G0 g _ t_g
  refine u_getN B Z (C := RX9) (T := TX9) (N := 2) (ci := 9) hi_Guard_seal_X9 t_g h103 rfl 1 (by decide +kernel) (List.mem_of_getElem? (i := 87) rfl) rfl dX5_seal_1 ?_
  refine v_istore B (lv' := [(4, .int (iI n102)), (0, .ref h), (1, .int (iI x1)), (2, .ref g), (3, .int (iI x3))]) dX5_seal_4 (by decide +kernel) rfl ?_
  refine v_aload_n B dX5_seal_6 rfl rfl ?_
  obtain ⟨a106, a107, z108, a109, a110, a111, z112, z113, z114, z115, z116, z117, z118, z119, a120, a121, h122, t123, t124, r125, t126, t127, t128, r129, r130, r131, r132, r133, r134, r135, r136, t137, t138⟩ : okGuard τ (σ0 h) := G0 h _ t_h
  refine u_get B Z (C := RX5) (T := TX5) (N := 16) (ci := 5) hi_Guard_seal_X5 t_h h122 rfl 0 (by decide +kernel) (List.mem_of_getElem? (i := 11) rfl) rfl dX5_seal_7 ?_
  refine v_aload_n B dX5_seal_10 rfl rfl ?_
  refine u_get B Z (C := RX5) (T := TX5) (N := 16) (ci := 5) hi_Guard_seal_X5 t_h h122 rfl 4 (by decide +kernel) (List.mem_of_getElem? (i := 12) rfl) rfl dX5_seal_11 ?_
  refine u_callVv B Z hz (n := 1) (As := [.ref a110]) (rest := []) (c_loadKey l D K Z _ _ _ _ a106 a110 t123 t127 σ0 G0) gd_Guard_seal_loadKey_71 rfl rfl rfl (by decide +kernel) ⟨Nat.le_trans (by decide +kernel) hR.1, Nat.le_trans (by decide +kernel) hR.2⟩ t123 (cls_Cipher G0 t123) rfl rfl rfl rfl (Nat.le_of_ble_eq_true rfl) dX5_seal_14 ⟨Nat.zero_le _, Nat.zero_le _⟩ (fun σ139 p140 => ?_)
  obtain ⟨G142, F143⟩ := p140
  have F144 := F0.call F143 (by first | rfl | simp)
  have h145 := (F143 g _ t_g (by first | rfl | simp)).trans h103
  have h146 := (F143 h _ t_h (by first | rfl | simp)).trans h122
  refine v_aload_n B dX5_seal_17 rfl rfl ?_
  refine v_iload_n B dX5_seal_18 rfl rfl ?_
  refine v_aload_n B dX5_seal_19 rfl rfl ?_
  refine v_iload B dX5_seal_20 rfl ?_
  refine v_aload_n B dX5_seal_22 rfl rfl ?_
  refine u_get B Z (C := RX5) (T := TX5) (N := 16) (ci := 5) hi_Guard_seal_X5 t_h h146 rfl 12 (by decide +kernel) (List.mem_of_getElem? (i := 1) rfl) rfl dX5_seal_23 ?_
  refine v_i2l B (v := lI z118) dX5_seal_26 (lI_i (by omega)) ?_
  refine v_iload_n B dX5_seal_27 rfl rfl ?_
  refine u_callVv B Z hz (n := 5) (As := [.int (iI x1), .ref g, .int (iI n102), .long (lI z118), .int (iI x3)]) (rest := []) (c_Guard_findMac l D K Z _ _ _ _ h x1 g n102 z118 x3 t_h ⟨by omega, by omega⟩ t_g ⟨by omega, by omega⟩ ⟨by omega, by omega⟩ ⟨by omega, by omega⟩ σ139 G142) gd_Guard_seal_Guard_findMac_83 rfl rfl rfl (by decide +kernel) ⟨Nat.le_trans (by decide +kernel) hR.1, Nat.le_trans (by decide +kernel) hR.2⟩ t_h (cls_Guard G142 t_h) rfl rfl rfl rfl (Nat.le_of_ble_eq_true rfl) dX5_seal_28 ⟨Nat.zero_le _, Nat.zero_le _⟩ (fun σ147 p148 => ?_)
  obtain ⟨G150, F151⟩ := p148
  have F152 := F144.call F151 (by first | rfl | simp)
  have h153 := (F151 g _ t_g (by first | rfl | simp)).trans h145
  have h154 := (F151 h _ t_h (by first | rfl | simp)).trans h146
  refine v_aload_n B dX5_seal_31 rfl rfl ?_
  refine v_aload_n B dX5_seal_32 rfl rfl ?_
  refine v_iload B dX5_seal_33 rfl ?_
  refine v_aload_n B dX5_seal_35 rfl rfl ?_
  refine u_get B Z (C := RX5) (T := TX5) (N := 16) (ci := 5) hi_Guard_seal_X5 t_h h154 rfl 12 (by decide +kernel) (List.mem_of_getElem? (i := 1) rfl) rfl dX5_seal_36 ?_
  refine v_i2l B (v := lI z118) dX5_seal_39 (lI_i (by omega)) ?_
  refine v_iload_n B dX5_seal_40 rfl rfl ?_
  refine u_callVv B Z hz (n := 4) (As := [.ref g, .int (iI n102), .long (lI z118), .int (iI x3)]) (rest := []) (c_Guard_whiten l D K Z _ _ _ _ h g n102 z118 x3 t_h t_g ⟨by omega, by omega⟩ ⟨by omega, by omega⟩ ⟨by omega, by omega⟩ σ147 G150) gd_Guard_seal_Guard_whiten_87 rfl rfl rfl (by decide +kernel) ⟨Nat.le_trans (by decide +kernel) hR.1, Nat.le_trans (by decide +kernel) hR.2⟩ t_h (cls_Guard G150 t_h) rfl rfl rfl rfl (Nat.le_of_ble_eq_true rfl) dX5_seal_41 ⟨Nat.zero_le _, Nat.zero_le _⟩ (fun σ155 p156 => ?_)
  obtain ⟨G158, F159⟩ := p156
  have F160 := F152.call F159 (by first | rfl | simp)
  have h161 := (F159 g _ t_g (by first | rfl | simp)).trans h153
  have h162 := (F159 h _ t_h (by first | rfl | simp)).trans h154
  refine v_iconst B (v := iI 0) dX5_seal_44 rfl ?_
  refine v_istore B (lv' := [(5, .int (iI 0)), (4, .int (iI n102)), (0, .ref h), (1, .int (iI x1)), (2, .ref g), (3, .int (iI x3))]) dX5_seal_45 (by decide +kernel) rfl ?_
  refine v_lv [2, 4, 0] rfl ?_
  exact J47 _ σ155 0 (Nat.le_refl _) G158 F160 ⟨by omega, by omega⟩
set_option maxRecDepth 100000 in
theorem c_Guard_seal (l : Launch) (D : va_G) (K : Nat → ClassId) {τ : Nat → Option Ty} {dom : List Nat} (Z : Sk τ dom) (zb zL : Nat) (zx : Nat → Int32) (zs : Nat → Nat) {π : Nat} (h : Nat) (x1 : Int) (g : Nat) (x3 : Int) (t_h : τ h = some (35, 0, 0)) (r_x1 : -2147483648 ≤ x1 ∧ x1 ≤ 2147483647) (t_g : τ g = some (1, π, 0)) (r_x3 : -2147483648 ≤ x3 ∧ x3 ≤ 2147483647) (σ0 : Nat → va_E) (G0 : Good K τ σ0) : MZ l yX5_seal wp_Guard_seal ({ frames := 2, cells := 0, slots := 0, locals := 54 }) D (tysA K) [.ref h, .int (iI x1), .ref g, .int (iI x3)] (fd dom σ0) zb zL zx zs (Qv D (fun σ' => Good K τ σ' ∧ Fr τ [(2, 31), (3, 44), (2, 32), (3, 45), (2, π), (1, π), (35, 0)] σ0 σ') (fun σ' => fd dom σ')) 0 0 := by
  refine mz_of (cc := cX5_seal) (maxL := 6) (ret := none) (by decide +kernel) rfl (Nat.le_of_ble_eq_true rfl) ?_
  intro p e s m below meth c A B hr hlk _ hz
  exact b_Guard_seal ⟨Nat.le_refl _, Nat.le_refl _⟩ B Z hz h x1 g x3 t_h r_x1 t_g r_x3 σ0 G0 (fun σ' lv pc G F hd => v_vret B hr hlk σ' ⟨G, F⟩ rfl (Nat.le_refl _) (Nat.le_refl _) hd)

def wp_Guard_open : List Cond := .code yX5_open cX5_open 6 (some .boolean) :: (([.methodLink RX5 91 yX9_cut, .instanceMethod yX9_cut, .selects RX9 yX9_cut yX9_cut, .initialized RX9, .code yX9_cut cX9_cut 2 none, .fieldLink RX9 21 "LowEnergy$Row" "size" "I", .fieldLink RX5 55 "LowEnergy$Guard" "opened" "I", .methodLink RX5 67 yX9_at, .instanceMethod yX9_at, .selects RX9 yX9_at yX9_at, .code yX9_at cX9_at 2 (some .int), .fieldLink RX9 15 "LowEnergy$Row" "bytes" "[I", .fieldLink RX5 22 "LowEnergy$Guard" "mac" "[I", .fieldLink RX5 25 "LowEnergy$Guard" "pad" "[I", .fieldLink RX5 28 "LowEnergy$Guard" "cipher" "LLowEnergy$Cipher;", .fieldLink RX5 16 "LowEnergy$Guard" "session" "[I", .methodLink RX5 71 yX1_loadKey, .instanceMethod yX1_loadKey, .selects RX1 yX1_loadKey yX1_loadKey, .initialized RX1, .code yX1_loadKey cX1_loadKey 6 none, .fieldLink RX1 9 "LowEnergy$Cipher" "roundKeys" "[I", .fieldLink RX1 16 "LowEnergy$Cipher" "SBOX" "[I", .methodLink RX5 87 yX5_whitenBySession, .instanceMethod yX5_whitenBySession, .selects RX5 yX5_whitenBySession yX5_whitenBySession, .initialized RX5, .code yX5_whitenBySession cX5_whitenBySession 7 none, .methodLink RX5 98 yX9_turn, .instanceMethod yX9_turn, .selects RX9 yX9_turn yX9_turn, .code yX9_turn cX9_turn 3 none, .methodLink RX5 94 yX5_fillNonce, .instanceMethod yX5_fillNonce, .selects RX5 yX5_fillNonce yX5_fillNonce, .code yX5_fillNonce cX5_fillNonce 8 none, .fieldLink RX5 19 "LowEnergy$Guard" "iv" "[I", .constantLong RX5 102 (255), .methodLink RX5 77 yX1_encipher, .instanceMethod yX1_encipher, .selects RX1 yX1_encipher yX1_encipher, .code yX1_encipher cX1_encipher 7 none, .fieldLink RX1 13 "LowEnergy$Cipher" "moved" "[I", .methodLink RX5 83 yX5_findMac, .instanceMethod yX5_findMac, .selects RX5 yX5_findMac yX5_findMac, .code yX5_findMac cX5_findMac 8 none] : List Cond) ++ (wsX90 ++ (wsX50 ++ (wsX10 ++ ([])))))
theorem hi_Guard_open_X9 : ∀ x ∈ u_ws RX9 TX9 2, x ∈ wp_Guard_open := fun _ h => List.mem_cons_of_mem _ (List.mem_append_right _ (List.mem_append_left _ h))
theorem hi_Guard_open_X5 : ∀ x ∈ u_ws RX5 TX5 16, x ∈ wp_Guard_open := fun _ h => List.mem_cons_of_mem _ (List.mem_append_right _ (List.mem_append_right _ (List.mem_append_left _ h)))
theorem hi_Guard_open_X1 : ∀ x ∈ u_ws RX1 TX1 2, x ∈ wp_Guard_open := fun _ h => List.mem_cons_of_mem _ (List.mem_append_right _ (List.mem_append_right _ (List.mem_append_right _ (List.mem_append_left _ h))))
set_option maxRecDepth 100000 in
theorem gd_Guard_open_Row_cut_91 : GoodIn wp_Guard_open (wsV RX5 91 RX9 yX9_cut wp_Row_cut) := goodIn_app (goodIn_r _ [1, 2, 3, 4] rfl rfl) (goodIn_ca (goodIn_r _ [5, 6] rfl rfl) (goodIn_app (goodIn_cls hi_Guard_open_X9 gw_X9) (goodIn_nil)))
set_option maxRecDepth 100000 in
theorem gd_Guard_open_Row_at_67 : GoodIn wp_Guard_open (wsV RX5 67 RX9 yX9_at wp_Row_at) := goodIn_app (goodIn_r _ [8, 9, 10, 4] rfl rfl) (goodIn_ca (goodIn_r _ [11, 6, 12] rfl rfl) (goodIn_app (goodIn_cls hi_Guard_open_X9 gw_X9) (goodIn_nil)))
set_option maxRecDepth 100000 in
theorem gd_Guard_open_loadKey_71 : GoodIn wp_Guard_open (wsV RX5 71 RX1 yX1_loadKey wp_loadKey) := goodIn_app (goodIn_r _ [17, 18, 19, 20] rfl rfl) (goodIn_ca (goodIn_r _ [21, 22, 23] rfl rfl) (goodIn_app (goodIn_cls hi_Guard_open_X1 gw_X1) (goodIn_nil)))
set_option maxRecDepth 100000 in
theorem gd_Guard_open_Guard_whiten_87 : GoodIn wp_Guard_open (wsV RX5 87 RX5 yX5_whitenBySession wp_Guard_whiten) := goodIn_app (goodIn_r _ [24, 25, 26, 27] rfl rfl) (goodIn_ca (goodIn_r _ [28, 14, 29, 30, 31, 4, 32, 6, 12, 33, 34, 35, 27, 36, 37, 38, 15, 39, 40, 41, 20, 42, 22, 43, 23] rfl rfl) (goodIn_app (goodIn_cls hi_Guard_open_X5 gw_X5) (goodIn_app (goodIn_cls hi_Guard_open_X9 gw_X9) (goodIn_app (goodIn_cls hi_Guard_open_X1 gw_X1) (goodIn_nil)))))
set_option maxRecDepth 100000 in
theorem gd_Guard_open_Guard_findMac_83 : GoodIn wp_Guard_open (wsV RX5 83 RX5 yX5_findMac wp_Guard_findMac) := goodIn_app (goodIn_r _ [44, 45, 46, 27] rfl rfl) (goodIn_ca (goodIn_r _ [47, 15, 13, 39, 40, 41, 20, 42, 22, 43, 23, 8, 9, 10, 4, 11, 6, 12, 33, 34, 35, 27, 36, 37, 38] rfl rfl) (goodIn_app (goodIn_cls hi_Guard_open_X5 gw_X5) (goodIn_app (goodIn_cls hi_Guard_open_X1 gw_X1) (goodIn_app (goodIn_cls hi_Guard_open_X9 gw_X9) (goodIn_nil)))))
set_option maxHeartbeats 4000000 in
set_option maxRecDepth 100000 in
theorem b_Guard_open {p : Program} {l : Launch} {e : Env} {R : Room} {s : State} {m : MethodId} {args : Array Value} {below : List Frame} {meth : Method} {c : Code} {D : va_G} {K : Nat → ClassId} {A : Nat → Prop} {Q : State → Prop} {τ : Nat → Option Ty} {dom : List Nat} {zb zL : Nat} {zx : Nat → Int32} {zs : Nat → Nat} {π : Nat} (hR : 2 ≤ R.frames ∧ 54 ≤ R.locals) (B : Bx p s m args c cX5_open 6 RX5 wp_Guard_open D (tysA K) A) (Z : Sk τ dom) (hz : ZL zb zL zx zs A s s.heap) (h : Nat) (x1 : Int) (g : Nat) (x3 : Int) (t_h : τ h = some (35, 0, 0)) (r_x1 : -2147483648 ≤ x1 ∧ x1 ≤ 2147483647) (t_g : τ g = some (1, π, 0)) (r_x3 : -2147483648 ≤ x3 ∧ x3 ≤ 2147483647) (σ0 : Nat → va_E) (G0 : Good K τ σ0) (hend : ∀ (σ' : Nat → va_E) (z : Int) (lv : List (Nat × Value)) (pc : Nat), Good K τ σ' → Fr τ [(2, 31), (3, 45), (2, 32), (2, π), (3, 44), (1, π), (35, 0)] σ0 σ' → (0 ≤ z ∧ z ≤ 1) → decode cX5_open pc = .ok (.ireturn, 1) → V p l e R s m args below meth c 6 D A Q (0, 0) (fd dom σ') lv pc [.int (iI z)]) : V p l e R s m args below meth c 6 D A Q (0, 0) (fd dom σ0) [(0, .ref h), (1, .int (iI x1)), (2, .ref g), (3, .int (iI x3))] 0 [] := by
  have F0 : Fr τ [(2, 31), (3, 45), (2, 32), (2, π), (3, 44), (1, π), (35, 0)] σ0 σ0 := Fr.rf
  have J57 : ∀ (k57 : Nat) (σ_57 : Nat → va_E) (z57_4 : Int) (z57_5 : Int), (2147483648 - z57_5).toNat ≤ k57 → Good K τ σ_57 → Fr τ [(2, 31), (3, 45), (2, 32), (2, π), (3, 44), (1, π), (35, 0)] σ0 σ_57 → (1 ≤ z57_4 ∧ z57_4 ≤ 252) → (0 ≤ z57_5 ∧ z57_5 ≤ 4) → V p l e R s m args below meth c 6 D A Q (0, 0) (fd dom σ_57) [(0, .ref h), (2, .ref g), (4, .int (iI z57_4)), (5, .int (iI z57_5))] 57 [] := by
    intro k57
    induction k57 with
    | zero => intro σ_57 z57_4 z57_5 m57 G_57 F_57 r57_4 r57_5; omega
    | succ k57 IH57 =>
      intro σ_57 z57_4 z57_5 m57 G_57 F_57 r57_4 r57_5
      refine v_iload B dX5_open_57 rfl ?_
      refine v_iconst B (v := iI 4) dX5_open_59 rfl ?_
      refine u_icmp_ge B (tgt := 98) (by omega) (by omega) dX5_open_60 (by decide +kernel) (fun c1 => ?_) (fun c1 => ?_)
      · refine v_aload_n B dX5_open_98 rfl rfl ?_
        refine v_iload B dX5_open_99 rfl ?_
        refine u_callVv B Z hz (n := 1) (As := [.int (iI z57_4)]) (rest := []) (c_Row_cut l D K Z _ _ _ _ g z57_4 t_g ⟨by omega, by omega⟩ σ_57 G_57) gd_Guard_open_Row_cut_91 rfl rfl rfl (by decide +kernel) ⟨Nat.le_trans (by decide +kernel) hR.1, Nat.le_trans (by decide +kernel) hR.2⟩ t_g (cls_Row G_57 t_g) rfl rfl rfl rfl (Nat.le_of_ble_eq_true rfl) dX5_open_101 ⟨Nat.zero_le _, Nat.zero_le _⟩ (fun σ2 p3 => ?_)
        obtain ⟨G5, F6⟩ := p3
        have F7 := F_57.call F6 (by first | rfl | simp)
        refine v_aload_n B dX5_open_104 rfl rfl ?_
        refine v_dup B dX5_open_105 rfl ?_
        obtain ⟨a8, a9, z10, a11, a12, a13, z14, z15, z16, z17, z18, z19, z20, z21, a22, a23, h24, t25, t26, r27, t28, t29, t30, r31, r32, r33, r34, r35, r36, r37, r38, t39, t40⟩ : okGuard τ (σ2 h) := G5 h _ t_h
        refine u_get B Z (C := RX5) (T := TX5) (N := 16) (ci := 5) hi_Guard_open_X5 t_h h24 rfl 13 (by decide +kernel) (List.mem_of_getElem? (i := 7) rfl) rfl dX5_open_106 ?_
        refine v_iconst B (v := iI 1) dX5_open_109 rfl ?_
        obtain ⟨z41, e42, r43⟩ := iI_any (iI z21 + iI 1)
        refine v_iadd B (v := iI z41) dX5_open_110 e42 ?_
        refine u_put B Z (C := RX5) (T := TX5) (N := 16) (ci := 5) hi_Guard_open_X5 t_h h24 rfl 13 (by decide +kernel) tyX5 tyX5_ok nmX5 (List.mem_of_getElem? (i := 7) rfl) rfl (ty := .int) (tyX5_ok 13 (by decide +kernel)) rfl rfl (Nat.le_of_ble_eq_true rfl) (fs' := [.ref a8, .ref a9, .int (iI z10), .ref a11, .ref a12, .ref a13, .int (iI z14), .int (iI z15), .int (iI z16), .int (iI z17), .int (iI z18), .int (iI z19), .int (iI z20), .int (iI z41), .ref a22, .ref a23]) rfl dX5_open_111 (fun σ44 h45 n46 => ?_)
        have G47 := G5.put t_h (⟨a8, a9, z10, a11, a12, a13, z14, z15, z16, z17, z18, z19, z20, z41, a22, a23, h45, t25, t26, ⟨by omega, by omega⟩, t28, t29, t30, ⟨by omega, by omega⟩, ⟨by omega, by omega⟩, ⟨by omega, by omega⟩, ⟨by omega, by omega⟩, ⟨by omega, by omega⟩, ⟨by omega, by omega⟩, ⟨by omega, by omega⟩, ⟨by omega, by omega⟩, t39, t40⟩ : Ok K τ (35, 0, 0) (σ44 h)) n46
        have F48 := F7.put t_h (by simp) n46
        refine v_iconst B (v := iI 1) dX5_open_114 rfl ?_
        exact hend σ44 1 _ _ G47 F48 ⟨by omega, by omega⟩ dX5_open_115
      · refine v_aload_n B dX5_open_63 rfl rfl ?_
        refine v_iload B dX5_open_64 rfl ?_
        refine v_iload B dX5_open_66 rfl ?_
        refine v_iadd B (v := iI (z57_4 + z57_5)) dX5_open_68 ((iI_add _ _).trans (congrArg iI (by omega))) ?_
        refine u_callVi B Z hz (n := 1) (As := [.int (iI (z57_4 + z57_5))]) (rest := []) (c_Row_at l D K Z _ _ _ _ g (z57_4 + z57_5) t_g ⟨by omega, by omega⟩ σ_57 G_57) gd_Guard_open_Row_at_67 rfl rfl rfl (by decide +kernel) ⟨Nat.le_trans (by decide +kernel) hR.1, Nat.le_trans (by decide +kernel) hR.2⟩ t_g (cls_Row G_57 t_g) rfl rfl rfl rfl (Nat.le_of_ble_eq_true rfl) dX5_open_69 ⟨Nat.zero_le _, Nat.zero_le _⟩ (fun v51 σ49 p50 => ?_)
        obtain ⟨rfl, z55, e56, r57⟩ := p50
        subst e56
        refine v_aload_n B dX5_open_72 rfl rfl ?_
        obtain ⟨a58, a59, z60, a61, a62, a63, z64, z65, z66, z67, z68, z69, z70, z71, a72, a73, h74, t75, t76, r77, t78, t79, t80, r81, r82, r83, r84, r85, r86, r87, r88, t89, t90⟩ : okGuard τ (σ_57 h) := G_57 h _ t_h
        refine u_get B Z (C := RX5) (T := TX5) (N := 16) (ci := 5) hi_Guard_open_X5 t_h h74 rfl 14 (by decide +kernel) (List.mem_of_getElem? (i := 13) rfl) rfl dX5_open_73 ?_
        refine v_iload B dX5_open_76 rfl ?_
        obtain ⟨f91, h92, r93⟩ : okP K 16 (σ_57 a72) := G_57 a72 _ t89
        obtain ⟨z94, e95, r96⟩ := iI_any (f91 (z57_5 : Int).toNat)
        refine u_iald B Z (t0 := 0) t89 h92 rfl (by omega) e95 dX5_open_78 ?_
        refine v_aload_n B dX5_open_79 rfl rfl ?_
        refine u_get B Z (C := RX5) (T := TX5) (N := 16) (ci := 5) hi_Guard_open_X5 t_h h74 rfl 15 (by decide +kernel) (List.mem_of_getElem? (i := 14) rfl) rfl dX5_open_80 ?_
        refine v_iload B dX5_open_83 rfl ?_
        obtain ⟨f97, h98, r99⟩ : okP K 16 (σ_57 a73) := G_57 a73 _ t90
        obtain ⟨z100, e101, r102⟩ := iI_any (f97 (z57_5 : Int).toNat)
        refine u_iald B Z (t0 := 0) t90 h98 rfl (by omega) e101 dX5_open_85 ?_
        obtain ⟨z103, e104, r105⟩ := iI_any (iI z94 ^^^ iI z100)
        refine v_ixor B (v := iI z103) dX5_open_86 e104 ?_
        refine u_icmp_eq B (tgt := 92) (by omega) (by omega) dX5_open_87 (by decide +kernel) (fun c106 => ?_) (fun c106 => ?_)
        · refine v_iinc B (k := 3) (v := iI (z57_5 + 1)) (lv' := [(5, .int (iI (z57_5 + 1))), (0, .ref h), (2, .ref g), (4, .int (iI z57_4))]) dX5_open_92 rfl ((iI_add _ _).trans (congrArg iI (by omega))) (by decide +kernel) rfl ?_
          refine v_goto B (tgt := 57) dX5_open_95 (by decide +kernel) ?_
          refine v_lv [1, 2, 3, 0] rfl ?_
          exact IH57 σ_57 z57_4 (z57_5 + 1) (by omega) G_57 F_57 ⟨by omega, by omega⟩ ⟨by omega, by omega⟩
        · refine v_iconst B (v := iI 0) dX5_open_90 rfl ?_
          exact hend σ_57 0 _ _ G_57 F_57 ⟨by omega, by omega⟩ dX5_open_91
  refine v_aload_n B dX5_open_0 rfl rfl ?_
  obtain ⟨b107, N108, n109, h110, t111, r112⟩ : okRow τ π (σ0 g) := G0 g _ t_g
  refine u_getN B Z (C := RX9) (T := TX9) (N := 2) (ci := 9) hi_Guard_open_X9 t_g h110 rfl 1 (by decide +kernel) (List.mem_of_getElem? (i := 87) rfl) rfl dX5_open_1 ?_
  refine v_iconst B (v := iI 4) dX5_open_4 rfl ?_
  refine v_isub B (v := iI (n109 + (-4))) dX5_open_5 ((iI_sub _ _).trans (congrArg iI (by omega))) ?_
  refine v_istore B (lv' := [(4, .int (iI (n109 + (-4)))), (0, .ref h), (1, .int (iI x1)), (2, .ref g), (3, .int (iI x3))]) dX5_open_6 (by decide +kernel) rfl ?_
  refine v_iload B dX5_open_8 rfl ?_
  refine v_iconst B (v := iI 1) dX5_open_10 rfl ?_
  refine u_icmp_ge B (tgt := 16) (by omega) (by omega) dX5_open_11 (by decide +kernel) (fun c113 => ?_) (fun c113 => ?_)
  · refine v_aload_n B dX5_open_16 rfl rfl ?_
    obtain ⟨a114, a115, z116, a117, a118, a119, z120, z121, z122, z123, z124, z125, z126, z127, a128, a129, h130, t131, t132, r133, t134, t135, t136, r137, r138, r139, r140, r141, r142, r143, r144, t145, t146⟩ : okGuard τ (σ0 h) := G0 h _ t_h
    refine u_get B Z (C := RX5) (T := TX5) (N := 16) (ci := 5) hi_Guard_open_X5 t_h h130 rfl 0 (by decide +kernel) (List.mem_of_getElem? (i := 15) rfl) rfl dX5_open_17 ?_
    refine v_aload_n B dX5_open_20 rfl rfl ?_
    refine u_get B Z (C := RX5) (T := TX5) (N := 16) (ci := 5) hi_Guard_open_X5 t_h h130 rfl 4 (by decide +kernel) (List.mem_of_getElem? (i := 16) rfl) rfl dX5_open_21 ?_
    refine u_callVv B Z hz (n := 1) (As := [.ref a118]) (rest := []) (c_loadKey l D K Z _ _ _ _ a114 a118 t131 t135 σ0 G0) gd_Guard_open_loadKey_71 rfl rfl rfl (by decide +kernel) ⟨Nat.le_trans (by decide +kernel) hR.1, Nat.le_trans (by decide +kernel) hR.2⟩ t131 (cls_Cipher G0 t131) rfl rfl rfl rfl (Nat.le_of_ble_eq_true rfl) dX5_open_24 ⟨Nat.zero_le _, Nat.zero_le _⟩ (fun σ147 p148 => ?_)
    obtain ⟨G150, F151⟩ := p148
    have F152 := F0.call F151 (by first | rfl | simp)
    have h153 := (F151 g _ t_g (by first | rfl | simp)).trans h110
    have h154 := (F151 h _ t_h (by first | rfl | simp)).trans h130
    refine v_aload_n B dX5_open_27 rfl rfl ?_
    refine v_aload_n B dX5_open_28 rfl rfl ?_
    refine v_iload B dX5_open_29 rfl ?_
    refine v_aload_n B dX5_open_31 rfl rfl ?_
    refine u_get B Z (C := RX5) (T := TX5) (N := 16) (ci := 5) hi_Guard_open_X5 t_h h154 rfl 13 (by decide +kernel) (List.mem_of_getElem? (i := 7) rfl) rfl dX5_open_32 ?_
    refine v_i2l B (v := lI z127) dX5_open_35 (lI_i (by omega)) ?_
    refine v_iload_n B dX5_open_36 rfl rfl ?_
    refine u_callVv B Z hz (n := 4) (As := [.ref g, .int (iI (n109 + (-4))), .long (lI z127), .int (iI x3)]) (rest := []) (c_Guard_whiten l D K Z _ _ _ _ h g (n109 + (-4)) z127 x3 t_h t_g ⟨by omega, by omega⟩ ⟨by omega, by omega⟩ ⟨by omega, by omega⟩ σ147 G150) gd_Guard_open_Guard_whiten_87 rfl rfl rfl (by decide +kernel) ⟨Nat.le_trans (by decide +kernel) hR.1, Nat.le_trans (by decide +kernel) hR.2⟩ t_h (cls_Guard G150 t_h) rfl rfl rfl rfl (Nat.le_of_ble_eq_true rfl) dX5_open_37 ⟨Nat.zero_le _, Nat.zero_le _⟩ (fun σ155 p156 => ?_)
    obtain ⟨G158, F159⟩ := p156
    have F160 := F152.call F159 (by first | rfl | simp)
    have h161 := (F159 g _ t_g (by first | rfl | simp)).trans h153
    have h162 := (F159 h _ t_h (by first | rfl | simp)).trans h154
    refine v_aload_n B dX5_open_40 rfl rfl ?_
    refine v_iload_n B dX5_open_41 rfl rfl ?_
    refine v_aload_n B dX5_open_42 rfl rfl ?_
    refine v_iload B dX5_open_43 rfl ?_
    refine v_aload_n B dX5_open_45 rfl rfl ?_
    refine u_get B Z (C := RX5) (T := TX5) (N := 16) (ci := 5) hi_Guard_open_X5 t_h h162 rfl 13 (by decide +kernel) (List.mem_of_getElem? (i := 7) rfl) rfl dX5_open_46 ?_
    refine v_i2l B (v := lI z127) dX5_open_49 (lI_i (by omega)) ?_
    refine v_iload_n B dX5_open_50 rfl rfl ?_
    refine u_callVv B Z hz (n := 5) (As := [.int (iI x1), .ref g, .int (iI (n109 + (-4))), .long (lI z127), .int (iI x3)]) (rest := []) (c_Guard_findMac l D K Z _ _ _ _ h x1 g (n109 + (-4)) z127 x3 t_h ⟨by omega, by omega⟩ t_g ⟨by omega, by omega⟩ ⟨by omega, by omega⟩ ⟨by omega, by omega⟩ σ155 G158) gd_Guard_open_Guard_findMac_83 rfl rfl rfl (by decide +kernel) ⟨Nat.le_trans (by decide +kernel) hR.1, Nat.le_trans (by decide +kernel) hR.2⟩ t_h (cls_Guard G158 t_h) rfl rfl rfl rfl (Nat.le_of_ble_eq_true rfl) dX5_open_51 ⟨Nat.zero_le _, Nat.zero_le _⟩ (fun σ163 p164 => ?_)
    obtain ⟨G166, F167⟩ := p164
    have F168 := F160.call F167 (by first | rfl | simp)
    have h169 := (F167 g _ t_g (by first | rfl | simp)).trans h161
    have h170 := (F167 h _ t_h (by first | rfl | simp)).trans h162
    refine v_iconst B (v := iI 0) dX5_open_54 rfl ?_
    refine v_istore B (lv' := [(5, .int (iI 0)), (4, .int (iI (n109 + (-4)))), (0, .ref h), (1, .int (iI x1)), (2, .ref g), (3, .int (iI x3))]) dX5_open_55 (by decide +kernel) rfl ?_
    refine v_lv [2, 4, 1, 0] rfl ?_
    exact J57 _ σ163 (n109 + (-4)) 0 (Nat.le_refl _) G166 F168 ⟨by omega, by omega⟩ ⟨by omega, by omega⟩
  · refine v_iconst B (v := iI 0) dX5_open_14 rfl ?_
    exact hend σ0 0 _ _ G0 F0 ⟨by omega, by omega⟩ dX5_open_15
set_option maxRecDepth 100000 in
theorem c_Guard_open (l : Launch) (D : va_G) (K : Nat → ClassId) {τ : Nat → Option Ty} {dom : List Nat} (Z : Sk τ dom) (zb zL : Nat) (zx : Nat → Int32) (zs : Nat → Nat) {π : Nat} (h : Nat) (x1 : Int) (g : Nat) (x3 : Int) (t_h : τ h = some (35, 0, 0)) (r_x1 : -2147483648 ≤ x1 ∧ x1 ≤ 2147483647) (t_g : τ g = some (1, π, 0)) (r_x3 : -2147483648 ≤ x3 ∧ x3 ≤ 2147483647) (σ0 : Nat → va_E) (G0 : Good K τ σ0) : MZ l yX5_open wp_Guard_open ({ frames := 2, cells := 0, slots := 0, locals := 54 }) D (tysA K) [.ref h, .int (iI x1), .ref g, .int (iI x3)] (fd dom σ0) zb zL zx zs (Qi D (fun r σ' => Good K τ σ' ∧ Fr τ [(2, 31), (3, 45), (2, 32), (2, π), (3, 44), (1, π), (35, 0)] σ0 σ' ∧ ∃ z : Int, r = iI z ∧ (0 ≤ z ∧ z ≤ 1)) (fun σ' => fd dom σ')) 0 0 := by
  refine mz_of (cc := cX5_open) (maxL := 6) (ret := (some .boolean)) (by decide +kernel) rfl (Nat.le_of_ble_eq_true rfl) ?_
  intro p e s m below meth c A B hr hlk _ hz
  exact b_Guard_open ⟨Nat.le_refl _, Nat.le_refl _⟩ B Z hz h x1 g x3 t_h r_x1 t_g r_x3 σ0 G0 (fun σ' z lv pc G F hZ hd => v_zret B hr hlk (nar01 (by omega)) σ' ⟨G, F, z, rfl, hZ⟩ rfl (Nat.le_refl _) (Nat.le_refl _) hd)
