def wp_Row_clear : List Cond := .code yX9_clear cX9_clear 1 none :: (([.fieldLink RX9 21 "LowEnergy$Row" "size" "I"] : List Cond) ++ (wsX90 ++ ([])))
theorem hi_Row_clear_X9 : ∀ x ∈ u_ws RX9 TX9 2, x ∈ wp_Row_clear := fun _ h => List.mem_cons_of_mem _ (List.mem_append_right _ (List.mem_append_left _ h))
set_option maxHeartbeats 4000000 in
set_option maxRecDepth 100000 in
theorem b_Row_clear {p : Program} {l : Launch} {e : Env} {R : Room} {s : State} {m : MethodId} {args : Array Value} {below : List Frame} {meth : Method} {c : Code} {D : va_G} {K : Nat → ClassId} {A : Nat → Prop} {Q : State → Prop} {τ : Nat → Option Ty} {dom : List Nat} {zb zL : Nat} {zx : Nat → Int32} {zs : Nat → Nat} {ρ : Nat} (hR : 0 ≤ R.frames ∧ 0 ≤ R.locals) (B : Bx p s m args c cX9_clear 1 RX9 wp_Row_clear D (tysA K) A) (Z : Sk τ dom) (hz : ZL zb zL zx zs A s s.heap) (h : Nat) (t_h : τ h = some (1, ρ, 0)) (σ0 : Nat → va_E) (G0 : Good K τ σ0) (hend : ∀ (σ' : Nat → va_E) (lv : List (Nat × Value)) (pc : Nat), Good K τ σ' → Fr τ [(1, ρ)] σ0 σ' → decode cX9_clear pc = .ok (.return_, 1) → V p l e R s m args below meth c 1 D A Q (0, 0) (fd dom σ') lv pc []) : V p l e R s m args below meth c 1 D A Q (0, 0) (fd dom σ0) [(0, .ref h)] 0 [] := by
  have F0 : Fr τ [(1, ρ)] σ0 σ0 := Fr.rf
  refine v_aload_n B dX9_clear_0 rfl rfl ?_
  refine v_iconst B (v := iI 0) dX9_clear_1 rfl ?_
  obtain ⟨b1, N2, n3, h4, t5, r6⟩ : okRow τ ρ (σ0 h) := G0 h _ t_h
  refine u_put B Z (C := RX9) (T := TX9) (N := 2) (ci := 9) hi_Row_clear_X9 t_h h4 rfl 1 (by decide +kernel) tyX9 tyX9_ok nmX9 (List.mem_of_getElem? (i := 1) rfl) rfl (ty := .int) (tyX9_ok 1 (by decide +kernel)) rfl rfl (Nat.le_of_ble_eq_true rfl) (fs' := [.ref b1, .int (iI 0)]) rfl dX9_clear_2 (fun σ7 h8 n9 => ?_)
  have G10 := G0.put t_h (⟨b1, N2, 0, h8, t5, by omega⟩ : Ok K τ (1, ρ, 0) (σ7 h)) n9
  have F11 := F0.put t_h (by simp) n9
  exact hend σ7 _ _ G10 F11 dX9_clear_5
set_option maxRecDepth 100000 in
theorem c_Row_clear (l : Launch) (D : va_G) (K : Nat → ClassId) {τ : Nat → Option Ty} {dom : List Nat} (Z : Sk τ dom) (zb zL : Nat) (zx : Nat → Int32) (zs : Nat → Nat) {ρ : Nat} (h : Nat) (t_h : τ h = some (1, ρ, 0)) (σ0 : Nat → va_E) (G0 : Good K τ σ0) : MZ l yX9_clear wp_Row_clear ({ frames := 0, cells := 0, slots := 0, locals := 0 }) D (tysA K) [.ref h] (fd dom σ0) zb zL zx zs (Qv D (fun σ' => Good K τ σ' ∧ Fr τ [(1, ρ)] σ0 σ') (fun σ' => fd dom σ')) 0 0 := by
  refine mz_of (cc := cX9_clear) (maxL := 1) (ret := none) (by decide +kernel) rfl (Nat.le_of_ble_eq_true rfl) ?_
  intro p e s m below meth c A B hr hlk _ hz
  exact b_Row_clear ⟨Nat.le_refl _, Nat.le_refl _⟩ B Z hz h t_h σ0 G0 (fun σ' lv pc G F hd => v_vret B hr hlk σ' ⟨G, F⟩ rfl (Nat.le_refl _) (Nat.le_refl _) hd)

def wp_Row_cut : List Cond := .code yX9_cut cX9_cut 2 none :: (([.fieldLink RX9 21 "LowEnergy$Row" "size" "I"] : List Cond) ++ (wsX90 ++ ([])))
theorem hi_Row_cut_X9 : ∀ x ∈ u_ws RX9 TX9 2, x ∈ wp_Row_cut := fun _ h => List.mem_cons_of_mem _ (List.mem_append_right _ (List.mem_append_left _ h))
set_option maxHeartbeats 4000000 in
set_option maxRecDepth 100000 in
theorem b_Row_cut {p : Program} {l : Launch} {e : Env} {R : Room} {s : State} {m : MethodId} {args : Array Value} {below : List Frame} {meth : Method} {c : Code} {D : va_G} {K : Nat → ClassId} {A : Nat → Prop} {Q : State → Prop} {τ : Nat → Option Ty} {dom : List Nat} {zb zL : Nat} {zx : Nat → Int32} {zs : Nat → Nat} {ρ : Nat} (hR : 0 ≤ R.frames ∧ 0 ≤ R.locals) (B : Bx p s m args c cX9_cut 2 RX9 wp_Row_cut D (tysA K) A) (Z : Sk τ dom) (hz : ZL zb zL zx zs A s s.heap) (h : Nat) (x1 : Int) (t_h : τ h = some (1, ρ, 0)) (r_x1 : -2147483648 ≤ x1 ∧ x1 ≤ 2147483647) (σ0 : Nat → va_E) (G0 : Good K τ σ0) (hend : ∀ (σ' : Nat → va_E) (lv : List (Nat × Value)) (pc : Nat), Good K τ σ' → Fr τ [(1, ρ)] σ0 σ' → decode cX9_cut pc = .ok (.return_, 1) → V p l e R s m args below meth c 2 D A Q (0, 0) (fd dom σ') lv pc []) : V p l e R s m args below meth c 2 D A Q (0, 0) (fd dom σ0) [(0, .ref h), (1, .int (iI x1))] 0 [] := by
  have F0 : Fr τ [(1, ρ)] σ0 σ0 := Fr.rf
  refine v_iload_n B dX9_cut_0 rfl rfl ?_
  refine u_if_lt B (tgt := 17) (by omega) dX9_cut_1 (by decide +kernel) (fun c1 => ?_) (fun c1 => ?_)
  · exact hend σ0 _ _ G0 F0 dX9_cut_17
  · refine v_iload_n B dX9_cut_4 rfl rfl ?_
    refine v_aload_n B dX9_cut_5 rfl rfl ?_
    obtain ⟨b2, N3, n4, h5, t6, r7⟩ : okRow τ ρ (σ0 h) := G0 h _ t_h
    refine u_get B Z (C := RX9) (T := TX9) (N := 2) (ci := 9) hi_Row_cut_X9 t_h h5 rfl 1 (by decide +kernel) (List.mem_of_getElem? (i := 1) rfl) rfl dX9_cut_6 ?_
    refine u_icmp_ge B (tgt := 17) (by omega) (by omega) dX9_cut_9 (by decide +kernel) (fun c8 => ?_) (fun c8 => ?_)
    · exact hend σ0 _ _ G0 F0 dX9_cut_17
    · refine v_aload_n B dX9_cut_12 rfl rfl ?_
      refine v_iload_n B dX9_cut_13 rfl rfl ?_
      refine u_put B Z (C := RX9) (T := TX9) (N := 2) (ci := 9) hi_Row_cut_X9 t_h h5 rfl 1 (by decide +kernel) tyX9 tyX9_ok nmX9 (List.mem_of_getElem? (i := 1) rfl) rfl (ty := .int) (tyX9_ok 1 (by decide +kernel)) rfl rfl (Nat.le_of_ble_eq_true rfl) (fs' := [.ref b2, .int (iI x1)]) rfl dX9_cut_14 (fun σ9 h10 n11 => ?_)
      have G12 := G0.put t_h (⟨b2, N3, x1, h10, t6, by omega⟩ : Ok K τ (1, ρ, 0) (σ9 h)) n11
      have F13 := F0.put t_h (by simp) n11
      exact hend σ9 _ _ G12 F13 dX9_cut_17
set_option maxRecDepth 100000 in
theorem c_Row_cut (l : Launch) (D : va_G) (K : Nat → ClassId) {τ : Nat → Option Ty} {dom : List Nat} (Z : Sk τ dom) (zb zL : Nat) (zx : Nat → Int32) (zs : Nat → Nat) {ρ : Nat} (h : Nat) (x1 : Int) (t_h : τ h = some (1, ρ, 0)) (r_x1 : -2147483648 ≤ x1 ∧ x1 ≤ 2147483647) (σ0 : Nat → va_E) (G0 : Good K τ σ0) : MZ l yX9_cut wp_Row_cut ({ frames := 0, cells := 0, slots := 0, locals := 0 }) D (tysA K) [.ref h, .int (iI x1)] (fd dom σ0) zb zL zx zs (Qv D (fun σ' => Good K τ σ' ∧ Fr τ [(1, ρ)] σ0 σ') (fun σ' => fd dom σ')) 0 0 := by
  refine mz_of (cc := cX9_cut) (maxL := 2) (ret := none) (by decide +kernel) rfl (Nat.le_of_ble_eq_true rfl) ?_
  intro p e s m below meth c A B hr hlk _ hz
  exact b_Row_cut ⟨Nat.le_refl _, Nat.le_refl _⟩ B Z hz h x1 t_h r_x1 σ0 G0 (fun σ' lv pc G F hd => v_vret B hr hlk σ' ⟨G, F⟩ rfl (Nat.le_refl _) (Nat.le_refl _) hd)

def wp_Row_put : List Cond := .code yX9_put cX9_put 2 none :: (([.fieldLink RX9 21 "LowEnergy$Row" "size" "I", .fieldLink RX9 15 "LowEnergy$Row" "bytes" "[I"] : List Cond) ++ (wsX90 ++ ([])))
theorem hi_Row_put_X9 : ∀ x ∈ u_ws RX9 TX9 2, x ∈ wp_Row_put := fun _ h => List.mem_cons_of_mem _ (List.mem_append_right _ (List.mem_append_left _ h))
set_option maxHeartbeats 4000000 in
set_option maxRecDepth 100000 in
theorem b_Row_put {p : Program} {l : Launch} {e : Env} {R : Room} {s : State} {m : MethodId} {args : Array Value} {below : List Frame} {meth : Method} {c : Code} {D : va_G} {K : Nat → ClassId} {A : Nat → Prop} {Q : State → Prop} {τ : Nat → Option Ty} {dom : List Nat} {zb zL : Nat} {zx : Nat → Int32} {zs : Nat → Nat} {ρ : Nat} (hR : 0 ≤ R.frames ∧ 0 ≤ R.locals) (B : Bx p s m args c cX9_put 2 RX9 wp_Row_put D (tysA K) A) (Z : Sk τ dom) (hz : ZL zb zL zx zs A s s.heap) (h : Nat) (x1 : Int) (t_h : τ h = some (1, ρ, 0)) (r_x1 : -2147483648 ≤ x1 ∧ x1 ≤ 2147483647) (σ0 : Nat → va_E) (G0 : Good K τ σ0) (hend : ∀ (σ' : Nat → va_E) (lv : List (Nat × Value)) (pc : Nat), Good K τ σ' → Fr τ [(2, ρ), (1, ρ)] σ0 σ' → decode cX9_put pc = .ok (.return_, 1) → V p l e R s m args below meth c 2 D A Q (0, 0) (fd dom σ') lv pc []) : V p l e R s m args below meth c 2 D A Q (0, 0) (fd dom σ0) [(0, .ref h), (1, .int (iI x1))] 0 [] := by
  have F0 : Fr τ [(2, ρ), (1, ρ)] σ0 σ0 := Fr.rf
  refine v_aload_n B dX9_put_0 rfl rfl ?_
  obtain ⟨b1, N2, n3, h4, t5, r6⟩ : okRow τ ρ (σ0 h) := G0 h _ t_h
  refine u_get B Z (C := RX9) (T := TX9) (N := 2) (ci := 9) hi_Row_put_X9 t_h h4 rfl 1 (by decide +kernel) (List.mem_of_getElem? (i := 1) rfl) rfl dX9_put_1 ?_
  refine v_aload_n B dX9_put_4 rfl rfl ?_
  refine u_get B Z (C := RX9) (T := TX9) (N := 2) (ci := 9) hi_Row_put_X9 t_h h4 rfl 0 (by decide +kernel) (List.mem_of_getElem? (i := 2) rfl) rfl dX9_put_5 ?_
  obtain ⟨f7, h8, r9, e10⟩ : okB K N2 (σ0 b1) := G0 b1 _ t5
  refine u_alen B Z (t0 := 0) (v := ((N2 : Int))) t5 h8 rfl (by first | rfl | omega) dX9_put_8 ?_
  refine u_icmp_ge B (tgt := 36) (by omega) (by omega) dX9_put_9 (by decide +kernel) (fun c11 => ?_) (fun c11 => ?_)
  · exact hend σ0 _ _ G0 F0 dX9_put_36
  · refine v_aload_n B dX9_put_12 rfl rfl ?_
    refine u_get B Z (C := RX9) (T := TX9) (N := 2) (ci := 9) hi_Row_put_X9 t_h h4 rfl 0 (by decide +kernel) (List.mem_of_getElem? (i := 2) rfl) rfl dX9_put_13 ?_
    refine v_aload_n B dX9_put_16 rfl rfl ?_
    refine u_get B Z (C := RX9) (T := TX9) (N := 2) (ci := 9) hi_Row_put_X9 t_h h4 rfl 1 (by decide +kernel) (List.mem_of_getElem? (i := 1) rfl) rfl dX9_put_17 ?_
    refine v_iload_n B dX9_put_20 rfl rfl ?_
    refine v_sipush B (v := iI 255) dX9_put_21 (by decide +kernel) ?_
    obtain ⟨z12, e13, r14⟩ := iI_and x1 (c := 255) (by decide) (by decide)
    refine v_iand B (v := iI z12) dX9_put_24 e13 ?_
    refine u_iast B Z (t0 := 0) t5 h8 rfl (by omega) dX9_put_25 (fun σ15 h16 n17 => ?_)
    have G18 := G0.put t5 (⟨_, h16, r9, el_upd e10 (by omega) _⟩ : Ok K τ (2, ρ, N2) (σ15 b1)) n17
    have F19 := F0.put t5 (by simp) n17
    have h20 := (n17 h (ne_ty t_h t5 (by simp))).trans h4
    refine v_aload_n B dX9_put_26 rfl rfl ?_
    refine v_dup B dX9_put_27 rfl ?_
    refine u_get B Z (C := RX9) (T := TX9) (N := 2) (ci := 9) hi_Row_put_X9 t_h h20 rfl 1 (by decide +kernel) (List.mem_of_getElem? (i := 1) rfl) rfl dX9_put_28 ?_
    refine v_iconst B (v := iI 1) dX9_put_31 rfl ?_
    refine v_iadd B (v := iI (n3 + 1)) dX9_put_32 ((iI_add _ _).trans (congrArg iI (by omega))) ?_
    refine u_put B Z (C := RX9) (T := TX9) (N := 2) (ci := 9) hi_Row_put_X9 t_h h20 rfl 1 (by decide +kernel) tyX9 tyX9_ok nmX9 (List.mem_of_getElem? (i := 1) rfl) rfl (ty := .int) (tyX9_ok 1 (by decide +kernel)) rfl rfl (Nat.le_of_ble_eq_true rfl) (fs' := [.ref b1, .int (iI (n3 + 1))]) rfl dX9_put_33 (fun σ21 h22 n23 => ?_)
    have G24 := G18.put t_h (⟨b1, N2, (n3 + 1), h22, t5, by omega⟩ : Ok K τ (1, ρ, 0) (σ21 h)) n23
    have F25 := F19.put t_h (by simp) n23
    exact hend σ21 _ _ G24 F25 dX9_put_36
set_option maxRecDepth 100000 in
theorem c_Row_put (l : Launch) (D : va_G) (K : Nat → ClassId) {τ : Nat → Option Ty} {dom : List Nat} (Z : Sk τ dom) (zb zL : Nat) (zx : Nat → Int32) (zs : Nat → Nat) {ρ : Nat} (h : Nat) (x1 : Int) (t_h : τ h = some (1, ρ, 0)) (r_x1 : -2147483648 ≤ x1 ∧ x1 ≤ 2147483647) (σ0 : Nat → va_E) (G0 : Good K τ σ0) : MZ l yX9_put wp_Row_put ({ frames := 0, cells := 0, slots := 0, locals := 0 }) D (tysA K) [.ref h, .int (iI x1)] (fd dom σ0) zb zL zx zs (Qv D (fun σ' => Good K τ σ' ∧ Fr τ [(2, ρ), (1, ρ)] σ0 σ') (fun σ' => fd dom σ')) 0 0 := by
  refine mz_of (cc := cX9_put) (maxL := 2) (ret := none) (by decide +kernel) rfl (Nat.le_of_ble_eq_true rfl) ?_
  intro p e s m below meth c A B hr hlk _ hz
  exact b_Row_put ⟨Nat.le_refl _, Nat.le_refl _⟩ B Z hz h x1 t_h r_x1 σ0 G0 (fun σ' lv pc G F hd => v_vret B hr hlk σ' ⟨G, F⟩ rfl (Nat.le_refl _) (Nat.le_refl _) hd)

def wp_Row_putNumber : List Cond := .code yX9_putNumber cX9_putNumber 5 none :: (([.fieldLink RX9 21 "LowEnergy$Row" "size" "I", .fieldLink RX9 15 "LowEnergy$Row" "bytes" "[I", .constantLong RX9 25 (255)] : List Cond) ++ (wsX90 ++ ([])))
theorem hi_Row_putNumber_X9 : ∀ x ∈ u_ws RX9 TX9 2, x ∈ wp_Row_putNumber := fun _ h => List.mem_cons_of_mem _ (List.mem_append_right _ (List.mem_append_left _ h))
set_option maxHeartbeats 4000000 in
set_option maxRecDepth 100000 in
theorem b_Row_putNumber {p : Program} {l : Launch} {e : Env} {R : Room} {s : State} {m : MethodId} {args : Array Value} {below : List Frame} {meth : Method} {c : Code} {D : va_G} {K : Nat → ClassId} {A : Nat → Prop} {Q : State → Prop} {τ : Nat → Option Ty} {dom : List Nat} {zb zL : Nat} {zx : Nat → Int32} {zs : Nat → Nat} {ρ : Nat} (hR : 0 ≤ R.frames ∧ 0 ≤ R.locals) (B : Bx p s m args c cX9_putNumber 5 RX9 wp_Row_putNumber D (tysA K) A) (Z : Sk τ dom) (hz : ZL zb zL zx zs A s s.heap) (h : Nat) (y1 : Int) (x3 : Int) (t_h : τ h = some (1, ρ, 0)) (r_y1 : InL y1) (r_x3 : -2147483648 ≤ x3 ∧ x3 ≤ 2147483647) (σ0 : Nat → va_E) (G0 : Good K τ σ0) (hend : ∀ (σ' : Nat → va_E) (lv : List (Nat × Value)) (pc : Nat), Good K τ σ' → Fr τ [(2, ρ), (1, ρ)] σ0 σ' → decode cX9_putNumber pc = .ok (.return_, 1) → V p l e R s m args below meth c 5 D A Q (0, 0) (fd dom σ') lv pc []) : V p l e R s m args below meth c 5 D A Q (0, 0) (fd dom σ0) [(0, .ref h), (1, .long (lI y1)), (3, .int (iI x3))] 0 [] := by
  have F0 : Fr τ [(2, ρ), (1, ρ)] σ0 σ0 := Fr.rf
  have J3 : ∀ (k3 : Nat) (σ_3 : Nat → va_E) (z3_4 : Int), (2147483648 - z3_4).toNat ≤ k3 → Good K τ σ_3 → Fr τ [(2, ρ), (1, ρ)] σ0 σ_3 → (0 ≤ z3_4 ∧ z3_4 ≤ 8) → V p l e R s m args below meth c 5 D A Q (0, 0) (fd dom σ_3) [(0, .ref h), (1, .long (lI y1)), (3, .int (iI x3)), (4, .int (iI z3_4))] 3 [] := by
    intro k3
    induction k3 with
    | zero => intro σ_3 z3_4 m3 G_3 F_3 r3_4; omega
    | succ k3 IH3 =>
      intro σ_3 z3_4 m3 G_3 F_3 r3_4
      refine v_iload B dX9_putNumber_3 rfl ?_
      refine v_iload_n B dX9_putNumber_5 rfl rfl ?_
      refine u_icmp_ge B (tgt := 65) (by omega) (by omega) dX9_putNumber_6 (by decide +kernel) (fun c1 => ?_) (fun c1 => ?_)
      · exact hend σ_3 _ _ G_3 F_3 dX9_putNumber_65
      · refine v_iload B dX9_putNumber_9 rfl ?_
        refine v_bipush B (v := iI 8) dX9_putNumber_11 (by decide +kernel) ?_
        refine u_icmp_ge B (tgt := 65) (by omega) (by omega) dX9_putNumber_13 (by decide +kernel) (fun c2 => ?_) (fun c2 => ?_)
        · exact hend σ_3 _ _ G_3 F_3 dX9_putNumber_65
        · refine v_aload_n B dX9_putNumber_16 rfl rfl ?_
          obtain ⟨b3, N4, n5, h6, t7, r8⟩ : okRow τ ρ (σ_3 h) := G_3 h _ t_h
          refine u_get B Z (C := RX9) (T := TX9) (N := 2) (ci := 9) hi_Row_putNumber_X9 t_h h6 rfl 1 (by decide +kernel) (List.mem_of_getElem? (i := 1) rfl) rfl dX9_putNumber_17 ?_
          refine v_aload_n B dX9_putNumber_20 rfl rfl ?_
          refine u_get B Z (C := RX9) (T := TX9) (N := 2) (ci := 9) hi_Row_putNumber_X9 t_h h6 rfl 0 (by decide +kernel) (List.mem_of_getElem? (i := 2) rfl) rfl dX9_putNumber_21 ?_
          obtain ⟨f9, h10, r11, e12⟩ : okB K N4 (σ_3 b3) := G_3 b3 _ t7
          refine u_alen B Z (t0 := 0) (v := ((N4 : Int))) t7 h10 rfl (by first | rfl | omega) dX9_putNumber_24 ?_
          refine u_icmp_ge B (tgt := 65) (by omega) (by omega) dX9_putNumber_25 (by decide +kernel) (fun c13 => ?_) (fun c13 => ?_)
          · exact hend σ_3 _ _ G_3 F_3 dX9_putNumber_65
          · refine v_aload_n B dX9_putNumber_28 rfl rfl ?_
            refine u_get B Z (C := RX9) (T := TX9) (N := 2) (ci := 9) hi_Row_putNumber_X9 t_h h6 rfl 0 (by decide +kernel) (List.mem_of_getElem? (i := 2) rfl) rfl dX9_putNumber_29 ?_
            refine v_aload_n B dX9_putNumber_32 rfl rfl ?_
            refine u_get B Z (C := RX9) (T := TX9) (N := 2) (ci := 9) hi_Row_putNumber_X9 t_h h6 rfl 1 (by decide +kernel) (List.mem_of_getElem? (i := 1) rfl) rfl dX9_putNumber_33 ?_
            refine v_lload_n B dX9_putNumber_36 rfl rfl ?_
            refine v_bipush B (v := iI 8) dX9_putNumber_37 (by decide +kernel) ?_
            refine v_iload B dX9_putNumber_39 rfl ?_
            refine v_imul B (v := iI (8 * z3_4)) dX9_putNumber_41 ((iI_mul _ _).trans (congrArg iI (by omega))) ?_
            obtain ⟨yy14, e15, r16⟩ := lI_any (((lI y1).toUInt64 >>> ((iI (8 * z3_4)).toInt64.toUInt64 &&& Int64.toUInt64 63)).toInt64)
            refine v_lushr B (v := lI yy14) dX9_putNumber_42 e15 ?_
            refine v_ldc2 B (v := lI 255) (u_cl (List.mem_of_getElem? (i := 3) rfl) (by decide +kernel)) dX9_putNumber_43 ?_
            obtain ⟨yy17, e18, r19⟩ := lI_and yy14 (c := 255) (by decide) (by decide)
            refine v_land B (v := lI yy17) dX9_putNumber_46 e18 ?_
            refine v_l2i B (v := iI yy17) dX9_putNumber_47 (iI_l (by omega)) ?_
            refine u_iast B Z (t0 := 0) t7 h10 rfl (by omega) dX9_putNumber_48 (fun σ20 h21 n22 => ?_)
            have G23 := G_3.put t7 (⟨_, h21, r11, el_upd e12 (by omega) _⟩ : Ok K τ (2, ρ, N4) (σ20 b3)) n22
            have F24 := F_3.put t7 (by simp) n22
            have h25 := (n22 h (ne_ty t_h t7 (by simp))).trans h6
            refine v_aload_n B dX9_putNumber_49 rfl rfl ?_
            refine v_dup B dX9_putNumber_50 rfl ?_
            refine u_get B Z (C := RX9) (T := TX9) (N := 2) (ci := 9) hi_Row_putNumber_X9 t_h h25 rfl 1 (by decide +kernel) (List.mem_of_getElem? (i := 1) rfl) rfl dX9_putNumber_51 ?_
            refine v_iconst B (v := iI 1) dX9_putNumber_54 rfl ?_
            refine v_iadd B (v := iI (n5 + 1)) dX9_putNumber_55 ((iI_add _ _).trans (congrArg iI (by omega))) ?_
            refine u_put B Z (C := RX9) (T := TX9) (N := 2) (ci := 9) hi_Row_putNumber_X9 t_h h25 rfl 1 (by decide +kernel) tyX9 tyX9_ok nmX9 (List.mem_of_getElem? (i := 1) rfl) rfl (ty := .int) (tyX9_ok 1 (by decide +kernel)) rfl rfl (Nat.le_of_ble_eq_true rfl) (fs' := [.ref b3, .int (iI (n5 + 1))]) rfl dX9_putNumber_56 (fun σ26 h27 n28 => ?_)
            have G29 := G23.put t_h (⟨b3, N4, (n5 + 1), h27, t7, by omega⟩ : Ok K τ (1, ρ, 0) (σ26 h)) n28
            have F30 := F24.put t_h (by simp) n28
            refine v_iinc B (k := 3) (v := iI (z3_4 + 1)) (lv' := [(4, .int (iI (z3_4 + 1))), (0, .ref h), (1, .long (lI y1)), (3, .int (iI x3))]) dX9_putNumber_59 rfl ((iI_add _ _).trans (congrArg iI (by omega))) (by decide +kernel) rfl ?_
            refine v_goto B (tgt := 3) dX9_putNumber_62 (by decide +kernel) ?_
            refine v_lv [1, 2, 3, 0] rfl ?_
            exact IH3 σ26 (z3_4 + 1) (by omega) G29 F30 ⟨by omega, by omega⟩
  refine v_iconst B (v := iI 0) dX9_putNumber_0 rfl ?_
  refine v_istore B (lv' := [(4, .int (iI 0)), (0, .ref h), (1, .long (lI y1)), (3, .int (iI x3))]) dX9_putNumber_1 (by decide +kernel) rfl ?_
  refine v_lv [1, 2, 3, 0] rfl ?_
  exact J3 _ σ0 0 (Nat.le_refl _) G0 F0 ⟨by omega, by omega⟩
set_option maxRecDepth 100000 in
theorem c_Row_putNumber (l : Launch) (D : va_G) (K : Nat → ClassId) {τ : Nat → Option Ty} {dom : List Nat} (Z : Sk τ dom) (zb zL : Nat) (zx : Nat → Int32) (zs : Nat → Nat) {ρ : Nat} (h : Nat) (y1 : Int) (x3 : Int) (t_h : τ h = some (1, ρ, 0)) (r_y1 : InL y1) (r_x3 : -2147483648 ≤ x3 ∧ x3 ≤ 2147483647) (σ0 : Nat → va_E) (G0 : Good K τ σ0) : MZ l yX9_putNumber wp_Row_putNumber ({ frames := 0, cells := 0, slots := 0, locals := 0 }) D (tysA K) [.ref h, .long (lI y1), .int (iI x3)] (fd dom σ0) zb zL zx zs (Qv D (fun σ' => Good K τ σ' ∧ Fr τ [(2, ρ), (1, ρ)] σ0 σ') (fun σ' => fd dom σ')) 0 0 := by
  refine mz_of (cc := cX9_putNumber) (maxL := 5) (ret := none) (by decide +kernel) rfl (Nat.le_of_ble_eq_true rfl) ?_
  intro p e s m below meth c A B hr hlk _ hz
  exact b_Row_putNumber ⟨Nat.le_refl _, Nat.le_refl _⟩ B Z hz h y1 x3 t_h r_y1 r_x3 σ0 G0 (fun σ' lv pc G F hd => v_vret B hr hlk σ' ⟨G, F⟩ rfl (Nat.le_refl _) (Nat.le_refl _) hd)

def wp_Row_putHighestFirst : List Cond := .code yX9_putHighestFirst cX9_putHighestFirst 3 none :: (([.fieldLink RX9 21 "LowEnergy$Row" "size" "I", .fieldLink RX9 15 "LowEnergy$Row" "bytes" "[I"] : List Cond) ++ (wsX90 ++ ([])))
theorem hi_Row_putHighestFirst_X9 : ∀ x ∈ u_ws RX9 TX9 2, x ∈ wp_Row_putHighestFirst := fun _ h => List.mem_cons_of_mem _ (List.mem_append_right _ (List.mem_append_left _ h))
set_option maxHeartbeats 4000000 in
set_option maxRecDepth 100000 in
theorem b_Row_putHighestFirst {p : Program} {l : Launch} {e : Env} {R : Room} {s : State} {m : MethodId} {args : Array Value} {below : List Frame} {meth : Method} {c : Code} {D : va_G} {K : Nat → ClassId} {A : Nat → Prop} {Q : State → Prop} {τ : Nat → Option Ty} {dom : List Nat} {zb zL : Nat} {zx : Nat → Int32} {zs : Nat → Nat} {ρ : Nat} (hR : 0 ≤ R.frames ∧ 0 ≤ R.locals) (B : Bx p s m args c cX9_putHighestFirst 3 RX9 wp_Row_putHighestFirst D (tysA K) A) (Z : Sk τ dom) (hz : ZL zb zL zx zs A s s.heap) (h : Nat) (x1 : Int) (t_h : τ h = some (1, ρ, 0)) (r_x1 : -2147483648 ≤ x1 ∧ x1 ≤ 2147483647) (σ0 : Nat → va_E) (G0 : Good K τ σ0) (hend : ∀ (σ' : Nat → va_E) (lv : List (Nat × Value)) (pc : Nat), Good K τ σ' → Fr τ [(2, ρ), (1, ρ)] σ0 σ' → decode cX9_putHighestFirst pc = .ok (.return_, 1) → V p l e R s m args below meth c 3 D A Q (0, 0) (fd dom σ') lv pc []) : V p l e R s m args below meth c 3 D A Q (0, 0) (fd dom σ0) [(0, .ref h), (1, .int (iI x1))] 0 [] := by
  have F0 : Fr τ [(2, ρ), (1, ρ)] σ0 σ0 := Fr.rf
  have J3 : ∀ (k3 : Nat) (σ_3 : Nat → va_E) (z3_2 : Int), (z3_2 + 2147483649).toNat ≤ k3 → Good K τ σ_3 → Fr τ [(2, ρ), (1, ρ)] σ0 σ_3 → (-8 ≤ z3_2 ∧ z3_2 ≤ 24) → V p l e R s m args below meth c 3 D A Q (0, 0) (fd dom σ_3) [(0, .ref h), (1, .int (iI x1)), (2, .int (iI z3_2))] 3 [] := by
    intro k3
    induction k3 with
    | zero => intro σ_3 z3_2 m3 G_3 F_3 r3_2; omega
    | succ k3 IH3 =>
      intro σ_3 z3_2 m3 G_3 F_3 r3_2
      refine v_iload_n B dX9_putHighestFirst_3 rfl rfl ?_
      refine u_if_lt B (tgt := 51) (by omega) dX9_putHighestFirst_4 (by decide +kernel) (fun c1 => ?_) (fun c1 => ?_)
      · exact hend σ_3 _ _ G_3 F_3 dX9_putHighestFirst_51
      · refine v_aload_n B dX9_putHighestFirst_7 rfl rfl ?_
        obtain ⟨b2, N3, n4, h5, t6, r7⟩ : okRow τ ρ (σ_3 h) := G_3 h _ t_h
        refine u_get B Z (C := RX9) (T := TX9) (N := 2) (ci := 9) hi_Row_putHighestFirst_X9 t_h h5 rfl 1 (by decide +kernel) (List.mem_of_getElem? (i := 1) rfl) rfl dX9_putHighestFirst_8 ?_
        refine v_aload_n B dX9_putHighestFirst_11 rfl rfl ?_
        refine u_get B Z (C := RX9) (T := TX9) (N := 2) (ci := 9) hi_Row_putHighestFirst_X9 t_h h5 rfl 0 (by decide +kernel) (List.mem_of_getElem? (i := 2) rfl) rfl dX9_putHighestFirst_12 ?_
        obtain ⟨f8, h9, r10, e11⟩ : okB K N3 (σ_3 b2) := G_3 b2 _ t6
        refine u_alen B Z (t0 := 0) (v := ((N3 : Int))) t6 h9 rfl (by first | rfl | omega) dX9_putHighestFirst_15 ?_
        refine u_icmp_ge B (tgt := 51) (by omega) (by omega) dX9_putHighestFirst_16 (by decide +kernel) (fun c12 => ?_) (fun c12 => ?_)
        · exact hend σ_3 _ _ G_3 F_3 dX9_putHighestFirst_51
        · refine v_aload_n B dX9_putHighestFirst_19 rfl rfl ?_
          refine u_get B Z (C := RX9) (T := TX9) (N := 2) (ci := 9) hi_Row_putHighestFirst_X9 t_h h5 rfl 0 (by decide +kernel) (List.mem_of_getElem? (i := 2) rfl) rfl dX9_putHighestFirst_20 ?_
          refine v_aload_n B dX9_putHighestFirst_23 rfl rfl ?_
          refine u_get B Z (C := RX9) (T := TX9) (N := 2) (ci := 9) hi_Row_putHighestFirst_X9 t_h h5 rfl 1 (by decide +kernel) (List.mem_of_getElem? (i := 1) rfl) rfl dX9_putHighestFirst_24 ?_
          refine v_iload_n B dX9_putHighestFirst_27 rfl rfl ?_
          refine v_iload_n B dX9_putHighestFirst_28 rfl rfl ?_
          obtain ⟨z13, e14, r15⟩ := iI_any (((iI x1).toUInt32 >>> ((iI z3_2).toUInt32 &&& Int32.toUInt32 31)).toInt32)
          refine v_iushr B (v := iI z13) dX9_putHighestFirst_29 e14 ?_
          refine v_sipush B (v := iI 255) dX9_putHighestFirst_30 (by decide +kernel) ?_
          obtain ⟨z16, e17, r18⟩ := iI_and z13 (c := 255) (by decide) (by decide)
          refine v_iand B (v := iI z16) dX9_putHighestFirst_33 e17 ?_
          refine u_iast B Z (t0 := 0) t6 h9 rfl (by omega) dX9_putHighestFirst_34 (fun σ19 h20 n21 => ?_)
          have G22 := G_3.put t6 (⟨_, h20, r10, el_upd e11 (by omega) _⟩ : Ok K τ (2, ρ, N3) (σ19 b2)) n21
          have F23 := F_3.put t6 (by simp) n21
          have h24 := (n21 h (ne_ty t_h t6 (by simp))).trans h5
          refine v_aload_n B dX9_putHighestFirst_35 rfl rfl ?_
          refine v_dup B dX9_putHighestFirst_36 rfl ?_
          refine u_get B Z (C := RX9) (T := TX9) (N := 2) (ci := 9) hi_Row_putHighestFirst_X9 t_h h24 rfl 1 (by decide +kernel) (List.mem_of_getElem? (i := 1) rfl) rfl dX9_putHighestFirst_37 ?_
          refine v_iconst B (v := iI 1) dX9_putHighestFirst_40 rfl ?_
          refine v_iadd B (v := iI (n4 + 1)) dX9_putHighestFirst_41 ((iI_add _ _).trans (congrArg iI (by omega))) ?_
          refine u_put B Z (C := RX9) (T := TX9) (N := 2) (ci := 9) hi_Row_putHighestFirst_X9 t_h h24 rfl 1 (by decide +kernel) tyX9 tyX9_ok nmX9 (List.mem_of_getElem? (i := 1) rfl) rfl (ty := .int) (tyX9_ok 1 (by decide +kernel)) rfl rfl (Nat.le_of_ble_eq_true rfl) (fs' := [.ref b2, .int (iI (n4 + 1))]) rfl dX9_putHighestFirst_42 (fun σ25 h26 n27 => ?_)
          have G28 := G22.put t_h (⟨b2, N3, (n4 + 1), h26, t6, by omega⟩ : Ok K τ (1, ρ, 0) (σ25 h)) n27
          have F29 := F23.put t_h (by simp) n27
          refine v_iinc B (k := 2) (v := iI (z3_2 + (-8))) (lv' := [(2, .int (iI (z3_2 + (-8)))), (0, .ref h), (1, .int (iI x1))]) dX9_putHighestFirst_45 rfl ((iI_add _ _).trans (congrArg iI (by omega))) (by decide +kernel) rfl ?_
          refine v_goto B (tgt := 3) dX9_putHighestFirst_48 (by decide +kernel) ?_
          refine v_lv [1, 2, 0] rfl ?_
          exact IH3 σ25 (z3_2 + (-8)) (by omega) G28 F29 ⟨by omega, by omega⟩
  refine v_bipush B (v := iI 24) dX9_putHighestFirst_0 (by decide +kernel) ?_
  refine v_istore_n B (lv' := [(2, .int (iI 24)), (0, .ref h), (1, .int (iI x1))]) dX9_putHighestFirst_2 rfl (by decide +kernel) rfl ?_
  refine v_lv [1, 2, 0] rfl ?_
  exact J3 _ σ0 24 (Nat.le_refl _) G0 F0 ⟨by omega, by omega⟩
set_option maxRecDepth 100000 in
theorem c_Row_putHighestFirst (l : Launch) (D : va_G) (K : Nat → ClassId) {τ : Nat → Option Ty} {dom : List Nat} (Z : Sk τ dom) (zb zL : Nat) (zx : Nat → Int32) (zs : Nat → Nat) {ρ : Nat} (h : Nat) (x1 : Int) (t_h : τ h = some (1, ρ, 0)) (r_x1 : -2147483648 ≤ x1 ∧ x1 ≤ 2147483647) (σ0 : Nat → va_E) (G0 : Good K τ σ0) : MZ l yX9_putHighestFirst wp_Row_putHighestFirst ({ frames := 0, cells := 0, slots := 0, locals := 0 }) D (tysA K) [.ref h, .int (iI x1)] (fd dom σ0) zb zL zx zs (Qv D (fun σ' => Good K τ σ' ∧ Fr τ [(2, ρ), (1, ρ)] σ0 σ') (fun σ' => fd dom σ')) 0 0 := by
  refine mz_of (cc := cX9_putHighestFirst) (maxL := 3) (ret := none) (by decide +kernel) rfl (Nat.le_of_ble_eq_true rfl) ?_
  intro p e s m below meth c A B hr hlk _ hz
  exact b_Row_putHighestFirst ⟨Nat.le_refl _, Nat.le_refl _⟩ B Z hz h x1 t_h r_x1 σ0 G0 (fun σ' lv pc G F hd => v_vret B hr hlk σ' ⟨G, F⟩ rfl (Nat.le_refl _) (Nat.le_refl _) hd)

def wp_Row_putPart : List Cond := .code yX9_putPart cX9_putPart 6 none :: (([.fieldLink RX9 21 "LowEnergy$Row" "size" "I", .fieldLink RX9 15 "LowEnergy$Row" "bytes" "[I", .methodLink RX9 9 Lib.Math.max.name, .static Lib.Math.max.name, .initialized "java/lang/Math", .code Lib.Math.max.name Lib.Math.max.code 2 (some .int)] : List Cond) ++ (wsX90 ++ ([])))
theorem hi_Row_putPart_X9 : ∀ x ∈ u_ws RX9 TX9 2, x ∈ wp_Row_putPart := fun _ h => List.mem_cons_of_mem _ (List.mem_append_right _ (List.mem_append_left _ h))
set_option maxHeartbeats 4000000 in
set_option maxRecDepth 100000 in
theorem b_Row_putPart {p : Program} {l : Launch} {e : Env} {R : Room} {s : State} {m : MethodId} {args : Array Value} {below : List Frame} {meth : Method} {c : Code} {D : va_G} {K : Nat → ClassId} {A : Nat → Prop} {Q : State → Prop} {τ : Nat → Option Ty} {dom : List Nat} {zb zL : Nat} {zx : Nat → Int32} {zs : Nat → Nat} {ρ : Nat} {π : Nat} (hR : 1 ≤ R.frames ∧ 13 ≤ R.locals) (B : Bx p s m args c cX9_putPart 6 RX9 wp_Row_putPart D (tysA K) A) (Z : Sk τ dom) (hz : ZL zb zL zx zs A s s.heap) (h : Nat) (g : Nat) (x2 : Int) (x3 : Int) (t_h : τ h = some (1, ρ, 0)) (t_g : τ g = some (1, π, 0)) (r_x2 : -2147483648 ≤ x2 ∧ x2 ≤ 2147483647) (r_x3 : -2147483648 ≤ x3 ∧ x3 ≤ 2147483647) (σ0 : Nat → va_E) (G0 : Good K τ σ0) (hend : ∀ (σ' : Nat → va_E) (lv : List (Nat × Value)) (pc : Nat), Good K τ σ' → Fr τ [(2, ρ), (1, ρ)] σ0 σ' → decode cX9_putPart pc = .ok (.return_, 1) → V p l e R s m args below meth c 6 D A Q (0, 0) (fd dom σ') lv pc []) : V p l e R s m args below meth c 6 D A Q (0, 0) (fd dom σ0) [(0, .ref h), (1, .ref g), (2, .int (iI x2)), (3, .int (iI x3))] 0 [] := by
  have F0 : Fr τ [(2, ρ), (1, ρ)] σ0 σ0 := Fr.rf
  have J11 : ∀ (k11 : Nat) (σ_11 : Nat → va_E) (z11_4 : Int) (z11_5 : Int), (2147483648 - z11_5).toNat ≤ k11 → Good K τ σ_11 → Fr τ [(2, ρ), (1, ρ)] σ0 σ_11 → (0 ≤ z11_4 ∧ z11_4 ≤ 2147483647) → (0 ≤ z11_5 ∧ z11_5 ≤ 2147483647) → V p l e R s m args below meth c 6 D A Q (0, 0) (fd dom σ_11) [(0, .ref h), (1, .ref g), (3, .int (iI x3)), (4, .int (iI z11_4)), (5, .int (iI z11_5))] 11 [] := by
    intro k11
    induction k11 with
    | zero => intro σ_11 z11_4 z11_5 m11 G_11 F_11 r11_4 r11_5; omega
    | succ k11 IH11 =>
      intro σ_11 z11_4 z11_5 m11 G_11 F_11 r11_4 r11_5
      refine v_iload B dX9_putPart_11 rfl ?_
      refine v_iload B dX9_putPart_13 rfl ?_
      refine v_isub B (v := iI (z11_5 + (-1) * z11_4)) dX9_putPart_15 ((iI_sub _ _).trans (congrArg iI (by omega))) ?_
      refine v_iload_n B dX9_putPart_16 rfl rfl ?_
      refine u_icmp_ge B (tgt := 73) (by omega) (by omega) dX9_putPart_17 (by decide +kernel) (fun c1 => ?_) (fun c1 => ?_)
      · exact hend σ_11 _ _ G_11 F_11 dX9_putPart_73
      · refine v_iload B dX9_putPart_20 rfl ?_
        refine v_aload_n B dX9_putPart_22 rfl rfl ?_
        obtain ⟨b2, N3, n4, h5, t6, r7⟩ : okRow τ π (σ_11 g) := G_11 g _ t_g
        refine u_get B Z (C := RX9) (T := TX9) (N := 2) (ci := 9) hi_Row_putPart_X9 t_g h5 rfl 1 (by decide +kernel) (List.mem_of_getElem? (i := 1) rfl) rfl dX9_putPart_23 ?_
        refine u_icmp_ge B (tgt := 73) (by omega) (by omega) dX9_putPart_26 (by decide +kernel) (fun c8 => ?_) (fun c8 => ?_)
        · exact hend σ_11 _ _ G_11 F_11 dX9_putPart_73
        · refine v_aload_n B dX9_putPart_29 rfl rfl ?_
          obtain ⟨b9, N10, n11, h12, t13, r14⟩ : okRow τ ρ (σ_11 h) := G_11 h _ t_h
          refine u_get B Z (C := RX9) (T := TX9) (N := 2) (ci := 9) hi_Row_putPart_X9 t_h h12 rfl 1 (by decide +kernel) (List.mem_of_getElem? (i := 1) rfl) rfl dX9_putPart_30 ?_
          refine v_aload_n B dX9_putPart_33 rfl rfl ?_
          refine u_get B Z (C := RX9) (T := TX9) (N := 2) (ci := 9) hi_Row_putPart_X9 t_h h12 rfl 0 (by decide +kernel) (List.mem_of_getElem? (i := 2) rfl) rfl dX9_putPart_34 ?_
          obtain ⟨f15, h16, r17, e18⟩ : okB K N10 (σ_11 b9) := G_11 b9 _ t13
          refine u_alen B Z (t0 := 0) (v := ((N10 : Int))) t13 h16 rfl (by first | rfl | omega) dX9_putPart_37 ?_
          refine u_icmp_ge B (tgt := 73) (by omega) (by omega) dX9_putPart_38 (by decide +kernel) (fun c19 => ?_) (fun c19 => ?_)
          · exact hend σ_11 _ _ G_11 F_11 dX9_putPart_73
          · refine v_aload_n B dX9_putPart_41 rfl rfl ?_
            refine u_get B Z (C := RX9) (T := TX9) (N := 2) (ci := 9) hi_Row_putPart_X9 t_h h12 rfl 0 (by decide +kernel) (List.mem_of_getElem? (i := 2) rfl) rfl dX9_putPart_42 ?_
            refine v_aload_n B dX9_putPart_45 rfl rfl ?_
            refine u_get B Z (C := RX9) (T := TX9) (N := 2) (ci := 9) hi_Row_putPart_X9 t_h h12 rfl 1 (by decide +kernel) (List.mem_of_getElem? (i := 1) rfl) rfl dX9_putPart_46 ?_
            refine v_aload_n B dX9_putPart_49 rfl rfl ?_
            refine u_get B Z (C := RX9) (T := TX9) (N := 2) (ci := 9) hi_Row_putPart_X9 t_g h5 rfl 0 (by decide +kernel) (List.mem_of_getElem? (i := 2) rfl) rfl dX9_putPart_50 ?_
            refine v_iload B dX9_putPart_53 rfl ?_
            obtain ⟨f20, h21, r22, e23⟩ : okB K N3 (σ_11 b2) := G_11 b2 _ t6
            obtain ⟨z24, e25, r26⟩ := e23 (z11_5 : Int).toNat
            refine u_iald B Z (t0 := 0) t6 h21 rfl (by omega) e25 dX9_putPart_55 ?_
            refine u_iast B Z (t0 := 0) t13 h16 rfl (by omega) dX9_putPart_56 (fun σ27 h28 n29 => ?_)
            have G30 := G_11.put t13 (⟨_, h28, r17, el_upd e18 (by omega) _⟩ : Ok K τ (2, ρ, N10) (σ27 b9)) n29
            have F31 := F_11.put t13 (by simp) n29
            have h32 := (n29 g (ne_ty t_g t13 (by simp))).trans h5
            have h33 := (n29 h (ne_ty t_h t13 (by simp))).trans h12
            refine v_aload_n B dX9_putPart_57 rfl rfl ?_
            refine v_dup B dX9_putPart_58 rfl ?_
            refine u_get B Z (C := RX9) (T := TX9) (N := 2) (ci := 9) hi_Row_putPart_X9 t_h h33 rfl 1 (by decide +kernel) (List.mem_of_getElem? (i := 1) rfl) rfl dX9_putPart_59 ?_
            refine v_iconst B (v := iI 1) dX9_putPart_62 rfl ?_
            refine v_iadd B (v := iI (n11 + 1)) dX9_putPart_63 ((iI_add _ _).trans (congrArg iI (by omega))) ?_
            refine u_put B Z (C := RX9) (T := TX9) (N := 2) (ci := 9) hi_Row_putPart_X9 t_h h33 rfl 1 (by decide +kernel) tyX9 tyX9_ok nmX9 (List.mem_of_getElem? (i := 1) rfl) rfl (ty := .int) (tyX9_ok 1 (by decide +kernel)) rfl rfl (Nat.le_of_ble_eq_true rfl) (fs' := [.ref b9, .int (iI (n11 + 1))]) rfl dX9_putPart_64 (fun σ34 h35 n36 => ?_)
            have G37 := G30.put t_h (⟨b9, N10, (n11 + 1), h35, t13, by omega⟩ : Ok K τ (1, ρ, 0) (σ34 h)) n36
            have F38 := F31.put t_h (by simp) n36
            refine v_iinc B (k := 4) (v := iI (z11_5 + 1)) (lv' := [(5, .int (iI (z11_5 + 1))), (0, .ref h), (1, .ref g), (3, .int (iI x3)), (4, .int (iI z11_4))]) dX9_putPart_67 rfl ((iI_add _ _).trans (congrArg iI (by omega))) (by decide +kernel) rfl ?_
            refine v_goto B (tgt := 11) dX9_putPart_70 (by decide +kernel) ?_
            refine v_lv [1, 2, 3, 4, 0] rfl ?_
            exact IH11 σ34 z11_4 (z11_5 + 1) (by omega) G37 F38 ⟨by omega, by omega⟩ ⟨by omega, by omega⟩
  refine v_iload_n B dX9_putPart_0 rfl rfl ?_
  refine v_iconst B (v := iI 0) dX9_putPart_1 rfl ?_
  obtain ⟨z39, e40, r41⟩ := iI_max (a := x2) (b := 0) (by omega) (by omega)
  refine v_mmax B (v := iI z39) (List.mem_of_getElem? (i := 3) rfl) (List.mem_of_getElem? (i := 4) rfl) (List.mem_of_getElem? (i := 5) rfl) (List.mem_of_getElem? (i := 6) rfl) (Nat.le_trans (by decide +kernel) hR.1) (Nat.le_trans (Nat.le_of_ble_eq_true rfl) hR.2) (Nat.zero_le _) (Nat.zero_le _) e40 dX9_putPart_2 ?_
  refine v_istore B (lv' := [(4, .int (iI z39)), (0, .ref h), (1, .ref g), (2, .int (iI x2)), (3, .int (iI x3))]) dX9_putPart_5 (by decide +kernel) rfl ?_
  refine v_iload B dX9_putPart_7 rfl ?_
  refine v_istore B (lv' := [(5, .int (iI z39)), (4, .int (iI z39)), (0, .ref h), (1, .ref g), (2, .int (iI x2)), (3, .int (iI x3))]) dX9_putPart_9 (by decide +kernel) rfl ?_
  refine v_lv [2, 3, 5, 1, 0] rfl ?_
  exact J11 _ σ0 z39 z39 (Nat.le_refl _) G0 F0 ⟨by omega, by omega⟩ ⟨by omega, by omega⟩
set_option maxRecDepth 100000 in
theorem c_Row_putPart (l : Launch) (D : va_G) (K : Nat → ClassId) {τ : Nat → Option Ty} {dom : List Nat} (Z : Sk τ dom) (zb zL : Nat) (zx : Nat → Int32) (zs : Nat → Nat) {ρ : Nat} {π : Nat} (h : Nat) (g : Nat) (x2 : Int) (x3 : Int) (t_h : τ h = some (1, ρ, 0)) (t_g : τ g = some (1, π, 0)) (r_x2 : -2147483648 ≤ x2 ∧ x2 ≤ 2147483647) (r_x3 : -2147483648 ≤ x3 ∧ x3 ≤ 2147483647) (σ0 : Nat → va_E) (G0 : Good K τ σ0) : MZ l yX9_putPart wp_Row_putPart ({ frames := 1, cells := 0, slots := 0, locals := 13 }) D (tysA K) [.ref h, .ref g, .int (iI x2), .int (iI x3)] (fd dom σ0) zb zL zx zs (Qv D (fun σ' => Good K τ σ' ∧ Fr τ [(2, ρ), (1, ρ)] σ0 σ') (fun σ' => fd dom σ')) 0 0 := by
  refine mz_of (cc := cX9_putPart) (maxL := 6) (ret := none) (by decide +kernel) rfl (Nat.le_of_ble_eq_true rfl) ?_
  intro p e s m below meth c A B hr hlk _ hz
  exact b_Row_putPart ⟨Nat.le_refl _, Nat.le_refl _⟩ B Z hz h g x2 x3 t_h t_g r_x2 r_x3 σ0 G0 (fun σ' lv pc G F hd => v_vret B hr hlk σ' ⟨G, F⟩ rfl (Nat.le_refl _) (Nat.le_refl _) hd)

def wp_Row_putBytes : List Cond := .code yX9_putBytes cX9_putBytes 3 none :: (([.fieldLink RX9 21 "LowEnergy$Row" "size" "I", .fieldLink RX9 15 "LowEnergy$Row" "bytes" "[I"] : List Cond) ++ (wsX90 ++ ([])))
theorem hi_Row_putBytes_X9 : ∀ x ∈ u_ws RX9 TX9 2, x ∈ wp_Row_putBytes := fun _ h => List.mem_cons_of_mem _ (List.mem_append_right _ (List.mem_append_left _ h))
set_option maxHeartbeats 4000000 in
set_option maxRecDepth 100000 in
theorem b_Row_putBytes {p : Program} {l : Launch} {e : Env} {R : Room} {s : State} {m : MethodId} {args : Array Value} {below : List Frame} {meth : Method} {c : Code} {D : va_G} {K : Nat → ClassId} {A : Nat → Prop} {Q : State → Prop} {τ : Nat → Option Ty} {dom : List Nat} {zb zL : Nat} {zx : Nat → Int32} {zs : Nat → Nat} {ρ : Nat} {π : Nat} {N : Nat} (hR : 0 ≤ R.frames ∧ 0 ≤ R.locals) (B : Bx p s m args c cX9_putBytes 3 RX9 wp_Row_putBytes D (tysA K) A) (Z : Sk τ dom) (hz : ZL zb zL zx zs A s s.heap) (h : Nat) (g : Nat) (t_h : τ h = some (1, ρ, 0)) (t_g : τ g = some (2, π, N)) (σ0 : Nat → va_E) (G0 : Good K τ σ0) (hend : ∀ (σ' : Nat → va_E) (lv : List (Nat × Value)) (pc : Nat), Good K τ σ' → Fr τ [(2, ρ), (1, ρ)] σ0 σ' → decode cX9_putBytes pc = .ok (.return_, 1) → V p l e R s m args below meth c 3 D A Q (0, 0) (fd dom σ') lv pc []) : V p l e R s m args below meth c 3 D A Q (0, 0) (fd dom σ0) [(0, .ref h), (1, .ref g)] 0 [] := by
  have F0 : Fr τ [(2, ρ), (1, ρ)] σ0 σ0 := Fr.rf
  have J2 : ∀ (k2 : Nat) (σ_2 : Nat → va_E) (z2_2 : Int), (2147483648 - z2_2).toNat ≤ k2 → Good K τ σ_2 → Fr τ [(2, ρ), (1, ρ)] σ0 σ_2 → (0 ≤ z2_2 ∧ z2_2 ≤ 256) → V p l e R s m args below meth c 3 D A Q (0, 0) (fd dom σ_2) [(0, .ref h), (1, .ref g), (2, .int (iI z2_2))] 2 [] := by
    intro k2
    induction k2 with
    | zero => intro σ_2 z2_2 m2 G_2 F_2 r2_2; omega
    | succ k2 IH2 =>
      intro σ_2 z2_2 m2 G_2 F_2 r2_2
      refine v_iload_n B dX9_putBytes_2 rfl rfl ?_
      refine v_aload_n B dX9_putBytes_3 rfl rfl ?_
      obtain ⟨f1, h2, r3, e4⟩ : okB K N (σ_2 g) := G_2 g _ t_g
      refine u_alen B Z (t0 := 0) (v := ((N : Int))) t_g h2 rfl (by first | rfl | omega) dX9_putBytes_4 ?_
      refine u_icmp_ge B (tgt := 48) (by omega) (by omega) dX9_putBytes_5 (by decide +kernel) (fun c5 => ?_) (fun c5 => ?_)
      · exact hend σ_2 _ _ G_2 F_2 dX9_putBytes_48
      · refine v_aload_n B dX9_putBytes_8 rfl rfl ?_
        obtain ⟨b6, N7, n8, h9, t10, r11⟩ : okRow τ ρ (σ_2 h) := G_2 h _ t_h
        refine u_get B Z (C := RX9) (T := TX9) (N := 2) (ci := 9) hi_Row_putBytes_X9 t_h h9 rfl 1 (by decide +kernel) (List.mem_of_getElem? (i := 1) rfl) rfl dX9_putBytes_9 ?_
        refine v_aload_n B dX9_putBytes_12 rfl rfl ?_
        refine u_get B Z (C := RX9) (T := TX9) (N := 2) (ci := 9) hi_Row_putBytes_X9 t_h h9 rfl 0 (by decide +kernel) (List.mem_of_getElem? (i := 2) rfl) rfl dX9_putBytes_13 ?_
        obtain ⟨f12, h13, r14, e15⟩ : okB K N7 (σ_2 b6) := G_2 b6 _ t10
        refine u_alen B Z (t0 := 0) (v := ((N7 : Int))) t10 h13 rfl (by first | rfl | omega) dX9_putBytes_16 ?_
        refine u_icmp_ge B (tgt := 48) (by omega) (by omega) dX9_putBytes_17 (by decide +kernel) (fun c16 => ?_) (fun c16 => ?_)
        · exact hend σ_2 _ _ G_2 F_2 dX9_putBytes_48
        · refine v_aload_n B dX9_putBytes_20 rfl rfl ?_
          refine u_get B Z (C := RX9) (T := TX9) (N := 2) (ci := 9) hi_Row_putBytes_X9 t_h h9 rfl 0 (by decide +kernel) (List.mem_of_getElem? (i := 2) rfl) rfl dX9_putBytes_21 ?_
          refine v_aload_n B dX9_putBytes_24 rfl rfl ?_
          refine u_get B Z (C := RX9) (T := TX9) (N := 2) (ci := 9) hi_Row_putBytes_X9 t_h h9 rfl 1 (by decide +kernel) (List.mem_of_getElem? (i := 1) rfl) rfl dX9_putBytes_25 ?_
          refine v_aload_n B dX9_putBytes_28 rfl rfl ?_
          refine v_iload_n B dX9_putBytes_29 rfl rfl ?_
          obtain ⟨z17, e18, r19⟩ := e4 (z2_2 : Int).toNat
          refine u_iald B Z (t0 := 0) t_g h2 rfl (by omega) e18 dX9_putBytes_30 ?_
          refine u_iast B Z (t0 := 0) t10 h13 rfl (by omega) dX9_putBytes_31 (fun σ20 h21 n22 => ?_)
          have G23 := G_2.put t10 (⟨_, h21, r14, el_upd e15 (by omega) _⟩ : Ok K τ (2, ρ, N7) (σ20 b6)) n22
          have F24 := F_2.put t10 (by simp) n22
          have h25 := (n22 h (ne_ty t_h t10 (by simp))).trans h9
          refine v_aload_n B dX9_putBytes_32 rfl rfl ?_
          refine v_dup B dX9_putBytes_33 rfl ?_
          refine u_get B Z (C := RX9) (T := TX9) (N := 2) (ci := 9) hi_Row_putBytes_X9 t_h h25 rfl 1 (by decide +kernel) (List.mem_of_getElem? (i := 1) rfl) rfl dX9_putBytes_34 ?_
          refine v_iconst B (v := iI 1) dX9_putBytes_37 rfl ?_
          refine v_iadd B (v := iI (n8 + 1)) dX9_putBytes_38 ((iI_add _ _).trans (congrArg iI (by omega))) ?_
          refine u_put B Z (C := RX9) (T := TX9) (N := 2) (ci := 9) hi_Row_putBytes_X9 t_h h25 rfl 1 (by decide +kernel) tyX9 tyX9_ok nmX9 (List.mem_of_getElem? (i := 1) rfl) rfl (ty := .int) (tyX9_ok 1 (by decide +kernel)) rfl rfl (Nat.le_of_ble_eq_true rfl) (fs' := [.ref b6, .int (iI (n8 + 1))]) rfl dX9_putBytes_39 (fun σ26 h27 n28 => ?_)
          have G29 := G23.put t_h (⟨b6, N7, (n8 + 1), h27, t10, by omega⟩ : Ok K τ (1, ρ, 0) (σ26 h)) n28
          have F30 := F24.put t_h (by simp) n28
          refine v_iinc B (k := 2) (v := iI (z2_2 + 1)) (lv' := [(2, .int (iI (z2_2 + 1))), (0, .ref h), (1, .ref g)]) dX9_putBytes_42 rfl ((iI_add _ _).trans (congrArg iI (by omega))) (by decide +kernel) rfl ?_
          refine v_goto B (tgt := 2) dX9_putBytes_45 (by decide +kernel) ?_
          refine v_lv [1, 2, 0] rfl ?_
          exact IH2 σ26 (z2_2 + 1) (by omega) G29 F30 ⟨by omega, by omega⟩
  refine v_iconst B (v := iI 0) dX9_putBytes_0 rfl ?_
  refine v_istore_n B (lv' := [(2, .int (iI 0)), (0, .ref h), (1, .ref g)]) dX9_putBytes_1 rfl (by decide +kernel) rfl ?_
  refine v_lv [1, 2, 0] rfl ?_
  exact J2 _ σ0 0 (Nat.le_refl _) G0 F0 ⟨by omega, by omega⟩
set_option maxRecDepth 100000 in
theorem c_Row_putBytes (l : Launch) (D : va_G) (K : Nat → ClassId) {τ : Nat → Option Ty} {dom : List Nat} (Z : Sk τ dom) (zb zL : Nat) (zx : Nat → Int32) (zs : Nat → Nat) {ρ : Nat} {π : Nat} {N : Nat} (h : Nat) (g : Nat) (t_h : τ h = some (1, ρ, 0)) (t_g : τ g = some (2, π, N)) (σ0 : Nat → va_E) (G0 : Good K τ σ0) : MZ l yX9_putBytes wp_Row_putBytes ({ frames := 0, cells := 0, slots := 0, locals := 0 }) D (tysA K) [.ref h, .ref g] (fd dom σ0) zb zL zx zs (Qv D (fun σ' => Good K τ σ' ∧ Fr τ [(2, ρ), (1, ρ)] σ0 σ') (fun σ' => fd dom σ')) 0 0 := by
  refine mz_of (cc := cX9_putBytes) (maxL := 3) (ret := none) (by decide +kernel) rfl (Nat.le_of_ble_eq_true rfl) ?_
  intro p e s m below meth c A B hr hlk _ hz
  exact b_Row_putBytes ⟨Nat.le_refl _, Nat.le_refl _⟩ B Z hz h g t_h t_g σ0 G0 (fun σ' lv pc G F hd => v_vret B hr hlk σ' ⟨G, F⟩ rfl (Nat.le_refl _) (Nat.le_refl _) hd)

def wp_Row_become : List Cond := .code yX9_become cX9_become 2 none :: (([.fieldLink RX9 21 "LowEnergy$Row" "size" "I", .methodLink RX9 27 yX9_putPart, .instanceMethod yX9_putPart, .selects RX9 yX9_putPart yX9_putPart, .initialized RX9, .code yX9_putPart cX9_putPart 6 none, .fieldLink RX9 15 "LowEnergy$Row" "bytes" "[I", .methodLink RX9 9 Lib.Math.max.name, .static Lib.Math.max.name, .initialized "java/lang/Math", .code Lib.Math.max.name Lib.Math.max.code 2 (some .int)] : List Cond) ++ (wsX90 ++ ([])))
theorem hi_Row_become_X9 : ∀ x ∈ u_ws RX9 TX9 2, x ∈ wp_Row_become := fun _ h => List.mem_cons_of_mem _ (List.mem_append_right _ (List.mem_append_left _ h))
set_option maxRecDepth 100000 in
theorem gd_Row_become_Row_putPart_27 : GoodIn wp_Row_become (wsV RX9 27 RX9 yX9_putPart wp_Row_putPart) := goodIn_app (goodIn_r _ [2, 3, 4, 5] rfl rfl) (goodIn_ca (goodIn_r _ [6, 1, 7, 8, 9, 10, 11] rfl rfl) (goodIn_app (goodIn_cls hi_Row_become_X9 gw_X9) (goodIn_nil)))
set_option maxHeartbeats 4000000 in
set_option maxRecDepth 100000 in
theorem b_Row_become {p : Program} {l : Launch} {e : Env} {R : Room} {s : State} {m : MethodId} {args : Array Value} {below : List Frame} {meth : Method} {c : Code} {D : va_G} {K : Nat → ClassId} {A : Nat → Prop} {Q : State → Prop} {τ : Nat → Option Ty} {dom : List Nat} {zb zL : Nat} {zx : Nat → Int32} {zs : Nat → Nat} {ρ : Nat} {π : Nat} (hR : 2 ≤ R.frames ∧ 38 ≤ R.locals) (B : Bx p s m args c cX9_become 2 RX9 wp_Row_become D (tysA K) A) (Z : Sk τ dom) (hz : ZL zb zL zx zs A s s.heap) (h : Nat) (g : Nat) (t_h : τ h = some (1, ρ, 0)) (t_g : τ g = some (1, π, 0)) (σ0 : Nat → va_E) (G0 : Good K τ σ0) (hend : ∀ (σ' : Nat → va_E) (lv : List (Nat × Value)) (pc : Nat), Good K τ σ' → Fr τ [(1, ρ), (2, ρ)] σ0 σ' → decode cX9_become pc = .ok (.return_, 1) → V p l e R s m args below meth c 2 D A Q (0, 0) (fd dom σ') lv pc []) : V p l e R s m args below meth c 2 D A Q (0, 0) (fd dom σ0) [(0, .ref h), (1, .ref g)] 0 [] := by
  have F0 : Fr τ [(1, ρ), (2, ρ)] σ0 σ0 := Fr.rf
  refine v_aload_n B dX9_become_0 rfl rfl ?_
  refine v_iconst B (v := iI 0) dX9_become_1 rfl ?_
  obtain ⟨b1, N2, n3, h4, t5, r6⟩ : okRow τ ρ (σ0 h) := G0 h _ t_h
  refine u_put B Z (C := RX9) (T := TX9) (N := 2) (ci := 9) hi_Row_become_X9 t_h h4 rfl 1 (by decide +kernel) tyX9 tyX9_ok nmX9 (List.mem_of_getElem? (i := 1) rfl) rfl (ty := .int) (tyX9_ok 1 (by decide +kernel)) rfl rfl (Nat.le_of_ble_eq_true rfl) (fs' := [.ref b1, .int (iI 0)]) rfl dX9_become_2 (fun σ7 h8 n9 => ?_)
  have G10 := G0.put t_h (⟨b1, N2, 0, h8, t5, by omega⟩ : Ok K τ (1, ρ, 0) (σ7 h)) n9
  have F11 := F0.put t_h (by simp) n9
  refine v_aload_n B dX9_become_5 rfl rfl ?_
  refine v_aload_n B dX9_become_6 rfl rfl ?_
  refine v_iconst B (v := iI 0) dX9_become_7 rfl ?_
  refine v_aload_n B dX9_become_8 rfl rfl ?_
  obtain ⟨b12, N13, n14, h15, t16, r17⟩ : okRow τ π (σ7 g) := G10 g _ t_g
  refine u_get B Z (C := RX9) (T := TX9) (N := 2) (ci := 9) hi_Row_become_X9 t_g h15 rfl 1 (by decide +kernel) (List.mem_of_getElem? (i := 1) rfl) rfl dX9_become_9 ?_
  refine u_callVv B Z hz (n := 3) (As := [.ref g, .int (iI 0), .int (iI n14)]) (rest := []) (c_Row_putPart l D K Z _ _ _ _ h g 0 n14 t_h t_g ⟨by omega, by omega⟩ ⟨by omega, by omega⟩ σ7 G10) gd_Row_become_Row_putPart_27 rfl rfl rfl (by decide +kernel) ⟨Nat.le_trans (by decide +kernel) hR.1, Nat.le_trans (by decide +kernel) hR.2⟩ t_h (cls_Row G10 t_h) rfl rfl rfl rfl (Nat.le_of_ble_eq_true rfl) dX9_become_12 ⟨Nat.zero_le _, Nat.zero_le _⟩ (fun σ18 p19 => ?_)
  obtain ⟨G21, F22⟩ := p19
  have F23 := F11.call F22 (by first | rfl | simp)
  exact hend σ18 _ _ G21 F23 dX9_become_15
set_option maxRecDepth 100000 in
theorem c_Row_become (l : Launch) (D : va_G) (K : Nat → ClassId) {τ : Nat → Option Ty} {dom : List Nat} (Z : Sk τ dom) (zb zL : Nat) (zx : Nat → Int32) (zs : Nat → Nat) {ρ : Nat} {π : Nat} (h : Nat) (g : Nat) (t_h : τ h = some (1, ρ, 0)) (t_g : τ g = some (1, π, 0)) (σ0 : Nat → va_E) (G0 : Good K τ σ0) : MZ l yX9_become wp_Row_become ({ frames := 2, cells := 0, slots := 0, locals := 38 }) D (tysA K) [.ref h, .ref g] (fd dom σ0) zb zL zx zs (Qv D (fun σ' => Good K τ σ' ∧ Fr τ [(1, ρ), (2, ρ)] σ0 σ') (fun σ' => fd dom σ')) 0 0 := by
  refine mz_of (cc := cX9_become) (maxL := 2) (ret := none) (by decide +kernel) rfl (Nat.le_of_ble_eq_true rfl) ?_
  intro p e s m below meth c A B hr hlk _ hz
  exact b_Row_become ⟨Nat.le_refl _, Nat.le_refl _⟩ B Z hz h g t_h t_g σ0 G0 (fun σ' lv pc G F hd => v_vret B hr hlk σ' ⟨G, F⟩ rfl (Nat.le_refl _) (Nat.le_refl _) hd)

def wp_Row_write : List Cond := .code yX9_write cX9_write 3 none :: (([.fieldLink RX9 21 "LowEnergy$Row" "size" "I", .fieldLink RX9 15 "LowEnergy$Row" "bytes" "[I", .methodLink RX9 31 yX9_put, .instanceMethod yX9_put, .selects RX9 yX9_put yX9_put, .initialized RX9, .code yX9_put cX9_put 2 none] : List Cond) ++ (wsX90 ++ ([])))
theorem hi_Row_write_X9 : ∀ x ∈ u_ws RX9 TX9 2, x ∈ wp_Row_write := fun _ h => List.mem_cons_of_mem _ (List.mem_append_right _ (List.mem_append_left _ h))
set_option maxRecDepth 100000 in
theorem gd_Row_write_Row_put_31 : GoodIn wp_Row_write (wsV RX9 31 RX9 yX9_put wp_Row_put) := goodIn_app (goodIn_r _ [3, 4, 5, 6] rfl rfl) (goodIn_ca (goodIn_r _ [7, 1, 2] rfl rfl) (goodIn_app (goodIn_cls hi_Row_write_X9 gw_X9) (goodIn_nil)))
set_option maxHeartbeats 4000000 in
set_option maxRecDepth 100000 in
theorem b_Row_write {p : Program} {l : Launch} {e : Env} {R : Room} {s : State} {m : MethodId} {args : Array Value} {below : List Frame} {meth : Method} {c : Code} {D : va_G} {K : Nat → ClassId} {A : Nat → Prop} {Q : State → Prop} {τ : Nat → Option Ty} {dom : List Nat} {zb zL : Nat} {zx : Nat → Int32} {zs : Nat → Nat} {ρ : Nat} (hR : 1 ≤ R.frames ∧ 21 ≤ R.locals) (B : Bx p s m args c cX9_write 3 RX9 wp_Row_write D (tysA K) A) (Z : Sk τ dom) (hz : ZL zb zL zx zs A s s.heap) (h : Nat) (x1 : Int) (x2 : Int) (t_h : τ h = some (1, ρ, 0)) (r_x1 : -2147483648 ≤ x1 ∧ x1 ≤ 2147483647) (r_x2 : -2147483648 ≤ x2 ∧ x2 ≤ 2147483647) (σ0 : Nat → va_E) (G0 : Good K τ σ0) (hend : ∀ (σ' : Nat → va_E) (lv : List (Nat × Value)) (pc : Nat), Good K τ σ' → Fr τ [(2, ρ), (1, ρ)] σ0 σ' → decode cX9_write pc = .ok (.return_, 1) → V p l e R s m args below meth c 3 D A Q (0, 0) (fd dom σ') lv pc []) : V p l e R s m args below meth c 3 D A Q (0, 0) (fd dom σ0) [(0, .ref h), (1, .int (iI x1)), (2, .int (iI x2))] 0 [] := by
  have F0 : Fr τ [(2, ρ), (1, ρ)] σ0 σ0 := Fr.rf
  refine v_iload_n B dX9_write_0 rfl rfl ?_
  refine v_aload_n B dX9_write_1 rfl rfl ?_
  obtain ⟨b1, N2, n3, h4, t5, r6⟩ : okRow τ ρ (σ0 h) := G0 h _ t_h
  refine u_get B Z (C := RX9) (T := TX9) (N := 2) (ci := 9) hi_Row_write_X9 t_h h4 rfl 1 (by decide +kernel) (List.mem_of_getElem? (i := 1) rfl) rfl dX9_write_2 ?_
  refine u_icmp_ne B (tgt := 16) (by omega) (by omega) dX9_write_5 (by decide +kernel) (fun c7 => ?_) (fun c7 => ?_)
  · refine v_iload_n B dX9_write_16 rfl rfl ?_
    refine u_if_lt B (tgt := 39) (by omega) dX9_write_17 (by decide +kernel) (fun c8 => ?_) (fun c8 => ?_)
    · exact hend σ0 _ _ G0 F0 dX9_write_39
    · refine v_iload_n B dX9_write_20 rfl rfl ?_
      refine v_aload_n B dX9_write_21 rfl rfl ?_
      refine u_get B Z (C := RX9) (T := TX9) (N := 2) (ci := 9) hi_Row_write_X9 t_h h4 rfl 1 (by decide +kernel) (List.mem_of_getElem? (i := 1) rfl) rfl dX9_write_22 ?_
      refine u_icmp_ge B (tgt := 39) (by omega) (by omega) dX9_write_25 (by decide +kernel) (fun c9 => ?_) (fun c9 => ?_)
      · exact hend σ0 _ _ G0 F0 dX9_write_39
      · refine v_aload_n B dX9_write_28 rfl rfl ?_
        refine u_get B Z (C := RX9) (T := TX9) (N := 2) (ci := 9) hi_Row_write_X9 t_h h4 rfl 0 (by decide +kernel) (List.mem_of_getElem? (i := 2) rfl) rfl dX9_write_29 ?_
        refine v_iload_n B dX9_write_32 rfl rfl ?_
        refine v_iload_n B dX9_write_33 rfl rfl ?_
        refine v_sipush B (v := iI 255) dX9_write_34 (by decide +kernel) ?_
        obtain ⟨z10, e11, r12⟩ := iI_and x2 (c := 255) (by decide) (by decide)
        refine v_iand B (v := iI z10) dX9_write_37 e11 ?_
        obtain ⟨f13, h14, r15, e16⟩ : okB K N2 (σ0 b1) := G0 b1 _ t5
        refine u_iast B Z (t0 := 0) t5 h14 rfl (by omega) dX9_write_38 (fun σ17 h18 n19 => ?_)
        have G20 := G0.put t5 (⟨_, h18, r15, el_upd e16 (by omega) _⟩ : Ok K τ (2, ρ, N2) (σ17 b1)) n19
        have F21 := F0.put t5 (by simp) n19
        have h22 := (n19 h (ne_ty t_h t5 (by simp))).trans h4
        exact hend σ17 _ _ G20 F21 dX9_write_39
  · refine v_aload_n B dX9_write_8 rfl rfl ?_
    refine v_iload_n B dX9_write_9 rfl rfl ?_
    refine u_callVv B Z hz (n := 1) (As := [.int (iI x2)]) (rest := []) (c_Row_put l D K Z _ _ _ _ h x2 t_h ⟨by omega, by omega⟩ σ0 G0) gd_Row_write_Row_put_31 rfl rfl rfl (by decide +kernel) ⟨Nat.le_trans (by decide +kernel) hR.1, Nat.le_trans (by decide +kernel) hR.2⟩ t_h (cls_Row G0 t_h) rfl rfl rfl rfl (Nat.le_of_ble_eq_true rfl) dX9_write_10 ⟨Nat.zero_le _, Nat.zero_le _⟩ (fun σ23 p24 => ?_)
    obtain ⟨G26, F27⟩ := p24
    have F28 := F0.call F27 (by first | rfl | simp)
    refine v_goto B (tgt := 39) dX9_write_13 (by decide +kernel) ?_
    exact hend σ23 _ _ G26 F28 dX9_write_39
set_option maxRecDepth 100000 in
theorem c_Row_write (l : Launch) (D : va_G) (K : Nat → ClassId) {τ : Nat → Option Ty} {dom : List Nat} (Z : Sk τ dom) (zb zL : Nat) (zx : Nat → Int32) (zs : Nat → Nat) {ρ : Nat} (h : Nat) (x1 : Int) (x2 : Int) (t_h : τ h = some (1, ρ, 0)) (r_x1 : -2147483648 ≤ x1 ∧ x1 ≤ 2147483647) (r_x2 : -2147483648 ≤ x2 ∧ x2 ≤ 2147483647) (σ0 : Nat → va_E) (G0 : Good K τ σ0) : MZ l yX9_write wp_Row_write ({ frames := 1, cells := 0, slots := 0, locals := 21 }) D (tysA K) [.ref h, .int (iI x1), .int (iI x2)] (fd dom σ0) zb zL zx zs (Qv D (fun σ' => Good K τ σ' ∧ Fr τ [(2, ρ), (1, ρ)] σ0 σ') (fun σ' => fd dom σ')) 0 0 := by
  refine mz_of (cc := cX9_write) (maxL := 3) (ret := none) (by decide +kernel) rfl (Nat.le_of_ble_eq_true rfl) ?_
  intro p e s m below meth c A B hr hlk _ hz
  exact b_Row_write ⟨Nat.le_refl _, Nat.le_refl _⟩ B Z hz h x1 x2 t_h r_x1 r_x2 σ0 G0 (fun σ' lv pc G F hd => v_vret B hr hlk σ' ⟨G, F⟩ rfl (Nat.le_refl _) (Nat.le_refl _) hd)

def wp_Row_turn : List Cond := .code yX9_turn cX9_turn 3 none :: (([.fieldLink RX9 21 "LowEnergy$Row" "size" "I", .fieldLink RX9 15 "LowEnergy$Row" "bytes" "[I"] : List Cond) ++ (wsX90 ++ ([])))
theorem hi_Row_turn_X9 : ∀ x ∈ u_ws RX9 TX9 2, x ∈ wp_Row_turn := fun _ h => List.mem_cons_of_mem _ (List.mem_append_right _ (List.mem_append_left _ h))
set_option maxHeartbeats 4000000 in
set_option maxRecDepth 100000 in
theorem b_Row_turn {p : Program} {l : Launch} {e : Env} {R : Room} {s : State} {m : MethodId} {args : Array Value} {below : List Frame} {meth : Method} {c : Code} {D : va_G} {K : Nat → ClassId} {A : Nat → Prop} {Q : State → Prop} {τ : Nat → Option Ty} {dom : List Nat} {zb zL : Nat} {zx : Nat → Int32} {zs : Nat → Nat} {ρ : Nat} (hR : 0 ≤ R.frames ∧ 0 ≤ R.locals) (B : Bx p s m args c cX9_turn 3 RX9 wp_Row_turn D (tysA K) A) (Z : Sk τ dom) (hz : ZL zb zL zx zs A s s.heap) (h : Nat) (x1 : Int) (x2 : Int) (t_h : τ h = some (1, ρ, 0)) (r_x1 : -2147483648 ≤ x1 ∧ x1 ≤ 2147483647) (r_x2 : -2147483648 ≤ x2 ∧ x2 ≤ 2147483647) (σ0 : Nat → va_E) (G0 : Good K τ σ0) (hend : ∀ (σ' : Nat → va_E) (lv : List (Nat × Value)) (pc : Nat), Good K τ σ' → Fr τ [(2, ρ)] σ0 σ' → decode cX9_turn pc = .ok (.return_, 1) → V p l e R s m args below meth c 3 D A Q (0, 0) (fd dom σ') lv pc []) : V p l e R s m args below meth c 3 D A Q (0, 0) (fd dom σ0) [(0, .ref h), (1, .int (iI x1)), (2, .int (iI x2))] 0 [] := by
  have F0 : Fr τ [(2, ρ)] σ0 σ0 := Fr.rf
  refine v_iload_n B dX9_turn_0 rfl rfl ?_
  refine u_if_lt B (tgt := 26) (by omega) dX9_turn_1 (by decide +kernel) (fun c1 => ?_) (fun c1 => ?_)
  · exact hend σ0 _ _ G0 F0 dX9_turn_26
  · refine v_iload_n B dX9_turn_4 rfl rfl ?_
    refine v_aload_n B dX9_turn_5 rfl rfl ?_
    obtain ⟨b2, N3, n4, h5, t6, r7⟩ : okRow τ ρ (σ0 h) := G0 h _ t_h
    refine u_get B Z (C := RX9) (T := TX9) (N := 2) (ci := 9) hi_Row_turn_X9 t_h h5 rfl 1 (by decide +kernel) (List.mem_of_getElem? (i := 1) rfl) rfl dX9_turn_6 ?_
    refine u_icmp_ge B (tgt := 26) (by omega) (by omega) dX9_turn_9 (by decide +kernel) (fun c8 => ?_) (fun c8 => ?_)
    · exact hend σ0 _ _ G0 F0 dX9_turn_26
    · refine v_aload_n B dX9_turn_12 rfl rfl ?_
      refine u_get B Z (C := RX9) (T := TX9) (N := 2) (ci := 9) hi_Row_turn_X9 t_h h5 rfl 0 (by decide +kernel) (List.mem_of_getElem? (i := 2) rfl) rfl dX9_turn_13 ?_
      refine v_iload_n B dX9_turn_16 rfl rfl ?_
      refine v_dup2 B dX9_turn_17 rfl rfl ?_
      obtain ⟨f9, h10, r11, e12⟩ : okB K N3 (σ0 b2) := G0 b2 _ t6
      obtain ⟨z13, e14, r15⟩ := e12 (x1 : Int).toNat
      refine u_iald B Z (t0 := 0) t6 h10 rfl (by omega) e14 dX9_turn_18 ?_
      refine v_iload_n B dX9_turn_19 rfl rfl ?_
      refine v_sipush B (v := iI 255) dX9_turn_20 (by decide +kernel) ?_
      obtain ⟨z16, e17, r18⟩ := iI_and x2 (c := 255) (by decide) (by decide)
      refine v_iand B (v := iI z16) dX9_turn_23 e17 ?_
      obtain ⟨z19, e20, r21⟩ := iI_xor (a := z13) (b := z16) 8 (by decide) (by omega) (by omega)
      refine v_ixor B (v := iI z19) dX9_turn_24 e20 ?_
      refine u_iast B Z (t0 := 0) t6 h10 rfl (by omega) dX9_turn_25 (fun σ22 h23 n24 => ?_)
      have G25 := G0.put t6 (⟨_, h23, r11, el_upd e12 (by omega) _⟩ : Ok K τ (2, ρ, N3) (σ22 b2)) n24
      have F26 := F0.put t6 (by simp) n24
      have h27 := (n24 h (ne_ty t_h t6 (by simp))).trans h5
      exact hend σ22 _ _ G25 F26 dX9_turn_26
set_option maxRecDepth 100000 in
theorem c_Row_turn (l : Launch) (D : va_G) (K : Nat → ClassId) {τ : Nat → Option Ty} {dom : List Nat} (Z : Sk τ dom) (zb zL : Nat) (zx : Nat → Int32) (zs : Nat → Nat) {ρ : Nat} (h : Nat) (x1 : Int) (x2 : Int) (t_h : τ h = some (1, ρ, 0)) (r_x1 : -2147483648 ≤ x1 ∧ x1 ≤ 2147483647) (r_x2 : -2147483648 ≤ x2 ∧ x2 ≤ 2147483647) (σ0 : Nat → va_E) (G0 : Good K τ σ0) : MZ l yX9_turn wp_Row_turn ({ frames := 0, cells := 0, slots := 0, locals := 0 }) D (tysA K) [.ref h, .int (iI x1), .int (iI x2)] (fd dom σ0) zb zL zx zs (Qv D (fun σ' => Good K τ σ' ∧ Fr τ [(2, ρ)] σ0 σ') (fun σ' => fd dom σ')) 0 0 := by
  refine mz_of (cc := cX9_turn) (maxL := 3) (ret := none) (by decide +kernel) rfl (Nat.le_of_ble_eq_true rfl) ?_
  intro p e s m below meth c A B hr hlk _ hz
  exact b_Row_turn ⟨Nat.le_refl _, Nat.le_refl _⟩ B Z hz h x1 x2 t_h r_x1 r_x2 σ0 G0 (fun σ' lv pc G F hd => v_vret B hr hlk σ' ⟨G, F⟩ rfl (Nat.le_refl _) (Nat.le_refl _) hd)

def wp_Row_at : List Cond := .code yX9_at cX9_at 2 (some .int) :: (([.fieldLink RX9 21 "LowEnergy$Row" "size" "I", .fieldLink RX9 15 "LowEnergy$Row" "bytes" "[I"] : List Cond) ++ (wsX90 ++ ([])))
theorem hi_Row_at_X9 : ∀ x ∈ u_ws RX9 TX9 2, x ∈ wp_Row_at := fun _ h => List.mem_cons_of_mem _ (List.mem_append_right _ (List.mem_append_left _ h))
set_option maxHeartbeats 4000000 in
set_option maxRecDepth 100000 in
theorem b_Row_at {p : Program} {l : Launch} {e : Env} {R : Room} {s : State} {m : MethodId} {args : Array Value} {below : List Frame} {meth : Method} {c : Code} {D : va_G} {K : Nat → ClassId} {A : Nat → Prop} {Q : State → Prop} {τ : Nat → Option Ty} {dom : List Nat} {zb zL : Nat} {zx : Nat → Int32} {zs : Nat → Nat} {ρ : Nat} (hR : 0 ≤ R.frames ∧ 0 ≤ R.locals) (B : Bx p s m args c cX9_at 2 RX9 wp_Row_at D (tysA K) A) (Z : Sk τ dom) (hz : ZL zb zL zx zs A s s.heap) (h : Nat) (x1 : Int) (t_h : τ h = some (1, ρ, 0)) (r_x1 : -2147483648 ≤ x1 ∧ x1 ≤ 2147483647) (σ0 : Nat → va_E) (G0 : Good K τ σ0) (hend : ∀ (z : Int) (lv : List (Nat × Value)) (pc : Nat), (-1 ≤ z ∧ z ≤ 255) → decode cX9_at pc = .ok (.ireturn, 1) → V p l e R s m args below meth c 2 D A Q (0, 0) (fd dom σ0) lv pc [.int (iI z)]) : V p l e R s m args below meth c 2 D A Q (0, 0) (fd dom σ0) [(0, .ref h), (1, .int (iI x1))] 0 [] := by
  have F0 : Fr τ [] σ0 σ0 := Fr.rf
  refine v_iload_n B dX9_at_0 rfl rfl ?_
  refine u_if_lt B (tgt := 21) (by omega) dX9_at_1 (by decide +kernel) (fun c1 => ?_) (fun c1 => ?_)
  · refine v_iconst B (v := iI (-1)) dX9_at_21 rfl ?_
    exact hend (-1) _ _ ⟨by omega, by omega⟩ dX9_at_22
  · refine v_iload_n B dX9_at_4 rfl rfl ?_
    refine v_aload_n B dX9_at_5 rfl rfl ?_
    obtain ⟨b2, N3, n4, h5, t6, r7⟩ : okRow τ ρ (σ0 h) := G0 h _ t_h
    refine u_get B Z (C := RX9) (T := TX9) (N := 2) (ci := 9) hi_Row_at_X9 t_h h5 rfl 1 (by decide +kernel) (List.mem_of_getElem? (i := 1) rfl) rfl dX9_at_6 ?_
    refine u_icmp_ge B (tgt := 21) (by omega) (by omega) dX9_at_9 (by decide +kernel) (fun c8 => ?_) (fun c8 => ?_)
    · refine v_iconst B (v := iI (-1)) dX9_at_21 rfl ?_
      exact hend (-1) _ _ ⟨by omega, by omega⟩ dX9_at_22
    · refine v_aload_n B dX9_at_12 rfl rfl ?_
      refine u_get B Z (C := RX9) (T := TX9) (N := 2) (ci := 9) hi_Row_at_X9 t_h h5 rfl 0 (by decide +kernel) (List.mem_of_getElem? (i := 2) rfl) rfl dX9_at_13 ?_
      refine v_iload_n B dX9_at_16 rfl rfl ?_
      obtain ⟨f9, h10, r11, e12⟩ : okB K N3 (σ0 b2) := G0 b2 _ t6
      obtain ⟨z13, e14, r15⟩ := e12 (x1 : Int).toNat
      refine u_iald B Z (t0 := 0) t6 h10 rfl (by omega) e14 dX9_at_17 ?_
      refine v_goto B (tgt := 22) dX9_at_18 (by decide +kernel) ?_
      exact hend z13 _ _ ⟨by omega, by omega⟩ dX9_at_22
set_option maxRecDepth 100000 in
theorem c_Row_at (l : Launch) (D : va_G) (K : Nat → ClassId) {τ : Nat → Option Ty} {dom : List Nat} (Z : Sk τ dom) (zb zL : Nat) (zx : Nat → Int32) (zs : Nat → Nat) {ρ : Nat} (h : Nat) (x1 : Int) (t_h : τ h = some (1, ρ, 0)) (r_x1 : -2147483648 ≤ x1 ∧ x1 ≤ 2147483647) (σ0 : Nat → va_E) (G0 : Good K τ σ0) : MZ l yX9_at wp_Row_at ({ frames := 0, cells := 0, slots := 0, locals := 0 }) D (tysA K) [.ref h, .int (iI x1)] (fd dom σ0) zb zL zx zs (Qi D (fun r σ' => σ0 = σ' ∧ ∃ z : Int, r = iI z ∧ (-1 ≤ z ∧ z ≤ 255)) (fun σ' => fd dom σ')) 0 0 := by
  refine mz_of (cc := cX9_at) (maxL := 2) (ret := (some .int)) (by decide +kernel) rfl (Nat.le_of_ble_eq_true rfl) ?_
  intro p e s m below meth c A B hr hlk _ hz
  exact b_Row_at ⟨Nat.le_refl _, Nat.le_refl _⟩ B Z hz h x1 t_h r_x1 σ0 G0 (fun z lv pc hZ hd => v_iret B hr hlk σ0 ⟨rfl, z, rfl, hZ⟩ rfl (Nat.le_refl _) (Nat.le_refl _) hd)

def wp_Row_two : List Cond := .code yX9_two cX9_two 2 (some .int) :: (([.fieldLink RX9 21 "LowEnergy$Row" "size" "I", .fieldLink RX9 15 "LowEnergy$Row" "bytes" "[I"] : List Cond) ++ (wsX90 ++ ([])))
theorem hi_Row_two_X9 : ∀ x ∈ u_ws RX9 TX9 2, x ∈ wp_Row_two := fun _ h => List.mem_cons_of_mem _ (List.mem_append_right _ (List.mem_append_left _ h))
set_option maxHeartbeats 4000000 in
set_option maxRecDepth 100000 in
theorem b_Row_two {p : Program} {l : Launch} {e : Env} {R : Room} {s : State} {m : MethodId} {args : Array Value} {below : List Frame} {meth : Method} {c : Code} {D : va_G} {K : Nat → ClassId} {A : Nat → Prop} {Q : State → Prop} {τ : Nat → Option Ty} {dom : List Nat} {zb zL : Nat} {zx : Nat → Int32} {zs : Nat → Nat} {ρ : Nat} (hR : 0 ≤ R.frames ∧ 0 ≤ R.locals) (B : Bx p s m args c cX9_two 2 RX9 wp_Row_two D (tysA K) A) (Z : Sk τ dom) (hz : ZL zb zL zx zs A s s.heap) (h : Nat) (x1 : Int) (t_h : τ h = some (1, ρ, 0)) (r_x1 : -2147483648 ≤ x1 ∧ x1 ≤ 2147483647) (σ0 : Nat → va_E) (G0 : Good K τ σ0) (hend : ∀ (z : Int) (lv : List (Nat × Value)) (pc : Nat), (0 ≤ z ∧ z ≤ 65535) → decode cX9_two pc = .ok (.ireturn, 1) → V p l e R s m args below meth c 2 D A Q (0, 0) (fd dom σ0) lv pc [.int (iI z)]) : V p l e R s m args below meth c 2 D A Q (0, 0) (fd dom σ0) [(0, .ref h), (1, .int (iI x1))] 0 [] := by
  have F0 : Fr τ [] σ0 σ0 := Fr.rf
  refine v_iload_n B dX9_two_0 rfl rfl ?_
  refine u_if_lt B (tgt := 35) (by omega) dX9_two_1 (by decide +kernel) (fun c1 => ?_) (fun c1 => ?_)
  · refine v_iconst B (v := iI 0) dX9_two_35 rfl ?_
    exact hend 0 _ _ ⟨by omega, by omega⟩ dX9_two_36
  · refine v_iload_n B dX9_two_4 rfl rfl ?_
    refine v_aload_n B dX9_two_5 rfl rfl ?_
    obtain ⟨b2, N3, n4, h5, t6, r7⟩ : okRow τ ρ (σ0 h) := G0 h _ t_h
    refine u_get B Z (C := RX9) (T := TX9) (N := 2) (ci := 9) hi_Row_two_X9 t_h h5 rfl 1 (by decide +kernel) (List.mem_of_getElem? (i := 1) rfl) rfl dX9_two_6 ?_
    refine v_iconst B (v := iI 1) dX9_two_9 rfl ?_
    refine v_isub B (v := iI (n4 + (-1))) dX9_two_10 ((iI_sub _ _).trans (congrArg iI (by omega))) ?_
    refine u_icmp_ge B (tgt := 35) (by omega) (by omega) dX9_two_11 (by decide +kernel) (fun c8 => ?_) (fun c8 => ?_)
    · refine v_iconst B (v := iI 0) dX9_two_35 rfl ?_
      exact hend 0 _ _ ⟨by omega, by omega⟩ dX9_two_36
    · refine v_aload_n B dX9_two_14 rfl rfl ?_
      refine u_get B Z (C := RX9) (T := TX9) (N := 2) (ci := 9) hi_Row_two_X9 t_h h5 rfl 0 (by decide +kernel) (List.mem_of_getElem? (i := 2) rfl) rfl dX9_two_15 ?_
      refine v_iload_n B dX9_two_18 rfl rfl ?_
      obtain ⟨f9, h10, r11, e12⟩ : okB K N3 (σ0 b2) := G0 b2 _ t6
      obtain ⟨z13, e14, r15⟩ := e12 (x1 : Int).toNat
      refine u_iald B Z (t0 := 0) t6 h10 rfl (by omega) e14 dX9_two_19 ?_
      refine v_aload_n B dX9_two_20 rfl rfl ?_
      refine u_get B Z (C := RX9) (T := TX9) (N := 2) (ci := 9) hi_Row_two_X9 t_h h5 rfl 0 (by decide +kernel) (List.mem_of_getElem? (i := 2) rfl) rfl dX9_two_21 ?_
      refine v_iload_n B dX9_two_24 rfl rfl ?_
      refine v_iconst B (v := iI 1) dX9_two_25 rfl ?_
      refine v_iadd B (v := iI (x1 + 1)) dX9_two_26 ((iI_add _ _).trans (congrArg iI (by omega))) ?_
      obtain ⟨z16, e17, r18⟩ := e12 ((x1 + 1) : Int).toNat
      refine u_iald B Z (t0 := 0) t6 h10 rfl (by omega) e17 dX9_two_27 ?_
      refine v_bipush B (v := iI 8) dX9_two_28 (by decide +kernel) ?_
      refine v_ishl B (v := iI (256 * z16)) dX9_two_30 ((iI_shl z16 8 (by decide)).trans (congrArg iI (by omega))) ?_
      obtain ⟨z19, e20, r21⟩ := iI_or (a := z13) (b := (256 * z16)) 16 (by decide) (by omega) (by omega)
      refine v_ior B (v := iI z19) dX9_two_31 e20 ?_
      refine v_goto B (tgt := 36) dX9_two_32 (by decide +kernel) ?_
      exact hend z19 _ _ ⟨by omega, by omega⟩ dX9_two_36
set_option maxRecDepth 100000 in
theorem c_Row_two (l : Launch) (D : va_G) (K : Nat → ClassId) {τ : Nat → Option Ty} {dom : List Nat} (Z : Sk τ dom) (zb zL : Nat) (zx : Nat → Int32) (zs : Nat → Nat) {ρ : Nat} (h : Nat) (x1 : Int) (t_h : τ h = some (1, ρ, 0)) (r_x1 : -2147483648 ≤ x1 ∧ x1 ≤ 2147483647) (σ0 : Nat → va_E) (G0 : Good K τ σ0) : MZ l yX9_two wp_Row_two ({ frames := 0, cells := 0, slots := 0, locals := 0 }) D (tysA K) [.ref h, .int (iI x1)] (fd dom σ0) zb zL zx zs (Qi D (fun r σ' => σ0 = σ' ∧ ∃ z : Int, r = iI z ∧ (0 ≤ z ∧ z ≤ 65535)) (fun σ' => fd dom σ')) 0 0 := by
  refine mz_of (cc := cX9_two) (maxL := 2) (ret := (some .int)) (by decide +kernel) rfl (Nat.le_of_ble_eq_true rfl) ?_
  intro p e s m below meth c A B hr hlk _ hz
  exact b_Row_two ⟨Nat.le_refl _, Nat.le_refl _⟩ B Z hz h x1 t_h r_x1 σ0 G0 (fun z lv pc hZ hd => v_iret B hr hlk σ0 ⟨rfl, z, rfl, hZ⟩ rfl (Nat.le_refl _) (Nat.le_refl _) hd)

def wp_Row_numberAt : List Cond := .code yX9_numberAt cX9_numberAt 7 (some .long) :: (([.fieldLink RX9 21 "LowEnergy$Row" "size" "I", .fieldLink RX9 15 "LowEnergy$Row" "bytes" "[I"] : List Cond) ++ (wsX90 ++ ([])))
theorem hi_Row_numberAt_X9 : ∀ x ∈ u_ws RX9 TX9 2, x ∈ wp_Row_numberAt := fun _ h => List.mem_cons_of_mem _ (List.mem_append_right _ (List.mem_append_left _ h))
set_option maxHeartbeats 4000000 in
set_option maxRecDepth 100000 in
theorem b_Row_numberAt {p : Program} {l : Launch} {e : Env} {R : Room} {s : State} {m : MethodId} {args : Array Value} {below : List Frame} {meth : Method} {c : Code} {D : va_G} {K : Nat → ClassId} {A : Nat → Prop} {Q : State → Prop} {τ : Nat → Option Ty} {dom : List Nat} {zb zL : Nat} {zx : Nat → Int32} {zs : Nat → Nat} {ρ : Nat} (hR : 0 ≤ R.frames ∧ 0 ≤ R.locals) (B : Bx p s m args c cX9_numberAt 7 RX9 wp_Row_numberAt D (tysA K) A) (Z : Sk τ dom) (hz : ZL zb zL zx zs A s s.heap) (h : Nat) (x1 : Int) (x2 : Int) (t_h : τ h = some (1, ρ, 0)) (r_x1 : -2147483648 ≤ x1 ∧ x1 ≤ 2147483647) (r_x2 : -2147483648 ≤ x2 ∧ x2 ≤ 2147483647) (σ0 : Nat → va_E) (G0 : Good K τ σ0) (hend : ∀ (z : Int) (lv : List (Nat × Value)) (pc : Nat), (-9223372036854775808 ≤ z ∧ z ≤ 9223372036854775807) → decode cX9_numberAt pc = .ok (.lreturn, 1) → V p l e R s m args below meth c 7 D A Q (0, 0) (fd dom σ0) lv pc [.long (lI z)]) : V p l e R s m args below meth c 7 D A Q (0, 0) (fd dom σ0) [(0, .ref h), (1, .int (iI x1)), (2, .int (iI x2))] 0 [] := by
  have F0 : Fr τ [] σ0 σ0 := Fr.rf
  have J5 : ∀ (k5 : Nat) (y5_3 : Int) (z5_5 : Int), (2147483648 - z5_5).toNat ≤ k5 → (InL y5_3) → (0 ≤ z5_5 ∧ z5_5 ≤ 8) → V p l e R s m args below meth c 7 D A Q (0, 0) (fd dom σ0) [(0, .ref h), (1, .int (iI x1)), (2, .int (iI x2)), (3, .long (lI y5_3)), (5, .int (iI z5_5))] 5 [] := by
    intro k5
    induction k5 with
    | zero => intro y5_3 z5_5 m5 r5_3 r5_5; omega
    | succ k5 IH5 =>
      intro y5_3 z5_5 m5 r5_3 r5_5
      have J55 : ∀ (y55_3 : Int), (1 ≤ x2 ∧ x2 ≤ 2147483647) → (InL y55_3) → (0 ≤ z5_5 ∧ z5_5 ≤ 7) → V p l e R s m args below meth c 7 D A Q (0, 0) (fd dom σ0) [(0, .ref h), (1, .int (iI x1)), (2, .int (iI x2)), (3, .long (lI y55_3)), (5, .int (iI z5_5))] 55 [] := by
        intro y55_3 r55_2 r55_3 r55_5
        refine v_iinc B (k := 4) (v := iI (z5_5 + 1)) (lv' := [(5, .int (iI (z5_5 + 1))), (0, .ref h), (1, .int (iI x1)), (2, .int (iI x2)), (3, .long (lI y55_3))]) dX9_numberAt_55 rfl ((iI_add _ _).trans (congrArg iI (by omega))) (by decide +kernel) rfl ?_
        refine v_goto B (tgt := 5) dX9_numberAt_58 (by decide +kernel) ?_
        refine v_lv [1, 2, 3, 4, 0] rfl ?_
        exact IH5 y55_3 (z5_5 + 1) (by omega) ⟨by omega, by omega⟩ ⟨by omega, by omega⟩
      refine v_iload B dX9_numberAt_5 rfl ?_
      refine v_iload_n B dX9_numberAt_7 rfl rfl ?_
      refine u_icmp_ge B (tgt := 61) (by omega) (by omega) dX9_numberAt_8 (by decide +kernel) (fun c1 => ?_) (fun c1 => ?_)
      · refine v_lload_n B dX9_numberAt_61 rfl rfl ?_
        exact hend y5_3 _ _ ⟨by omega, by omega⟩ dX9_numberAt_62
      · refine v_iload B dX9_numberAt_11 rfl ?_
        refine v_bipush B (v := iI 8) dX9_numberAt_13 (by decide +kernel) ?_
        refine u_icmp_ge B (tgt := 61) (by omega) (by omega) dX9_numberAt_15 (by decide +kernel) (fun c2 => ?_) (fun c2 => ?_)
        · refine v_lload_n B dX9_numberAt_61 rfl rfl ?_
          exact hend y5_3 _ _ ⟨by omega, by omega⟩ dX9_numberAt_62
        · refine v_iload_n B dX9_numberAt_18 rfl rfl ?_
          refine v_iload B dX9_numberAt_19 rfl ?_
          obtain ⟨z3, e4, r5⟩ := iI_any (iI x1 + iI z5_5)
          refine v_iadd B (v := iI z3) dX9_numberAt_21 e4 ?_
          refine v_istore B (lv' := [(6, .int (iI z3)), (0, .ref h), (1, .int (iI x1)), (2, .int (iI x2)), (3, .long (lI y5_3)), (5, .int (iI z5_5))]) dX9_numberAt_22 (by decide +kernel) rfl ?_
          refine v_iload B dX9_numberAt_24 rfl ?_
          refine u_if_lt B (tgt := 55) (by omega) dX9_numberAt_26 (by decide +kernel) (fun c6 => ?_) (fun c6 => ?_)
          · refine v_lv [1, 2, 3, 4, 5] rfl ?_
            exact J55 y5_3 ⟨by omega, by omega⟩ ⟨by omega, by omega⟩ ⟨by omega, by omega⟩
          · refine v_iload B dX9_numberAt_29 rfl ?_
            refine v_aload_n B dX9_numberAt_31 rfl rfl ?_
            obtain ⟨b7, N8, n9, h10, t11, r12⟩ : okRow τ ρ (σ0 h) := G0 h _ t_h
            refine u_get B Z (C := RX9) (T := TX9) (N := 2) (ci := 9) hi_Row_numberAt_X9 t_h h10 rfl 1 (by decide +kernel) (List.mem_of_getElem? (i := 1) rfl) rfl dX9_numberAt_32 ?_
            refine u_icmp_ge B (tgt := 55) (by omega) (by omega) dX9_numberAt_35 (by decide +kernel) (fun c13 => ?_) (fun c13 => ?_)
            · refine v_lv [1, 2, 3, 4, 5] rfl ?_
              exact J55 y5_3 ⟨by omega, by omega⟩ ⟨by omega, by omega⟩ ⟨by omega, by omega⟩
            · refine v_lload_n B dX9_numberAt_38 rfl rfl ?_
              refine v_aload_n B dX9_numberAt_39 rfl rfl ?_
              refine u_get B Z (C := RX9) (T := TX9) (N := 2) (ci := 9) hi_Row_numberAt_X9 t_h h10 rfl 0 (by decide +kernel) (List.mem_of_getElem? (i := 2) rfl) rfl dX9_numberAt_40 ?_
              refine v_iload B dX9_numberAt_43 rfl ?_
              obtain ⟨f14, h15, r16, e17⟩ : okB K N8 (σ0 b7) := G0 b7 _ t11
              obtain ⟨z18, e19, r20⟩ := e17 (z3 : Int).toNat
              refine u_iald B Z (t0 := 0) t11 h15 rfl (by omega) e19 dX9_numberAt_45 ?_
              refine v_i2l B (v := lI z18) dX9_numberAt_46 (lI_i (by omega)) ?_
              refine v_bipush B (v := iI 8) dX9_numberAt_47 (by decide +kernel) ?_
              refine v_iload B dX9_numberAt_49 rfl ?_
              refine v_imul B (v := iI (8 * z5_5)) dX9_numberAt_51 ((iI_mul _ _).trans (congrArg iI (by omega))) ?_
              obtain ⟨yy21, e22, r23⟩ := lI_any (lI z18 <<< ((iI (8 * z5_5)).toInt64 &&& 63))
              refine v_lshl B (v := lI yy21) dX9_numberAt_52 e22 ?_
              obtain ⟨yy24, e25, r26⟩ := lI_any (lI y5_3 ||| lI yy21)
              refine v_lor B (v := lI yy24) dX9_numberAt_53 e25 ?_
              refine v_lstore_n B (lv' := [(3, .long (lI yy24)), (6, .int (iI z3)), (0, .ref h), (1, .int (iI x1)), (2, .int (iI x2)), (5, .int (iI z5_5))]) dX9_numberAt_54 rfl (by decide +kernel) rfl ?_
              refine v_lv [2, 3, 4, 0, 5] rfl ?_
              exact J55 yy24 ⟨by omega, by omega⟩ ⟨by omega, by omega⟩ ⟨by omega, by omega⟩
  refine v_lconst B (v := lI 0) dX9_numberAt_0 (by decide +kernel) ?_
  refine v_lstore_n B (lv' := [(3, .long (lI 0)), (0, .ref h), (1, .int (iI x1)), (2, .int (iI x2))]) dX9_numberAt_1 rfl (by decide +kernel) rfl ?_
  refine v_iconst B (v := iI 0) dX9_numberAt_2 rfl ?_
  refine v_istore B (lv' := [(5, .int (iI 0)), (3, .long (lI 0)), (0, .ref h), (1, .int (iI x1)), (2, .int (iI x2))]) dX9_numberAt_3 (by decide +kernel) rfl ?_
  refine v_lv [2, 3, 4, 1, 0] rfl ?_
  exact J5 _ 0 0 (Nat.le_refl _) ⟨by omega, by omega⟩ ⟨by omega, by omega⟩
set_option maxRecDepth 100000 in
theorem c_Row_numberAt (l : Launch) (D : va_G) (K : Nat → ClassId) {τ : Nat → Option Ty} {dom : List Nat} (Z : Sk τ dom) (zb zL : Nat) (zx : Nat → Int32) (zs : Nat → Nat) {ρ : Nat} (h : Nat) (x1 : Int) (x2 : Int) (t_h : τ h = some (1, ρ, 0)) (r_x1 : -2147483648 ≤ x1 ∧ x1 ≤ 2147483647) (r_x2 : -2147483648 ≤ x2 ∧ x2 ≤ 2147483647) (σ0 : Nat → va_E) (G0 : Good K τ σ0) : MZ l yX9_numberAt wp_Row_numberAt ({ frames := 0, cells := 0, slots := 0, locals := 0 }) D (tysA K) [.ref h, .int (iI x1), .int (iI x2)] (fd dom σ0) zb zL zx zs (Ql D (fun r σ' => σ0 = σ' ∧ ∃ z : Int, r = lI z ∧ (-9223372036854775808 ≤ z ∧ z ≤ 9223372036854775807)) (fun σ' => fd dom σ')) 0 0 := by
  refine mz_of (cc := cX9_numberAt) (maxL := 7) (ret := (some .long)) (by decide +kernel) rfl (Nat.le_of_ble_eq_true rfl) ?_
  intro p e s m below meth c A B hr hlk _ hz
  exact b_Row_numberAt ⟨Nat.le_refl _, Nat.le_refl _⟩ B Z hz h x1 x2 t_h r_x1 r_x2 σ0 G0 (fun z lv pc hZ hd => v_lret B hr hlk σ0 ⟨rfl, z, rfl, hZ⟩ rfl (Nat.le_refl _) (Nat.le_refl _) hd)

def wp_Row_copyToB : List Cond := .code yX9_copyTo cX9_copyTo 5 none :: (([.fieldLink RX9 21 "LowEnergy$Row" "size" "I", .fieldLink RX9 15 "LowEnergy$Row" "bytes" "[I", .methodLink RX9 9 Lib.Math.max.name, .static Lib.Math.max.name, .initialized "java/lang/Math", .code Lib.Math.max.name Lib.Math.max.code 2 (some .int)] : List Cond) ++ (wsX90 ++ ([])))
theorem hi_Row_copyToB_X9 : ∀ x ∈ u_ws RX9 TX9 2, x ∈ wp_Row_copyToB := fun _ h => List.mem_cons_of_mem _ (List.mem_append_right _ (List.mem_append_left _ h))
set_option maxHeartbeats 4000000 in
set_option maxRecDepth 100000 in
theorem b_Row_copyToB {p : Program} {l : Launch} {e : Env} {R : Room} {s : State} {m : MethodId} {args : Array Value} {below : List Frame} {meth : Method} {c : Code} {D : va_G} {K : Nat → ClassId} {A : Nat → Prop} {Q : State → Prop} {τ : Nat → Option Ty} {dom : List Nat} {zb zL : Nat} {zx : Nat → Int32} {zs : Nat → Nat} {ρ : Nat} {π : Nat} {N : Nat} (hR : 1 ≤ R.frames ∧ 13 ≤ R.locals) (B : Bx p s m args c cX9_copyTo 5 RX9 wp_Row_copyToB D (tysA K) A) (Z : Sk τ dom) (hz : ZL zb zL zx zs A s s.heap) (h : Nat) (g : Nat) (x2 : Int) (t_h : τ h = some (1, ρ, 0)) (t_g : τ g = some (2, π, N)) (r_x2 : 0 ≤ x2 ∧ x2 ≤ 100) (σ0 : Nat → va_E) (G0 : Good K τ σ0) (hend : ∀ (σ' : Nat → va_E) (lv : List (Nat × Value)) (pc : Nat), Good K τ σ' → Fr τ [(2, π)] σ0 σ' → decode cX9_copyTo pc = .ok (.return_, 1) → V p l e R s m args below meth c 5 D A Q (0, 0) (fd dom σ') lv pc []) : V p l e R s m args below meth c 5 D A Q (0, 0) (fd dom σ0) [(0, .ref h), (1, .ref g), (2, .int (iI x2))] 0 [] := by
  have F0 : Fr τ [(2, π)] σ0 σ0 := Fr.rf
  have J9 : ∀ (k9 : Nat) (σ_9 : Nat → va_E) (z9_3 : Int) (z9_4 : Int), (2147483648 - z9_4).toNat ≤ k9 → Good K τ σ_9 → Fr τ [(2, π)] σ0 σ_9 → (0 ≤ z9_3 ∧ z9_3 ≤ 100) → (0 ≤ z9_4 ∧ z9_4 ≤ 256) → V p l e R s m args below meth c 5 D A Q (0, 0) (fd dom σ_9) [(0, .ref h), (1, .ref g), (3, .int (iI z9_3)), (4, .int (iI z9_4))] 9 [] := by
    intro k9
    induction k9 with
    | zero => intro σ_9 z9_3 z9_4 m9 G_9 F_9 r9_3 r9_4; omega
    | succ k9 IH9 =>
      intro σ_9 z9_3 z9_4 m9 G_9 F_9 r9_3 r9_4
      refine v_iload B dX9_copyTo_9 rfl ?_
      refine v_aload_n B dX9_copyTo_11 rfl rfl ?_
      obtain ⟨f1, h2, r3, e4⟩ : okB K N (σ_9 g) := G_9 g _ t_g
      refine u_alen B Z (t0 := 0) (v := ((N : Int))) t_g h2 rfl (by first | rfl | omega) dX9_copyTo_12 ?_
      refine u_icmp_ge B (tgt := 46) (by omega) (by omega) dX9_copyTo_13 (by decide +kernel) (fun c5 => ?_) (fun c5 => ?_)
      · exact hend σ_9 _ _ G_9 F_9 dX9_copyTo_46
      · refine v_iload_n B dX9_copyTo_16 rfl rfl ?_
        refine v_iload B dX9_copyTo_17 rfl ?_
        refine v_iadd B (v := iI (z9_3 + z9_4)) dX9_copyTo_19 ((iI_add _ _).trans (congrArg iI (by omega))) ?_
        refine v_aload_n B dX9_copyTo_20 rfl rfl ?_
        obtain ⟨b6, N7, n8, h9, t10, r11⟩ : okRow τ ρ (σ_9 h) := G_9 h _ t_h
        refine u_get B Z (C := RX9) (T := TX9) (N := 2) (ci := 9) hi_Row_copyToB_X9 t_h h9 rfl 1 (by decide +kernel) (List.mem_of_getElem? (i := 1) rfl) rfl dX9_copyTo_21 ?_
        refine u_icmp_ge B (tgt := 46) (by omega) (by omega) dX9_copyTo_24 (by decide +kernel) (fun c12 => ?_) (fun c12 => ?_)
        · exact hend σ_9 _ _ G_9 F_9 dX9_copyTo_46
        · refine v_aload_n B dX9_copyTo_27 rfl rfl ?_
          refine v_iload B dX9_copyTo_28 rfl ?_
          refine v_aload_n B dX9_copyTo_30 rfl rfl ?_
          refine u_get B Z (C := RX9) (T := TX9) (N := 2) (ci := 9) hi_Row_copyToB_X9 t_h h9 rfl 0 (by decide +kernel) (List.mem_of_getElem? (i := 2) rfl) rfl dX9_copyTo_31 ?_
          refine v_iload_n B dX9_copyTo_34 rfl rfl ?_
          refine v_iload B dX9_copyTo_35 rfl ?_
          refine v_iadd B (v := iI (z9_3 + z9_4)) dX9_copyTo_37 ((iI_add _ _).trans (congrArg iI (by omega))) ?_
          obtain ⟨f13, h14, r15, e16⟩ : okB K N7 (σ_9 b6) := G_9 b6 _ t10
          obtain ⟨z17, e18, r19⟩ := e16 ((z9_3 + z9_4) : Int).toNat
          refine u_iald B Z (t0 := 0) t10 h14 rfl (by omega) e18 dX9_copyTo_38 ?_
          refine u_iast B Z (t0 := 0) t_g h2 rfl (by omega) dX9_copyTo_39 (fun σ20 h21 n22 => ?_)
          have G23 := G_9.put t_g (⟨_, h21, r3, el_upd e4 (by omega) _⟩ : Ok K τ (2, π, N) (σ20 g)) n22
          have F24 := F_9.put t_g (by simp) n22
          have h25 := (n22 h (ne_ty t_h t_g (by simp))).trans h9
          refine v_iinc B (k := 3) (v := iI (z9_4 + 1)) (lv' := [(4, .int (iI (z9_4 + 1))), (0, .ref h), (1, .ref g), (3, .int (iI z9_3))]) dX9_copyTo_40 rfl ((iI_add _ _).trans (congrArg iI (by omega))) (by decide +kernel) rfl ?_
          refine v_goto B (tgt := 9) dX9_copyTo_43 (by decide +kernel) ?_
          refine v_lv [1, 2, 3, 0] rfl ?_
          exact IH9 σ20 z9_3 (z9_4 + 1) (by omega) G23 F24 ⟨by omega, by omega⟩ ⟨by omega, by omega⟩
  refine v_iload_n B dX9_copyTo_0 rfl rfl ?_
  refine v_iconst B (v := iI 0) dX9_copyTo_1 rfl ?_
  obtain ⟨z26, e27, r28⟩ := iI_max (a := x2) (b := 0) (by omega) (by omega)
  refine v_mmax B (v := iI z26) (List.mem_of_getElem? (i := 3) rfl) (List.mem_of_getElem? (i := 4) rfl) (List.mem_of_getElem? (i := 5) rfl) (List.mem_of_getElem? (i := 6) rfl) (Nat.le_trans (by decide +kernel) hR.1) (Nat.le_trans (Nat.le_of_ble_eq_true rfl) hR.2) (Nat.zero_le _) (Nat.zero_le _) e27 dX9_copyTo_2 ?_
  refine v_istore_n B (lv' := [(3, .int (iI z26)), (0, .ref h), (1, .ref g), (2, .int (iI x2))]) dX9_copyTo_5 rfl (by decide +kernel) rfl ?_
  refine v_iconst B (v := iI 0) dX9_copyTo_6 rfl ?_
  refine v_istore B (lv' := [(4, .int (iI 0)), (3, .int (iI z26)), (0, .ref h), (1, .ref g), (2, .int (iI x2))]) dX9_copyTo_7 (by decide +kernel) rfl ?_
  refine v_lv [2, 3, 1, 0] rfl ?_
  exact J9 _ σ0 z26 0 (Nat.le_refl _) G0 F0 ⟨by omega, by omega⟩ ⟨by omega, by omega⟩
set_option maxRecDepth 100000 in
theorem c_Row_copyToB (l : Launch) (D : va_G) (K : Nat → ClassId) {τ : Nat → Option Ty} {dom : List Nat} (Z : Sk τ dom) (zb zL : Nat) (zx : Nat → Int32) (zs : Nat → Nat) {ρ : Nat} {π : Nat} {N : Nat} (h : Nat) (g : Nat) (x2 : Int) (t_h : τ h = some (1, ρ, 0)) (t_g : τ g = some (2, π, N)) (r_x2 : 0 ≤ x2 ∧ x2 ≤ 100) (σ0 : Nat → va_E) (G0 : Good K τ σ0) : MZ l yX9_copyTo wp_Row_copyToB ({ frames := 1, cells := 0, slots := 0, locals := 13 }) D (tysA K) [.ref h, .ref g, .int (iI x2)] (fd dom σ0) zb zL zx zs (Qv D (fun σ' => Good K τ σ' ∧ Fr τ [(2, π)] σ0 σ') (fun σ' => fd dom σ')) 0 0 := by
  refine mz_of (cc := cX9_copyTo) (maxL := 5) (ret := none) (by decide +kernel) rfl (Nat.le_of_ble_eq_true rfl) ?_
  intro p e s m below meth c A B hr hlk _ hz
  exact b_Row_copyToB ⟨Nat.le_refl _, Nat.le_refl _⟩ B Z hz h g x2 t_h t_g r_x2 σ0 G0 (fun σ' lv pc G F hd => v_vret B hr hlk σ' ⟨G, F⟩ rfl (Nat.le_refl _) (Nat.le_refl _) hd)

def wp_Row_copyToP : List Cond := .code yX9_copyTo cX9_copyTo 5 none :: (([.fieldLink RX9 21 "LowEnergy$Row" "size" "I", .fieldLink RX9 15 "LowEnergy$Row" "bytes" "[I", .methodLink RX9 9 Lib.Math.max.name, .static Lib.Math.max.name, .initialized "java/lang/Math", .code Lib.Math.max.name Lib.Math.max.code 2 (some .int)] : List Cond) ++ (wsX90 ++ ([])))
theorem hi_Row_copyToP_X9 : ∀ x ∈ u_ws RX9 TX9 2, x ∈ wp_Row_copyToP := fun _ h => List.mem_cons_of_mem _ (List.mem_append_right _ (List.mem_append_left _ h))
set_option maxHeartbeats 4000000 in
set_option maxRecDepth 100000 in
theorem b_Row_copyToP {p : Program} {l : Launch} {e : Env} {R : Room} {s : State} {m : MethodId} {args : Array Value} {below : List Frame} {meth : Method} {c : Code} {D : va_G} {K : Nat → ClassId} {A : Nat → Prop} {Q : State → Prop} {τ : Nat → Option Ty} {dom : List Nat} {zb zL : Nat} {zx : Nat → Int32} {zs : Nat → Nat} {ρ : Nat} {π : Nat} {N : Nat} (hR : 1 ≤ R.frames ∧ 13 ≤ R.locals) (B : Bx p s m args c cX9_copyTo 5 RX9 wp_Row_copyToP D (tysA K) A) (Z : Sk τ dom) (hz : ZL zb zL zx zs A s s.heap) (h : Nat) (g : Nat) (x2 : Int) (t_h : τ h = some (1, ρ, 0)) (t_g : τ g = some (3, π, N)) (r_x2 : 0 ≤ x2 ∧ x2 ≤ 100) (σ0 : Nat → va_E) (G0 : Good K τ σ0) (hend : ∀ (σ' : Nat → va_E) (lv : List (Nat × Value)) (pc : Nat), Good K τ σ' → Fr τ [(3, π)] σ0 σ' → decode cX9_copyTo pc = .ok (.return_, 1) → V p l e R s m args below meth c 5 D A Q (0, 0) (fd dom σ') lv pc []) : V p l e R s m args below meth c 5 D A Q (0, 0) (fd dom σ0) [(0, .ref h), (1, .ref g), (2, .int (iI x2))] 0 [] := by
  have F0 : Fr τ [(3, π)] σ0 σ0 := Fr.rf
  have J9 : ∀ (k9 : Nat) (σ_9 : Nat → va_E) (z9_3 : Int) (z9_4 : Int), (2147483648 - z9_4).toNat ≤ k9 → Good K τ σ_9 → Fr τ [(3, π)] σ0 σ_9 → (0 ≤ z9_3 ∧ z9_3 ≤ 100) → (0 ≤ z9_4 ∧ z9_4 ≤ 256) → V p l e R s m args below meth c 5 D A Q (0, 0) (fd dom σ_9) [(0, .ref h), (1, .ref g), (3, .int (iI z9_3)), (4, .int (iI z9_4))] 9 [] := by
    intro k9
    induction k9 with
    | zero => intro σ_9 z9_3 z9_4 m9 G_9 F_9 r9_3 r9_4; omega
    | succ k9 IH9 =>
      intro σ_9 z9_3 z9_4 m9 G_9 F_9 r9_3 r9_4
      refine v_iload B dX9_copyTo_9 rfl ?_
      refine v_aload_n B dX9_copyTo_11 rfl rfl ?_
      obtain ⟨f1, h2, r3⟩ : okP K N (σ_9 g) := G_9 g _ t_g
      refine u_alen B Z (t0 := 0) (v := ((N : Int))) t_g h2 rfl (by first | rfl | omega) dX9_copyTo_12 ?_
      refine u_icmp_ge B (tgt := 46) (by omega) (by omega) dX9_copyTo_13 (by decide +kernel) (fun c4 => ?_) (fun c4 => ?_)
      · exact hend σ_9 _ _ G_9 F_9 dX9_copyTo_46
      · refine v_iload_n B dX9_copyTo_16 rfl rfl ?_
        refine v_iload B dX9_copyTo_17 rfl ?_
        refine v_iadd B (v := iI (z9_3 + z9_4)) dX9_copyTo_19 ((iI_add _ _).trans (congrArg iI (by omega))) ?_
        refine v_aload_n B dX9_copyTo_20 rfl rfl ?_
        obtain ⟨b5, N6, n7, h8, t9, r10⟩ : okRow τ ρ (σ_9 h) := G_9 h _ t_h
        refine u_get B Z (C := RX9) (T := TX9) (N := 2) (ci := 9) hi_Row_copyToP_X9 t_h h8 rfl 1 (by decide +kernel) (List.mem_of_getElem? (i := 1) rfl) rfl dX9_copyTo_21 ?_
        refine u_icmp_ge B (tgt := 46) (by omega) (by omega) dX9_copyTo_24 (by decide +kernel) (fun c11 => ?_) (fun c11 => ?_)
        · exact hend σ_9 _ _ G_9 F_9 dX9_copyTo_46
        · refine v_aload_n B dX9_copyTo_27 rfl rfl ?_
          refine v_iload B dX9_copyTo_28 rfl ?_
          refine v_aload_n B dX9_copyTo_30 rfl rfl ?_
          refine u_get B Z (C := RX9) (T := TX9) (N := 2) (ci := 9) hi_Row_copyToP_X9 t_h h8 rfl 0 (by decide +kernel) (List.mem_of_getElem? (i := 2) rfl) rfl dX9_copyTo_31 ?_
          refine v_iload_n B dX9_copyTo_34 rfl rfl ?_
          refine v_iload B dX9_copyTo_35 rfl ?_
          refine v_iadd B (v := iI (z9_3 + z9_4)) dX9_copyTo_37 ((iI_add _ _).trans (congrArg iI (by omega))) ?_
          obtain ⟨f12, h13, r14, e15⟩ : okB K N6 (σ_9 b5) := G_9 b5 _ t9
          obtain ⟨z16, e17, r18⟩ := e15 ((z9_3 + z9_4) : Int).toNat
          refine u_iald B Z (t0 := 0) t9 h13 rfl (by omega) e17 dX9_copyTo_38 ?_
          refine u_iast B Z (t0 := 0) t_g h2 rfl (by omega) dX9_copyTo_39 (fun σ19 h20 n21 => ?_)
          have G22 := G_9.put t_g (⟨_, h20, r3⟩ : Ok K τ (3, π, N) (σ19 g)) n21
          have F23 := F_9.put t_g (by simp) n21
          have h24 := (n21 h (ne_ty t_h t_g (by simp))).trans h8
          have h25 := (n21 b5 (ne_ty t9 t_g (by simp))).trans h13
          refine v_iinc B (k := 3) (v := iI (z9_4 + 1)) (lv' := [(4, .int (iI (z9_4 + 1))), (0, .ref h), (1, .ref g), (3, .int (iI z9_3))]) dX9_copyTo_40 rfl ((iI_add _ _).trans (congrArg iI (by omega))) (by decide +kernel) rfl ?_
          refine v_goto B (tgt := 9) dX9_copyTo_43 (by decide +kernel) ?_
          refine v_lv [1, 2, 3, 0] rfl ?_
          exact IH9 σ19 z9_3 (z9_4 + 1) (by omega) G22 F23 ⟨by omega, by omega⟩ ⟨by omega, by omega⟩
  refine v_iload_n B dX9_copyTo_0 rfl rfl ?_
  refine v_iconst B (v := iI 0) dX9_copyTo_1 rfl ?_
  obtain ⟨z26, e27, r28⟩ := iI_max (a := x2) (b := 0) (by omega) (by omega)
  refine v_mmax B (v := iI z26) (List.mem_of_getElem? (i := 3) rfl) (List.mem_of_getElem? (i := 4) rfl) (List.mem_of_getElem? (i := 5) rfl) (List.mem_of_getElem? (i := 6) rfl) (Nat.le_trans (by decide +kernel) hR.1) (Nat.le_trans (Nat.le_of_ble_eq_true rfl) hR.2) (Nat.zero_le _) (Nat.zero_le _) e27 dX9_copyTo_2 ?_
  refine v_istore_n B (lv' := [(3, .int (iI z26)), (0, .ref h), (1, .ref g), (2, .int (iI x2))]) dX9_copyTo_5 rfl (by decide +kernel) rfl ?_
  refine v_iconst B (v := iI 0) dX9_copyTo_6 rfl ?_
  refine v_istore B (lv' := [(4, .int (iI 0)), (3, .int (iI z26)), (0, .ref h), (1, .ref g), (2, .int (iI x2))]) dX9_copyTo_7 (by decide +kernel) rfl ?_
  refine v_lv [2, 3, 1, 0] rfl ?_
  exact J9 _ σ0 z26 0 (Nat.le_refl _) G0 F0 ⟨by omega, by omega⟩ ⟨by omega, by omega⟩
set_option maxRecDepth 100000 in
theorem c_Row_copyToP (l : Launch) (D : va_G) (K : Nat → ClassId) {τ : Nat → Option Ty} {dom : List Nat} (Z : Sk τ dom) (zb zL : Nat) (zx : Nat → Int32) (zs : Nat → Nat) {ρ : Nat} {π : Nat} {N : Nat} (h : Nat) (g : Nat) (x2 : Int) (t_h : τ h = some (1, ρ, 0)) (t_g : τ g = some (3, π, N)) (r_x2 : 0 ≤ x2 ∧ x2 ≤ 100) (σ0 : Nat → va_E) (G0 : Good K τ σ0) : MZ l yX9_copyTo wp_Row_copyToP ({ frames := 1, cells := 0, slots := 0, locals := 13 }) D (tysA K) [.ref h, .ref g, .int (iI x2)] (fd dom σ0) zb zL zx zs (Qv D (fun σ' => Good K τ σ' ∧ Fr τ [(3, π)] σ0 σ') (fun σ' => fd dom σ')) 0 0 := by
  refine mz_of (cc := cX9_copyTo) (maxL := 5) (ret := none) (by decide +kernel) rfl (Nat.le_of_ble_eq_true rfl) ?_
  intro p e s m below meth c A B hr hlk _ hz
  exact b_Row_copyToP ⟨Nat.le_refl _, Nat.le_refl _⟩ B Z hz h g x2 t_h t_g r_x2 σ0 G0 (fun σ' lv pc G F hd => v_vret B hr hlk σ' ⟨G, F⟩ rfl (Nat.le_refl _) (Nat.le_refl _) hd)

def wp_Row_isTailOf : List Cond := .code yX9_isTailOf cX9_isTailOf 4 (some .boolean) :: (([.fieldLink RX9 21 "LowEnergy$Row" "size" "I", .fieldLink RX9 15 "LowEnergy$Row" "bytes" "[I"] : List Cond) ++ (wsX90 ++ ([])))
theorem hi_Row_isTailOf_X9 : ∀ x ∈ u_ws RX9 TX9 2, x ∈ wp_Row_isTailOf := fun _ h => List.mem_cons_of_mem _ (List.mem_append_right _ (List.mem_append_left _ h))
set_option maxHeartbeats 4000000 in
set_option maxRecDepth 100000 in
theorem b_Row_isTailOf {p : Program} {l : Launch} {e : Env} {R : Room} {s : State} {m : MethodId} {args : Array Value} {below : List Frame} {meth : Method} {c : Code} {D : va_G} {K : Nat → ClassId} {A : Nat → Prop} {Q : State → Prop} {τ : Nat → Option Ty} {dom : List Nat} {zb zL : Nat} {zx : Nat → Int32} {zs : Nat → Nat} {ρ : Nat} {π : Nat} (hR : 0 ≤ R.frames ∧ 0 ≤ R.locals) (B : Bx p s m args c cX9_isTailOf 4 RX9 wp_Row_isTailOf D (tysA K) A) (Z : Sk τ dom) (hz : ZL zb zL zx zs A s s.heap) (h : Nat) (g : Nat) (x2 : Int) (t_h : τ h = some (1, ρ, 0)) (t_g : τ g = some (1, π, 0)) (r_x2 : -2147483648 ≤ x2 ∧ x2 ≤ 2147483647) (σ0 : Nat → va_E) (G0 : Good K τ σ0) (hend : ∀ (z : Int) (lv : List (Nat × Value)) (pc : Nat), (0 ≤ z ∧ z ≤ 1) → decode cX9_isTailOf pc = .ok (.ireturn, 1) → V p l e R s m args below meth c 4 D A Q (0, 0) (fd dom σ0) lv pc [.int (iI z)]) : V p l e R s m args below meth c 4 D A Q (0, 0) (fd dom σ0) [(0, .ref h), (1, .ref g), (2, .int (iI x2))] 0 [] := by
  have F0 : Fr τ [] σ0 σ0 := Fr.rf
  obtain ⟨b1, N2, n3, h4, t5, r6⟩ : okRow τ ρ (σ0 h) := G0 h _ t_h
  obtain ⟨b7, N8, n9, h10, t11, r12⟩ : okRow τ π (σ0 g) := G0 g _ t_g
  have J21 : ∀ (k21 : Nat) (z21_3 : Int), (2147483648 - z21_3).toNat ≤ k21 → (0 ≤ x2 ∧ x2 ≤ 256) → (0 ≤ z21_3 ∧ z21_3 ≤ 256) → (n9 - x2 = n3) → V p l e R s m args below meth c 4 D A Q (0, 0) (fd dom σ0) [(0, .ref h), (1, .ref g), (2, .int (iI x2)), (3, .int (iI z21_3))] 21 [] := by
    intro k21
    induction k21 with
    | zero => intro z21_3 m21 r21_2 r21_3 i21; omega
    | succ k21 IH21 =>
      intro z21_3 m21 r21_2 r21_3 i21
      refine v_iload_n B dX9_isTailOf_21 rfl rfl ?_
      refine v_aload_n B dX9_isTailOf_22 rfl rfl ?_
      refine u_get B Z (C := RX9) (T := TX9) (N := 2) (ci := 9) hi_Row_isTailOf_X9 t_h h4 rfl 1 (by decide +kernel) (List.mem_of_getElem? (i := 1) rfl) rfl dX9_isTailOf_23 ?_
      refine u_icmp_ge B (tgt := 54) (by omega) (by omega) dX9_isTailOf_26 (by decide +kernel) (fun c13 => ?_) (fun c13 => ?_)
      · refine v_iconst B (v := iI 1) dX9_isTailOf_54 rfl ?_
        exact hend 1 _ _ ⟨by omega, by omega⟩ dX9_isTailOf_55
      · refine v_aload_n B dX9_isTailOf_29 rfl rfl ?_
        refine u_get B Z (C := RX9) (T := TX9) (N := 2) (ci := 9) hi_Row_isTailOf_X9 t_h h4 rfl 0 (by decide +kernel) (List.mem_of_getElem? (i := 2) rfl) rfl dX9_isTailOf_30 ?_
        refine v_iload_n B dX9_isTailOf_33 rfl rfl ?_
        obtain ⟨f14, h15, r16, e17⟩ : okB K N2 (σ0 b1) := G0 b1 _ t5
        obtain ⟨z18, e19, r20⟩ := e17 (z21_3 : Int).toNat
        refine u_iald B Z (t0 := 0) t5 h15 rfl (by omega) e19 dX9_isTailOf_34 ?_
        refine v_aload_n B dX9_isTailOf_35 rfl rfl ?_
        refine u_get B Z (C := RX9) (T := TX9) (N := 2) (ci := 9) hi_Row_isTailOf_X9 t_g h10 rfl 0 (by decide +kernel) (List.mem_of_getElem? (i := 2) rfl) rfl dX9_isTailOf_36 ?_
        refine v_iload_n B dX9_isTailOf_39 rfl rfl ?_
        refine v_iload_n B dX9_isTailOf_40 rfl rfl ?_
        refine v_iadd B (v := iI (x2 + z21_3)) dX9_isTailOf_41 ((iI_add _ _).trans (congrArg iI (by omega))) ?_
        obtain ⟨f21, h22, r23, e24⟩ : okB K N8 (σ0 b7) := G0 b7 _ t11
        obtain ⟨z25, e26, r27⟩ := e24 ((x2 + z21_3) : Int).toNat
        refine u_iald B Z (t0 := 0) t11 h22 rfl (by omega) e26 dX9_isTailOf_42 ?_
        refine u_icmp_eq B (tgt := 48) (by omega) (by omega) dX9_isTailOf_43 (by decide +kernel) (fun c28 => ?_) (fun c28 => ?_)
        · refine v_iinc B (k := 3) (v := iI (z21_3 + 1)) (lv' := [(3, .int (iI (z21_3 + 1))), (0, .ref h), (1, .ref g), (2, .int (iI x2))]) dX9_isTailOf_48 rfl ((iI_add _ _).trans (congrArg iI (by omega))) (by decide +kernel) rfl ?_
          refine v_goto B (tgt := 21) dX9_isTailOf_51 (by decide +kernel) ?_
          refine v_lv [1, 2, 3, 0] rfl ?_
          exact IH21 (z21_3 + 1) (by omega) ⟨by omega, by omega⟩ ⟨by omega, by omega⟩ (by omega)
        · refine v_iconst B (v := iI 0) dX9_isTailOf_46 rfl ?_
          exact hend 0 _ _ ⟨by omega, by omega⟩ dX9_isTailOf_47
  refine v_iload_n B dX9_isTailOf_0 rfl rfl ?_
  refine u_if_lt B (tgt := 17) (by omega) dX9_isTailOf_1 (by decide +kernel) (fun c29 => ?_) (fun c29 => ?_)
  · refine v_iconst B (v := iI 0) dX9_isTailOf_17 rfl ?_
    exact hend 0 _ _ ⟨by omega, by omega⟩ dX9_isTailOf_18
  · refine v_aload_n B dX9_isTailOf_4 rfl rfl ?_
    refine u_get B Z (C := RX9) (T := TX9) (N := 2) (ci := 9) hi_Row_isTailOf_X9 t_g h10 rfl 1 (by decide +kernel) (List.mem_of_getElem? (i := 1) rfl) rfl dX9_isTailOf_5 ?_
    refine v_iload_n B dX9_isTailOf_8 rfl rfl ?_
    refine v_isub B (v := iI (n9 + (-1) * x2)) dX9_isTailOf_9 ((iI_sub _ _).trans (congrArg iI (by omega))) ?_
    refine v_aload_n B dX9_isTailOf_10 rfl rfl ?_
    refine u_get B Z (C := RX9) (T := TX9) (N := 2) (ci := 9) hi_Row_isTailOf_X9 t_h h4 rfl 1 (by decide +kernel) (List.mem_of_getElem? (i := 1) rfl) rfl dX9_isTailOf_11 ?_
    refine u_icmp_eq B (tgt := 19) (by omega) (by omega) dX9_isTailOf_14 (by decide +kernel) (fun c30 => ?_) (fun c30 => ?_)
    · refine v_iconst B (v := iI 0) dX9_isTailOf_19 rfl ?_
      refine v_istore_n B (lv' := [(3, .int (iI 0)), (0, .ref h), (1, .ref g), (2, .int (iI x2))]) dX9_isTailOf_20 rfl (by decide +kernel) rfl ?_
      refine v_lv [1, 2, 3, 0] rfl ?_
      exact J21 _ 0 (Nat.le_refl _) ⟨by omega, by omega⟩ ⟨by omega, by omega⟩ (by omega)
    · refine v_iconst B (v := iI 0) dX9_isTailOf_17 rfl ?_
      exact hend 0 _ _ ⟨by omega, by omega⟩ dX9_isTailOf_18
set_option maxRecDepth 100000 in
theorem c_Row_isTailOf (l : Launch) (D : va_G) (K : Nat → ClassId) {τ : Nat → Option Ty} {dom : List Nat} (Z : Sk τ dom) (zb zL : Nat) (zx : Nat → Int32) (zs : Nat → Nat) {ρ : Nat} {π : Nat} (h : Nat) (g : Nat) (x2 : Int) (t_h : τ h = some (1, ρ, 0)) (t_g : τ g = some (1, π, 0)) (r_x2 : -2147483648 ≤ x2 ∧ x2 ≤ 2147483647) (σ0 : Nat → va_E) (G0 : Good K τ σ0) : MZ l yX9_isTailOf wp_Row_isTailOf ({ frames := 0, cells := 0, slots := 0, locals := 0 }) D (tysA K) [.ref h, .ref g, .int (iI x2)] (fd dom σ0) zb zL zx zs (Qi D (fun r σ' => σ0 = σ' ∧ ∃ z : Int, r = iI z ∧ (0 ≤ z ∧ z ≤ 1)) (fun σ' => fd dom σ')) 0 0 := by
  refine mz_of (cc := cX9_isTailOf) (maxL := 4) (ret := (some .boolean)) (by decide +kernel) rfl (Nat.le_of_ble_eq_true rfl) ?_
  intro p e s m below meth c A B hr hlk _ hz
  exact b_Row_isTailOf ⟨Nat.le_refl _, Nat.le_refl _⟩ B Z hz h g x2 t_h t_g r_x2 σ0 G0 (fun z lv pc hZ hd => v_zret B hr hlk (nar01 (by omega)) σ0 ⟨rfl, z, rfl, hZ⟩ rfl (Nat.le_refl _) (Nat.le_refl _) hd)

def wp_Row_atIn : List Cond := .code yX9_at cX9_at 2 (some .int) :: (([.fieldLink RX9 21 "LowEnergy$Row" "size" "I", .fieldLink RX9 15 "LowEnergy$Row" "bytes" "[I"] : List Cond) ++ (wsX90 ++ ([])))
theorem hi_Row_atIn_X9 : ∀ x ∈ u_ws RX9 TX9 2, x ∈ wp_Row_atIn := fun _ h => List.mem_cons_of_mem _ (List.mem_append_right _ (List.mem_append_left _ h))
set_option maxHeartbeats 4000000 in
set_option maxRecDepth 100000 in
theorem b_Row_atIn {p : Program} {l : Launch} {e : Env} {R : Room} {s : State} {m : MethodId} {args : Array Value} {below : List Frame} {meth : Method} {c : Code} {D : va_G} {K : Nat → ClassId} {A : Nat → Prop} {Q : State → Prop} {τ : Nat → Option Ty} {dom : List Nat} {zb zL : Nat} {zx : Nat → Int32} {zs : Nat → Nat} {ρ : Nat} (hR : 0 ≤ R.frames ∧ 0 ≤ R.locals) (B : Bx p s m args c cX9_at 2 RX9 wp_Row_atIn D (tysA K) A) (Z : Sk τ dom) (hz : ZL zb zL zx zs A s s.heap) (h : Nat) (x1 : Int) (t_h : τ h = some (1, ρ, 0)) (r_x1 : -2147483648 ≤ x1 ∧ x1 ≤ 2147483647) (σ0 : Nat → va_E) (G0 : Good K τ σ0) (hx : ∀ (b : Nat) (n : Int), σ0 h = .inr (9, [.ref b, .int (iI n)]) → 0 ≤ n → n ≤ 256 → 0 ≤ x1 ∧ x1 < n) (hend : ∀ (z : Int) (lv : List (Nat × Value)) (pc : Nat), (0 ≤ z ∧ z ≤ 255) → decode cX9_at pc = .ok (.ireturn, 1) → V p l e R s m args below meth c 2 D A Q (0, 0) (fd dom σ0) lv pc [.int (iI z)]) : V p l e R s m args below meth c 2 D A Q (0, 0) (fd dom σ0) [(0, .ref h), (1, .int (iI x1))] 0 [] := by
  have F0 : Fr τ [] σ0 σ0 := Fr.rf
  obtain ⟨b1, N2, n3, h4, t5, r6⟩ : okRow τ ρ (σ0 h) := G0 h _ t_h
  have r7 := hx _ _ h4 (by omega) (by omega)
  refine v_iload_n B dX9_at_0 rfl rfl ?_
  refine u_if_lt B (tgt := 21) (by omega) dX9_at_1 (by decide +kernel) (fun c8 => by omega) (fun c8 => ?_)
  refine v_iload_n B dX9_at_4 rfl rfl ?_
  refine v_aload_n B dX9_at_5 rfl rfl ?_
  refine u_get B Z (C := RX9) (T := TX9) (N := 2) (ci := 9) hi_Row_atIn_X9 t_h h4 rfl 1 (by decide +kernel) (List.mem_of_getElem? (i := 1) rfl) rfl dX9_at_6 ?_
  refine u_icmp_ge B (tgt := 21) (by omega) (by omega) dX9_at_9 (by decide +kernel) (fun c9 => ?_) (fun c9 => ?_)
  · refine v_iconst B (v := iI (-1)) dX9_at_21 rfl ?_
    exact hend (-1) _ _ ⟨by omega, by omega⟩ dX9_at_22
  · refine v_aload_n B dX9_at_12 rfl rfl ?_
    refine u_get B Z (C := RX9) (T := TX9) (N := 2) (ci := 9) hi_Row_atIn_X9 t_h h4 rfl 0 (by decide +kernel) (List.mem_of_getElem? (i := 2) rfl) rfl dX9_at_13 ?_
    refine v_iload_n B dX9_at_16 rfl rfl ?_
    obtain ⟨f10, h11, r12, e13⟩ : okB K N2 (σ0 b1) := G0 b1 _ t5
    obtain ⟨z14, e15, r16⟩ := e13 (x1 : Int).toNat
    refine u_iald B Z (t0 := 0) t5 h11 rfl (by omega) e15 dX9_at_17 ?_
    refine v_goto B (tgt := 22) dX9_at_18 (by decide +kernel) ?_
    exact hend z14 _ _ ⟨by omega, by omega⟩ dX9_at_22
set_option maxRecDepth 100000 in
theorem c_Row_atIn (l : Launch) (D : va_G) (K : Nat → ClassId) {τ : Nat → Option Ty} {dom : List Nat} (Z : Sk τ dom) (zb zL : Nat) (zx : Nat → Int32) (zs : Nat → Nat) {ρ : Nat} (h : Nat) (x1 : Int) (t_h : τ h = some (1, ρ, 0)) (r_x1 : -2147483648 ≤ x1 ∧ x1 ≤ 2147483647) (σ0 : Nat → va_E) (G0 : Good K τ σ0) (hx : ∀ (b : Nat) (n : Int), σ0 h = .inr (9, [.ref b, .int (iI n)]) → 0 ≤ n → n ≤ 256 → 0 ≤ x1 ∧ x1 < n) : MZ l yX9_at wp_Row_atIn ({ frames := 0, cells := 0, slots := 0, locals := 0 }) D (tysA K) [.ref h, .int (iI x1)] (fd dom σ0) zb zL zx zs (Qi D (fun r σ' => σ0 = σ' ∧ ∃ z : Int, r = iI z ∧ (0 ≤ z ∧ z ≤ 255)) (fun σ' => fd dom σ')) 0 0 := by
  refine mz_of (cc := cX9_at) (maxL := 2) (ret := (some .int)) (by decide +kernel) rfl (Nat.le_of_ble_eq_true rfl) ?_
  intro p e s m below meth c A B hr hlk _ hz
  exact b_Row_atIn ⟨Nat.le_refl _, Nat.le_refl _⟩ B Z hz h x1 t_h r_x1 σ0 G0 hx (fun z lv pc hZ hd => v_iret B hr hlk σ0 ⟨rfl, z, rfl, hZ⟩ rfl (Nat.le_refl _) (Nat.le_refl _) hd)

def wp_Row_twoX : List Cond := .code yX9_two cX9_two 2 (some .int) :: (([.fieldLink RX9 21 "LowEnergy$Row" "size" "I", .fieldLink RX9 15 "LowEnergy$Row" "bytes" "[I"] : List Cond) ++ (wsX90 ++ ([])))
theorem hi_Row_twoX_X9 : ∀ x ∈ u_ws RX9 TX9 2, x ∈ wp_Row_twoX := fun _ h => List.mem_cons_of_mem _ (List.mem_append_right _ (List.mem_append_left _ h))
set_option maxHeartbeats 4000000 in
set_option maxRecDepth 100000 in
theorem b_Row_twoX {p : Program} {l : Launch} {e : Env} {R : Room} {s : State} {m : MethodId} {args : Array Value} {below : List Frame} {meth : Method} {c : Code} {D : va_G} {K : Nat → ClassId} {A : Nat → Prop} {Q : State → Prop} {τ : Nat → Option Ty} {dom : List Nat} {zb zL : Nat} {zx : Nat → Int32} {zs : Nat → Nat} {ρ : Nat} (hR : 0 ≤ R.frames ∧ 0 ≤ R.locals) (B : Bx p s m args c cX9_two 2 RX9 wp_Row_twoX D (tysA K) A) (Z : Sk τ dom) (hz : ZL zb zL zx zs A s s.heap) (h : Nat) (x1 : Int) (t_h : τ h = some (1, ρ, 0)) (r_x1 : -2147483648 ≤ x1 ∧ x1 ≤ 2147483647) (σ0 : Nat → va_E) (G0 : Good K τ σ0) (hend : ∀ (z : Int) (lv : List (Nat × Value)) (pc : Nat), (0 ≤ z ∧ z ≤ 65535) → (TwoV K σ0 h x1 z) → decode cX9_two pc = .ok (.ireturn, 1) → V p l e R s m args below meth c 2 D A Q (0, 0) (fd dom σ0) lv pc [.int (iI z)]) : V p l e R s m args below meth c 2 D A Q (0, 0) (fd dom σ0) [(0, .ref h), (1, .int (iI x1))] 0 [] := by
  have F0 : Fr τ [] σ0 σ0 := Fr.rf
  obtain ⟨b1, N2, n3, h4, t5, r6⟩ : okRow τ ρ (σ0 h) := G0 h _ t_h
  refine v_iload_n B dX9_two_0 rfl rfl ?_
  refine u_if_lt B (tgt := 35) (by omega) dX9_two_1 (by decide +kernel) (fun c7 => ?_) (fun c7 => ?_)
  · refine v_iconst B (v := iI 0) dX9_two_35 rfl ?_
    exact hend 0 _ _ ⟨by omega, by omega⟩ (fun b n N f q1 q2 q3 => ⟨fun a1 a2 => by have q := row_inj (h4.symm.trans q1) (by omega) q2; omega, fun _ => rfl⟩) dX9_two_36
  · refine v_iload_n B dX9_two_4 rfl rfl ?_
    refine v_aload_n B dX9_two_5 rfl rfl ?_
    refine u_get B Z (C := RX9) (T := TX9) (N := 2) (ci := 9) hi_Row_twoX_X9 t_h h4 rfl 1 (by decide +kernel) (List.mem_of_getElem? (i := 1) rfl) rfl dX9_two_6 ?_
    refine v_iconst B (v := iI 1) dX9_two_9 rfl ?_
    refine v_isub B (v := iI (n3 + (-1))) dX9_two_10 ((iI_sub _ _).trans (congrArg iI (by omega))) ?_
    refine u_icmp_ge B (tgt := 35) (by omega) (by omega) dX9_two_11 (by decide +kernel) (fun c8 => ?_) (fun c8 => ?_)
    · refine v_iconst B (v := iI 0) dX9_two_35 rfl ?_
      exact hend 0 _ _ ⟨by omega, by omega⟩ (fun b n N f q1 q2 q3 => ⟨fun a1 a2 => by have q := row_inj (h4.symm.trans q1) (by omega) q2; omega, fun _ => rfl⟩) dX9_two_36
    · refine v_aload_n B dX9_two_14 rfl rfl ?_
      refine u_get B Z (C := RX9) (T := TX9) (N := 2) (ci := 9) hi_Row_twoX_X9 t_h h4 rfl 0 (by decide +kernel) (List.mem_of_getElem? (i := 2) rfl) rfl dX9_two_15 ?_
      refine v_iload_n B dX9_two_18 rfl rfl ?_
      obtain ⟨f9, h10, r11, e12⟩ : okB K N2 (σ0 b1) := G0 b1 _ t5
      obtain ⟨z13, e14, r15⟩ := e12 (x1 : Int).toNat
      refine u_iald B Z (t0 := 0) t5 h10 rfl (by omega) e14 dX9_two_19 ?_
      refine v_aload_n B dX9_two_20 rfl rfl ?_
      refine u_get B Z (C := RX9) (T := TX9) (N := 2) (ci := 9) hi_Row_twoX_X9 t_h h4 rfl 0 (by decide +kernel) (List.mem_of_getElem? (i := 2) rfl) rfl dX9_two_21 ?_
      refine v_iload_n B dX9_two_24 rfl rfl ?_
      refine v_iconst B (v := iI 1) dX9_two_25 rfl ?_
      refine v_iadd B (v := iI (x1 + 1)) dX9_two_26 ((iI_add _ _).trans (congrArg iI (by omega))) ?_
      obtain ⟨z16, e17, r18⟩ := e12 ((x1 + 1) : Int).toNat
      refine u_iald B Z (t0 := 0) t5 h10 rfl (by omega) e17 dX9_two_27 ?_
      refine v_bipush B (v := iI 8) dX9_two_28 (by decide +kernel) ?_
      refine v_ishl B (v := iI (256 * z16)) dX9_two_30 ((iI_shl z16 8 (by decide)).trans (congrArg iI (by omega))) ?_
      obtain ⟨z19, e20, r21⟩ := iI_or (a := z13) (b := (256 * z16)) 16 (by decide) (by omega) (by omega)
      refine v_ior B (v := iI z19) dX9_two_31 e20 ?_
      refine v_goto B (tgt := 36) dX9_two_32 (by decide +kernel) ?_
      exact hend z19 _ _ ⟨by omega, by omega⟩ (fun b n N f q1 q2 q3 => by obtain ⟨rfl, rfl⟩ := row_inj2 (h4.symm.trans q1) (by omega) q2; obtain rfl := arr_inj (h10.symm.trans q3); exact ⟨fun a1 a2 => by rw [e14, e17, show iI z16 <<< (iI 8 &&& 31) = iI (256 * z16) from (iI_shl z16 8 (by decide)).trans (congrArg iI (by omega))]; exact e20, fun a => by omega⟩) dX9_two_36
set_option maxRecDepth 100000 in
theorem c_Row_twoX (l : Launch) (D : va_G) (K : Nat → ClassId) {τ : Nat → Option Ty} {dom : List Nat} (Z : Sk τ dom) (zb zL : Nat) (zx : Nat → Int32) (zs : Nat → Nat) {ρ : Nat} (h : Nat) (x1 : Int) (t_h : τ h = some (1, ρ, 0)) (r_x1 : -2147483648 ≤ x1 ∧ x1 ≤ 2147483647) (σ0 : Nat → va_E) (G0 : Good K τ σ0) : MZ l yX9_two wp_Row_twoX ({ frames := 0, cells := 0, slots := 0, locals := 0 }) D (tysA K) [.ref h, .int (iI x1)] (fd dom σ0) zb zL zx zs (Qi D (fun r σ' => σ0 = σ' ∧ ∃ z : Int, r = iI z ∧ (0 ≤ z ∧ z ≤ 65535) ∧ (TwoV K σ0 h x1 z)) (fun σ' => fd dom σ')) 0 0 := by
  refine mz_of (cc := cX9_two) (maxL := 2) (ret := (some .int)) (by decide +kernel) rfl (Nat.le_of_ble_eq_true rfl) ?_
  intro p e s m below meth c A B hr hlk _ hz
  exact b_Row_twoX ⟨Nat.le_refl _, Nat.le_refl _⟩ B Z hz h x1 t_h r_x1 σ0 G0 (fun z lv pc hZ hP hd => v_iret B hr hlk σ0 ⟨rfl, z, rfl, hZ, hP⟩ rfl (Nat.le_refl _) (Nat.le_refl _) hd)
