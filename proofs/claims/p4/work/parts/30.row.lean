def wp_Row_clear : List Cond := .code yX9_clear cX9_clear 1 none :: ([.fieldLink RX9 21 "LowEnergy$Row" "size" "I"] ++ (wsX90 ++ ([])))
theorem hi_Row_clear_X9 : ∀ x ∈ u_ws RX9 TX9 2, x ∈ wp_Row_clear := fun _ h => List.mem_cons_of_mem _ (List.mem_append_right _ (List.mem_append_left _ h))
set_option maxHeartbeats 4000000 in
set_option maxRecDepth 100000 in
theorem b_Row_clear {p : Program} {l : Launch} {e : Env} {R : Room} {s : State} {m : MethodId} {args : Array Value} {below : List Frame} {meth : Method} {c : Code} {D : va_G} {K : Nat → ClassId} {A : Nat → Prop} {Q : State → Prop} {τ : Nat → Option Ty} {dom : List Nat} {zb zL : Nat} {zx : Nat → Int32} {zs : Nat → Nat} {ρ : Nat} (hR : 0 ≤ R.frames ∧ 0 ≤ R.locals) (B : Bx p s m args c cX9_clear 1 RX9 wp_Row_clear D (tysA K) A) (Z : Sk τ dom) (hz : ZL zb zL zx zs A s s.heap) (h : Nat) (t_h : τ h = some (1, ρ, 0)) (σ0 : Nat → va_E) (G0 : Good K τ σ0) (hend : ∀ (σ' : Nat → va_E) (lv : List (Nat × Value)) (pc : Nat), Good K τ σ' → Fr τ [(1, ρ)] σ0 σ' → decode cX9_clear pc = .ok (.return_, 1) → V p l e R s m args below meth c 1 D A Q (0, 0) (fd dom σ') lv pc []) : V p l e R s m args below meth c 1 D A Q (0, 0) (fd dom σ0) [(0, .ref h)] 0 [] := by
  have F0 : Fr τ [(1, ρ)] σ0 σ0 := Fr.rf
  refine v_aload_n B dX9_clear_0 rfl rfl ?_
  refine v_iconst B (v := iI 0) dX9_clear_1 rfl ?_
  obtain ⟨b1, N2, n3, h4, t5, r6⟩ := (G0 h _ t_h : okRow τ ρ (σ0 h))
  refine u_put B Z (C := RX9) (T := TX9) (N := 2) (ci := 9) hi_Row_clear_X9 t_h h4 rfl 1 (by decide +kernel) tyX9 tyX9_ok nmX9 (List.mem_of_getElem? (i := 1) rfl) rfl (ty := .int) (tyX9_ok 1 (by decide +kernel)) rfl rfl (Nat.le_of_ble_eq_true rfl) (fs' := [.ref b1, .int (iI 0)]) rfl dX9_clear_2 (fun σ7 h8 n9 => ?_)
  have G10 := G0.put t_h (⟨b1, N2, 0, h8, t5, by omega⟩ : Ok K τ (1, ρ, 0) (σ7 h)) n9
  have F11 := F0.put t_h (by simp) n9
  exact hend σ7 _ _ G10 F11 dX9_clear_5
set_option maxRecDepth 100000 in
theorem c_Row_clear (l : Launch) (D : va_G) (K : Nat → ClassId) {τ : Nat → Option Ty} {dom : List Nat} (Z : Sk τ dom) (zb zL : Nat) (zx : Nat → Int32) (zs : Nat → Nat) {ρ : Nat} (h : Nat) (t_h : τ h = some (1, ρ, 0)) (σ0 : Nat → va_E) (G0 : Good K τ σ0) : MZ l yX9_clear wp_Row_clear ({ frames := 0, cells := 0, slots := 0, locals := 0 }) D (tysA K) [.ref h] (fd dom σ0) zb zL zx zs (Qv D (fun σ' => Good K τ σ' ∧ Fr τ [(1, ρ)] σ0 σ') (fun σ' => fd dom σ')) 0 0 := by
  refine mz_of (cc := cX9_clear) (maxL := 1) (ret := none) (by decide +kernel) rfl (Nat.le_of_ble_eq_true rfl) ?_
  intro p e s m below meth c A B hr hlk _ hz
  exact b_Row_clear ⟨Nat.le_refl _, Nat.le_refl _⟩ B Z hz h t_h σ0 G0 (fun σ' lv pc G F hd => v_vret B hr hlk σ' ⟨G, F⟩ rfl (Nat.le_refl _) (Nat.le_refl _) hd)

def wp_Row_cut : List Cond := .code yX9_cut cX9_cut 2 none :: ([.fieldLink RX9 21 "LowEnergy$Row" "size" "I"] ++ (wsX90 ++ ([])))
theorem hi_Row_cut_X9 : ∀ x ∈ u_ws RX9 TX9 2, x ∈ wp_Row_cut := fun _ h => List.mem_cons_of_mem _ (List.mem_append_right _ (List.mem_append_left _ h))
set_option maxHeartbeats 4000000 in
set_option maxRecDepth 100000 in
theorem b_Row_cut {p : Program} {l : Launch} {e : Env} {R : Room} {s : State} {m : MethodId} {args : Array Value} {below : List Frame} {meth : Method} {c : Code} {D : va_G} {K : Nat → ClassId} {A : Nat → Prop} {Q : State → Prop} {τ : Nat → Option Ty} {dom : List Nat} {zb zL : Nat} {zx : Nat → Int32} {zs : Nat → Nat} {ρ : Nat} (hR : 0 ≤ R.frames ∧ 0 ≤ R.locals) (B : Bx p s m args c cX9_cut 2 RX9 wp_Row_cut D (tysA K) A) (Z : Sk τ dom) (hz : ZL zb zL zx zs A s s.heap) (h : Nat) (x1 : Int) (t_h : τ h = some (1, ρ, 0)) (r_x1 : -2147483648 ≤ x1 ∧ x1 ≤ 2147483647) (σ0 : Nat → va_E) (G0 : Good K τ σ0) (hend : ∀ (σ' : Nat → va_E) (lv : List (Nat × Value)) (pc : Nat), Good K τ σ' → Fr τ [(1, ρ)] σ0 σ' → decode cX9_cut pc = .ok (.return_, 1) → V p l e R s m args below meth c 2 D A Q (0, 0) (fd dom σ') lv pc []) : V p l e R s m args below meth c 2 D A Q (0, 0) (fd dom σ0) [(0, .ref h), (1, .int (iI x1))] 0 [] := by
  have F0 : Fr τ [(1, ρ)] σ0 σ0 := Fr.rf
  refine v_iload_n B dX9_cut_0 rfl rfl ?_
  refine u_if_lt B (tgt := 17) (by omega) dX9_cut_1 (by decide +kernel) (fun c1 => ?_) (fun c1 => ?_)
  · exact hend σ0 _ _ G0 F0 dX9_cut_17
  · refine v_iload_n B dX9_cut_4 rfl rfl ?_
    refine v_aload_n B dX9_cut_5 rfl rfl ?_
    obtain ⟨b2, N3, n4, h5, t6, r7⟩ := (G0 h _ t_h : okRow τ ρ (σ0 h))
    refine u_get B Z (C := RX9) (T := TX9) (N := 2) (ci := 9) hi_Row_cut_X9 t_h h5 rfl 1 (by decide +kernel) (List.mem_of_getElem? (i := 1) rfl) rfl dX9_cut_6 ?_
    refine u_icmp_ge B (tgt := 17) (by omega) (by omega) dX9_cut_9 (by decide +kernel) (fun c8 => ?_) (fun c8 => ?_)
    · exact hend σ0 _ _ G0 F0 dX9_cut_17
    · refine v_aload_n B dX9_cut_12 rfl rfl ?_
      refine v_iload_n B dX9_cut_13 rfl rfl ?_
      refine u_put B Z (C := RX9) (T := TX9) (N := 2) (ci := 9) hi_Row_cut_X9 t_h h5 rfl 1 (by decide +kernel) tyX9 tyX9_ok nmX9 (List.mem_of_getElem? (i := 1) rfl) rfl (ty := .int) (tyX9_ok 1 (by decide +kernel)) rfl rfl (Nat.le_of_ble_eq_true rfl) (fs' := [.ref b2, .int (iI x1)]) rfl dX9_cut_14 (fun σ9 h10 n11 => ?_)
      have G12 := G0.put t_h (⟨b2, N3, x1, h10, t6, by omega⟩ : Ok K τ (1, ρ, 0) (σ9 h)) n11
      have F13 := F0.put t_h (by simp) n11
      exact hend σ9 _ _ G12 F13 dX9_cut_17
set_option maxRecDepth 100000 in
theorem c_Row_cut (l : Launch) (D : va_G) (K : Nat → ClassId) {τ : Nat → Option Ty} {dom : List Nat} (Z : Sk τ dom) (zb zL : Nat) (zx : Nat → Int32) (zs : Nat → Nat) {ρ : Nat} (h : Nat) (x1 : Int) (t_h : τ h = some (1, ρ, 0)) (r_x1 : -2147483648 ≤ x1 ∧ x1 ≤ 2147483647) (σ0 : Nat → va_E) (G0 : Good K τ σ0) : MZ l yX9_cut wp_Row_cut ({ frames := 0, cells := 0, slots := 0, locals := 0 }) D (tysA K) [.ref h, .int (iI x1)] (fd dom σ0) zb zL zx zs (Qv D (fun σ' => Good K τ σ' ∧ Fr τ [(1, ρ)] σ0 σ') (fun σ' => fd dom σ')) 0 0 := by
  refine mz_of (cc := cX9_cut) (maxL := 2) (ret := none) (by decide +kernel) rfl (Nat.le_of_ble_eq_true rfl) ?_
  intro p e s m below meth c A B hr hlk _ hz
  exact b_Row_cut ⟨Nat.le_refl _, Nat.le_refl _⟩ B Z hz h x1 t_h r_x1 σ0 G0 (fun σ' lv pc G F hd => v_vret B hr hlk σ' ⟨G, F⟩ rfl (Nat.le_refl _) (Nat.le_refl _) hd)

def wp_Row_put : List Cond := .code yX9_put cX9_put 2 none :: ([.fieldLink RX9 21 "LowEnergy$Row" "size" "I", .fieldLink RX9 15 "LowEnergy$Row" "bytes" "[I"] ++ (wsX90 ++ ([])))
theorem hi_Row_put_X9 : ∀ x ∈ u_ws RX9 TX9 2, x ∈ wp_Row_put := fun _ h => List.mem_cons_of_mem _ (List.mem_append_right _ (List.mem_append_left _ h))
set_option maxHeartbeats 4000000 in
set_option maxRecDepth 100000 in
theorem b_Row_put {p : Program} {l : Launch} {e : Env} {R : Room} {s : State} {m : MethodId} {args : Array Value} {below : List Frame} {meth : Method} {c : Code} {D : va_G} {K : Nat → ClassId} {A : Nat → Prop} {Q : State → Prop} {τ : Nat → Option Ty} {dom : List Nat} {zb zL : Nat} {zx : Nat → Int32} {zs : Nat → Nat} {ρ : Nat} (hR : 0 ≤ R.frames ∧ 0 ≤ R.locals) (B : Bx p s m args c cX9_put 2 RX9 wp_Row_put D (tysA K) A) (Z : Sk τ dom) (hz : ZL zb zL zx zs A s s.heap) (h : Nat) (x1 : Int) (t_h : τ h = some (1, ρ, 0)) (r_x1 : -2147483648 ≤ x1 ∧ x1 ≤ 2147483647) (σ0 : Nat → va_E) (G0 : Good K τ σ0) (hend : ∀ (σ' : Nat → va_E) (lv : List (Nat × Value)) (pc : Nat), Good K τ σ' → Fr τ [(2, ρ), (1, ρ)] σ0 σ' → decode cX9_put pc = .ok (.return_, 1) → V p l e R s m args below meth c 2 D A Q (0, 0) (fd dom σ') lv pc []) : V p l e R s m args below meth c 2 D A Q (0, 0) (fd dom σ0) [(0, .ref h), (1, .int (iI x1))] 0 [] := by
  have F0 : Fr τ [(2, ρ), (1, ρ)] σ0 σ0 := Fr.rf
  refine v_aload_n B dX9_put_0 rfl rfl ?_
  obtain ⟨b1, N2, n3, h4, t5, r6⟩ := (G0 h _ t_h : okRow τ ρ (σ0 h))
  refine u_get B Z (C := RX9) (T := TX9) (N := 2) (ci := 9) hi_Row_put_X9 t_h h4 rfl 1 (by decide +kernel) (List.mem_of_getElem? (i := 1) rfl) rfl dX9_put_1 ?_
  refine v_aload_n B dX9_put_4 rfl rfl ?_
  refine u_get B Z (C := RX9) (T := TX9) (N := 2) (ci := 9) hi_Row_put_X9 t_h h4 rfl 0 (by decide +kernel) (List.mem_of_getElem? (i := 2) rfl) rfl dX9_put_5 ?_
  obtain ⟨f7, h8, e9⟩ := (G0 b1 _ t5 : okB K N2 (σ0 b1))
  refine u_alen B Z (t0 := 0) (v := ((N2 : Int))) t5 h8 rfl (by first | rfl | omega) dX9_put_8 ?_
  refine u_icmp_ge B (tgt := 36) (by omega) (by omega) dX9_put_9 (by decide +kernel) (fun c10 => ?_) (fun c10 => ?_)
  · exact hend σ0 _ _ G0 F0 dX9_put_36
  · refine v_aload_n B dX9_put_12 rfl rfl ?_
    refine u_get B Z (C := RX9) (T := TX9) (N := 2) (ci := 9) hi_Row_put_X9 t_h h4 rfl 0 (by decide +kernel) (List.mem_of_getElem? (i := 2) rfl) rfl dX9_put_13 ?_
    refine v_aload_n B dX9_put_16 rfl rfl ?_
    refine u_get B Z (C := RX9) (T := TX9) (N := 2) (ci := 9) hi_Row_put_X9 t_h h4 rfl 1 (by decide +kernel) (List.mem_of_getElem? (i := 1) rfl) rfl dX9_put_17 ?_
    refine v_iload_n B dX9_put_20 rfl rfl ?_
    refine v_sipush B (v := iI 255) dX9_put_21 (by decide +kernel) ?_
    obtain ⟨z11, e12, r13⟩ := iI_and x1 (c := 255) (by decide) (by decide)
    refine v_iand B (v := iI z11) dX9_put_24 e12 ?_
    refine u_iast B Z (t0 := 0) t5 h8 rfl (by omega) dX9_put_25 (fun σ14 h15 n16 => ?_)
    have G17 := G0.put t5 (⟨_, h15, el_upd e9 (by omega) _⟩ : Ok K τ (2, ρ, N2) (σ14 b1)) n16
    have F18 := F0.put t5 (by simp) n16
    have h19 := (n16 h (ne_ty t_h t5 (by simp))).trans h4
    refine v_aload_n B dX9_put_26 rfl rfl ?_
    refine v_dup B dX9_put_27 rfl ?_
    refine u_get B Z (C := RX9) (T := TX9) (N := 2) (ci := 9) hi_Row_put_X9 t_h h19 rfl 1 (by decide +kernel) (List.mem_of_getElem? (i := 1) rfl) rfl dX9_put_28 ?_
    refine v_iconst B (v := iI 1) dX9_put_31 rfl ?_
    refine v_iadd B (v := iI (n3 + 1)) dX9_put_32 ((iI_add _ _).trans (congrArg iI (by omega))) ?_
    refine u_put B Z (C := RX9) (T := TX9) (N := 2) (ci := 9) hi_Row_put_X9 t_h h19 rfl 1 (by decide +kernel) tyX9 tyX9_ok nmX9 (List.mem_of_getElem? (i := 1) rfl) rfl (ty := .int) (tyX9_ok 1 (by decide +kernel)) rfl rfl (Nat.le_of_ble_eq_true rfl) (fs' := [.ref b1, .int (iI (n3 + 1))]) rfl dX9_put_33 (fun σ20 h21 n22 => ?_)
    have G23 := G17.put t_h (⟨b1, N2, (n3 + 1), h21, t5, by omega⟩ : Ok K τ (1, ρ, 0) (σ20 h)) n22
    have F24 := F18.put t_h (by simp) n22
    exact hend σ20 _ _ G23 F24 dX9_put_36
set_option maxRecDepth 100000 in
theorem c_Row_put (l : Launch) (D : va_G) (K : Nat → ClassId) {τ : Nat → Option Ty} {dom : List Nat} (Z : Sk τ dom) (zb zL : Nat) (zx : Nat → Int32) (zs : Nat → Nat) {ρ : Nat} (h : Nat) (x1 : Int) (t_h : τ h = some (1, ρ, 0)) (r_x1 : -2147483648 ≤ x1 ∧ x1 ≤ 2147483647) (σ0 : Nat → va_E) (G0 : Good K τ σ0) : MZ l yX9_put wp_Row_put ({ frames := 0, cells := 0, slots := 0, locals := 0 }) D (tysA K) [.ref h, .int (iI x1)] (fd dom σ0) zb zL zx zs (Qv D (fun σ' => Good K τ σ' ∧ Fr τ [(2, ρ), (1, ρ)] σ0 σ') (fun σ' => fd dom σ')) 0 0 := by
  refine mz_of (cc := cX9_put) (maxL := 2) (ret := none) (by decide +kernel) rfl (Nat.le_of_ble_eq_true rfl) ?_
  intro p e s m below meth c A B hr hlk _ hz
  exact b_Row_put ⟨Nat.le_refl _, Nat.le_refl _⟩ B Z hz h x1 t_h r_x1 σ0 G0 (fun σ' lv pc G F hd => v_vret B hr hlk σ' ⟨G, F⟩ rfl (Nat.le_refl _) (Nat.le_refl _) hd)
