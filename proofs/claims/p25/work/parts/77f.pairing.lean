def wp_Pairing_putOffer : List Cond := .code yX8_putOffer cX8_putOffer 2 none :: (([.methodLink RX8 96 yX9_put, .instanceMethod yX9_put, .selects RX9 yX9_put yX9_put, .initialized RX9, .code yX9_put cX9_put 2 none, .fieldLink RX9 21 "LowEnergy$Row" "size" "I", .fieldLink RX9 15 "LowEnergy$Row" "bytes" "[I"] : List Cond) ++ (wsX90 ++ ([])))
theorem hi_Pairing_putOffer_X9 : ∀ x ∈ u_ws RX9 TX9 2, x ∈ wp_Pairing_putOffer := fun _ h => List.mem_cons_of_mem _ (List.mem_append_right _ (List.mem_append_left _ h))
set_option maxRecDepth 100000 in
theorem gd_Pairing_putOffer_Row_put_96 : GoodIn wp_Pairing_putOffer (wsV RX8 96 RX9 yX9_put wp_Row_put) := goodIn_app (goodIn_r _ [1, 2, 3, 4] rfl rfl) (goodIn_ca (goodIn_r _ [5, 6, 7] rfl rfl) (goodIn_app (goodIn_cls hi_Pairing_putOffer_X9 gw_X9) (goodIn_nil)))
set_option maxHeartbeats 4000000 in
set_option maxRecDepth 100000 in
theorem b_Pairing_putOffer {p : Program} {l : Launch} {e : Env} {R : Room} {s : State} {m : MethodId} {args : Array Value} {below : List Frame} {meth : Method} {c : Code} {D : va_G} {K : Nat → ClassId} {A : Nat → Prop} {Q : State → Prop} {τ : Nat → Option Ty} {dom : List Nat} {zb zL : Nat} {zx : Nat → Int32} {zs : Nat → Nat} {π : Nat} (hR : 1 ≤ R.frames ∧ 21 ≤ R.locals) (B : Bx p s m args c cX8_putOffer 2 RX8 wp_Pairing_putOffer D (tysA K) A) (Z : Sk τ dom) (hz : ZL zb zL zx zs A s s.heap) (x0 : Int) (g : Nat) (r_x0 : -2147483648 ≤ x0 ∧ x0 ≤ 2147483647) (t_g : τ g = some (1, π, 0)) (σ0 : Nat → va_E) (G0 : Good K τ σ0) (hend : ∀ (σ' : Nat → va_E) (lv : List (Nat × Value)) (pc : Nat), Good K τ σ' → Fr τ [(2, π), (1, π)] σ0 σ' → decode cX8_putOffer pc = .ok (.return_, 1) → V p l e R s m args below meth c 2 D A Q (0, 0) (fd dom σ') lv pc []) : V p l e R s m args below meth c 2 D A Q (0, 0) (fd dom σ0) [(0, .int (iI x0)), (1, .ref g)] 0 [] := by
  have F0 : Fr τ [(2, π), (1, π)] σ0 σ0 := Fr.rf
  refine v_aload_n B dX8_putOffer_0 rfl rfl ?_
  refine v_iload_n B dX8_putOffer_1 rfl rfl ?_
  refine u_callVv B Z hz (n := 1) (As := [.int (iI x0)]) (rest := []) (c_Row_put l D K Z _ _ _ _ g x0 t_g ⟨by omega, by omega⟩ σ0 G0) gd_Pairing_putOffer_Row_put_96 rfl rfl rfl (by decide +kernel) ⟨Nat.le_trans (by decide +kernel) hR.1, Nat.le_trans (by decide +kernel) hR.2⟩ t_g (cls_Row G0 t_g) rfl rfl rfl rfl (Nat.le_of_ble_eq_true rfl) dX8_putOffer_2 ⟨Nat.zero_le _, Nat.zero_le _⟩ (fun σ1 p2 => ?_)
  obtain ⟨G4, F5⟩ := p2
  have F6 := F0.call F5 (by first | rfl | simp)
  refine v_aload_n B dX8_putOffer_5 rfl rfl ?_
  refine v_iconst B (v := iI 3) dX8_putOffer_6 rfl ?_
  refine u_callVv B Z hz (n := 1) (As := [.int (iI 3)]) (rest := []) (c_Row_put l D K Z _ _ _ _ g 3 t_g ⟨by omega, by omega⟩ σ1 G4) gd_Pairing_putOffer_Row_put_96 rfl rfl rfl (by decide +kernel) ⟨Nat.le_trans (by decide +kernel) hR.1, Nat.le_trans (by decide +kernel) hR.2⟩ t_g (cls_Row G4 t_g) rfl rfl rfl rfl (Nat.le_of_ble_eq_true rfl) dX8_putOffer_7 ⟨Nat.zero_le _, Nat.zero_le _⟩ (fun σ7 p8 => ?_)
  obtain ⟨G10, F11⟩ := p8
  have F12 := F6.call F11 (by first | rfl | simp)
  refine v_aload_n B dX8_putOffer_10 rfl rfl ?_
  refine v_iconst B (v := iI 0) dX8_putOffer_11 rfl ?_
  refine u_callVv B Z hz (n := 1) (As := [.int (iI 0)]) (rest := []) (c_Row_put l D K Z _ _ _ _ g 0 t_g ⟨by omega, by omega⟩ σ7 G10) gd_Pairing_putOffer_Row_put_96 rfl rfl rfl (by decide +kernel) ⟨Nat.le_trans (by decide +kernel) hR.1, Nat.le_trans (by decide +kernel) hR.2⟩ t_g (cls_Row G10 t_g) rfl rfl rfl rfl (Nat.le_of_ble_eq_true rfl) dX8_putOffer_12 ⟨Nat.zero_le _, Nat.zero_le _⟩ (fun σ13 p14 => ?_)
  obtain ⟨G16, F17⟩ := p14
  have F18 := F12.call F17 (by first | rfl | simp)
  refine v_aload_n B dX8_putOffer_15 rfl rfl ?_
  refine v_iconst B (v := iI 0) dX8_putOffer_16 rfl ?_
  refine u_callVv B Z hz (n := 1) (As := [.int (iI 0)]) (rest := []) (c_Row_put l D K Z _ _ _ _ g 0 t_g ⟨by omega, by omega⟩ σ13 G16) gd_Pairing_putOffer_Row_put_96 rfl rfl rfl (by decide +kernel) ⟨Nat.le_trans (by decide +kernel) hR.1, Nat.le_trans (by decide +kernel) hR.2⟩ t_g (cls_Row G16 t_g) rfl rfl rfl rfl (Nat.le_of_ble_eq_true rfl) dX8_putOffer_17 ⟨Nat.zero_le _, Nat.zero_le _⟩ (fun σ19 p20 => ?_)
  obtain ⟨G22, F23⟩ := p20
  have F24 := F18.call F23 (by first | rfl | simp)
  refine v_aload_n B dX8_putOffer_20 rfl rfl ?_
  refine v_bipush B (v := iI 16) dX8_putOffer_21 (by decide +kernel) ?_
  refine u_callVv B Z hz (n := 1) (As := [.int (iI 16)]) (rest := []) (c_Row_put l D K Z _ _ _ _ g 16 t_g ⟨by omega, by omega⟩ σ19 G22) gd_Pairing_putOffer_Row_put_96 rfl rfl rfl (by decide +kernel) ⟨Nat.le_trans (by decide +kernel) hR.1, Nat.le_trans (by decide +kernel) hR.2⟩ t_g (cls_Row G22 t_g) rfl rfl rfl rfl (Nat.le_of_ble_eq_true rfl) dX8_putOffer_23 ⟨Nat.zero_le _, Nat.zero_le _⟩ (fun σ25 p26 => ?_)
  obtain ⟨G28, F29⟩ := p26
  have F30 := F24.call F29 (by first | rfl | simp)
  refine v_aload_n B dX8_putOffer_26 rfl rfl ?_
  refine v_iconst B (v := iI 0) dX8_putOffer_27 rfl ?_
  refine u_callVv B Z hz (n := 1) (As := [.int (iI 0)]) (rest := []) (c_Row_put l D K Z _ _ _ _ g 0 t_g ⟨by omega, by omega⟩ σ25 G28) gd_Pairing_putOffer_Row_put_96 rfl rfl rfl (by decide +kernel) ⟨Nat.le_trans (by decide +kernel) hR.1, Nat.le_trans (by decide +kernel) hR.2⟩ t_g (cls_Row G28 t_g) rfl rfl rfl rfl (Nat.le_of_ble_eq_true rfl) dX8_putOffer_28 ⟨Nat.zero_le _, Nat.zero_le _⟩ (fun σ31 p32 => ?_)
  obtain ⟨G34, F35⟩ := p32
  have F36 := F30.call F35 (by first | rfl | simp)
  refine v_aload_n B dX8_putOffer_31 rfl rfl ?_
  refine v_iconst B (v := iI 0) dX8_putOffer_32 rfl ?_
  refine u_callVv B Z hz (n := 1) (As := [.int (iI 0)]) (rest := []) (c_Row_put l D K Z _ _ _ _ g 0 t_g ⟨by omega, by omega⟩ σ31 G34) gd_Pairing_putOffer_Row_put_96 rfl rfl rfl (by decide +kernel) ⟨Nat.le_trans (by decide +kernel) hR.1, Nat.le_trans (by decide +kernel) hR.2⟩ t_g (cls_Row G34 t_g) rfl rfl rfl rfl (Nat.le_of_ble_eq_true rfl) dX8_putOffer_33 ⟨Nat.zero_le _, Nat.zero_le _⟩ (fun σ37 p38 => ?_)
  obtain ⟨G40, F41⟩ := p38
  have F42 := F36.call F41 (by first | rfl | simp)
  exact hend σ37 _ _ G40 F42 dX8_putOffer_36
set_option maxRecDepth 100000 in
theorem c_Pairing_putOffer (l : Launch) (D : va_G) (K : Nat → ClassId) {τ : Nat → Option Ty} {dom : List Nat} (Z : Sk τ dom) (zb zL : Nat) (zx : Nat → Int32) (zs : Nat → Nat) {π : Nat} (x0 : Int) (g : Nat) (r_x0 : -2147483648 ≤ x0 ∧ x0 ≤ 2147483647) (t_g : τ g = some (1, π, 0)) (σ0 : Nat → va_E) (G0 : Good K τ σ0) : MZ l yX8_putOffer wp_Pairing_putOffer ({ frames := 1, cells := 0, slots := 0, locals := 21 }) D (tysA K) [.int (iI x0), .ref g] (fd dom σ0) zb zL zx zs (Qv D (fun σ' => Good K τ σ' ∧ Fr τ [(2, π), (1, π)] σ0 σ') (fun σ' => fd dom σ')) 0 0 := by
  refine mz_of (cc := cX8_putOffer) (maxL := 2) (ret := none) (by decide +kernel) rfl (Nat.le_of_ble_eq_true rfl) ?_
  intro p e s m below meth c A B hr hlk _ hz
  exact b_Pairing_putOffer ⟨Nat.le_refl _, Nat.le_refl _⟩ B Z hz x0 g r_x0 t_g σ0 G0 (fun σ' lv pc G F hd => v_vret B hr hlk σ' ⟨G, F⟩ rfl (Nat.le_refl _) (Nat.le_refl _) hd)

def wp_Pairing_keepOffer : List Cond := .code yX8_keepOffer cX8_keepOffer 4 none :: (([.fieldLink RX8 19 "LowEnergy$Pairing" "bothMessages" "[I", .methodLink RX8 55 yX9_at, .instanceMethod yX9_at, .selects RX9 yX9_at yX9_at, .initialized RX9, .code yX9_at cX9_at 2 (some .int), .fieldLink RX9 21 "LowEnergy$Row" "size" "I", .fieldLink RX9 15 "LowEnergy$Row" "bytes" "[I"] : List Cond) ++ (wsX80 ++ (wsX90 ++ ([]))))
theorem hi_Pairing_keepOffer_X8 : ∀ x ∈ u_ws RX8 TX8 8, x ∈ wp_Pairing_keepOffer := fun _ h => List.mem_cons_of_mem _ (List.mem_append_right _ (List.mem_append_left _ h))
theorem hi_Pairing_keepOffer_X9 : ∀ x ∈ u_ws RX9 TX9 2, x ∈ wp_Pairing_keepOffer := fun _ h => List.mem_cons_of_mem _ (List.mem_append_right _ (List.mem_append_right _ (List.mem_append_left _ h)))
set_option maxRecDepth 100000 in
theorem gd_Pairing_keepOffer_Row_at_55 : GoodIn wp_Pairing_keepOffer (wsV RX8 55 RX9 yX9_at wp_Row_at) := goodIn_app (goodIn_r _ [2, 3, 4, 5] rfl rfl) (goodIn_ca (goodIn_r _ [6, 7, 8] rfl rfl) (goodIn_app (goodIn_cls hi_Pairing_keepOffer_X9 gw_X9) (goodIn_nil)))
set_option maxHeartbeats 4000000 in
set_option maxRecDepth 100000 in
theorem b_Pairing_keepOffer {p : Program} {l : Launch} {e : Env} {R : Room} {s : State} {m : MethodId} {args : Array Value} {below : List Frame} {meth : Method} {c : Code} {D : va_G} {K : Nat → ClassId} {A : Nat → Prop} {Q : State → Prop} {τ : Nat → Option Ty} {dom : List Nat} {zb zL : Nat} {zx : Nat → Int32} {zs : Nat → Nat} {π : Nat} (hR : 1 ≤ R.frames ∧ 21 ≤ R.locals) (B : Bx p s m args c cX8_keepOffer 4 RX8 wp_Pairing_keepOffer D (tysA K) A) (Z : Sk τ dom) (hz : ZL zb zL zx zs A s s.heap) (h : Nat) (g : Nat) (x2 : Int) (t_h : τ h = some (38, 0, 0)) (t_g : τ g = some (1, π, 0)) (r_x2 : -100 ≤ x2 ∧ x2 ≤ 100) (σ0 : Nat → va_E) (G0 : Good K τ σ0) (hend : ∀ (σ' : Nat → va_E) (lv : List (Nat × Value)) (pc : Nat), Good K τ σ' → Fr τ [(2, 33)] σ0 σ' → decode cX8_keepOffer pc = .ok (.return_, 1) → V p l e R s m args below meth c 4 D A Q (0, 0) (fd dom σ') lv pc []) : V p l e R s m args below meth c 4 D A Q (0, 0) (fd dom σ0) [(0, .ref h), (1, .ref g), (2, .int (iI x2))] 0 [] := by
  have F0 : Fr τ [(2, 33)] σ0 σ0 := Fr.rf
  have J2 : ∀ (k2 : Nat) (σ_2 : Nat → va_E) (z2_3 : Int), (2147483648 - z2_3).toNat ≤ k2 → Good K τ σ_2 → Fr τ [(2, 33)] σ0 σ_2 → (0 ≤ z2_3 ∧ z2_3 ≤ 7) → V p l e R s m args below meth c 4 D A Q (0, 0) (fd dom σ_2) [(0, .ref h), (1, .ref g), (2, .int (iI x2)), (3, .int (iI z2_3))] 2 [] := by
    intro k2
    induction k2 with
    | zero => intro σ_2 z2_3 m2 G_2 F_2 r2_3; omega
    | succ k2 IH2 =>
      intro σ_2 z2_3 m2 G_2 F_2 r2_3
      refine v_iload_n B dX8_keepOffer_2 rfl rfl ?_
      refine v_bipush B (v := iI 7) dX8_keepOffer_3 (by decide +kernel) ?_
      refine u_icmp_ge B (tgt := 46) (by omega) (by omega) dX8_keepOffer_5 (by decide +kernel) (fun c1 => ?_) (fun c1 => ?_)
      · exact hend σ_2 _ _ G_2 F_2 dX8_keepOffer_46
      · refine v_iload_n B dX8_keepOffer_8 rfl rfl ?_
        refine u_if_lt B (tgt := 46) (by omega) dX8_keepOffer_9 (by decide +kernel) (fun c2 => ?_) (fun c2 => ?_)
        · exact hend σ_2 _ _ G_2 F_2 dX8_keepOffer_46
        · refine v_iload_n B dX8_keepOffer_12 rfl rfl ?_
          refine v_iload_n B dX8_keepOffer_13 rfl rfl ?_
          refine v_iadd B (v := iI (x2 + z2_3)) dX8_keepOffer_14 ((iI_add _ _).trans (congrArg iI (by omega))) ?_
          refine v_aload_n B dX8_keepOffer_15 rfl rfl ?_
          obtain ⟨a3, z4, z5, a6, a7, a8, a9, a10, h11, t12, r13, r14, t15, t16, t17, t18, t19⟩ : okPairing τ (σ_2 h) := G_2 h _ t_h
          refine u_get B Z (C := RX8) (T := TX8) (N := 8) (ci := 8) hi_Pairing_keepOffer_X8 t_h h11 rfl 4 (by decide +kernel) (List.mem_of_getElem? (i := 1) rfl) rfl dX8_keepOffer_16 ?_
          obtain ⟨f20, h21, r22, e23⟩ : okB K 16 (σ_2 a7) := G_2 a7 _ t16
          refine u_alen B Z (t0 := 0) (v := 16) t16 h21 rfl (by first | rfl | omega) dX8_keepOffer_19 ?_
          refine u_icmp_ge B (tgt := 46) (by omega) (by omega) dX8_keepOffer_20 (by decide +kernel) (fun c24 => ?_) (fun c24 => ?_)
          · exact hend σ_2 _ _ G_2 F_2 dX8_keepOffer_46
          · refine v_aload_n B dX8_keepOffer_23 rfl rfl ?_
            refine u_get B Z (C := RX8) (T := TX8) (N := 8) (ci := 8) hi_Pairing_keepOffer_X8 t_h h11 rfl 4 (by decide +kernel) (List.mem_of_getElem? (i := 1) rfl) rfl dX8_keepOffer_24 ?_
            refine v_iload_n B dX8_keepOffer_27 rfl rfl ?_
            refine v_iload_n B dX8_keepOffer_28 rfl rfl ?_
            refine v_iadd B (v := iI (x2 + z2_3)) dX8_keepOffer_29 ((iI_add _ _).trans (congrArg iI (by omega))) ?_
            refine v_aload_n B dX8_keepOffer_30 rfl rfl ?_
            refine v_iload_n B dX8_keepOffer_31 rfl rfl ?_
            refine u_callVi B Z hz (n := 1) (As := [.int (iI z2_3)]) (rest := [.int (iI (x2 + z2_3)), .ref a7]) (c_Row_at l D K Z _ _ _ _ g z2_3 t_g ⟨by omega, by omega⟩ σ_2 G_2) gd_Pairing_keepOffer_Row_at_55 rfl rfl rfl (by decide +kernel) ⟨Nat.le_trans (by decide +kernel) hR.1, Nat.le_trans (by decide +kernel) hR.2⟩ t_g (cls_Row G_2 t_g) rfl rfl rfl rfl (Nat.le_of_ble_eq_true rfl) dX8_keepOffer_32 ⟨Nat.zero_le _, Nat.zero_le _⟩ (fun v27 σ25 p26 => ?_)
            obtain ⟨rfl, z31, e32, r33⟩ := p26
            subst e32
            refine v_sipush B (v := iI 255) dX8_keepOffer_35 (by decide +kernel) ?_
            obtain ⟨z34, e35, r36⟩ := iI_and z31 (c := 255) (by decide) (by decide)
            refine v_iand B (v := iI z34) dX8_keepOffer_38 e35 ?_
            refine u_iast B Z (t0 := 0) t16 h21 rfl (by omega) dX8_keepOffer_39 (fun σ37 h38 n39 => ?_)
            have G40 := G_2.put t16 (⟨_, h38, r22, el_upd e23 (by omega) _⟩ : Ok K τ (2, 33, 16) (σ37 a7)) n39
            have F41 := F_2.put t16 (by simp) n39
            have h42 := (n39 h (ne_ty t_h t16 (by simp))).trans h11
            refine v_iinc B (k := 3) (v := iI (z2_3 + 1)) (lv' := [(3, .int (iI (z2_3 + 1))), (0, .ref h), (1, .ref g), (2, .int (iI x2))]) dX8_keepOffer_40 rfl ((iI_add _ _).trans (congrArg iI (by omega))) (by decide +kernel) rfl ?_
            refine v_goto B (tgt := 2) dX8_keepOffer_43 (by decide +kernel) ?_
            refine v_lv [1, 2, 3, 0] rfl ?_
            exact IH2 σ37 (z2_3 + 1) (by omega) G40 F41 ⟨by omega, by omega⟩
  refine v_iconst B (v := iI 0) dX8_keepOffer_0 rfl ?_
  refine v_istore_n B (lv' := [(3, .int (iI 0)), (0, .ref h), (1, .ref g), (2, .int (iI x2))]) dX8_keepOffer_1 rfl (by decide +kernel) rfl ?_
  refine v_lv [1, 2, 3, 0] rfl ?_
  exact J2 _ σ0 0 (Nat.le_refl _) G0 F0 ⟨by omega, by omega⟩
set_option maxRecDepth 100000 in
theorem c_Pairing_keepOffer (l : Launch) (D : va_G) (K : Nat → ClassId) {τ : Nat → Option Ty} {dom : List Nat} (Z : Sk τ dom) (zb zL : Nat) (zx : Nat → Int32) (zs : Nat → Nat) {π : Nat} (h : Nat) (g : Nat) (x2 : Int) (t_h : τ h = some (38, 0, 0)) (t_g : τ g = some (1, π, 0)) (r_x2 : -100 ≤ x2 ∧ x2 ≤ 100) (σ0 : Nat → va_E) (G0 : Good K τ σ0) : MZ l yX8_keepOffer wp_Pairing_keepOffer ({ frames := 1, cells := 0, slots := 0, locals := 21 }) D (tysA K) [.ref h, .ref g, .int (iI x2)] (fd dom σ0) zb zL zx zs (Qv D (fun σ' => Good K τ σ' ∧ Fr τ [(2, 33)] σ0 σ') (fun σ' => fd dom σ')) 0 0 := by
  refine mz_of (cc := cX8_keepOffer) (maxL := 4) (ret := none) (by decide +kernel) rfl (Nat.le_of_ble_eq_true rfl) ?_
  intro p e s m below meth c A B hr hlk _ hz
  exact b_Pairing_keepOffer ⟨Nat.le_refl _, Nat.le_refl _⟩ B Z hz h g x2 t_h t_g r_x2 σ0 G0 (fun σ' lv pc G F hd => v_vret B hr hlk σ' ⟨G, F⟩ rfl (Nat.le_refl _) (Nat.le_refl _) hd)

def wp_Pairing_useKey : List Cond := .code yX8_useKey cX8_useKey 3 none :: (([.fieldLink RX8 15 "LowEnergy$Pairing" "temporaryKey" "[I"] : List Cond) ++ (wsX80 ++ ([])))
theorem hi_Pairing_useKey_X8 : ∀ x ∈ u_ws RX8 TX8 8, x ∈ wp_Pairing_useKey := fun _ h => List.mem_cons_of_mem _ (List.mem_append_right _ (List.mem_append_left _ h))
set_option maxHeartbeats 4000000 in
set_option maxRecDepth 100000 in
theorem b_Pairing_useKey {p : Program} {l : Launch} {e : Env} {R : Room} {s : State} {m : MethodId} {args : Array Value} {below : List Frame} {meth : Method} {c : Code} {D : va_G} {K : Nat → ClassId} {A : Nat → Prop} {Q : State → Prop} {τ : Nat → Option Ty} {dom : List Nat} {zb zL : Nat} {zx : Nat → Int32} {zs : Nat → Nat} (hR : 0 ≤ R.frames ∧ 0 ≤ R.locals) (B : Bx p s m args c cX8_useKey 3 RX8 wp_Pairing_useKey D (tysA K) A) (Z : Sk τ dom) (hz : ZL zb zL zx zs A s s.heap) (h : Nat) (x1 : Int) (t_h : τ h = some (38, 0, 0)) (r_x1 : -2147483648 ≤ x1 ∧ x1 ≤ 2147483647) (σ0 : Nat → va_E) (G0 : Good K τ σ0) (hend : ∀ (σ' : Nat → va_E) (lv : List (Nat × Value)) (pc : Nat), Good K τ σ' → Fr τ [(3, 46)] σ0 σ' → decode cX8_useKey pc = .ok (.return_, 1) → V p l e R s m args below meth c 3 D A Q (0, 0) (fd dom σ') lv pc []) : V p l e R s m args below meth c 3 D A Q (0, 0) (fd dom σ0) [(0, .ref h), (1, .int (iI x1))] 0 [] := by
  have F0 : Fr τ [(3, 46)] σ0 σ0 := Fr.rf
  have J2 : ∀ (k2 : Nat) (σ_2 : Nat → va_E) (z2_2 : Int), (2147483648 - z2_2).toNat ≤ k2 → Good K τ σ_2 → Fr τ [(3, 46)] σ0 σ_2 → (0 ≤ z2_2 ∧ z2_2 ≤ 16) → V p l e R s m args below meth c 3 D A Q (0, 0) (fd dom σ_2) [(0, .ref h), (1, .int (iI x1)), (2, .int (iI z2_2))] 2 [] := by
    intro k2
    induction k2 with
    | zero => intro σ_2 z2_2 m2 G_2 F_2 r2_2; omega
    | succ k2 IH2 =>
      intro σ_2 z2_2 m2 G_2 F_2 r2_2
      have J35 : ∀ (z35_s0 : Int) (z35_s1 : Int) (a35_s2 : Nat), (0 ≤ z2_2 ∧ z2_2 ≤ 15) → (0 ≤ z35_s0 ∧ z35_s0 ≤ 255) → (0 ≤ z35_s1 ∧ z35_s1 ≤ 15) → (τ a35_s2 = some (3, 46, 16)) → V p l e R s m args below meth c 3 D A Q (0, 0) (fd dom σ_2) [(0, .ref h), (1, .int (iI x1)), (2, .int (iI z2_2))] 35 [.int (iI z35_s0), .int (iI z35_s1), .ref a35_s2] := by
        intro z35_s0 z35_s1 a35_s2 r35_2 r35_s0 r35_s1 t35_s2
        obtain ⟨f1, h2, r3⟩ : okP K 16 (σ_2 a35_s2) := G_2 a35_s2 _ t35_s2
        refine u_iast B Z (t0 := 0) t35_s2 h2 rfl (by omega) dX8_useKey_35 (fun σ4 h5 n6 => ?_)
        have G7 := G_2.put t35_s2 (⟨_, h5, r3⟩ : Ok K τ (3, 46, 16) (σ4 a35_s2)) n6
        have F8 := F_2.put t35_s2 (by simp) n6
        refine v_iinc B (k := 2) (v := iI (z2_2 + 1)) (lv' := [(2, .int (iI (z2_2 + 1))), (0, .ref h), (1, .int (iI x1))]) dX8_useKey_36 rfl ((iI_add _ _).trans (congrArg iI (by omega))) (by decide +kernel) rfl ?_
        refine v_goto B (tgt := 2) dX8_useKey_39 (by decide +kernel) ?_
        refine v_lv [1, 2, 0] rfl ?_
        exact IH2 σ4 (z2_2 + 1) (by omega) G7 F8 ⟨by omega, by omega⟩
      refine v_iload_n B dX8_useKey_2 rfl rfl ?_
      refine v_aload_n B dX8_useKey_3 rfl rfl ?_
      obtain ⟨a9, z10, z11, a12, a13, a14, a15, a16, h17, t18, r19, r20, t21, t22, t23, t24, t25⟩ : okPairing τ (σ_2 h) := G_2 h _ t_h
      refine u_get B Z (C := RX8) (T := TX8) (N := 8) (ci := 8) hi_Pairing_useKey_X8 t_h h17 rfl 3 (by decide +kernel) (List.mem_of_getElem? (i := 1) rfl) rfl dX8_useKey_4 ?_
      obtain ⟨f26, h27, r28⟩ : okP K 16 (σ_2 a12) := G_2 a12 _ t21
      refine u_alen B Z (t0 := 0) (v := 16) t21 h27 rfl (by first | rfl | omega) dX8_useKey_7 ?_
      refine u_icmp_ge B (tgt := 42) (by omega) (by omega) dX8_useKey_8 (by decide +kernel) (fun c29 => ?_) (fun c29 => ?_)
      · exact hend σ_2 _ _ G_2 F_2 dX8_useKey_42
      · refine v_aload_n B dX8_useKey_11 rfl rfl ?_
        refine u_get B Z (C := RX8) (T := TX8) (N := 8) (ci := 8) hi_Pairing_useKey_X8 t_h h17 rfl 3 (by decide +kernel) (List.mem_of_getElem? (i := 1) rfl) rfl dX8_useKey_12 ?_
        refine v_iload_n B dX8_useKey_15 rfl rfl ?_
        refine v_iload_n B dX8_useKey_16 rfl rfl ?_
        refine v_iconst B (v := iI 4) dX8_useKey_17 rfl ?_
        refine u_icmp_ge B (tgt := 34) (by omega) (by omega) dX8_useKey_18 (by decide +kernel) (fun c30 => ?_) (fun c30 => ?_)
        · refine v_iconst B (v := iI 0) dX8_useKey_34 rfl ?_
          exact J35 0 z2_2 a12 ⟨by omega, by omega⟩ ⟨by omega, by omega⟩ ⟨by omega, by omega⟩ t21
        · refine v_iload_n B dX8_useKey_21 rfl rfl ?_
          refine v_bipush B (v := iI 8) dX8_useKey_22 (by decide +kernel) ?_
          refine v_iload_n B dX8_useKey_24 rfl rfl ?_
          refine v_imul B (v := iI (8 * z2_2)) dX8_useKey_25 ((iI_mul _ _).trans (congrArg iI (by omega))) ?_
          obtain ⟨z31, e32, r33⟩ := iI_any (((iI x1).toUInt32 >>> ((iI (8 * z2_2)).toUInt32 &&& Int32.toUInt32 31)).toInt32)
          refine v_iushr B (v := iI z31) dX8_useKey_26 e32 ?_
          refine v_sipush B (v := iI 255) dX8_useKey_27 (by decide +kernel) ?_
          obtain ⟨z34, e35, r36⟩ := iI_and z31 (c := 255) (by decide) (by decide)
          refine v_iand B (v := iI z34) dX8_useKey_30 e35 ?_
          refine v_goto B (tgt := 35) dX8_useKey_31 (by decide +kernel) ?_
          exact J35 z34 z2_2 a12 ⟨by omega, by omega⟩ ⟨by omega, by omega⟩ ⟨by omega, by omega⟩ t21
  refine v_iconst B (v := iI 0) dX8_useKey_0 rfl ?_
  refine v_istore_n B (lv' := [(2, .int (iI 0)), (0, .ref h), (1, .int (iI x1))]) dX8_useKey_1 rfl (by decide +kernel) rfl ?_
  refine v_lv [1, 2, 0] rfl ?_
  exact J2 _ σ0 0 (Nat.le_refl _) G0 F0 ⟨by omega, by omega⟩
set_option maxRecDepth 100000 in
theorem c_Pairing_useKey (l : Launch) (D : va_G) (K : Nat → ClassId) {τ : Nat → Option Ty} {dom : List Nat} (Z : Sk τ dom) (zb zL : Nat) (zx : Nat → Int32) (zs : Nat → Nat) (h : Nat) (x1 : Int) (t_h : τ h = some (38, 0, 0)) (r_x1 : -2147483648 ≤ x1 ∧ x1 ≤ 2147483647) (σ0 : Nat → va_E) (G0 : Good K τ σ0) : MZ l yX8_useKey wp_Pairing_useKey ({ frames := 0, cells := 0, slots := 0, locals := 0 }) D (tysA K) [.ref h, .int (iI x1)] (fd dom σ0) zb zL zx zs (Qv D (fun σ' => Good K τ σ' ∧ Fr τ [(3, 46)] σ0 σ') (fun σ' => fd dom σ')) 0 0 := by
  refine mz_of (cc := cX8_useKey) (maxL := 3) (ret := none) (by decide +kernel) rfl (Nat.le_of_ble_eq_true rfl) ?_
  intro p e s m below meth c A B hr hlk _ hz
  exact b_Pairing_useKey ⟨Nat.le_refl _, Nat.le_refl _⟩ B Z hz h x1 t_h r_x1 σ0 G0 (fun σ' lv pc G F hd => v_vret B hr hlk σ' ⟨G, F⟩ rfl (Nat.le_refl _) (Nat.le_refl _) hd)

def wp_Pairing_start : List Cond := .code yX8_start cX8_start 3 none :: (([.methodLink RX8 35 yX8_putOffer, .static yX8_putOffer, .initialized RX8, .code yX8_putOffer cX8_putOffer 2 none, .methodLink RX8 96 yX9_put, .instanceMethod yX9_put, .selects RX9 yX9_put yX9_put, .initialized RX9, .code yX9_put cX9_put 2 none, .fieldLink RX9 21 "LowEnergy$Row" "size" "I", .fieldLink RX9 15 "LowEnergy$Row" "bytes" "[I", .methodLink RX8 39 yX8_keepOffer, .instanceMethod yX8_keepOffer, .selects RX8 yX8_keepOffer yX8_keepOffer, .code yX8_keepOffer cX8_keepOffer 4 none, .fieldLink RX8 19 "LowEnergy$Pairing" "bothMessages" "[I", .methodLink RX8 55 yX9_at, .instanceMethod yX9_at, .selects RX9 yX9_at yX9_at, .code yX9_at cX9_at 2 (some .int), .methodLink RX8 43 yX8_useKey, .instanceMethod yX8_useKey, .selects RX8 yX8_useKey yX8_useKey, .code yX8_useKey cX8_useKey 3 none, .fieldLink RX8 15 "LowEnergy$Pairing" "temporaryKey" "[I", .fieldLink RX8 47 "LowEnergy$Pairing" "step" "I"] : List Cond) ++ (wsX90 ++ (wsX80 ++ ([]))))
theorem hi_Pairing_start_X9 : ∀ x ∈ u_ws RX9 TX9 2, x ∈ wp_Pairing_start := fun _ h => List.mem_cons_of_mem _ (List.mem_append_right _ (List.mem_append_left _ h))
theorem hi_Pairing_start_X8 : ∀ x ∈ u_ws RX8 TX8 8, x ∈ wp_Pairing_start := fun _ h => List.mem_cons_of_mem _ (List.mem_append_right _ (List.mem_append_right _ (List.mem_append_left _ h)))
set_option maxRecDepth 100000 in
theorem gd_Pairing_start_Pairing_putOffer_35 : GoodIn wp_Pairing_start (va_wsS RX8 35 yX8_putOffer wp_Pairing_putOffer) := goodIn_app (goodIn_r _ [1, 2, 3] rfl rfl) (goodIn_ca (goodIn_r _ [4, 5, 6, 7, 8, 9, 10, 11] rfl rfl) (goodIn_app (goodIn_cls hi_Pairing_start_X9 gw_X9) (goodIn_nil)))
set_option maxRecDepth 100000 in
theorem gd_Pairing_start_Pairing_keepOffer_39 : GoodIn wp_Pairing_start (wsV RX8 39 RX8 yX8_keepOffer wp_Pairing_keepOffer) := goodIn_app (goodIn_r _ [12, 13, 14, 3] rfl rfl) (goodIn_ca (goodIn_r _ [15, 16, 17, 18, 19, 8, 20, 10, 11] rfl rfl) (goodIn_app (goodIn_cls hi_Pairing_start_X8 gw_X8) (goodIn_app (goodIn_cls hi_Pairing_start_X9 gw_X9) (goodIn_nil))))
set_option maxRecDepth 100000 in
theorem gd_Pairing_start_Pairing_useKey_43 : GoodIn wp_Pairing_start (wsV RX8 43 RX8 yX8_useKey wp_Pairing_useKey) := goodIn_app (goodIn_r _ [21, 22, 23, 3] rfl rfl) (goodIn_ca (goodIn_r _ [24, 25] rfl rfl) (goodIn_app (goodIn_cls hi_Pairing_start_X8 gw_X8) (goodIn_nil)))
set_option maxHeartbeats 4000000 in
set_option maxRecDepth 100000 in
theorem b_Pairing_start {p : Program} {l : Launch} {e : Env} {R : Room} {s : State} {m : MethodId} {args : Array Value} {below : List Frame} {meth : Method} {c : Code} {D : va_G} {K : Nat → ClassId} {A : Nat → Prop} {Q : State → Prop} {τ : Nat → Option Ty} {dom : List Nat} {zb zL : Nat} {zx : Nat → Int32} {zs : Nat → Nat} {π : Nat} (hR : 2 ≤ R.frames ∧ 44 ≤ R.locals) (B : Bx p s m args c cX8_start 3 RX8 wp_Pairing_start D (tysA K) A) (Z : Sk τ dom) (hz : ZL zb zL zx zs A s s.heap) (h : Nat) (x1 : Int) (g : Nat) (t_h : τ h = some (38, 0, 0)) (r_x1 : -2147483648 ≤ x1 ∧ x1 ≤ 2147483647) (t_g : τ g = some (1, π, 0)) (σ0 : Nat → va_E) (G0 : Good K τ σ0) (hend : ∀ (σ' : Nat → va_E) (lv : List (Nat × Value)) (pc : Nat), Good K τ σ' → Fr τ [(2, π), (1, π), (2, 33), (3, 46), (38, 0)] σ0 σ' → decode cX8_start pc = .ok (.return_, 1) → V p l e R s m args below meth c 3 D A Q (0, 0) (fd dom σ') lv pc []) : V p l e R s m args below meth c 3 D A Q (0, 0) (fd dom σ0) [(0, .ref h), (1, .int (iI x1)), (2, .ref g)] 0 [] := by
  have F0 : Fr τ [(2, π), (1, π), (2, 33), (3, 46), (38, 0)] σ0 σ0 := Fr.rf
  refine v_iconst B (v := iI 1) dX8_start_0 rfl ?_
  refine v_aload_n B dX8_start_1 rfl rfl ?_
  refine u_callSv B Z hz (n := 2) (As := [.int (iI 1), .ref g]) (rest := []) (c_Pairing_putOffer l D K Z _ _ _ _ 1 g ⟨by omega, by omega⟩ t_g σ0 G0) gd_Pairing_start_Pairing_putOffer_35 rfl rfl rfl (by decide +kernel) ⟨Nat.le_trans (by decide +kernel) hR.1, Nat.le_trans (by decide +kernel) hR.2⟩ rfl rfl (Nat.le_of_ble_eq_true rfl) dX8_start_2 ⟨Nat.zero_le _, Nat.zero_le _⟩ (fun σ1 p2 => ?_)
  obtain ⟨G4, F5⟩ := p2
  have F6 := F0.call F5 (by first | rfl | simp)
  refine v_aload_n B dX8_start_5 rfl rfl ?_
  refine v_aload_n B dX8_start_6 rfl rfl ?_
  refine v_iconst B (v := iI 2) dX8_start_7 rfl ?_
  refine u_callVv B Z hz (n := 2) (As := [.ref g, .int (iI 2)]) (rest := []) (c_Pairing_keepOffer l D K Z _ _ _ _ h g 2 t_h t_g ⟨by omega, by omega⟩ σ1 G4) gd_Pairing_start_Pairing_keepOffer_39 rfl rfl rfl (by decide +kernel) ⟨Nat.le_trans (by decide +kernel) hR.1, Nat.le_trans (by decide +kernel) hR.2⟩ t_h (cls_Pairing G4 t_h) rfl rfl rfl rfl (Nat.le_of_ble_eq_true rfl) dX8_start_8 ⟨Nat.zero_le _, Nat.zero_le _⟩ (fun σ7 p8 => ?_)
  obtain ⟨G10, F11⟩ := p8
  have F12 := F6.call F11 (by first | rfl | simp)
  refine v_aload_n B dX8_start_11 rfl rfl ?_
  refine v_iload_n B dX8_start_12 rfl rfl ?_
  refine u_callVv B Z hz (n := 1) (As := [.int (iI x1)]) (rest := []) (c_Pairing_useKey l D K Z _ _ _ _ h x1 t_h ⟨by omega, by omega⟩ σ7 G10) gd_Pairing_start_Pairing_useKey_43 rfl rfl rfl (by decide +kernel) ⟨Nat.le_trans (by decide +kernel) hR.1, Nat.le_trans (by decide +kernel) hR.2⟩ t_h (cls_Pairing G10 t_h) rfl rfl rfl rfl (Nat.le_of_ble_eq_true rfl) dX8_start_13 ⟨Nat.zero_le _, Nat.zero_le _⟩ (fun σ13 p14 => ?_)
  obtain ⟨G16, F17⟩ := p14
  have F18 := F12.call F17 (by first | rfl | simp)
  refine v_aload_n B dX8_start_16 rfl rfl ?_
  refine v_iconst B (v := iI 1) dX8_start_17 rfl ?_
  obtain ⟨a19, z20, z21, a22, a23, a24, a25, a26, h27, t28, r29, r30, t31, t32, t33, t34, t35⟩ : okPairing τ (σ13 h) := G16 h _ t_h
  refine u_put B Z (C := RX8) (T := TX8) (N := 8) (ci := 8) hi_Pairing_start_X8 t_h h27 rfl 2 (by decide +kernel) tyX8 tyX8_ok nmX8 (List.mem_of_getElem? (i := 26) rfl) rfl (ty := .int) (tyX8_ok 2 (by decide +kernel)) rfl rfl (Nat.le_of_ble_eq_true rfl) (fs' := [.ref a19, .int (iI z20), .int (iI 1), .ref a22, .ref a23, .ref a24, .ref a25, .ref a26]) rfl dX8_start_18 (fun σ36 h37 n38 => ?_)
  have G39 := G16.put t_h (⟨a19, z20, 1, a22, a23, a24, a25, a26, h37, t28, ⟨by omega, by omega⟩, ⟨by omega, by omega⟩, t31, t32, t33, t34, t35⟩ : Ok K τ (38, 0, 0) (σ36 h)) n38
  have F40 := F18.put t_h (by simp) n38
  exact hend σ36 _ _ G39 F40 dX8_start_21
set_option maxRecDepth 100000 in
theorem c_Pairing_start (l : Launch) (D : va_G) (K : Nat → ClassId) {τ : Nat → Option Ty} {dom : List Nat} (Z : Sk τ dom) (zb zL : Nat) (zx : Nat → Int32) (zs : Nat → Nat) {π : Nat} (h : Nat) (x1 : Int) (g : Nat) (t_h : τ h = some (38, 0, 0)) (r_x1 : -2147483648 ≤ x1 ∧ x1 ≤ 2147483647) (t_g : τ g = some (1, π, 0)) (σ0 : Nat → va_E) (G0 : Good K τ σ0) : MZ l yX8_start wp_Pairing_start ({ frames := 2, cells := 0, slots := 0, locals := 44 }) D (tysA K) [.ref h, .int (iI x1), .ref g] (fd dom σ0) zb zL zx zs (Qv D (fun σ' => Good K τ σ' ∧ Fr τ [(2, π), (1, π), (2, 33), (3, 46), (38, 0)] σ0 σ') (fun σ' => fd dom σ')) 0 0 := by
  refine mz_of (cc := cX8_start) (maxL := 3) (ret := none) (by decide +kernel) rfl (Nat.le_of_ble_eq_true rfl) ?_
  intro p e s m below meth c A B hr hlk _ hz
  exact b_Pairing_start ⟨Nat.le_refl _, Nat.le_refl _⟩ B Z hz h x1 g t_h r_x1 t_g σ0 G0 (fun σ' lv pc G F hd => v_vret B hr hlk σ' ⟨G, F⟩ rfl (Nat.le_refl _) (Nat.le_refl _) hd)

def wp_Pairing_confirm : List Cond := .code yX8_confirm cX8_confirm 8 none :: (([.fieldLink RX8 31 "LowEnergy$Pairing" "cipher" "LLowEnergy$Cipher;", .fieldLink RX8 28 "LowEnergy$Pairing" "made" "[I", .methodLink RX8 107 yX1_encipher, .instanceMethod yX1_encipher, .selects RX1 yX1_encipher yX1_encipher, .initialized RX1, .code yX1_encipher cX1_encipher 7 none, .fieldLink RX1 9 "LowEnergy$Cipher" "roundKeys" "[I", .fieldLink RX1 13 "LowEnergy$Cipher" "moved" "[I", .fieldLink RX1 16 "LowEnergy$Cipher" "SBOX" "[I", .constantLong RX8 141 (255), .fieldLink RX8 19 "LowEnergy$Pairing" "bothMessages" "[I", .fieldLink RX8 15 "LowEnergy$Pairing" "temporaryKey" "[I", .methodLink RX8 138 yX1_loadKey, .instanceMethod yX1_loadKey, .selects RX1 yX1_loadKey yX1_loadKey, .code yX1_loadKey cX1_loadKey 6 none] : List Cond) ++ (wsX80 ++ (wsX10 ++ (wsX30 ++ (wsX60 ++ ([]))))))
theorem hi_Pairing_confirm_X8 : ∀ x ∈ u_ws RX8 TX8 8, x ∈ wp_Pairing_confirm := fun _ h => List.mem_cons_of_mem _ (List.mem_append_right _ (List.mem_append_left _ h))
theorem hi_Pairing_confirm_X1 : ∀ x ∈ u_ws RX1 TX1 2, x ∈ wp_Pairing_confirm := fun _ h => List.mem_cons_of_mem _ (List.mem_append_right _ (List.mem_append_right _ (List.mem_append_left _ h)))
theorem hi_Pairing_confirm_X3 : ∀ x ∈ u_ws RX3 TX3 19, x ∈ wp_Pairing_confirm := fun _ h => List.mem_cons_of_mem _ (List.mem_append_right _ (List.mem_append_right _ (List.mem_append_right _ (List.mem_append_left _ h))))
theorem hi_Pairing_confirm_X6 : ∀ x ∈ u_ws RX6 TX6 20, x ∈ wp_Pairing_confirm := fun _ h => List.mem_cons_of_mem _ (List.mem_append_right _ (List.mem_append_right _ (List.mem_append_right _ (List.mem_append_right _ (List.mem_append_left _ h)))))
set_option maxRecDepth 100000 in
theorem gd_Pairing_confirm_encipherB_107 : GoodIn wp_Pairing_confirm (wsV RX8 107 RX1 yX1_encipher wp_encipherB) := goodIn_app (goodIn_r _ [3, 4, 5, 6] rfl rfl) (goodIn_ca (goodIn_r _ [7, 8, 9, 10] rfl rfl) (goodIn_app (goodIn_cls hi_Pairing_confirm_X1 gw_X1) (goodIn_nil)))
set_option maxRecDepth 100000 in
theorem gd_Pairing_confirm_loadKey_138 : GoodIn wp_Pairing_confirm (wsV RX8 138 RX1 yX1_loadKey wp_loadKey) := goodIn_app (goodIn_r _ [14, 15, 16, 6] rfl rfl) (goodIn_ca (goodIn_r _ [17, 8, 10] rfl rfl) (goodIn_app (goodIn_cls hi_Pairing_confirm_X1 gw_X1) (goodIn_nil)))
set_option maxHeartbeats 4000000 in
set_option maxRecDepth 100000 in
theorem b_Pairing_confirm {p : Program} {l : Launch} {e : Env} {R : Room} {s : State} {m : MethodId} {args : Array Value} {below : List Frame} {meth : Method} {c : Code} {D : va_G} {K : Nat → ClassId} {A : Nat → Prop} {Q : State → Prop} {τ : Nat → Option Ty} {dom : List Nat} {zb zL : Nat} {zx : Nat → Int32} {zs : Nat → Nat} (hR : 1 ≤ R.frames ∧ 26 ≤ R.locals) (B : Bx p s m args c cX8_confirm 8 RX8 wp_Pairing_confirm D (tysA K) A) (Z : Sk τ dom) (hz : ZL zb zL zx zs A s s.heap) (h : Nat) (d : Nat) (t_h : τ h = some (38, 0, 0)) (t_d : τ d = some (33, 0, 0)) (σ0 : Nat → va_E) (G0 : Good K τ σ0) (hend : ∀ (σ' : Nat → va_E) (lv : List (Nat × Value)) (pc : Nat), Good K τ σ' → Fr τ [(2, 31), (2, 35), (2, 32)] σ0 σ' → decode cX8_confirm pc = .ok (.return_, 1) → V p l e R s m args below meth c 8 D A Q (0, 0) (fd dom σ') lv pc []) : V p l e R s m args below meth c 8 D A Q (0, 0) (fd dom σ0) [(0, .ref h), (1, .ref d)] 0 [] := by
  have F0 : Fr τ [(2, 31), (2, 35), (2, 32)] σ0 σ0 := Fr.rf
  have J124 : ∀ (k124 : Nat) (σ_124 : Nat → va_E) (y124_3 : Int) (y124_5 : Int) (z124_7 : Int), (2147483648 - z124_7).toNat ≤ k124 → Good K τ σ_124 → Fr τ [(2, 31), (2, 35), (2, 32)] σ0 σ_124 → (InL y124_3) → (InL y124_5) → (0 ≤ z124_7 ∧ z124_7 ≤ 6) → V p l e R s m args below meth c 8 D A Q (0, 0) (fd dom σ_124) [(0, .ref h), (3, .long (lI y124_3)), (5, .long (lI y124_5)), (7, .int (iI z124_7))] 124 [] := by
    intro k124
    induction k124 with
    | zero => intro σ_124 y124_3 y124_5 z124_7 m124 G_124 F_124 r124_3 r124_5 r124_7; omega
    | succ k124 IH124 =>
      intro σ_124 y124_3 y124_5 z124_7 m124 G_124 F_124 r124_3 r124_5 r124_7
      refine v_iload B dX8_confirm_124 rfl ?_
      refine v_bipush B (v := iI 6) dX8_confirm_126 (by decide +kernel) ?_
      refine u_icmp_ge B (tgt := 185) (by omega) (by omega) dX8_confirm_128 (by decide +kernel) (fun c1 => ?_) (fun c1 => ?_)
      · refine v_aload_n B dX8_confirm_185 rfl rfl ?_
        obtain ⟨a2, z3, z4, a5, a6, a7, a8, a9, h10, t11, r12, r13, t14, t15, t16, t17, t18⟩ : okPairing τ (σ_124 h) := G_124 h _ t_h
        refine u_get B Z (C := RX8) (T := TX8) (N := 8) (ci := 8) hi_Pairing_confirm_X8 t_h h10 rfl 0 (by decide +kernel) (List.mem_of_getElem? (i := 1) rfl) rfl dX8_confirm_186 ?_
        refine v_aload_n B dX8_confirm_189 rfl rfl ?_
        refine u_get B Z (C := RX8) (T := TX8) (N := 8) (ci := 8) hi_Pairing_confirm_X8 t_h h10 rfl 7 (by decide +kernel) (List.mem_of_getElem? (i := 2) rfl) rfl dX8_confirm_190 ?_
        refine u_callVv B Z hz (n := 1) (As := [.ref a9]) (rest := []) (c_encipherB l D K Z _ _ _ _ a2 a9 t11 t18 σ_124 G_124) gd_Pairing_confirm_encipherB_107 rfl rfl rfl (by decide +kernel) ⟨Nat.le_trans (by decide +kernel) hR.1, Nat.le_trans (by decide +kernel) hR.2⟩ t11 (cls_Cipher G_124 t11) rfl rfl rfl rfl (Nat.le_of_ble_eq_true rfl) dX8_confirm_193 ⟨Nat.zero_le _, Nat.zero_le _⟩ (fun σ19 p20 => ?_)
        obtain ⟨G22, F23⟩ := p20
        have F24 := F_124.call F23 (by first | rfl | simp)
        have h25 := (F23 h _ t_h (by first | rfl | simp)).trans h10
        exact hend σ19 _ _ G22 F24 dX8_confirm_196
      · refine v_aload_n B dX8_confirm_131 rfl rfl ?_
        obtain ⟨a26, z27, z28, a29, a30, a31, a32, a33, h34, t35, r36, r37, t38, t39, t40, t41, t42⟩ : okPairing τ (σ_124 h) := G_124 h _ t_h
        refine u_get B Z (C := RX8) (T := TX8) (N := 8) (ci := 8) hi_Pairing_confirm_X8 t_h h34 rfl 7 (by decide +kernel) (List.mem_of_getElem? (i := 2) rfl) rfl dX8_confirm_132 ?_
        refine v_iload B dX8_confirm_135 rfl ?_
        refine v_dup2 B dX8_confirm_137 rfl rfl ?_
        obtain ⟨f43, h44, r45, e46⟩ : okB K 16 (σ_124 a33) := G_124 a33 _ t42
        obtain ⟨z47, e48, r49⟩ := e46 (z124_7 : Int).toNat
        refine u_iald B Z (t0 := 0) t42 h44 rfl (by omega) e48 dX8_confirm_138 ?_
        refine v_lload_n B dX8_confirm_139 rfl rfl ?_
        refine v_bipush B (v := iI 8) dX8_confirm_140 (by decide +kernel) ?_
        refine v_iload B dX8_confirm_142 rfl ?_
        refine v_imul B (v := iI (8 * z124_7)) dX8_confirm_144 ((iI_mul _ _).trans (congrArg iI (by omega))) ?_
        obtain ⟨yy50, e51, r52⟩ := lI_any (((lI y124_3).toUInt64 >>> ((iI (8 * z124_7)).toInt64.toUInt64 &&& Int64.toUInt64 63)).toInt64)
        refine v_lushr B (v := lI yy50) dX8_confirm_145 e51 ?_
        refine v_ldc2 B (v := lI 255) (u_cl (List.mem_of_getElem? (i := 11) rfl) (by decide +kernel)) dX8_confirm_146 ?_
        obtain ⟨yy53, e54, r55⟩ := lI_and yy50 (c := 255) (by decide) (by decide)
        refine v_land B (v := lI yy53) dX8_confirm_149 e54 ?_
        refine v_l2i B (v := iI yy53) dX8_confirm_150 (iI_l (by omega)) ?_
        obtain ⟨z56, e57, r58⟩ := iI_xor (a := z47) (b := yy53) 8 (by decide) (by omega) (by omega)
        refine v_ixor B (v := iI z56) dX8_confirm_151 e57 ?_
        refine u_iast B Z (t0 := 0) t42 h44 rfl (by omega) dX8_confirm_152 (fun σ59 h60 n61 => ?_)
        have G62 := G_124.put t42 (⟨_, h60, r45, el_upd e46 (by omega) _⟩ : Ok K τ (2, 35, 16) (σ59 a33)) n61
        have F63 := F_124.put t42 (by simp) n61
        have h64 := (n61 h (ne_ty t_h t42 (by simp))).trans h34
        refine v_aload_n B dX8_confirm_153 rfl rfl ?_
        refine u_get B Z (C := RX8) (T := TX8) (N := 8) (ci := 8) hi_Pairing_confirm_X8 t_h h64 rfl 7 (by decide +kernel) (List.mem_of_getElem? (i := 2) rfl) rfl dX8_confirm_154 ?_
        refine v_bipush B (v := iI 6) dX8_confirm_157 (by decide +kernel) ?_
        refine v_iload B dX8_confirm_159 rfl ?_
        refine v_iadd B (v := iI (z124_7 + 6)) dX8_confirm_161 ((iI_add _ _).trans (congrArg iI (by omega))) ?_
        refine v_dup2 B dX8_confirm_162 rfl rfl ?_
        obtain ⟨f65, h66, r67, e68⟩ : okB K 16 (σ59 a33) := G62 a33 _ t42
        obtain ⟨z69, e70, r71⟩ := e68 ((z124_7 + 6) : Int).toNat
        refine u_iald B Z (t0 := 0) t42 h66 rfl (by omega) e70 dX8_confirm_163 ?_
        refine v_lload B dX8_confirm_164 rfl ?_
        refine v_bipush B (v := iI 8) dX8_confirm_166 (by decide +kernel) ?_
        refine v_iload B dX8_confirm_168 rfl ?_
        refine v_imul B (v := iI (8 * z124_7)) dX8_confirm_170 ((iI_mul _ _).trans (congrArg iI (by omega))) ?_
        obtain ⟨yy72, e73, r74⟩ := lI_any (((lI y124_5).toUInt64 >>> ((iI (8 * z124_7)).toInt64.toUInt64 &&& Int64.toUInt64 63)).toInt64)
        refine v_lushr B (v := lI yy72) dX8_confirm_171 e73 ?_
        refine v_ldc2 B (v := lI 255) (u_cl (List.mem_of_getElem? (i := 11) rfl) (by decide +kernel)) dX8_confirm_172 ?_
        obtain ⟨yy75, e76, r77⟩ := lI_and yy72 (c := 255) (by decide) (by decide)
        refine v_land B (v := lI yy75) dX8_confirm_175 e76 ?_
        refine v_l2i B (v := iI yy75) dX8_confirm_176 (iI_l (by omega)) ?_
        obtain ⟨z78, e79, r80⟩ := iI_xor (a := z69) (b := yy75) 8 (by decide) (by omega) (by omega)
        refine v_ixor B (v := iI z78) dX8_confirm_177 e79 ?_
        refine u_iast B Z (t0 := 0) t42 h66 rfl (by omega) dX8_confirm_178 (fun σ81 h82 n83 => ?_)
        have G84 := G62.put t42 (⟨_, h82, r67, el_upd e68 (by omega) _⟩ : Ok K τ (2, 35, 16) (σ81 a33)) n83
        have F85 := F63.put t42 (by simp) n83
        have h86 := (n83 h (ne_ty t_h t42 (by simp))).trans h64
        refine v_iinc B (k := 3) (v := iI (z124_7 + 1)) (lv' := [(7, .int (iI (z124_7 + 1))), (0, .ref h), (3, .long (lI y124_3)), (5, .long (lI y124_5))]) dX8_confirm_179 rfl ((iI_add _ _).trans (congrArg iI (by omega))) (by decide +kernel) rfl ?_
        refine v_goto B (tgt := 124) dX8_confirm_182 (by decide +kernel) ?_
        refine v_lv [1, 2, 3, 0] rfl ?_
        exact IH124 σ81 y124_3 y124_5 (z124_7 + 1) (by omega) G84 F85 ⟨by omega, by omega⟩ ⟨by omega, by omega⟩ ⟨by omega, by omega⟩
  have J110 : ∀ (σ_110 : Nat → va_E) (y110_3 : Int) (y110_5 : Int), Good K τ σ_110 → Fr τ [(2, 31), (2, 35), (2, 32)] σ0 σ_110 → (InL y110_3) → (InL y110_5) → V p l e R s m args below meth c 8 D A Q (0, 0) (fd dom σ_110) [(0, .ref h), (3, .long (lI y110_3)), (5, .long (lI y110_5))] 110 [] := by
    intro σ_110 y110_3 y110_5 G_110 F_110 r110_3 r110_5
    refine v_aload_n B dX8_confirm_110 rfl rfl ?_
    obtain ⟨a87, z88, z89, a90, a91, a92, a93, a94, h95, t96, r97, r98, t99, t100, t101, t102, t103⟩ : okPairing τ (σ_110 h) := G_110 h _ t_h
    refine u_get B Z (C := RX8) (T := TX8) (N := 8) (ci := 8) hi_Pairing_confirm_X8 t_h h95 rfl 0 (by decide +kernel) (List.mem_of_getElem? (i := 1) rfl) rfl dX8_confirm_111 ?_
    refine v_aload_n B dX8_confirm_114 rfl rfl ?_
    refine u_get B Z (C := RX8) (T := TX8) (N := 8) (ci := 8) hi_Pairing_confirm_X8 t_h h95 rfl 7 (by decide +kernel) (List.mem_of_getElem? (i := 2) rfl) rfl dX8_confirm_115 ?_
    refine u_callVv B Z hz (n := 1) (As := [.ref a94]) (rest := []) (c_encipherB l D K Z _ _ _ _ a87 a94 t96 t103 σ_110 G_110) gd_Pairing_confirm_encipherB_107 rfl rfl rfl (by decide +kernel) ⟨Nat.le_trans (by decide +kernel) hR.1, Nat.le_trans (by decide +kernel) hR.2⟩ t96 (cls_Cipher G_110 t96) rfl rfl rfl rfl (Nat.le_of_ble_eq_true rfl) dX8_confirm_118 ⟨Nat.zero_le _, Nat.zero_le _⟩ (fun σ104 p105 => ?_)
    obtain ⟨G107, F108⟩ := p105
    have F109 := F_110.call F108 (by first | rfl | simp)
    have h110 := (F108 h _ t_h (by first | rfl | simp)).trans h95
    refine v_iconst B (v := iI 0) dX8_confirm_121 rfl ?_
    refine v_istore B (lv' := [(7, .int (iI 0)), (0, .ref h), (3, .long (lI y110_3)), (5, .long (lI y110_5))]) dX8_confirm_122 (by decide +kernel) rfl ?_
    refine v_lv [1, 2, 3, 0] rfl ?_
    exact J124 _ σ104 y110_3 y110_5 0 (Nat.le_refl _) G107 F109 ⟨by omega, by omega⟩ ⟨by omega, by omega⟩ ⟨by omega, by omega⟩
  have J67 : ∀ (k67 : Nat) (σ_67 : Nat → va_E) (y67_3 : Int) (y67_5 : Int) (z67_7 : Int), (2147483648 - z67_7).toNat ≤ k67 → Good K τ σ_67 → Fr τ [(2, 31), (2, 35), (2, 32)] σ0 σ_67 → (InL y67_3) → (InL y67_5) → (0 ≤ z67_7 ∧ z67_7 ≤ 16) → V p l e R s m args below meth c 8 D A Q (0, 0) (fd dom σ_67) [(0, .ref h), (3, .long (lI y67_3)), (5, .long (lI y67_5)), (7, .int (iI z67_7))] 67 [] := by
    intro k67
    induction k67 with
    | zero => intro σ_67 y67_3 y67_5 z67_7 m67 G_67 F_67 r67_3 r67_5 r67_7; omega
    | succ k67 IH67 =>
      intro σ_67 y67_3 y67_5 z67_7 m67 G_67 F_67 r67_3 r67_5 r67_7
      refine v_iload B dX8_confirm_67 rfl ?_
      refine v_aload_n B dX8_confirm_69 rfl rfl ?_
      obtain ⟨a111, z112, z113, a114, a115, a116, a117, a118, h119, t120, r121, r122, t123, t124, t125, t126, t127⟩ : okPairing τ (σ_67 h) := G_67 h _ t_h
      refine u_get B Z (C := RX8) (T := TX8) (N := 8) (ci := 8) hi_Pairing_confirm_X8 t_h h119 rfl 7 (by decide +kernel) (List.mem_of_getElem? (i := 2) rfl) rfl dX8_confirm_70 ?_
      obtain ⟨f128, h129, r130, e131⟩ : okB K 16 (σ_67 a118) := G_67 a118 _ t127
      refine u_alen B Z (t0 := 0) (v := 16) t127 h129 rfl (by first | rfl | omega) dX8_confirm_73 ?_
      refine u_icmp_ge B (tgt := 110) (by omega) (by omega) dX8_confirm_74 (by decide +kernel) (fun c132 => ?_) (fun c132 => ?_)
      · refine v_lv [0, 1, 2] rfl ?_
        exact J110 σ_67 y67_3 y67_5 G_67 F_67 ⟨by omega, by omega⟩ ⟨by omega, by omega⟩
      · refine v_iload B dX8_confirm_77 rfl ?_
        refine v_aload_n B dX8_confirm_79 rfl rfl ?_
        refine u_get B Z (C := RX8) (T := TX8) (N := 8) (ci := 8) hi_Pairing_confirm_X8 t_h h119 rfl 4 (by decide +kernel) (List.mem_of_getElem? (i := 12) rfl) rfl dX8_confirm_80 ?_
        obtain ⟨f133, h134, r135, e136⟩ : okB K 16 (σ_67 a115) := G_67 a115 _ t124
        refine u_alen B Z (t0 := 0) (v := 16) t124 h134 rfl (by first | rfl | omega) dX8_confirm_83 ?_
        refine u_icmp_ge B (tgt := 110) (by omega) (by omega) dX8_confirm_84 (by decide +kernel) (fun c137 => by omega) (fun c137 => ?_)
        refine v_aload_n B dX8_confirm_87 rfl rfl ?_
        refine u_get B Z (C := RX8) (T := TX8) (N := 8) (ci := 8) hi_Pairing_confirm_X8 t_h h119 rfl 7 (by decide +kernel) (List.mem_of_getElem? (i := 2) rfl) rfl dX8_confirm_88 ?_
        refine v_iload B dX8_confirm_91 rfl ?_
        refine v_dup2 B dX8_confirm_93 rfl rfl ?_
        obtain ⟨z138, e139, r140⟩ := e131 (z67_7 : Int).toNat
        refine u_iald B Z (t0 := 0) t127 h129 rfl (by omega) e139 dX8_confirm_94 ?_
        refine v_aload_n B dX8_confirm_95 rfl rfl ?_
        refine u_get B Z (C := RX8) (T := TX8) (N := 8) (ci := 8) hi_Pairing_confirm_X8 t_h h119 rfl 4 (by decide +kernel) (List.mem_of_getElem? (i := 12) rfl) rfl dX8_confirm_96 ?_
        refine v_iload B dX8_confirm_99 rfl ?_
        obtain ⟨z141, e142, r143⟩ := e136 (z67_7 : Int).toNat
        refine u_iald B Z (t0 := 0) t124 h134 rfl (by omega) e142 dX8_confirm_101 ?_
        obtain ⟨z144, e145, r146⟩ := iI_xor (a := z138) (b := z141) 8 (by decide) (by omega) (by omega)
        refine v_ixor B (v := iI z144) dX8_confirm_102 e145 ?_
        refine u_iast B Z (t0 := 0) t127 h129 rfl (by omega) dX8_confirm_103 (fun σ147 h148 n149 => ?_)
        have G150 := G_67.put t127 (⟨_, h148, r130, el_upd e131 (by omega) _⟩ : Ok K τ (2, 35, 16) (σ147 a118)) n149
        have F151 := F_67.put t127 (by simp) n149
        have h152 := (n149 h (ne_ty t_h t127 (by simp))).trans h119
        have h153 := (n149 a115 (ne_ty t124 t127 (by simp))).trans h134
        refine v_iinc B (k := 3) (v := iI (z67_7 + 1)) (lv' := [(7, .int (iI (z67_7 + 1))), (0, .ref h), (3, .long (lI y67_3)), (5, .long (lI y67_5))]) dX8_confirm_104 rfl ((iI_add _ _).trans (congrArg iI (by omega))) (by decide +kernel) rfl ?_
        refine v_goto B (tgt := 67) dX8_confirm_107 (by decide +kernel) ?_
        refine v_lv [1, 2, 3, 0] rfl ?_
        exact IH67 σ147 y67_3 y67_5 (z67_7 + 1) (by omega) G150 F151 ⟨by omega, by omega⟩ ⟨by omega, by omega⟩ ⟨by omega, by omega⟩
  have J51 : ∀ (y51_3 : Int) (y51_s0 : Int), (InL y51_3) → (InL y51_s0) → V p l e R s m args below meth c 8 D A Q (0, 0) (fd dom σ0) [(0, .ref h), (3, .long (lI y51_3))] 51 [.long (lI y51_s0)] := by
    intro y51_3 y51_s0 r51_3 r51_s0
    refine v_lstore B (lv' := [(5, .long (lI y51_s0)), (0, .ref h), (3, .long (lI y51_3))]) dX8_confirm_51 (by decide +kernel) rfl ?_
    refine v_aload_n B dX8_confirm_53 rfl rfl ?_
    obtain ⟨a154, z155, z156, a157, a158, a159, a160, a161, h162, t163, r164, r165, t166, t167, t168, t169, t170⟩ : okPairing τ (σ0 h) := G0 h _ t_h
    refine u_get B Z (C := RX8) (T := TX8) (N := 8) (ci := 8) hi_Pairing_confirm_X8 t_h h162 rfl 0 (by decide +kernel) (List.mem_of_getElem? (i := 1) rfl) rfl dX8_confirm_54 ?_
    refine v_aload_n B dX8_confirm_57 rfl rfl ?_
    refine u_get B Z (C := RX8) (T := TX8) (N := 8) (ci := 8) hi_Pairing_confirm_X8 t_h h162 rfl 3 (by decide +kernel) (List.mem_of_getElem? (i := 13) rfl) rfl dX8_confirm_58 ?_
    refine u_callVv B Z hz (n := 1) (As := [.ref a157]) (rest := []) (c_loadKey l D K Z _ _ _ _ a154 a157 t163 t166 σ0 G0) gd_Pairing_confirm_loadKey_138 rfl rfl rfl (by decide +kernel) ⟨Nat.le_trans (by decide +kernel) hR.1, Nat.le_trans (by decide +kernel) hR.2⟩ t163 (cls_Cipher G0 t163) rfl rfl rfl rfl (Nat.le_of_ble_eq_true rfl) dX8_confirm_61 ⟨Nat.zero_le _, Nat.zero_le _⟩ (fun σ171 p172 => ?_)
    obtain ⟨G174, F175⟩ := p172
    have F176 := F0.call F175 (by first | rfl | simp)
    have h177 := (F175 h _ t_h (by first | rfl | simp)).trans h162
    refine v_iconst B (v := iI 0) dX8_confirm_64 rfl ?_
    refine v_istore B (lv' := [(7, .int (iI 0)), (5, .long (lI y51_s0)), (0, .ref h), (3, .long (lI y51_3))]) dX8_confirm_65 (by decide +kernel) rfl ?_
    refine v_lv [2, 3, 1, 0] rfl ?_
    exact J67 _ σ171 y51_3 y51_s0 0 (Nat.le_refl _) G174 F176 ⟨by omega, by omega⟩ ⟨by omega, by omega⟩ ⟨by omega, by omega⟩
  have J32 : ∀ (z32_2 : Int) (y32_s0 : Int), (0 ≤ z32_2 ∧ z32_2 ≤ 1) → (InL y32_s0) → V p l e R s m args below meth c 8 D A Q (0, 0) (fd dom σ0) [(0, .ref h), (1, .ref d), (2, .int (iI z32_2))] 32 [.long (lI y32_s0)] := by
    intro z32_2 y32_s0 r32_2 r32_s0
    refine v_lstore_n B (lv' := [(3, .long (lI y32_s0)), (0, .ref h), (1, .ref d), (2, .int (iI z32_2))]) dX8_confirm_32 rfl (by decide +kernel) rfl ?_
    refine v_iload_n B dX8_confirm_33 rfl rfl ?_
    refine u_if_eq B (tgt := 47) (by omega) dX8_confirm_34 (by decide +kernel) (fun c178 => ?_) (fun c178 => ?_)
    · refine v_aload_n B dX8_confirm_47 rfl rfl ?_
      obtain ⟨z179, yy180, z181, z182, z183, z184, a185, z186, yy187, a188, yy189, a190, a191, a192, a193, a194, a195, a196, a197, h198, r199, r200, r201, r202, r203, r204, t205, r206, r207, t208, r209, t210, t211, t212, t213, t214, t215, t216, t217⟩ : okDevice τ (σ0 d) := G0 d _ t_d
      refine u_getN B Z (C := RX3) (T := TX3) (N := 19) (ci := 3) hi_Pairing_confirm_X3 t_d h198 rfl 1 (by decide +kernel) (List.mem_of_getElem? (i := 90) rfl) rfl dX8_confirm_48 ?_
      refine v_lv [1, 0] rfl ?_
      exact J51 y32_s0 yy180 ⟨by omega, by omega⟩ ⟨by omega, by omega⟩
    · refine v_aload_n B dX8_confirm_37 rfl rfl ?_
      obtain ⟨z218, yy219, z220, z221, z222, z223, a224, z225, yy226, a227, yy228, a229, a230, a231, a232, a233, a234, a235, a236, h237, r238, r239, r240, r241, r242, r243, t244, r245, r246, t247, r248, t249, t250, t251, t252, t253, t254, t255, t256⟩ : okDevice τ (σ0 d) := G0 d _ t_d
      refine u_getN B Z (C := RX3) (T := TX3) (N := 19) (ci := 3) hi_Pairing_confirm_X3 t_d h237 rfl 11 (by decide +kernel) (List.mem_of_getElem? (i := 91) rfl) rfl dX8_confirm_38 ?_
      obtain ⟨z257, z258, z259, z260, z261, yy262, yy263, z264, z265, z266, z267, z268, z269, z270, z271, z272, z273, z274, z275, yy276, h277, r278, r279, r280, r281, r282, r283, r284, r285, r286, r287, r288, r289, r290, r291, r292, r293, r294, r295, r296, r297⟩ : okLink τ (σ0 a229) := G0 a229 _ t249
      refine u_getN B Z (C := RX6) (T := TX6) (N := 20) (ci := 6) hi_Pairing_confirm_X6 t249 h277 rfl 19 (by decide +kernel) (List.mem_of_getElem? (i := 92) rfl) rfl dX8_confirm_41 ?_
      refine v_goto B (tgt := 51) dX8_confirm_44 (by decide +kernel) ?_
      refine v_lv [1, 0] rfl ?_
      exact J51 y32_s0 yy276 ⟨by omega, by omega⟩ ⟨by omega, by omega⟩
  have J13 : ∀ (z13_s0 : Int), (0 ≤ z13_s0 ∧ z13_s0 ≤ 1) → V p l e R s m args below meth c 8 D A Q (0, 0) (fd dom σ0) [(0, .ref h), (1, .ref d)] 13 [.int (iI z13_s0)] := by
    intro z13_s0 r13_s0
    refine v_istore_n B (lv' := [(2, .int (iI z13_s0)), (0, .ref h), (1, .ref d)]) dX8_confirm_13 rfl (by decide +kernel) rfl ?_
    refine v_iload_n B dX8_confirm_14 rfl rfl ?_
    refine u_if_eq B (tgt := 25) (by omega) dX8_confirm_15 (by decide +kernel) (fun c298 => ?_) (fun c298 => ?_)
    · refine v_aload_n B dX8_confirm_25 rfl rfl ?_
      obtain ⟨z299, yy300, z301, z302, z303, z304, a305, z306, yy307, a308, yy309, a310, a311, a312, a313, a314, a315, a316, a317, h318, r319, r320, r321, r322, r323, r324, t325, r326, r327, t328, r329, t330, t331, t332, t333, t334, t335, t336, t337⟩ : okDevice τ (σ0 d) := G0 d _ t_d
      refine u_getN B Z (C := RX3) (T := TX3) (N := 19) (ci := 3) hi_Pairing_confirm_X3 t_d h318 rfl 11 (by decide +kernel) (List.mem_of_getElem? (i := 91) rfl) rfl dX8_confirm_26 ?_
      obtain ⟨z338, z339, z340, z341, z342, yy343, yy344, z345, z346, z347, z348, z349, z350, z351, z352, z353, z354, z355, z356, yy357, h358, r359, r360, r361, r362, r363, r364, r365, r366, r367, r368, r369, r370, r371, r372, r373, r374, r375, r376, r377, r378⟩ : okLink τ (σ0 a310) := G0 a310 _ t330
      refine u_getN B Z (C := RX6) (T := TX6) (N := 20) (ci := 6) hi_Pairing_confirm_X6 t330 h358 rfl 19 (by decide +kernel) (List.mem_of_getElem? (i := 92) rfl) rfl dX8_confirm_29 ?_
      refine v_lv [1, 2, 0] rfl ?_
      exact J32 z13_s0 yy357 ⟨by omega, by omega⟩ ⟨by omega, by omega⟩
    · refine v_aload_n B dX8_confirm_18 rfl rfl ?_
      obtain ⟨z379, yy380, z381, z382, z383, z384, a385, z386, yy387, a388, yy389, a390, a391, a392, a393, a394, a395, a396, a397, h398, r399, r400, r401, r402, r403, r404, t405, r406, r407, t408, r409, t410, t411, t412, t413, t414, t415, t416, t417⟩ : okDevice τ (σ0 d) := G0 d _ t_d
      refine u_getN B Z (C := RX3) (T := TX3) (N := 19) (ci := 3) hi_Pairing_confirm_X3 t_d h398 rfl 1 (by decide +kernel) (List.mem_of_getElem? (i := 90) rfl) rfl dX8_confirm_19 ?_
      refine v_goto B (tgt := 32) dX8_confirm_22 (by decide +kernel) ?_
      refine v_lv [1, 2, 0] rfl ?_
      exact J32 z13_s0 yy380 ⟨by omega, by omega⟩ ⟨by omega, by omega⟩
  refine v_aload_n B dX8_confirm_0 rfl rfl ?_
  obtain ⟨z418, yy419, z420, z421, z422, z423, a424, z425, yy426, a427, yy428, a429, a430, a431, a432, a433, a434, a435, a436, h437, r438, r439, r440, r441, r442, r443, t444, r445, r446, t447, r448, t449, t450, t451, t452, t453, t454, t455, t456⟩ : okDevice τ (σ0 d) := G0 d _ t_d
  refine u_getN B Z (C := RX3) (T := TX3) (N := 19) (ci := 3) hi_Pairing_confirm_X3 t_d h437 rfl 2 (by decide +kernel) (List.mem_of_getElem? (i := 93) rfl) rfl dX8_confirm_1 ?_
  refine v_iconst B (v := iI 4) dX8_confirm_4 rfl ?_
  refine u_icmp_ne B (tgt := 12) (by omega) (by omega) dX8_confirm_5 (by decide +kernel) (fun c457 => ?_) (fun c457 => ?_)
  · refine v_iconst B (v := iI 0) dX8_confirm_12 rfl ?_
    exact J13 0 ⟨by omega, by omega⟩
  · refine v_iconst B (v := iI 1) dX8_confirm_8 rfl ?_
    refine v_goto B (tgt := 13) dX8_confirm_9 (by decide +kernel) ?_
    exact J13 1 ⟨by omega, by omega⟩
set_option maxRecDepth 100000 in
theorem c_Pairing_confirm (l : Launch) (D : va_G) (K : Nat → ClassId) {τ : Nat → Option Ty} {dom : List Nat} (Z : Sk τ dom) (zb zL : Nat) (zx : Nat → Int32) (zs : Nat → Nat) (h : Nat) (d : Nat) (t_h : τ h = some (38, 0, 0)) (t_d : τ d = some (33, 0, 0)) (σ0 : Nat → va_E) (G0 : Good K τ σ0) : MZ l yX8_confirm wp_Pairing_confirm ({ frames := 1, cells := 0, slots := 0, locals := 26 }) D (tysA K) [.ref h, .ref d] (fd dom σ0) zb zL zx zs (Qv D (fun σ' => Good K τ σ' ∧ Fr τ [(2, 31), (2, 35), (2, 32)] σ0 σ') (fun σ' => fd dom σ')) 0 0 := by
  refine mz_of (cc := cX8_confirm) (maxL := 8) (ret := none) (by decide +kernel) rfl (Nat.le_of_ble_eq_true rfl) ?_
  intro p e s m below meth c A B hr hlk _ hz
  exact b_Pairing_confirm ⟨Nat.le_refl _, Nat.le_refl _⟩ B Z hz h d t_h t_d σ0 G0 (fun σ' lv pc G F hd => v_vret B hr hlk σ' ⟨G, F⟩ rfl (Nat.le_refl _) (Nat.le_refl _) hd)

def wp_Pairing_drawAndConfirm : List Cond := .code yX8_drawAndConfirm cX8_drawAndConfirm 4 none :: (([.methodLink RX8 103 yX8_confirm, .instanceMethod yX8_confirm, .selects RX8 yX8_confirm yX8_confirm, .initialized RX8, .code yX8_confirm cX8_confirm 8 none, .fieldLink RX8 31 "LowEnergy$Pairing" "cipher" "LLowEnergy$Cipher;", .fieldLink RX8 28 "LowEnergy$Pairing" "made" "[I", .methodLink RX8 107 yX1_encipher, .instanceMethod yX1_encipher, .selects RX1 yX1_encipher yX1_encipher, .initialized RX1, .code yX1_encipher cX1_encipher 7 none, .fieldLink RX1 9 "LowEnergy$Cipher" "roundKeys" "[I", .fieldLink RX1 13 "LowEnergy$Cipher" "moved" "[I", .fieldLink RX1 16 "LowEnergy$Cipher" "SBOX" "[I", .constantLong RX8 141 (255), .fieldLink RX8 19 "LowEnergy$Pairing" "bothMessages" "[I", .fieldLink RX8 15 "LowEnergy$Pairing" "temporaryKey" "[I", .methodLink RX8 138 yX1_loadKey, .instanceMethod yX1_loadKey, .selects RX1 yX1_loadKey yX1_loadKey, .code yX1_loadKey cX1_loadKey 6 none, .methodLink RX8 96 yX9_put, .instanceMethod yX9_put, .selects RX9 yX9_put yX9_put, .initialized RX9, .code yX9_put cX9_put 2 none, .fieldLink RX9 21 "LowEnergy$Row" "size" "I", .fieldLink RX9 15 "LowEnergy$Row" "bytes" "[I", .methodLink RX8 99 yX9_putBytes, .instanceMethod yX9_putBytes, .selects RX9 yX9_putBytes yX9_putBytes, .code yX9_putBytes cX9_putBytes 3 none, .fieldLink RX8 22 "LowEnergy$Pairing" "random" "[I", .methodLink RX8 121 yX3_drawInto, .instanceMethod yX3_drawInto, .selects RX3 yX3_drawInto yX3_drawInto, .initialized RX3, .code yX3_drawInto cX3_drawInto 5 none, .methodLink RX3 89 yX3_draw, .instanceMethod yX3_draw, .selects RX3 yX3_draw yX3_draw, .code yX3_draw cX3_draw 1 (some .int), .fieldLink RX3 69 "LowEnergy$Device" "x" "I", .constant RX3 88 (1103515245)] : List Cond) ++ (wsX80 ++ (wsX10 ++ (wsX30 ++ (wsX60 ++ (wsX90 ++ ([])))))))
theorem hi_Pairing_drawAndConfirm_X8 : ∀ x ∈ u_ws RX8 TX8 8, x ∈ wp_Pairing_drawAndConfirm := fun _ h => List.mem_cons_of_mem _ (List.mem_append_right _ (List.mem_append_left _ h))
theorem hi_Pairing_drawAndConfirm_X1 : ∀ x ∈ u_ws RX1 TX1 2, x ∈ wp_Pairing_drawAndConfirm := fun _ h => List.mem_cons_of_mem _ (List.mem_append_right _ (List.mem_append_right _ (List.mem_append_left _ h)))
theorem hi_Pairing_drawAndConfirm_X3 : ∀ x ∈ u_ws RX3 TX3 19, x ∈ wp_Pairing_drawAndConfirm := fun _ h => List.mem_cons_of_mem _ (List.mem_append_right _ (List.mem_append_right _ (List.mem_append_right _ (List.mem_append_left _ h))))
theorem hi_Pairing_drawAndConfirm_X6 : ∀ x ∈ u_ws RX6 TX6 20, x ∈ wp_Pairing_drawAndConfirm := fun _ h => List.mem_cons_of_mem _ (List.mem_append_right _ (List.mem_append_right _ (List.mem_append_right _ (List.mem_append_right _ (List.mem_append_left _ h)))))
theorem hi_Pairing_drawAndConfirm_X9 : ∀ x ∈ u_ws RX9 TX9 2, x ∈ wp_Pairing_drawAndConfirm := fun _ h => List.mem_cons_of_mem _ (List.mem_append_right _ (List.mem_append_right _ (List.mem_append_right _ (List.mem_append_right _ (List.mem_append_right _ (List.mem_append_left _ h))))))
set_option maxRecDepth 100000 in
theorem gd_Pairing_drawAndConfirm_Pairing_confirm_103 : GoodIn wp_Pairing_drawAndConfirm (wsV RX8 103 RX8 yX8_confirm wp_Pairing_confirm) := goodIn_app (goodIn_r _ [1, 2, 3, 4] rfl rfl) (goodIn_ca (goodIn_r _ [5, 6, 7, 8, 9, 10, 11, 12, 13, 14, 15, 16, 17, 18, 19, 20, 21, 22] rfl rfl) (goodIn_app (goodIn_cls hi_Pairing_drawAndConfirm_X8 gw_X8) (goodIn_app (goodIn_cls hi_Pairing_drawAndConfirm_X1 gw_X1) (goodIn_app (goodIn_cls hi_Pairing_drawAndConfirm_X3 gw_X3) (goodIn_app (goodIn_cls hi_Pairing_drawAndConfirm_X6 gw_X6) (goodIn_nil))))))
set_option maxRecDepth 100000 in
theorem gd_Pairing_drawAndConfirm_Row_put_96 : GoodIn wp_Pairing_drawAndConfirm (wsV RX8 96 RX9 yX9_put wp_Row_put) := goodIn_app (goodIn_r _ [23, 24, 25, 26] rfl rfl) (goodIn_ca (goodIn_r _ [27, 28, 29] rfl rfl) (goodIn_app (goodIn_cls hi_Pairing_drawAndConfirm_X9 gw_X9) (goodIn_nil)))
set_option maxRecDepth 100000 in
theorem gd_Pairing_drawAndConfirm_Row_putBytes_99 : GoodIn wp_Pairing_drawAndConfirm (wsV RX8 99 RX9 yX9_putBytes wp_Row_putBytes) := goodIn_app (goodIn_r _ [30, 31, 32, 26] rfl rfl) (goodIn_ca (goodIn_r _ [33, 28, 29] rfl rfl) (goodIn_app (goodIn_cls hi_Pairing_drawAndConfirm_X9 gw_X9) (goodIn_nil)))
set_option maxRecDepth 100000 in
theorem gd_Pairing_drawAndConfirm_drawIntoB_121 : GoodIn wp_Pairing_drawAndConfirm (wsV RX8 121 RX3 yX3_drawInto wp_drawIntoB) := goodIn_app (goodIn_r _ [35, 36, 37, 38] rfl rfl) (goodIn_ca (goodIn_r _ [39, 40, 41, 42, 38, 43, 44, 45] rfl rfl) (goodIn_app (goodIn_cls hi_Pairing_drawAndConfirm_X3 gw_X3) (goodIn_nil)))
set_option maxHeartbeats 4000000 in
set_option maxRecDepth 100000 in
theorem b_Pairing_drawAndConfirm {p : Program} {l : Launch} {e : Env} {R : Room} {s : State} {m : MethodId} {args : Array Value} {below : List Frame} {meth : Method} {c : Code} {D : va_G} {K : Nat → ClassId} {A : Nat → Prop} {Q : State → Prop} {τ : Nat → Option Ty} {dom : List Nat} {zb zL : Nat} {zx : Nat → Int32} {zs : Nat → Nat} {π : Nat} (hR : 2 ≤ R.frames ∧ 53 ≤ R.locals) (B : Bx p s m args c cX8_drawAndConfirm 4 RX8 wp_Pairing_drawAndConfirm D (tysA K) A) (Z : Sk τ dom) (hz : ZL zb zL zx zs A s s.heap) (h : Nat) (d : Nat) (g : Nat) (t_h : τ h = some (38, 0, 0)) (t_d : τ d = some (33, 0, 0)) (t_g : τ g = some (1, π, 0)) (σ0 : Nat → va_E) (G0 : Good K τ σ0) (hend : ∀ (σ' : Nat → va_E) (lv : List (Nat × Value)) (pc : Nat), Good K τ σ' → Fr τ [(33, 0), (2, 34), (2, 35), (2, 31), (2, 32), (2, π), (1, π)] σ0 σ' → decode cX8_drawAndConfirm pc = .ok (.return_, 1) → V p l e R s m args below meth c 4 D A Q (0, 0) (fd dom σ') lv pc []) : V p l e R s m args below meth c 4 D A Q (0, 0) (fd dom σ0) [(0, .ref h), (1, .ref d), (2, .ref g)] 0 [] := by
  have F0 : Fr τ [(33, 0), (2, 34), (2, 35), (2, 31), (2, 32), (2, π), (1, π)] σ0 σ0 := Fr.rf
  have J49 : ∀ (σ_49 : Nat → va_E), Good K τ σ_49 → Fr τ [(33, 0), (2, 34), (2, 35), (2, 31), (2, 32), (2, π), (1, π)] σ0 σ_49 → V p l e R s m args below meth c 4 D A Q (0, 0) (fd dom σ_49) [(0, .ref h), (1, .ref d), (2, .ref g)] 49 [] := by
    intro σ_49 G_49 F_49
    refine v_aload_n B dX8_drawAndConfirm_49 rfl rfl ?_
    refine v_aload_n B dX8_drawAndConfirm_50 rfl rfl ?_
    refine u_callVv B Z hz (n := 1) (As := [.ref d]) (rest := []) (c_Pairing_confirm l D K Z _ _ _ _ h d t_h t_d σ_49 G_49) gd_Pairing_drawAndConfirm_Pairing_confirm_103 rfl rfl rfl (by decide +kernel) ⟨Nat.le_trans (by decide +kernel) hR.1, Nat.le_trans (by decide +kernel) hR.2⟩ t_h (cls_Pairing G_49 t_h) rfl rfl rfl rfl (Nat.le_of_ble_eq_true rfl) dX8_drawAndConfirm_51 ⟨Nat.zero_le _, Nat.zero_le _⟩ (fun σ1 p2 => ?_)
    obtain ⟨G4, F5⟩ := p2
    have F6 := F_49.call F5 (by first | rfl | simp)
    refine v_aload_n B dX8_drawAndConfirm_54 rfl rfl ?_
    refine v_iconst B (v := iI 3) dX8_drawAndConfirm_55 rfl ?_
    refine u_callVv B Z hz (n := 1) (As := [.int (iI 3)]) (rest := []) (c_Row_put l D K Z _ _ _ _ g 3 t_g ⟨by omega, by omega⟩ σ1 G4) gd_Pairing_drawAndConfirm_Row_put_96 rfl rfl rfl (by decide +kernel) ⟨Nat.le_trans (by decide +kernel) hR.1, Nat.le_trans (by decide +kernel) hR.2⟩ t_g (cls_Row G4 t_g) rfl rfl rfl rfl (Nat.le_of_ble_eq_true rfl) dX8_drawAndConfirm_56 ⟨Nat.zero_le _, Nat.zero_le _⟩ (fun σ7 p8 => ?_)
    obtain ⟨G10, F11⟩ := p8
    have F12 := F6.call F11 (by first | rfl | simp)
    refine v_aload_n B dX8_drawAndConfirm_59 rfl rfl ?_
    refine v_aload_n B dX8_drawAndConfirm_60 rfl rfl ?_
    obtain ⟨a13, z14, z15, a16, a17, a18, a19, a20, h21, t22, r23, r24, t25, t26, t27, t28, t29⟩ : okPairing τ (σ7 h) := G10 h _ t_h
    refine u_get B Z (C := RX8) (T := TX8) (N := 8) (ci := 8) hi_Pairing_drawAndConfirm_X8 t_h h21 rfl 7 (by decide +kernel) (List.mem_of_getElem? (i := 7) rfl) rfl dX8_drawAndConfirm_61 ?_
    refine u_callVv B Z hz (n := 1) (As := [.ref a20]) (rest := []) (c_Row_putBytes l D K Z _ _ _ _ g a20 t_g t29 σ7 G10) gd_Pairing_drawAndConfirm_Row_putBytes_99 rfl rfl rfl (by decide +kernel) ⟨Nat.le_trans (by decide +kernel) hR.1, Nat.le_trans (by decide +kernel) hR.2⟩ t_g (cls_Row G10 t_g) rfl rfl rfl rfl (Nat.le_of_ble_eq_true rfl) dX8_drawAndConfirm_64 ⟨Nat.zero_le _, Nat.zero_le _⟩ (fun σ30 p31 => ?_)
    obtain ⟨G33, F34⟩ := p31
    have F35 := F12.call F34 (by first | rfl | simp)
    have h36 := (F34 h _ t_h (by first | rfl | simp)).trans h21
    exact hend σ30 _ _ G33 F35 dX8_drawAndConfirm_67
  have J13 : ∀ (k13 : Nat) (σ_13 : Nat → va_E) (z13_3 : Int), (2147483648 - z13_3).toNat ≤ k13 → Good K τ σ_13 → Fr τ [(33, 0), (2, 34), (2, 35), (2, 31), (2, 32), (2, π), (1, π)] σ0 σ_13 → (0 ≤ z13_3 ∧ z13_3 ≤ 16) → V p l e R s m args below meth c 4 D A Q (0, 0) (fd dom σ_13) [(0, .ref h), (1, .ref d), (2, .ref g), (3, .int (iI z13_3))] 13 [] := by
    intro k13
    induction k13 with
    | zero => intro σ_13 z13_3 m13 G_13 F_13 r13_3; omega
    | succ k13 IH13 =>
      intro σ_13 z13_3 m13 G_13 F_13 r13_3
      refine v_iload_n B dX8_drawAndConfirm_13 rfl rfl ?_
      refine v_aload_n B dX8_drawAndConfirm_14 rfl rfl ?_
      obtain ⟨a37, z38, z39, a40, a41, a42, a43, a44, h45, t46, r47, r48, t49, t50, t51, t52, t53⟩ : okPairing τ (σ_13 h) := G_13 h _ t_h
      refine u_get B Z (C := RX8) (T := TX8) (N := 8) (ci := 8) hi_Pairing_drawAndConfirm_X8 t_h h45 rfl 7 (by decide +kernel) (List.mem_of_getElem? (i := 7) rfl) rfl dX8_drawAndConfirm_15 ?_
      obtain ⟨f54, h55, r56, e57⟩ : okB K 16 (σ_13 a44) := G_13 a44 _ t53
      refine u_alen B Z (t0 := 0) (v := 16) t53 h55 rfl (by first | rfl | omega) dX8_drawAndConfirm_18 ?_
      refine u_icmp_ge B (tgt := 49) (by omega) (by omega) dX8_drawAndConfirm_19 (by decide +kernel) (fun c58 => ?_) (fun c58 => ?_)
      · refine v_lv [0, 1, 2] rfl ?_
        exact J49 σ_13 G_13 F_13
      · refine v_iload_n B dX8_drawAndConfirm_22 rfl rfl ?_
        refine v_aload_n B dX8_drawAndConfirm_23 rfl rfl ?_
        refine u_get B Z (C := RX8) (T := TX8) (N := 8) (ci := 8) hi_Pairing_drawAndConfirm_X8 t_h h45 rfl 5 (by decide +kernel) (List.mem_of_getElem? (i := 34) rfl) rfl dX8_drawAndConfirm_24 ?_
        obtain ⟨f59, h60, r61, e62⟩ : okB K 16 (σ_13 a42) := G_13 a42 _ t51
        refine u_alen B Z (t0 := 0) (v := 16) t51 h60 rfl (by first | rfl | omega) dX8_drawAndConfirm_27 ?_
        refine u_icmp_ge B (tgt := 49) (by omega) (by omega) dX8_drawAndConfirm_28 (by decide +kernel) (fun c63 => by omega) (fun c63 => ?_)
        refine v_aload_n B dX8_drawAndConfirm_31 rfl rfl ?_
        refine u_get B Z (C := RX8) (T := TX8) (N := 8) (ci := 8) hi_Pairing_drawAndConfirm_X8 t_h h45 rfl 7 (by decide +kernel) (List.mem_of_getElem? (i := 7) rfl) rfl dX8_drawAndConfirm_32 ?_
        refine v_iload_n B dX8_drawAndConfirm_35 rfl rfl ?_
        refine v_aload_n B dX8_drawAndConfirm_36 rfl rfl ?_
        refine u_get B Z (C := RX8) (T := TX8) (N := 8) (ci := 8) hi_Pairing_drawAndConfirm_X8 t_h h45 rfl 5 (by decide +kernel) (List.mem_of_getElem? (i := 34) rfl) rfl dX8_drawAndConfirm_37 ?_
        refine v_iload_n B dX8_drawAndConfirm_40 rfl rfl ?_
        obtain ⟨z64, e65, r66⟩ := e62 (z13_3 : Int).toNat
        refine u_iald B Z (t0 := 0) t51 h60 rfl (by omega) e65 dX8_drawAndConfirm_41 ?_
        refine u_iast B Z (t0 := 0) t53 h55 rfl (by omega) dX8_drawAndConfirm_42 (fun σ67 h68 n69 => ?_)
        have G70 := G_13.put t53 (⟨_, h68, r56, el_upd e57 (by omega) _⟩ : Ok K τ (2, 35, 16) (σ67 a44)) n69
        have F71 := F_13.put t53 (by simp) n69
        have h72 := (n69 h (ne_ty t_h t53 (by simp))).trans h45
        have h73 := (n69 a42 (ne_ty t51 t53 (by simp))).trans h60
        refine v_iinc B (k := 3) (v := iI (z13_3 + 1)) (lv' := [(3, .int (iI (z13_3 + 1))), (0, .ref h), (1, .ref d), (2, .ref g)]) dX8_drawAndConfirm_43 rfl ((iI_add _ _).trans (congrArg iI (by omega))) (by decide +kernel) rfl ?_
        refine v_goto B (tgt := 13) dX8_drawAndConfirm_46 (by decide +kernel) ?_
        refine v_lv [1, 2, 3, 0] rfl ?_
        exact IH13 σ67 (z13_3 + 1) (by omega) G70 F71 ⟨by omega, by omega⟩
  refine v_aload_n B dX8_drawAndConfirm_0 rfl rfl ?_
  refine v_aload_n B dX8_drawAndConfirm_1 rfl rfl ?_
  obtain ⟨a74, z75, z76, a77, a78, a79, a80, a81, h82, t83, r84, r85, t86, t87, t88, t89, t90⟩ : okPairing τ (σ0 h) := G0 h _ t_h
  refine u_get B Z (C := RX8) (T := TX8) (N := 8) (ci := 8) hi_Pairing_drawAndConfirm_X8 t_h h82 rfl 5 (by decide +kernel) (List.mem_of_getElem? (i := 34) rfl) rfl dX8_drawAndConfirm_2 ?_
  refine v_iconst B (v := iI 0) dX8_drawAndConfirm_5 rfl ?_
  refine v_bipush B (v := iI 16) dX8_drawAndConfirm_6 (by decide +kernel) ?_
  refine u_callVv B Z hz (n := 3) (As := [.ref a79, .int (iI 0), .int (iI 16)]) (rest := []) (c_drawIntoB l D K Z _ _ _ _ d a79 0 16 t_d t88 ⟨by omega, by omega⟩ ⟨by omega, by omega⟩ σ0 G0) gd_Pairing_drawAndConfirm_drawIntoB_121 rfl rfl rfl (by decide +kernel) ⟨Nat.le_trans (by decide +kernel) hR.1, Nat.le_trans (by decide +kernel) hR.2⟩ t_d (cls_Device G0 t_d) rfl rfl rfl rfl (Nat.le_of_ble_eq_true rfl) dX8_drawAndConfirm_8 ⟨Nat.zero_le _, Nat.zero_le _⟩ (fun σ91 p92 => ?_)
  obtain ⟨G94, F95⟩ := p92
  have F96 := F0.call F95 (by first | rfl | simp)
  have h97 := (F95 h _ t_h (by first | rfl | simp)).trans h82
  refine v_iconst B (v := iI 0) dX8_drawAndConfirm_11 rfl ?_
  refine v_istore_n B (lv' := [(3, .int (iI 0)), (0, .ref h), (1, .ref d), (2, .ref g)]) dX8_drawAndConfirm_12 rfl (by decide +kernel) rfl ?_
  refine v_lv [1, 2, 3, 0] rfl ?_
  exact J13 _ σ91 0 (Nat.le_refl _) G94 F96 ⟨by omega, by omega⟩
set_option maxRecDepth 100000 in
theorem c_Pairing_drawAndConfirm (l : Launch) (D : va_G) (K : Nat → ClassId) {τ : Nat → Option Ty} {dom : List Nat} (Z : Sk τ dom) (zb zL : Nat) (zx : Nat → Int32) (zs : Nat → Nat) {π : Nat} (h : Nat) (d : Nat) (g : Nat) (t_h : τ h = some (38, 0, 0)) (t_d : τ d = some (33, 0, 0)) (t_g : τ g = some (1, π, 0)) (σ0 : Nat → va_E) (G0 : Good K τ σ0) : MZ l yX8_drawAndConfirm wp_Pairing_drawAndConfirm ({ frames := 2, cells := 0, slots := 0, locals := 53 }) D (tysA K) [.ref h, .ref d, .ref g] (fd dom σ0) zb zL zx zs (Qv D (fun σ' => Good K τ σ' ∧ Fr τ [(33, 0), (2, 34), (2, 35), (2, 31), (2, 32), (2, π), (1, π)] σ0 σ') (fun σ' => fd dom σ')) 0 0 := by
  refine mz_of (cc := cX8_drawAndConfirm) (maxL := 4) (ret := none) (by decide +kernel) rfl (Nat.le_of_ble_eq_true rfl) ?_
  intro p e s m below meth c A B hr hlk _ hz
  exact b_Pairing_drawAndConfirm ⟨Nat.le_refl _, Nat.le_refl _⟩ B Z hz h d g t_h t_d t_g σ0 G0 (fun σ' lv pc G F hd => v_vret B hr hlk σ' ⟨G, F⟩ rfl (Nat.le_refl _) (Nat.le_refl _) hd)

def wp_Pairing_fail : List Cond := .code yX8_fail cX8_fail 4 none :: (([.methodLink RX8 96 yX9_put, .instanceMethod yX9_put, .selects RX9 yX9_put yX9_put, .initialized RX9, .code yX9_put cX9_put 2 none, .fieldLink RX9 21 "LowEnergy$Row" "size" "I", .fieldLink RX9 15 "LowEnergy$Row" "bytes" "[I", .fieldLink RX8 47 "LowEnergy$Pairing" "step" "I", .methodLink RX8 82 yX4_note, .instanceMethod yX4_note, .selects RX4 yX4_note yX4_note, .initialized RX4, .code yX4_note cX4_note 6 none, .fieldLink RX4 29 "LowEnergy$Diary" "count" "I", .fieldLink RX4 36 "LowEnergy$Diary" "head" "I", .fieldLink RX4 11 "LowEnergy$Diary" "kinds" "[I", .fieldLink RX4 17 "LowEnergy$Diary" "numbers" "[[I", .fieldLink RX4 22 "LowEnergy$Diary" "rows" "[LLowEnergy$Row;", .methodLink RX4 39 yX9_clear, .instanceMethod yX9_clear, .selects RX9 yX9_clear yX9_clear, .code yX9_clear cX9_clear 1 none, .fieldLink RX4 33 "LowEnergy$Diary" "lost" "I"] : List Cond) ++ (wsX90 ++ (wsX80 ++ (wsX40 ++ ([])))))
theorem hi_Pairing_fail_X9 : ∀ x ∈ u_ws RX9 TX9 2, x ∈ wp_Pairing_fail := fun _ h => List.mem_cons_of_mem _ (List.mem_append_right _ (List.mem_append_left _ h))
theorem hi_Pairing_fail_X8 : ∀ x ∈ u_ws RX8 TX8 8, x ∈ wp_Pairing_fail := fun _ h => List.mem_cons_of_mem _ (List.mem_append_right _ (List.mem_append_right _ (List.mem_append_left _ h)))
theorem hi_Pairing_fail_X4 : ∀ x ∈ u_ws RX4 TX4 6, x ∈ wp_Pairing_fail := fun _ h => List.mem_cons_of_mem _ (List.mem_append_right _ (List.mem_append_right _ (List.mem_append_right _ (List.mem_append_left _ h))))
set_option maxRecDepth 100000 in
theorem gd_Pairing_fail_Row_put_96 : GoodIn wp_Pairing_fail (wsV RX8 96 RX9 yX9_put wp_Row_put) := goodIn_app (goodIn_r _ [1, 2, 3, 4] rfl rfl) (goodIn_ca (goodIn_r _ [5, 6, 7] rfl rfl) (goodIn_app (goodIn_cls hi_Pairing_fail_X9 gw_X9) (goodIn_nil)))
set_option maxRecDepth 100000 in
theorem gd_Pairing_fail_Diary_note_82 : GoodIn wp_Pairing_fail (wsV RX8 82 RX4 yX4_note wp_Diary_note) := goodIn_app (goodIn_r _ [9, 10, 11, 12] rfl rfl) (goodIn_ca (goodIn_r _ [13, 14, 15, 16, 17, 18, 19, 20, 21, 4, 22, 6, 23] rfl rfl) (goodIn_app (goodIn_cls hi_Pairing_fail_X4 gw_X4) (goodIn_app (goodIn_cls hi_Pairing_fail_X9 gw_X9) (goodIn_nil))))
set_option maxHeartbeats 4000000 in
set_option maxRecDepth 100000 in
theorem b_Pairing_fail {p : Program} {l : Launch} {e : Env} {R : Room} {s : State} {m : MethodId} {args : Array Value} {below : List Frame} {meth : Method} {c : Code} {D : va_G} {K : Nat → ClassId} {A : Nat → Prop} {Q : State → Prop} {τ : Nat → Option Ty} {dom : List Nat} {zb zL : Nat} {zx : Nat → Int32} {zs : Nat → Nat} {π : Nat} (hR : 2 ≤ R.frames ∧ 45 ≤ R.locals) (B : Bx p s m args c cX8_fail 4 RX8 wp_Pairing_fail D (tysA K) A) (Z : Sk τ dom) (hz : ZL zb zL zx zs A s s.heap) (h : Nat) (x1 : Int) (d : Nat) (g : Nat) (t_h : τ h = some (38, 0, 0)) (r_x1 : -2147483648 ≤ x1 ∧ x1 ≤ 2147483647) (t_d : τ d = some (34, 0, 0)) (t_g : τ g = some (1, π, 0)) (σ0 : Nat → va_E) (G0 : Good K τ σ0) (hend : ∀ (σ' : Nat → va_E) (lv : List (Nat × Value)) (pc : Nat), Good K τ σ' → Fr τ [(2, π), (1, π), (38, 0), (3, 23), (3, 22), (1, 16), (34, 0)] σ0 σ' → decode cX8_fail pc = .ok (.return_, 1) → V p l e R s m args below meth c 4 D A Q (0, 0) (fd dom σ') lv pc []) : V p l e R s m args below meth c 4 D A Q (0, 0) (fd dom σ0) [(0, .ref h), (1, .int (iI x1)), (2, .ref d), (3, .ref g)] 0 [] := by
  have F0 : Fr τ [(2, π), (1, π), (38, 0), (3, 23), (3, 22), (1, 16), (34, 0)] σ0 σ0 := Fr.rf
  refine v_aload_n B dX8_fail_0 rfl rfl ?_
  refine v_iconst B (v := iI 5) dX8_fail_1 rfl ?_
  refine u_callVv B Z hz (n := 1) (As := [.int (iI 5)]) (rest := []) (c_Row_put l D K Z _ _ _ _ g 5 t_g ⟨by omega, by omega⟩ σ0 G0) gd_Pairing_fail_Row_put_96 rfl rfl rfl (by decide +kernel) ⟨Nat.le_trans (by decide +kernel) hR.1, Nat.le_trans (by decide +kernel) hR.2⟩ t_g (cls_Row G0 t_g) rfl rfl rfl rfl (Nat.le_of_ble_eq_true rfl) dX8_fail_2 ⟨Nat.zero_le _, Nat.zero_le _⟩ (fun σ1 p2 => ?_)
  obtain ⟨G4, F5⟩ := p2
  have F6 := F0.call F5 (by first | rfl | simp)
  refine v_aload_n B dX8_fail_5 rfl rfl ?_
  refine v_iload_n B dX8_fail_6 rfl rfl ?_
  refine u_callVv B Z hz (n := 1) (As := [.int (iI x1)]) (rest := []) (c_Row_put l D K Z _ _ _ _ g x1 t_g ⟨by omega, by omega⟩ σ1 G4) gd_Pairing_fail_Row_put_96 rfl rfl rfl (by decide +kernel) ⟨Nat.le_trans (by decide +kernel) hR.1, Nat.le_trans (by decide +kernel) hR.2⟩ t_g (cls_Row G4 t_g) rfl rfl rfl rfl (Nat.le_of_ble_eq_true rfl) dX8_fail_7 ⟨Nat.zero_le _, Nat.zero_le _⟩ (fun σ7 p8 => ?_)
  obtain ⟨G10, F11⟩ := p8
  have F12 := F6.call F11 (by first | rfl | simp)
  refine v_aload_n B dX8_fail_10 rfl rfl ?_
  refine v_iconst B (v := iI 0) dX8_fail_11 rfl ?_
  obtain ⟨a13, z14, z15, a16, a17, a18, a19, a20, h21, t22, r23, r24, t25, t26, t27, t28, t29⟩ : okPairing τ (σ7 h) := G10 h _ t_h
  refine u_put B Z (C := RX8) (T := TX8) (N := 8) (ci := 8) hi_Pairing_fail_X8 t_h h21 rfl 2 (by decide +kernel) tyX8 tyX8_ok nmX8 (List.mem_of_getElem? (i := 8) rfl) rfl (ty := .int) (tyX8_ok 2 (by decide +kernel)) rfl rfl (Nat.le_of_ble_eq_true rfl) (fs' := [.ref a13, .int (iI z14), .int (iI 0), .ref a16, .ref a17, .ref a18, .ref a19, .ref a20]) rfl dX8_fail_12 (fun σ30 h31 n32 => ?_)
  have G33 := G10.put t_h (⟨a13, z14, 0, a16, a17, a18, a19, a20, h31, t22, ⟨by omega, by omega⟩, ⟨by omega, by omega⟩, t25, t26, t27, t28, t29⟩ : Ok K τ (38, 0, 0) (σ30 h)) n32
  have F34 := F12.put t_h (by simp) n32
  refine v_aload_n B dX8_fail_15 rfl rfl ?_
  refine v_bipush B (v := iI 11) dX8_fail_16 (by decide +kernel) ?_
  refine v_iload_n B dX8_fail_18 rfl rfl ?_
  refine v_iconst B (v := iI 0) dX8_fail_19 rfl ?_
  refine v_iconst B (v := iI 0) dX8_fail_20 rfl ?_
  refine u_callVv B Z hz (n := 4) (As := [.int (iI 11), .int (iI x1), .int (iI 0), .int (iI 0)]) (rest := []) (c_Diary_note l D K Z _ _ _ _ d 11 x1 0 0 t_d ⟨by omega, by omega⟩ ⟨by omega, by omega⟩ ⟨by omega, by omega⟩ ⟨by omega, by omega⟩ σ30 G33) gd_Pairing_fail_Diary_note_82 rfl rfl rfl (by decide +kernel) ⟨Nat.le_trans (by decide +kernel) hR.1, Nat.le_trans (by decide +kernel) hR.2⟩ t_d (cls_Diary G33 t_d) rfl rfl rfl rfl (Nat.le_of_ble_eq_true rfl) dX8_fail_21 ⟨Nat.zero_le _, Nat.zero_le _⟩ (fun σ35 p36 => ?_)
  obtain ⟨G38, F39⟩ := p36
  have F40 := F34.call F39 (by first | rfl | simp)
  have h41 := (F39 h _ t_h (by first | rfl | simp)).trans h31
  exact hend σ35 _ _ G38 F40 dX8_fail_24
set_option maxRecDepth 100000 in
theorem c_Pairing_fail (l : Launch) (D : va_G) (K : Nat → ClassId) {τ : Nat → Option Ty} {dom : List Nat} (Z : Sk τ dom) (zb zL : Nat) (zx : Nat → Int32) (zs : Nat → Nat) {π : Nat} (h : Nat) (x1 : Int) (d : Nat) (g : Nat) (t_h : τ h = some (38, 0, 0)) (r_x1 : -2147483648 ≤ x1 ∧ x1 ≤ 2147483647) (t_d : τ d = some (34, 0, 0)) (t_g : τ g = some (1, π, 0)) (σ0 : Nat → va_E) (G0 : Good K τ σ0) : MZ l yX8_fail wp_Pairing_fail ({ frames := 2, cells := 0, slots := 0, locals := 45 }) D (tysA K) [.ref h, .int (iI x1), .ref d, .ref g] (fd dom σ0) zb zL zx zs (Qv D (fun σ' => Good K τ σ' ∧ Fr τ [(2, π), (1, π), (38, 0), (3, 23), (3, 22), (1, 16), (34, 0)] σ0 σ') (fun σ' => fd dom σ')) 0 0 := by
  refine mz_of (cc := cX8_fail) (maxL := 4) (ret := none) (by decide +kernel) rfl (Nat.le_of_ble_eq_true rfl) ?_
  intro p e s m below meth c A B hr hlk _ hz
  exact b_Pairing_fail ⟨Nat.le_refl _, Nat.le_refl _⟩ B Z hz h x1 d g t_h r_x1 t_d t_g σ0 G0 (fun σ' lv pc G F hd => v_vret B hr hlk σ' ⟨G, F⟩ rfl (Nat.le_refl _) (Nat.le_refl _) hd)

def wp_Pairing_hearRequest : List Cond := .code yX8_hearRequest cX8_hearRequest 4 none :: (([.fieldLink RX8 9 "LowEnergy$Pairing" "passkey" "I", .methodLink RX8 39 yX8_keepOffer, .instanceMethod yX8_keepOffer, .selects RX8 yX8_keepOffer yX8_keepOffer, .initialized RX8, .code yX8_keepOffer cX8_keepOffer 4 none, .fieldLink RX8 19 "LowEnergy$Pairing" "bothMessages" "[I", .methodLink RX8 55 yX9_at, .instanceMethod yX9_at, .selects RX9 yX9_at yX9_at, .initialized RX9, .code yX9_at cX9_at 2 (some .int), .fieldLink RX9 21 "LowEnergy$Row" "size" "I", .fieldLink RX9 15 "LowEnergy$Row" "bytes" "[I", .methodLink RX8 43 yX8_useKey, .instanceMethod yX8_useKey, .selects RX8 yX8_useKey yX8_useKey, .code yX8_useKey cX8_useKey 3 none, .fieldLink RX8 15 "LowEnergy$Pairing" "temporaryKey" "[I", .methodLink RX8 35 yX8_putOffer, .static yX8_putOffer, .code yX8_putOffer cX8_putOffer 2 none, .methodLink RX8 96 yX9_put, .instanceMethod yX9_put, .selects RX9 yX9_put yX9_put, .code yX9_put cX9_put 2 none, .fieldLink RX8 47 "LowEnergy$Pairing" "step" "I", .methodLink RX8 88 yX8_fail, .instanceMethod yX8_fail, .selects RX8 yX8_fail yX8_fail, .code yX8_fail cX8_fail 4 none, .methodLink RX8 82 yX4_note, .instanceMethod yX4_note, .selects RX4 yX4_note yX4_note, .initialized RX4, .code yX4_note cX4_note 6 none, .fieldLink RX4 29 "LowEnergy$Diary" "count" "I", .fieldLink RX4 36 "LowEnergy$Diary" "head" "I", .fieldLink RX4 11 "LowEnergy$Diary" "kinds" "[I", .fieldLink RX4 17 "LowEnergy$Diary" "numbers" "[[I", .fieldLink RX4 22 "LowEnergy$Diary" "rows" "[LLowEnergy$Row;", .methodLink RX4 39 yX9_clear, .instanceMethod yX9_clear, .selects RX9 yX9_clear yX9_clear, .code yX9_clear cX9_clear 1 none, .fieldLink RX4 33 "LowEnergy$Diary" "lost" "I"] : List Cond) ++ (wsX80 ++ (wsX90 ++ (wsX30 ++ (wsX40 ++ ([]))))))
theorem hi_Pairing_hearRequest_X8 : ∀ x ∈ u_ws RX8 TX8 8, x ∈ wp_Pairing_hearRequest := fun _ h => List.mem_cons_of_mem _ (List.mem_append_right _ (List.mem_append_left _ h))
theorem hi_Pairing_hearRequest_X9 : ∀ x ∈ u_ws RX9 TX9 2, x ∈ wp_Pairing_hearRequest := fun _ h => List.mem_cons_of_mem _ (List.mem_append_right _ (List.mem_append_right _ (List.mem_append_left _ h)))
theorem hi_Pairing_hearRequest_X3 : ∀ x ∈ u_ws RX3 TX3 19, x ∈ wp_Pairing_hearRequest := fun _ h => List.mem_cons_of_mem _ (List.mem_append_right _ (List.mem_append_right _ (List.mem_append_right _ (List.mem_append_left _ h))))
theorem hi_Pairing_hearRequest_X4 : ∀ x ∈ u_ws RX4 TX4 6, x ∈ wp_Pairing_hearRequest := fun _ h => List.mem_cons_of_mem _ (List.mem_append_right _ (List.mem_append_right _ (List.mem_append_right _ (List.mem_append_right _ (List.mem_append_left _ h)))))
set_option maxRecDepth 100000 in
theorem gd_Pairing_hearRequest_Pairing_keepOffer_39 : GoodIn wp_Pairing_hearRequest (wsV RX8 39 RX8 yX8_keepOffer wp_Pairing_keepOffer) := goodIn_app (goodIn_r _ [2, 3, 4, 5] rfl rfl) (goodIn_ca (goodIn_r _ [6, 7, 8, 9, 10, 11, 12, 13, 14] rfl rfl) (goodIn_app (goodIn_cls hi_Pairing_hearRequest_X8 gw_X8) (goodIn_app (goodIn_cls hi_Pairing_hearRequest_X9 gw_X9) (goodIn_nil))))
set_option maxRecDepth 100000 in
theorem gd_Pairing_hearRequest_Pairing_useKey_43 : GoodIn wp_Pairing_hearRequest (wsV RX8 43 RX8 yX8_useKey wp_Pairing_useKey) := goodIn_app (goodIn_r _ [15, 16, 17, 5] rfl rfl) (goodIn_ca (goodIn_r _ [18, 19] rfl rfl) (goodIn_app (goodIn_cls hi_Pairing_hearRequest_X8 gw_X8) (goodIn_nil)))
set_option maxRecDepth 100000 in
theorem gd_Pairing_hearRequest_Pairing_putOffer_35 : GoodIn wp_Pairing_hearRequest (va_wsS RX8 35 yX8_putOffer wp_Pairing_putOffer) := goodIn_app (goodIn_r _ [20, 21, 5] rfl rfl) (goodIn_ca (goodIn_r _ [22, 23, 24, 25, 11, 26, 13, 14] rfl rfl) (goodIn_app (goodIn_cls hi_Pairing_hearRequest_X9 gw_X9) (goodIn_nil)))
set_option maxRecDepth 100000 in
theorem gd_Pairing_hearRequest_Pairing_fail_88 : GoodIn wp_Pairing_hearRequest (wsV RX8 88 RX8 yX8_fail wp_Pairing_fail) := goodIn_app (goodIn_r _ [28, 29, 30, 5] rfl rfl) (goodIn_ca (goodIn_r _ [31, 23, 24, 25, 11, 26, 13, 14, 27, 32, 33, 34, 35, 36, 37, 38, 39, 40, 41, 42, 43, 44, 45, 46] rfl rfl) (goodIn_app (goodIn_cls hi_Pairing_hearRequest_X9 gw_X9) (goodIn_app (goodIn_cls hi_Pairing_hearRequest_X8 gw_X8) (goodIn_app (goodIn_cls hi_Pairing_hearRequest_X4 gw_X4) (goodIn_nil)))))
set_option maxHeartbeats 4000000 in
set_option maxRecDepth 100000 in
theorem b_Pairing_hearRequest {p : Program} {l : Launch} {e : Env} {R : Room} {s : State} {m : MethodId} {args : Array Value} {below : List Frame} {meth : Method} {c : Code} {D : va_G} {K : Nat → ClassId} {A : Nat → Prop} {Q : State → Prop} {τ : Nat → Option Ty} {dom : List Nat} {zb zL : Nat} {zx : Nat → Int32} {zs : Nat → Nat} (hR : 3 ≤ R.frames ∧ 68 ≤ R.locals) (B : Bx p s m args c cX8_hearRequest 4 RX8 wp_Pairing_hearRequest D (tysA K) A) (Z : Sk τ dom) (hz : ZL zb zL zx zs A s s.heap) (h : Nat) (d : Nat) (w0 : Nat) (g : Nat) (t_h : τ h = some (38, 0, 0)) (t_d : τ d = some (33, 0, 0)) (t_w0 : τ w0 = some (1, 12, 0)) (t_g : τ g = some (1, 8, 0)) (σ0 : Nat → va_E) (G0 : Good K τ σ0) (hend : ∀ (σ' : Nat → va_E) (lv : List (Nat × Value)) (pc : Nat), Good K τ σ' → Fr τ [(2, 33), (3, 46), (2, 8), (1, 8), (38, 0), (3, 23), (3, 22), (1, 16), (34, 0)] σ0 σ' → decode cX8_hearRequest pc = .ok (.return_, 1) → V p l e R s m args below meth c 4 D A Q (0, 0) (fd dom σ') lv pc []) : V p l e R s m args below meth c 4 D A Q (0, 0) (fd dom σ0) [(0, .ref h), (1, .ref d), (2, .ref w0), (3, .ref g)] 0 [] := by
  have F0 : Fr τ [(2, 33), (3, 46), (2, 8), (1, 8), (38, 0), (3, 23), (3, 22), (1, 16), (34, 0)] σ0 σ0 := Fr.rf
  refine v_aload_n B dX8_hearRequest_0 rfl rfl ?_
  obtain ⟨a1, z2, z3, a4, a5, a6, a7, a8, h9, t10, r11, r12, t13, t14, t15, t16, t17⟩ : okPairing τ (σ0 h) := G0 h _ t_h
  refine u_get B Z (C := RX8) (T := TX8) (N := 8) (ci := 8) hi_Pairing_hearRequest_X8 t_h h9 rfl 1 (by decide +kernel) (List.mem_of_getElem? (i := 1) rfl) rfl dX8_hearRequest_1 ?_
  refine v_iconst B (v := iI (-1)) dX8_hearRequest_4 rfl ?_
  refine u_icmp_ne B (tgt := 19) (by omega) (by omega) dX8_hearRequest_5 (by decide +kernel) (fun c18 => ?_) (fun c18 => ?_)
  · refine v_aload_n B dX8_hearRequest_19 rfl rfl ?_
    refine v_aload_n B dX8_hearRequest_20 rfl rfl ?_
    refine v_iconst B (v := iI 2) dX8_hearRequest_21 rfl ?_
    refine u_callVv B Z hz (n := 2) (As := [.ref w0, .int (iI 2)]) (rest := []) (c_Pairing_keepOffer l D K Z _ _ _ _ h w0 2 t_h t_w0 ⟨by omega, by omega⟩ σ0 G0) gd_Pairing_hearRequest_Pairing_keepOffer_39 rfl rfl rfl (by decide +kernel) ⟨Nat.le_trans (by decide +kernel) hR.1, Nat.le_trans (by decide +kernel) hR.2⟩ t_h (cls_Pairing G0 t_h) rfl rfl rfl rfl (Nat.le_of_ble_eq_true rfl) dX8_hearRequest_22 ⟨Nat.zero_le _, Nat.zero_le _⟩ (fun σ19 p20 => ?_)
    obtain ⟨G22, F23⟩ := p20
    have F24 := F0.call F23 (by first | rfl | simp)
    have h25 := (F23 h _ t_h (by first | rfl | simp)).trans h9
    refine v_aload_n B dX8_hearRequest_25 rfl rfl ?_
    refine v_aload_n B dX8_hearRequest_26 rfl rfl ?_
    refine u_get B Z (C := RX8) (T := TX8) (N := 8) (ci := 8) hi_Pairing_hearRequest_X8 t_h h25 rfl 1 (by decide +kernel) (List.mem_of_getElem? (i := 1) rfl) rfl dX8_hearRequest_27 ?_
    refine u_callVv B Z hz (n := 1) (As := [.int (iI z2)]) (rest := []) (c_Pairing_useKey l D K Z _ _ _ _ h z2 t_h ⟨by omega, by omega⟩ σ19 G22) gd_Pairing_hearRequest_Pairing_useKey_43 rfl rfl rfl (by decide +kernel) ⟨Nat.le_trans (by decide +kernel) hR.1, Nat.le_trans (by decide +kernel) hR.2⟩ t_h (cls_Pairing G22 t_h) rfl rfl rfl rfl (Nat.le_of_ble_eq_true rfl) dX8_hearRequest_30 ⟨Nat.zero_le _, Nat.zero_le _⟩ (fun σ26 p27 => ?_)
    obtain ⟨G29, F30⟩ := p27
    have F31 := F24.call F30 (by first | rfl | simp)
    have h32 := (F30 h _ t_h (by first | rfl | simp)).trans h25
    refine v_iconst B (v := iI 2) dX8_hearRequest_33 rfl ?_
    refine v_aload_n B dX8_hearRequest_34 rfl rfl ?_
    refine u_callSv B Z hz (n := 2) (As := [.int (iI 2), .ref g]) (rest := []) (c_Pairing_putOffer l D K Z _ _ _ _ 2 g ⟨by omega, by omega⟩ t_g σ26 G29) gd_Pairing_hearRequest_Pairing_putOffer_35 rfl rfl rfl (by decide +kernel) ⟨Nat.le_trans (by decide +kernel) hR.1, Nat.le_trans (by decide +kernel) hR.2⟩ rfl rfl (Nat.le_of_ble_eq_true rfl) dX8_hearRequest_35 ⟨Nat.zero_le _, Nat.zero_le _⟩ (fun σ33 p34 => ?_)
    obtain ⟨G36, F37⟩ := p34
    have F38 := F31.call F37 (by first | rfl | simp)
    have h39 := (F37 h _ t_h (by first | rfl | simp)).trans h32
    refine v_aload_n B dX8_hearRequest_38 rfl rfl ?_
    refine v_aload_n B dX8_hearRequest_39 rfl rfl ?_
    refine v_bipush B (v := iI 9) dX8_hearRequest_40 (by decide +kernel) ?_
    refine u_callVv B Z hz (n := 2) (As := [.ref g, .int (iI 9)]) (rest := []) (c_Pairing_keepOffer l D K Z _ _ _ _ h g 9 t_h t_g ⟨by omega, by omega⟩ σ33 G36) gd_Pairing_hearRequest_Pairing_keepOffer_39 rfl rfl rfl (by decide +kernel) ⟨Nat.le_trans (by decide +kernel) hR.1, Nat.le_trans (by decide +kernel) hR.2⟩ t_h (cls_Pairing G36 t_h) rfl rfl rfl rfl (Nat.le_of_ble_eq_true rfl) dX8_hearRequest_42 ⟨Nat.zero_le _, Nat.zero_le _⟩ (fun σ40 p41 => ?_)
    obtain ⟨G43, F44⟩ := p41
    have F45 := F38.call F44 (by first | rfl | simp)
    have h46 := (F44 h _ t_h (by first | rfl | simp)).trans h39
    refine v_aload_n B dX8_hearRequest_45 rfl rfl ?_
    refine v_iconst B (v := iI 2) dX8_hearRequest_46 rfl ?_
    refine u_put B Z (C := RX8) (T := TX8) (N := 8) (ci := 8) hi_Pairing_hearRequest_X8 t_h h46 rfl 2 (by decide +kernel) tyX8 tyX8_ok nmX8 (List.mem_of_getElem? (i := 27) rfl) rfl (ty := .int) (tyX8_ok 2 (by decide +kernel)) rfl rfl (Nat.le_of_ble_eq_true rfl) (fs' := [.ref a1, .int (iI z2), .int (iI 2), .ref a4, .ref a5, .ref a6, .ref a7, .ref a8]) rfl dX8_hearRequest_47 (fun σ47 h48 n49 => ?_)
    have G50 := G43.put t_h (⟨a1, z2, 2, a4, a5, a6, a7, a8, h48, t10, ⟨by omega, by omega⟩, ⟨by omega, by omega⟩, t13, t14, t15, t16, t17⟩ : Ok K τ (38, 0, 0) (σ47 h)) n49
    have F51 := F45.put t_h (by simp) n49
    exact hend σ47 _ _ G50 F51 dX8_hearRequest_50
  · refine v_aload_n B dX8_hearRequest_8 rfl rfl ?_
    refine v_iconst B (v := iI 5) dX8_hearRequest_9 rfl ?_
    refine v_aload_n B dX8_hearRequest_10 rfl rfl ?_
    obtain ⟨z52, yy53, z54, z55, z56, z57, a58, z59, yy60, a61, yy62, a63, a64, a65, a66, a67, a68, a69, a70, h71, r72, r73, r74, r75, r76, r77, t78, r79, r80, t81, r82, t83, t84, t85, t86, t87, t88, t89, t90⟩ : okDevice τ (σ0 d) := G0 d _ t_d
    refine u_getN B Z (C := RX3) (T := TX3) (N := 19) (ci := 3) hi_Pairing_hearRequest_X3 t_d h71 rfl 17 (by decide +kernel) (List.mem_of_getElem? (i := 95) rfl) rfl dX8_hearRequest_11 ?_
    refine v_aload_n B dX8_hearRequest_14 rfl rfl ?_
    refine u_callVv B Z hz (n := 3) (As := [.int (iI 5), .ref a69, .ref g]) (rest := []) (c_Pairing_fail l D K Z _ _ _ _ h 5 a69 g t_h ⟨by omega, by omega⟩ t89 t_g σ0 G0) gd_Pairing_hearRequest_Pairing_fail_88 rfl rfl rfl (by decide +kernel) ⟨Nat.le_trans (by decide +kernel) hR.1, Nat.le_trans (by decide +kernel) hR.2⟩ t_h (cls_Pairing G0 t_h) rfl rfl rfl rfl (Nat.le_of_ble_eq_true rfl) dX8_hearRequest_15 ⟨Nat.zero_le _, Nat.zero_le _⟩ (fun σ91 p92 => ?_)
    obtain ⟨G94, F95⟩ := p92
    have F96 := F0.call F95 (by first | rfl | simp)
    have h97 := (F95 d _ t_d (by first | rfl | simp)).trans h71
    exact hend σ91 _ _ G94 F96 dX8_hearRequest_18
set_option maxRecDepth 100000 in
theorem c_Pairing_hearRequest (l : Launch) (D : va_G) (K : Nat → ClassId) {τ : Nat → Option Ty} {dom : List Nat} (Z : Sk τ dom) (zb zL : Nat) (zx : Nat → Int32) (zs : Nat → Nat) (h : Nat) (d : Nat) (w0 : Nat) (g : Nat) (t_h : τ h = some (38, 0, 0)) (t_d : τ d = some (33, 0, 0)) (t_w0 : τ w0 = some (1, 12, 0)) (t_g : τ g = some (1, 8, 0)) (σ0 : Nat → va_E) (G0 : Good K τ σ0) : MZ l yX8_hearRequest wp_Pairing_hearRequest ({ frames := 3, cells := 0, slots := 0, locals := 68 }) D (tysA K) [.ref h, .ref d, .ref w0, .ref g] (fd dom σ0) zb zL zx zs (Qv D (fun σ' => Good K τ σ' ∧ Fr τ [(2, 33), (3, 46), (2, 8), (1, 8), (38, 0), (3, 23), (3, 22), (1, 16), (34, 0)] σ0 σ') (fun σ' => fd dom σ')) 0 0 := by
  refine mz_of (cc := cX8_hearRequest) (maxL := 4) (ret := none) (by decide +kernel) rfl (Nat.le_of_ble_eq_true rfl) ?_
  intro p e s m below meth c A B hr hlk _ hz
  exact b_Pairing_hearRequest ⟨Nat.le_refl _, Nat.le_refl _⟩ B Z hz h d w0 g t_h t_d t_w0 t_g σ0 G0 (fun σ' lv pc G F hd => v_vret B hr hlk σ' ⟨G, F⟩ rfl (Nat.le_refl _) (Nat.le_refl _) hd)

def wp_Pairing_hearConfirm : List Cond := .code yX8_hearConfirm cX8_hearConfirm 4 none :: (([.fieldLink RX8 47 "LowEnergy$Pairing" "step" "I", .fieldLink RX8 25 "LowEnergy$Pairing" "kept" "[I", .methodLink RX8 92 yX9_copyTo, .instanceMethod yX9_copyTo, .selects RX9 yX9_copyTo yX9_copyTo, .initialized RX9, .code yX9_copyTo cX9_copyTo 5 none, .fieldLink RX9 21 "LowEnergy$Row" "size" "I", .fieldLink RX9 15 "LowEnergy$Row" "bytes" "[I", .methodLink RX9 9 Lib.Math.max.name, .static Lib.Math.max.name, .initialized "java/lang/Math", .code Lib.Math.max.name Lib.Math.max.code 2 (some .int), .methodLink RX8 68 yX8_drawAndConfirm, .instanceMethod yX8_drawAndConfirm, .selects RX8 yX8_drawAndConfirm yX8_drawAndConfirm, .initialized RX8, .code yX8_drawAndConfirm cX8_drawAndConfirm 4 none, .methodLink RX8 103 yX8_confirm, .instanceMethod yX8_confirm, .selects RX8 yX8_confirm yX8_confirm, .code yX8_confirm cX8_confirm 8 none, .fieldLink RX8 31 "LowEnergy$Pairing" "cipher" "LLowEnergy$Cipher;", .fieldLink RX8 28 "LowEnergy$Pairing" "made" "[I", .methodLink RX8 107 yX1_encipher, .instanceMethod yX1_encipher, .selects RX1 yX1_encipher yX1_encipher, .initialized RX1, .code yX1_encipher cX1_encipher 7 none, .fieldLink RX1 9 "LowEnergy$Cipher" "roundKeys" "[I", .fieldLink RX1 13 "LowEnergy$Cipher" "moved" "[I", .fieldLink RX1 16 "LowEnergy$Cipher" "SBOX" "[I", .constantLong RX8 141 (255), .fieldLink RX8 19 "LowEnergy$Pairing" "bothMessages" "[I", .fieldLink RX8 15 "LowEnergy$Pairing" "temporaryKey" "[I", .methodLink RX8 138 yX1_loadKey, .instanceMethod yX1_loadKey, .selects RX1 yX1_loadKey yX1_loadKey, .code yX1_loadKey cX1_loadKey 6 none, .methodLink RX8 96 yX9_put, .instanceMethod yX9_put, .selects RX9 yX9_put yX9_put, .code yX9_put cX9_put 2 none, .methodLink RX8 99 yX9_putBytes, .instanceMethod yX9_putBytes, .selects RX9 yX9_putBytes yX9_putBytes, .code yX9_putBytes cX9_putBytes 3 none, .fieldLink RX8 22 "LowEnergy$Pairing" "random" "[I", .methodLink RX8 121 yX3_drawInto, .instanceMethod yX3_drawInto, .selects RX3 yX3_drawInto yX3_drawInto, .initialized RX3, .code yX3_drawInto cX3_drawInto 5 none, .methodLink RX3 89 yX3_draw, .instanceMethod yX3_draw, .selects RX3 yX3_draw yX3_draw, .code yX3_draw cX3_draw 1 (some .int), .fieldLink RX3 69 "LowEnergy$Device" "x" "I", .constant RX3 88 (1103515245)] : List Cond) ++ (wsX80 ++ (wsX90 ++ (wsX30 ++ (wsX10 ++ (wsX60 ++ ([])))))))
theorem hi_Pairing_hearConfirm_X8 : ∀ x ∈ u_ws RX8 TX8 8, x ∈ wp_Pairing_hearConfirm := fun _ h => List.mem_cons_of_mem _ (List.mem_append_right _ (List.mem_append_left _ h))
theorem hi_Pairing_hearConfirm_X9 : ∀ x ∈ u_ws RX9 TX9 2, x ∈ wp_Pairing_hearConfirm := fun _ h => List.mem_cons_of_mem _ (List.mem_append_right _ (List.mem_append_right _ (List.mem_append_left _ h)))
theorem hi_Pairing_hearConfirm_X3 : ∀ x ∈ u_ws RX3 TX3 19, x ∈ wp_Pairing_hearConfirm := fun _ h => List.mem_cons_of_mem _ (List.mem_append_right _ (List.mem_append_right _ (List.mem_append_right _ (List.mem_append_left _ h))))
theorem hi_Pairing_hearConfirm_X1 : ∀ x ∈ u_ws RX1 TX1 2, x ∈ wp_Pairing_hearConfirm := fun _ h => List.mem_cons_of_mem _ (List.mem_append_right _ (List.mem_append_right _ (List.mem_append_right _ (List.mem_append_right _ (List.mem_append_left _ h)))))
theorem hi_Pairing_hearConfirm_X6 : ∀ x ∈ u_ws RX6 TX6 20, x ∈ wp_Pairing_hearConfirm := fun _ h => List.mem_cons_of_mem _ (List.mem_append_right _ (List.mem_append_right _ (List.mem_append_right _ (List.mem_append_right _ (List.mem_append_right _ (List.mem_append_left _ h))))))
set_option maxRecDepth 100000 in
theorem gd_Pairing_hearConfirm_Row_copyToP_92 : GoodIn wp_Pairing_hearConfirm (wsV RX8 92 RX9 yX9_copyTo wp_Row_copyToP) := goodIn_app (goodIn_r _ [3, 4, 5, 6] rfl rfl) (goodIn_ca (goodIn_r _ [7, 8, 9, 10, 11, 12, 13] rfl rfl) (goodIn_app (goodIn_cls hi_Pairing_hearConfirm_X9 gw_X9) (goodIn_nil)))
set_option maxRecDepth 100000 in
theorem gd_Pairing_hearConfirm_Pairing_drawAndConfirm_68 : GoodIn wp_Pairing_hearConfirm (wsV RX8 68 RX8 yX8_drawAndConfirm wp_Pairing_drawAndConfirm) := goodIn_app (goodIn_r _ [14, 15, 16, 17] rfl rfl) (goodIn_ca (goodIn_r _ [18, 19, 20, 21, 17, 22, 23, 24, 25, 26, 27, 28, 29, 30, 31, 32, 33, 34, 35, 36, 37, 38, 39, 40, 41, 42, 6, 43, 8, 9, 44, 45, 46, 47, 48, 49, 50, 51, 52, 53, 54, 55, 56, 57, 58, 59] rfl rfl) (goodIn_app (goodIn_cls hi_Pairing_hearConfirm_X8 gw_X8) (goodIn_app (goodIn_cls hi_Pairing_hearConfirm_X1 gw_X1) (goodIn_app (goodIn_cls hi_Pairing_hearConfirm_X3 gw_X3) (goodIn_app (goodIn_cls hi_Pairing_hearConfirm_X6 gw_X6) (goodIn_app (goodIn_cls hi_Pairing_hearConfirm_X9 gw_X9) (goodIn_nil)))))))
set_option maxRecDepth 100000 in
theorem gd_Pairing_hearConfirm_Row_put_96 : GoodIn wp_Pairing_hearConfirm (wsV RX8 96 RX9 yX9_put wp_Row_put) := goodIn_app (goodIn_r _ [40, 41, 42, 6] rfl rfl) (goodIn_ca (goodIn_r _ [43, 8, 9] rfl rfl) (goodIn_app (goodIn_cls hi_Pairing_hearConfirm_X9 gw_X9) (goodIn_nil)))
set_option maxRecDepth 100000 in
theorem gd_Pairing_hearConfirm_Row_putBytes_99 : GoodIn wp_Pairing_hearConfirm (wsV RX8 99 RX9 yX9_putBytes wp_Row_putBytes) := goodIn_app (goodIn_r _ [44, 45, 46, 6] rfl rfl) (goodIn_ca (goodIn_r _ [47, 8, 9] rfl rfl) (goodIn_app (goodIn_cls hi_Pairing_hearConfirm_X9 gw_X9) (goodIn_nil)))
set_option maxHeartbeats 4000000 in
set_option maxRecDepth 100000 in
theorem b_Pairing_hearConfirm {p : Program} {l : Launch} {e : Env} {R : Room} {s : State} {m : MethodId} {args : Array Value} {below : List Frame} {meth : Method} {c : Code} {D : va_G} {K : Nat → ClassId} {A : Nat → Prop} {Q : State → Prop} {τ : Nat → Option Ty} {dom : List Nat} {zb zL : Nat} {zx : Nat → Int32} {zs : Nat → Nat} (hR : 3 ≤ R.frames ∧ 76 ≤ R.locals) (B : Bx p s m args c cX8_hearConfirm 4 RX8 wp_Pairing_hearConfirm D (tysA K) A) (Z : Sk τ dom) (hz : ZL zb zL zx zs A s s.heap) (h : Nat) (d : Nat) (w0 : Nat) (g : Nat) (t_h : τ h = some (38, 0, 0)) (t_d : τ d = some (33, 0, 0)) (t_w0 : τ w0 = some (1, 12, 0)) (t_g : τ g = some (1, 8, 0)) (σ0 : Nat → va_E) (G0 : Good K τ σ0) (hend : ∀ (σ' : Nat → va_E) (lv : List (Nat × Value)) (pc : Nat), Good K τ σ' → Fr τ [(3, 47), (33, 0), (2, 34), (2, 35), (2, 31), (2, 32), (2, 8), (1, 8), (38, 0)] σ0 σ' → decode cX8_hearConfirm pc = .ok (.return_, 1) → V p l e R s m args below meth c 4 D A Q (0, 0) (fd dom σ') lv pc []) : V p l e R s m args below meth c 4 D A Q (0, 0) (fd dom σ0) [(0, .ref h), (1, .ref d), (2, .ref w0), (3, .ref g)] 0 [] := by
  have F0 : Fr τ [(3, 47), (33, 0), (2, 34), (2, 35), (2, 31), (2, 32), (2, 8), (1, 8), (38, 0)] σ0 σ0 := Fr.rf
  have J39 : ∀ (σ_39 : Nat → va_E), Good K τ σ_39 → Fr τ [(3, 47), (33, 0), (2, 34), (2, 35), (2, 31), (2, 32), (2, 8), (1, 8), (38, 0)] σ0 σ_39 → V p l e R s m args below meth c 4 D A Q (0, 0) (fd dom σ_39) [(0, .ref h)] 39 [] := by
    intro σ_39 G_39 F_39
    refine v_aload_n B dX8_hearConfirm_39 rfl rfl ?_
    refine v_iconst B (v := iI 3) dX8_hearConfirm_40 rfl ?_
    obtain ⟨a1, z2, z3, a4, a5, a6, a7, a8, h9, t10, r11, r12, t13, t14, t15, t16, t17⟩ : okPairing τ (σ_39 h) := G_39 h _ t_h
    refine u_put B Z (C := RX8) (T := TX8) (N := 8) (ci := 8) hi_Pairing_hearConfirm_X8 t_h h9 rfl 2 (by decide +kernel) tyX8 tyX8_ok nmX8 (List.mem_of_getElem? (i := 1) rfl) rfl (ty := .int) (tyX8_ok 2 (by decide +kernel)) rfl rfl (Nat.le_of_ble_eq_true rfl) (fs' := [.ref a1, .int (iI z2), .int (iI 3), .ref a4, .ref a5, .ref a6, .ref a7, .ref a8]) rfl dX8_hearConfirm_41 (fun σ18 h19 n20 => ?_)
    have G21 := G_39.put t_h (⟨a1, z2, 3, a4, a5, a6, a7, a8, h19, t10, ⟨by omega, by omega⟩, ⟨by omega, by omega⟩, t13, t14, t15, t16, t17⟩ : Ok K τ (38, 0, 0) (σ18 h)) n20
    have F22 := F_39.put t_h (by simp) n20
    exact hend σ18 _ _ G21 F22 dX8_hearConfirm_44
  refine v_aload_n B dX8_hearConfirm_0 rfl rfl ?_
  refine v_aload_n B dX8_hearConfirm_1 rfl rfl ?_
  obtain ⟨a23, z24, z25, a26, a27, a28, a29, a30, h31, t32, r33, r34, t35, t36, t37, t38, t39⟩ : okPairing τ (σ0 h) := G0 h _ t_h
  refine u_get B Z (C := RX8) (T := TX8) (N := 8) (ci := 8) hi_Pairing_hearConfirm_X8 t_h h31 rfl 6 (by decide +kernel) (List.mem_of_getElem? (i := 2) rfl) rfl dX8_hearConfirm_2 ?_
  refine v_iconst B (v := iI 1) dX8_hearConfirm_5 rfl ?_
  refine u_callVv B Z hz (n := 2) (As := [.ref a29, .int (iI 1)]) (rest := []) (c_Row_copyToP l D K Z _ _ _ _ w0 a29 1 t_w0 t38 ⟨by omega, by omega⟩ σ0 G0) gd_Pairing_hearConfirm_Row_copyToP_92 rfl rfl rfl (by decide +kernel) ⟨Nat.le_trans (by decide +kernel) hR.1, Nat.le_trans (by decide +kernel) hR.2⟩ t_w0 (cls_Row G0 t_w0) rfl rfl rfl rfl (Nat.le_of_ble_eq_true rfl) dX8_hearConfirm_6 ⟨Nat.zero_le _, Nat.zero_le _⟩ (fun σ40 p41 => ?_)
  obtain ⟨G43, F44⟩ := p41
  have F45 := F0.call F44 (by first | rfl | simp)
  have h46 := (F44 h _ t_h (by first | rfl | simp)).trans h31
  refine v_aload_n B dX8_hearConfirm_9 rfl rfl ?_
  obtain ⟨z47, yy48, z49, z50, z51, z52, a53, z54, yy55, a56, yy57, a58, a59, a60, a61, a62, a63, a64, a65, h66, r67, r68, r69, r70, r71, r72, t73, r74, r75, t76, r77, t78, t79, t80, t81, t82, t83, t84, t85⟩ : okDevice τ (σ40 d) := G43 d _ t_d
  refine u_getN B Z (C := RX3) (T := TX3) (N := 19) (ci := 3) hi_Pairing_hearConfirm_X3 t_d h66 rfl 2 (by decide +kernel) (List.mem_of_getElem? (i := 93) rfl) rfl dX8_hearConfirm_10 ?_
  refine v_iconst B (v := iI 4) dX8_hearConfirm_13 rfl ?_
  refine u_icmp_ne B (tgt := 33) (by omega) (by omega) dX8_hearConfirm_14 (by decide +kernel) (fun c86 => ?_) (fun c86 => ?_)
  · refine v_aload_n B dX8_hearConfirm_33 rfl rfl ?_
    refine v_aload_n B dX8_hearConfirm_34 rfl rfl ?_
    refine v_aload_n B dX8_hearConfirm_35 rfl rfl ?_
    refine u_callVv B Z hz (n := 2) (As := [.ref d, .ref g]) (rest := []) (c_Pairing_drawAndConfirm l D K Z _ _ _ _ h d g t_h t_d t_g σ40 G43) gd_Pairing_hearConfirm_Pairing_drawAndConfirm_68 rfl rfl rfl (by decide +kernel) ⟨Nat.le_trans (by decide +kernel) hR.1, Nat.le_trans (by decide +kernel) hR.2⟩ t_h (cls_Pairing G43 t_h) rfl rfl rfl rfl (Nat.le_of_ble_eq_true rfl) dX8_hearConfirm_36 ⟨Nat.zero_le _, Nat.zero_le _⟩ (fun σ87 p88 => ?_)
    obtain ⟨G90, F91⟩ := p88
    have F92 := F45.call F91 (by first | rfl | simp)
    have h93 := (F91 h _ t_h (by first | rfl | simp)).trans h46
    refine v_lv [0] rfl ?_
    exact J39 σ87 G90 F92
  · refine v_aload_n B dX8_hearConfirm_17 rfl rfl ?_
    refine v_iconst B (v := iI 4) dX8_hearConfirm_18 rfl ?_
    refine u_callVv B Z hz (n := 1) (As := [.int (iI 4)]) (rest := []) (c_Row_put l D K Z _ _ _ _ g 4 t_g ⟨by omega, by omega⟩ σ40 G43) gd_Pairing_hearConfirm_Row_put_96 rfl rfl rfl (by decide +kernel) ⟨Nat.le_trans (by decide +kernel) hR.1, Nat.le_trans (by decide +kernel) hR.2⟩ t_g (cls_Row G43 t_g) rfl rfl rfl rfl (Nat.le_of_ble_eq_true rfl) dX8_hearConfirm_19 ⟨Nat.zero_le _, Nat.zero_le _⟩ (fun σ94 p95 => ?_)
    obtain ⟨G97, F98⟩ := p95
    have F99 := F45.call F98 (by first | rfl | simp)
    have h100 := (F98 h _ t_h (by first | rfl | simp)).trans h46
    have h101 := (F98 d _ t_d (by first | rfl | simp)).trans h66
    refine v_aload_n B dX8_hearConfirm_22 rfl rfl ?_
    refine v_aload_n B dX8_hearConfirm_23 rfl rfl ?_
    refine u_get B Z (C := RX8) (T := TX8) (N := 8) (ci := 8) hi_Pairing_hearConfirm_X8 t_h h100 rfl 5 (by decide +kernel) (List.mem_of_getElem? (i := 48) rfl) rfl dX8_hearConfirm_24 ?_
    refine u_callVv B Z hz (n := 1) (As := [.ref a28]) (rest := []) (c_Row_putBytes l D K Z _ _ _ _ g a28 t_g t37 σ94 G97) gd_Pairing_hearConfirm_Row_putBytes_99 rfl rfl rfl (by decide +kernel) ⟨Nat.le_trans (by decide +kernel) hR.1, Nat.le_trans (by decide +kernel) hR.2⟩ t_g (cls_Row G97 t_g) rfl rfl rfl rfl (Nat.le_of_ble_eq_true rfl) dX8_hearConfirm_27 ⟨Nat.zero_le _, Nat.zero_le _⟩ (fun σ102 p103 => ?_)
    obtain ⟨G105, F106⟩ := p103
    have F107 := F99.call F106 (by first | rfl | simp)
    have h108 := (F106 h _ t_h (by first | rfl | simp)).trans h100
    have h109 := (F106 d _ t_d (by first | rfl | simp)).trans h101
    refine v_goto B (tgt := 39) dX8_hearConfirm_30 (by decide +kernel) ?_
    refine v_lv [0] rfl ?_
    exact J39 σ102 G105 F107
set_option maxRecDepth 100000 in
theorem c_Pairing_hearConfirm (l : Launch) (D : va_G) (K : Nat → ClassId) {τ : Nat → Option Ty} {dom : List Nat} (Z : Sk τ dom) (zb zL : Nat) (zx : Nat → Int32) (zs : Nat → Nat) (h : Nat) (d : Nat) (w0 : Nat) (g : Nat) (t_h : τ h = some (38, 0, 0)) (t_d : τ d = some (33, 0, 0)) (t_w0 : τ w0 = some (1, 12, 0)) (t_g : τ g = some (1, 8, 0)) (σ0 : Nat → va_E) (G0 : Good K τ σ0) : MZ l yX8_hearConfirm wp_Pairing_hearConfirm ({ frames := 3, cells := 0, slots := 0, locals := 76 }) D (tysA K) [.ref h, .ref d, .ref w0, .ref g] (fd dom σ0) zb zL zx zs (Qv D (fun σ' => Good K τ σ' ∧ Fr τ [(3, 47), (33, 0), (2, 34), (2, 35), (2, 31), (2, 32), (2, 8), (1, 8), (38, 0)] σ0 σ') (fun σ' => fd dom σ')) 0 0 := by
  refine mz_of (cc := cX8_hearConfirm) (maxL := 4) (ret := none) (by decide +kernel) rfl (Nat.le_of_ble_eq_true rfl) ?_
  intro p e s m below meth c A B hr hlk _ hz
  exact b_Pairing_hearConfirm ⟨Nat.le_refl _, Nat.le_refl _⟩ B Z hz h d w0 g t_h t_d t_w0 t_g σ0 G0 (fun σ' lv pc G F hd => v_vret B hr hlk σ' ⟨G, F⟩ rfl (Nat.le_refl _) (Nat.le_refl _) hd)

def wp_Pairing_hearRandom : List Cond := .code yX8_hearRandom cX8_hearRandom 7 none :: (([.fieldLink RX8 47 "LowEnergy$Pairing" "step" "I", .methodLink RX8 82 yX4_note, .instanceMethod yX4_note, .selects RX4 yX4_note yX4_note, .initialized RX4, .code yX4_note cX4_note 6 none, .fieldLink RX4 29 "LowEnergy$Diary" "count" "I", .fieldLink RX4 36 "LowEnergy$Diary" "head" "I", .fieldLink RX4 11 "LowEnergy$Diary" "kinds" "[I", .fieldLink RX4 17 "LowEnergy$Diary" "numbers" "[[I", .fieldLink RX4 22 "LowEnergy$Diary" "rows" "[LLowEnergy$Row;", .methodLink RX4 39 yX9_clear, .instanceMethod yX9_clear, .selects RX9 yX9_clear yX9_clear, .initialized RX9, .code yX9_clear cX9_clear 1 none, .fieldLink RX9 21 "LowEnergy$Row" "size" "I", .fieldLink RX4 33 "LowEnergy$Diary" "lost" "I", .fieldLink RX8 28 "LowEnergy$Pairing" "made" "[I", .fieldLink RX8 22 "LowEnergy$Pairing" "random" "[I", .fieldLink RX8 31 "LowEnergy$Pairing" "cipher" "LLowEnergy$Cipher;", .methodLink RX8 107 yX1_encipher, .instanceMethod yX1_encipher, .selects RX1 yX1_encipher yX1_encipher, .initialized RX1, .code yX1_encipher cX1_encipher 7 none, .fieldLink RX1 9 "LowEnergy$Cipher" "roundKeys" "[I", .fieldLink RX1 13 "LowEnergy$Cipher" "moved" "[I", .fieldLink RX1 16 "LowEnergy$Cipher" "SBOX" "[I", .methodLink RX8 116 yX5_keepKey, .instanceMethod yX5_keepKey, .selects RX5 yX5_keepKey yX5_keepKey, .initialized RX5, .code yX5_keepKey cX5_keepKey 3 none, .fieldLink RX5 58 "LowEnergy$Guard" "hasKey" "Z", .fieldLink RX5 7 "LowEnergy$Guard" "key" "[I", .methodLink RX8 96 yX9_put, .instanceMethod yX9_put, .selects RX9 yX9_put yX9_put, .code yX9_put cX9_put 2 none, .fieldLink RX9 15 "LowEnergy$Row" "bytes" "[I", .methodLink RX8 99 yX9_putBytes, .instanceMethod yX9_putBytes, .selects RX9 yX9_putBytes yX9_putBytes, .code yX9_putBytes cX9_putBytes 3 none, .methodLink RX8 55 yX9_at, .instanceMethod yX9_at, .selects RX9 yX9_at yX9_at, .code yX9_at cX9_at 2 (some .int), .fieldLink RX8 25 "LowEnergy$Pairing" "kept" "[I", .methodLink RX8 88 yX8_fail, .instanceMethod yX8_fail, .selects RX8 yX8_fail yX8_fail, .initialized RX8, .code yX8_fail cX8_fail 4 none, .methodLink RX8 92 yX9_copyTo, .instanceMethod yX9_copyTo, .selects RX9 yX9_copyTo yX9_copyTo, .code yX9_copyTo cX9_copyTo 5 none, .methodLink RX9 9 Lib.Math.max.name, .static Lib.Math.max.name, .initialized "java/lang/Math", .code Lib.Math.max.name Lib.Math.max.code 2 (some .int), .methodLink RX8 103 yX8_confirm, .instanceMethod yX8_confirm, .selects RX8 yX8_confirm yX8_confirm, .code yX8_confirm cX8_confirm 8 none, .constantLong RX8 141 (255), .fieldLink RX8 19 "LowEnergy$Pairing" "bothMessages" "[I", .fieldLink RX8 15 "LowEnergy$Pairing" "temporaryKey" "[I", .methodLink RX8 138 yX1_loadKey, .instanceMethod yX1_loadKey, .selects RX1 yX1_loadKey yX1_loadKey, .code yX1_loadKey cX1_loadKey 6 none] : List Cond) ++ (wsX80 ++ (wsX30 ++ (wsX40 ++ (wsX90 ++ (wsX10 ++ (wsX50 ++ (wsX60 ++ ([])))))))))
theorem hi_Pairing_hearRandom_X8 : ∀ x ∈ u_ws RX8 TX8 8, x ∈ wp_Pairing_hearRandom := fun _ h => List.mem_cons_of_mem _ (List.mem_append_right _ (List.mem_append_left _ h))
theorem hi_Pairing_hearRandom_X3 : ∀ x ∈ u_ws RX3 TX3 19, x ∈ wp_Pairing_hearRandom := fun _ h => List.mem_cons_of_mem _ (List.mem_append_right _ (List.mem_append_right _ (List.mem_append_left _ h)))
theorem hi_Pairing_hearRandom_X4 : ∀ x ∈ u_ws RX4 TX4 6, x ∈ wp_Pairing_hearRandom := fun _ h => List.mem_cons_of_mem _ (List.mem_append_right _ (List.mem_append_right _ (List.mem_append_right _ (List.mem_append_left _ h))))
theorem hi_Pairing_hearRandom_X9 : ∀ x ∈ u_ws RX9 TX9 2, x ∈ wp_Pairing_hearRandom := fun _ h => List.mem_cons_of_mem _ (List.mem_append_right _ (List.mem_append_right _ (List.mem_append_right _ (List.mem_append_right _ (List.mem_append_left _ h)))))
theorem hi_Pairing_hearRandom_X1 : ∀ x ∈ u_ws RX1 TX1 2, x ∈ wp_Pairing_hearRandom := fun _ h => List.mem_cons_of_mem _ (List.mem_append_right _ (List.mem_append_right _ (List.mem_append_right _ (List.mem_append_right _ (List.mem_append_right _ (List.mem_append_left _ h))))))
theorem hi_Pairing_hearRandom_X5 : ∀ x ∈ u_ws RX5 TX5 16, x ∈ wp_Pairing_hearRandom := fun _ h => List.mem_cons_of_mem _ (List.mem_append_right _ (List.mem_append_right _ (List.mem_append_right _ (List.mem_append_right _ (List.mem_append_right _ (List.mem_append_right _ (List.mem_append_left _ h)))))))
theorem hi_Pairing_hearRandom_X6 : ∀ x ∈ u_ws RX6 TX6 20, x ∈ wp_Pairing_hearRandom := fun _ h => List.mem_cons_of_mem _ (List.mem_append_right _ (List.mem_append_right _ (List.mem_append_right _ (List.mem_append_right _ (List.mem_append_right _ (List.mem_append_right _ (List.mem_append_right _ (List.mem_append_left _ h))))))))
set_option maxRecDepth 100000 in
theorem gd_Pairing_hearRandom_Diary_note_82 : GoodIn wp_Pairing_hearRandom (wsV RX8 82 RX4 yX4_note wp_Diary_note) := goodIn_app (goodIn_r _ [2, 3, 4, 5] rfl rfl) (goodIn_ca (goodIn_r _ [6, 7, 8, 9, 10, 11, 12, 13, 14, 15, 16, 17, 18] rfl rfl) (goodIn_app (goodIn_cls hi_Pairing_hearRandom_X4 gw_X4) (goodIn_app (goodIn_cls hi_Pairing_hearRandom_X9 gw_X9) (goodIn_nil))))
set_option maxRecDepth 100000 in
theorem gd_Pairing_hearRandom_encipherB_107 : GoodIn wp_Pairing_hearRandom (wsV RX8 107 RX1 yX1_encipher wp_encipherB) := goodIn_app (goodIn_r _ [22, 23, 24, 25] rfl rfl) (goodIn_ca (goodIn_r _ [26, 27, 28, 29] rfl rfl) (goodIn_app (goodIn_cls hi_Pairing_hearRandom_X1 gw_X1) (goodIn_nil)))
set_option maxRecDepth 100000 in
theorem gd_Pairing_hearRandom_Guard_keepKey_116 : GoodIn wp_Pairing_hearRandom (wsV RX8 116 RX5 yX5_keepKey wp_Guard_keepKey) := goodIn_app (goodIn_r _ [30, 31, 32, 33] rfl rfl) (goodIn_ca (goodIn_r _ [34, 35, 36] rfl rfl) (goodIn_app (goodIn_cls hi_Pairing_hearRandom_X5 gw_X5) (goodIn_nil)))
set_option maxRecDepth 100000 in
theorem gd_Pairing_hearRandom_Row_put_96 : GoodIn wp_Pairing_hearRandom (wsV RX8 96 RX9 yX9_put wp_Row_put) := goodIn_app (goodIn_r _ [37, 38, 39, 15] rfl rfl) (goodIn_ca (goodIn_r _ [40, 17, 41] rfl rfl) (goodIn_app (goodIn_cls hi_Pairing_hearRandom_X9 gw_X9) (goodIn_nil)))
set_option maxRecDepth 100000 in
theorem gd_Pairing_hearRandom_Row_putBytes_99 : GoodIn wp_Pairing_hearRandom (wsV RX8 99 RX9 yX9_putBytes wp_Row_putBytes) := goodIn_app (goodIn_r _ [42, 43, 44, 15] rfl rfl) (goodIn_ca (goodIn_r _ [45, 17, 41] rfl rfl) (goodIn_app (goodIn_cls hi_Pairing_hearRandom_X9 gw_X9) (goodIn_nil)))
set_option maxRecDepth 100000 in
theorem gd_Pairing_hearRandom_Row_atIn_55 : GoodIn wp_Pairing_hearRandom (wsV RX8 55 RX9 yX9_at wp_Row_atIn) := goodIn_app (goodIn_r _ [46, 47, 48, 15] rfl rfl) (goodIn_ca (goodIn_r _ [49, 17, 41] rfl rfl) (goodIn_app (goodIn_cls hi_Pairing_hearRandom_X9 gw_X9) (goodIn_nil)))
set_option maxRecDepth 100000 in
theorem gd_Pairing_hearRandom_Pairing_fail_88 : GoodIn wp_Pairing_hearRandom (wsV RX8 88 RX8 yX8_fail wp_Pairing_fail) := goodIn_app (goodIn_r _ [51, 52, 53, 54] rfl rfl) (goodIn_ca (goodIn_r _ [55, 37, 38, 39, 15, 40, 17, 41, 1, 2, 3, 4, 5, 6, 7, 8, 9, 10, 11, 12, 13, 14, 16, 18] rfl rfl) (goodIn_app (goodIn_cls hi_Pairing_hearRandom_X9 gw_X9) (goodIn_app (goodIn_cls hi_Pairing_hearRandom_X8 gw_X8) (goodIn_app (goodIn_cls hi_Pairing_hearRandom_X4 gw_X4) (goodIn_nil)))))
set_option maxRecDepth 100000 in
theorem gd_Pairing_hearRandom_Row_copyToB_92 : GoodIn wp_Pairing_hearRandom (wsV RX8 92 RX9 yX9_copyTo wp_Row_copyToB) := goodIn_app (goodIn_r _ [56, 57, 58, 15] rfl rfl) (goodIn_ca (goodIn_r _ [59, 17, 41, 60, 61, 62, 63] rfl rfl) (goodIn_app (goodIn_cls hi_Pairing_hearRandom_X9 gw_X9) (goodIn_nil)))
set_option maxRecDepth 100000 in
theorem gd_Pairing_hearRandom_Pairing_confirm_103 : GoodIn wp_Pairing_hearRandom (wsV RX8 103 RX8 yX8_confirm wp_Pairing_confirm) := goodIn_app (goodIn_r _ [64, 65, 66, 54] rfl rfl) (goodIn_ca (goodIn_r _ [67, 21, 19, 22, 23, 24, 25, 26, 27, 28, 29, 68, 69, 70, 71, 72, 73, 74] rfl rfl) (goodIn_app (goodIn_cls hi_Pairing_hearRandom_X8 gw_X8) (goodIn_app (goodIn_cls hi_Pairing_hearRandom_X1 gw_X1) (goodIn_app (goodIn_cls hi_Pairing_hearRandom_X3 gw_X3) (goodIn_app (goodIn_cls hi_Pairing_hearRandom_X6 gw_X6) (goodIn_nil))))))
set_option maxHeartbeats 4000000 in
set_option maxRecDepth 100000 in
theorem b_Pairing_hearRandom {p : Program} {l : Launch} {e : Env} {R : Room} {s : State} {m : MethodId} {args : Array Value} {below : List Frame} {meth : Method} {c : Code} {D : va_G} {K : Nat → ClassId} {A : Nat → Prop} {Q : State → Prop} {τ : Nat → Option Ty} {dom : List Nat} {zb zL : Nat} {zx : Nat → Int32} {zs : Nat → Nat} (hR : 3 ≤ R.frames ∧ 68 ≤ R.locals) (B : Bx p s m args c cX8_hearRandom 7 RX8 wp_Pairing_hearRandom D (tysA K) A) (Z : Sk τ dom) (hz : ZL zb zL zx zs A s s.heap) (h : Nat) (d : Nat) (w0 : Nat) (g : Nat) (t_h : τ h = some (38, 0, 0)) (t_d : τ d = some (33, 0, 0)) (t_w0 : τ w0 = some (1, 12, 0)) (t_g : τ g = some (1, 8, 0)) (σ0 : Nat → va_E) (G0 : Good K τ σ0) (h17 : ∀ (b : Nat) (n : Int), σ0 w0 = .inr (9, [.ref b, .int (iI n)]) → 0 ≤ n → n ≤ 256 → n = 17) (hend : ∀ (σ' : Nat → va_E) (lv : List (Nat × Value)) (pc : Nat), Good K τ σ' → Fr τ [(2, 35), (2, 31), (2, 32), (2, 8), (1, 8), (38, 0), (3, 23), (3, 22), (1, 16), (34, 0), (3, 40), (35, 0)] σ0 σ' → decode cX8_hearRandom pc = .ok (.return_, 1) → V p l e R s m args below meth c 7 D A Q (0, 0) (fd dom σ') lv pc []) : V p l e R s m args below meth c 7 D A Q (0, 0) (fd dom σ0) [(0, .ref h), (1, .ref d), (2, .ref w0), (3, .ref g)] 0 [] := by
  have F0 : Fr τ [(2, 35), (2, 31), (2, 32), (2, 8), (1, 8), (38, 0), (3, 23), (3, 22), (1, 16), (34, 0), (3, 40), (35, 0)] σ0 σ0 := Fr.rf
  obtain ⟨b1, N2, n3, h4, t5, r6⟩ : okRow τ 12 (σ0 w0) := G0 w0 _ t_w0
  have r7 := h17 _ _ h4 (by omega) (by omega)
  have J203 : ∀ (σ_203 : Nat → va_E), Good K τ σ_203 → Fr τ [(2, 35), (2, 31), (2, 32), (2, 8), (1, 8), (38, 0), (3, 23), (3, 22), (1, 16), (34, 0), (3, 40), (35, 0)] σ0 σ_203 → (σ_203 w0 = .inr (9, [.ref b1, .int (iI n3)])) → V p l e R s m args below meth c 7 D A Q (0, 0) (fd dom σ_203) [(0, .ref h), (1, .ref d)] 203 [] := by
    intro σ_203 G_203 F_203 hc203_w0
    refine v_aload_n B dX8_hearRandom_203 rfl rfl ?_
    refine v_iconst B (v := iI 0) dX8_hearRandom_204 rfl ?_
    obtain ⟨a8, z9, z10, a11, a12, a13, a14, a15, h16, t17, r18, r19, t20, t21, t22, t23, t24⟩ : okPairing τ (σ_203 h) := G_203 h _ t_h
    refine u_put B Z (C := RX8) (T := TX8) (N := 8) (ci := 8) hi_Pairing_hearRandom_X8 t_h h16 rfl 2 (by decide +kernel) tyX8 tyX8_ok nmX8 (List.mem_of_getElem? (i := 1) rfl) rfl (ty := .int) (tyX8_ok 2 (by decide +kernel)) rfl rfl (Nat.le_of_ble_eq_true rfl) (fs' := [.ref a8, .int (iI z9), .int (iI 0), .ref a11, .ref a12, .ref a13, .ref a14, .ref a15]) rfl dX8_hearRandom_205 (fun σ25 h26 n27 => ?_)
    have G28 := G_203.put t_h (⟨a8, z9, 0, a11, a12, a13, a14, a15, h26, t17, ⟨by omega, by omega⟩, ⟨by omega, by omega⟩, t20, t21, t22, t23, t24⟩ : Ok K τ (38, 0, 0) (σ25 h)) n27
    have F29 := F_203.put t_h (by simp) n27
    have h30 := (n27 w0 (ne_ty t_w0 t_h (by simp))).trans hc203_w0
    refine v_aload_n B dX8_hearRandom_208 rfl rfl ?_
    obtain ⟨z31, yy32, z33, z34, z35, z36, a37, z38, yy39, a40, yy41, a42, a43, a44, a45, a46, a47, a48, a49, h50, r51, r52, r53, r54, r55, r56, t57, r58, r59, t60, r61, t62, t63, t64, t65, t66, t67, t68, t69⟩ : okDevice τ (σ25 d) := G28 d _ t_d
    refine u_getN B Z (C := RX3) (T := TX3) (N := 19) (ci := 3) hi_Pairing_hearRandom_X3 t_d h50 rfl 17 (by decide +kernel) (List.mem_of_getElem? (i := 95) rfl) rfl dX8_hearRandom_209 ?_
    refine v_bipush B (v := iI 10) dX8_hearRandom_212 (by decide +kernel) ?_
    refine v_iconst B (v := iI 0) dX8_hearRandom_214 rfl ?_
    refine v_iconst B (v := iI 0) dX8_hearRandom_215 rfl ?_
    refine v_iconst B (v := iI 0) dX8_hearRandom_216 rfl ?_
    refine u_callVv B Z hz (n := 4) (As := [.int (iI 10), .int (iI 0), .int (iI 0), .int (iI 0)]) (rest := []) (c_Diary_note l D K Z _ _ _ _ a48 10 0 0 0 t68 ⟨by omega, by omega⟩ ⟨by omega, by omega⟩ ⟨by omega, by omega⟩ ⟨by omega, by omega⟩ σ25 G28) gd_Pairing_hearRandom_Diary_note_82 rfl rfl rfl (by decide +kernel) ⟨Nat.le_trans (by decide +kernel) hR.1, Nat.le_trans (by decide +kernel) hR.2⟩ t68 (cls_Diary G28 t68) rfl rfl rfl rfl (Nat.le_of_ble_eq_true rfl) dX8_hearRandom_217 ⟨Nat.zero_le _, Nat.zero_le _⟩ (fun σ70 p71 => ?_)
    obtain ⟨G73, F74⟩ := p71
    have F75 := F29.call F74 (by first | rfl | simp)
    have h76 := (F74 w0 _ t_w0 (by first | rfl | simp)).trans h30
    have h77 := (F74 h _ t_h (by first | rfl | simp)).trans h26
    have h78 := (F74 d _ t_d (by first | rfl | simp)).trans h50
    exact hend σ70 _ _ G73 F75 dX8_hearRandom_220
  have J89 : ∀ (k89 : Nat) (σ_89 : Nat → va_E) (z89_4 : Int) (z89_5 : Int), (2147483648 - z89_5).toNat ≤ k89 → Good K τ σ_89 → Fr τ [(2, 35), (2, 31), (2, 32), (2, 8), (1, 8), (38, 0), (3, 23), (3, 22), (1, 16), (34, 0), (3, 40), (35, 0)] σ0 σ_89 → (σ_89 w0 = .inr (9, [.ref b1, .int (iI n3)])) → (0 ≤ z89_4 ∧ z89_4 ≤ 1) → (0 ≤ z89_5 ∧ z89_5 ≤ 8) → V p l e R s m args below meth c 7 D A Q (0, 0) (fd dom σ_89) [(0, .ref h), (1, .ref d), (2, .ref w0), (3, .ref g), (4, .int (iI z89_4)), (5, .int (iI z89_5))] 89 [] := by
    intro k89
    induction k89 with
    | zero => intro σ_89 z89_4 z89_5 m89 G_89 F_89 hc89_w0 r89_4 r89_5; omega
    | succ k89 IH89 =>
      intro σ_89 z89_4 z89_5 m89 G_89 F_89 hc89_w0 r89_4 r89_5
      have J156 : ∀ (σ_156 : Nat → va_E) (z156_s0 : Int) (z156_s1 : Int) (a156_s2 : Nat), Good K τ σ_156 → Fr τ [(2, 35), (2, 31), (2, 32), (2, 8), (1, 8), (38, 0), (3, 23), (3, 22), (1, 16), (34, 0), (3, 40), (35, 0)] σ0 σ_156 → (σ_156 w0 = .inr (9, [.ref b1, .int (iI n3)])) → (0 ≤ z89_5 ∧ z89_5 ≤ 7) → (0 ≤ z156_s0 ∧ z156_s0 ≤ 255) → (8 ≤ z156_s1 ∧ z156_s1 ≤ 15) → (τ a156_s2 = some (2, 35, 16)) → V p l e R s m args below meth c 7 D A Q (0, 0) (fd dom σ_156) [(0, .ref h), (1, .ref d), (2, .ref w0), (3, .ref g), (4, .int (iI z89_4)), (5, .int (iI z89_5))] 156 [.int (iI z156_s0), .int (iI z156_s1), .ref a156_s2] := by
        intro σ_156 z156_s0 z156_s1 a156_s2 G_156 F_156 hc156_w0 r156_5 r156_s0 r156_s1 t156_s2
        obtain ⟨f79, h80, r81, e82⟩ : okB K 16 (σ_156 a156_s2) := G_156 a156_s2 _ t156_s2
        refine u_iast B Z (t0 := 0) t156_s2 h80 rfl (by omega) dX8_hearRandom_156 (fun σ83 h84 n85 => ?_)
        have G86 := G_156.put t156_s2 (⟨_, h84, r81, el_upd e82 (by omega) _⟩ : Ok K τ (2, 35, 16) (σ83 a156_s2)) n85
        have F87 := F_156.put t156_s2 (by simp) n85
        have h88 := (n85 w0 (ne_ty t_w0 t156_s2 (by simp))).trans hc156_w0
        refine v_iinc B (k := 5) (v := iI (z89_5 + 1)) (lv' := [(5, .int (iI (z89_5 + 1))), (0, .ref h), (1, .ref d), (2, .ref w0), (3, .ref g), (4, .int (iI z89_4))]) dX8_hearRandom_157 rfl ((iI_add _ _).trans (congrArg iI (by omega))) (by decide +kernel) rfl ?_
        refine v_goto B (tgt := 89) dX8_hearRandom_160 (by decide +kernel) ?_
        refine v_lv [1, 2, 3, 4, 5, 0] rfl ?_
        exact IH89 σ83 z89_4 (z89_5 + 1) (by omega) G86 F87 h88 ⟨by omega, by omega⟩ ⟨by omega, by omega⟩
      have J129 : ∀ (z129_6 : Int) (z129_s0 : Int) (z129_s1 : Int) (a129_s2 : Nat), (0 ≤ z89_5 ∧ z89_5 ≤ 7) → (0 ≤ z129_6 ∧ z129_6 ≤ 255) → (0 ≤ z129_s0 ∧ z129_s0 ≤ 255) → (0 ≤ z129_s1 ∧ z129_s1 ≤ 7) → (τ a129_s2 = some (2, 35, 16)) → V p l e R s m args below meth c 7 D A Q (0, 0) (fd dom σ_89) [(0, .ref h), (1, .ref d), (2, .ref w0), (3, .ref g), (4, .int (iI z89_4)), (5, .int (iI z89_5)), (6, .int (iI z129_6))] 129 [.int (iI z129_s0), .int (iI z129_s1), .ref a129_s2] := by
        intro z129_6 z129_s0 z129_s1 a129_s2 r129_5 r129_6 r129_s0 r129_s1 t129_s2
        obtain ⟨f89, h90, r91, e92⟩ : okB K 16 (σ_89 a129_s2) := G_89 a129_s2 _ t129_s2
        refine u_iast B Z (t0 := 0) t129_s2 h90 rfl (by omega) dX8_hearRandom_129 (fun σ93 h94 n95 => ?_)
        have G96 := G_89.put t129_s2 (⟨_, h94, r91, el_upd e92 (by omega) _⟩ : Ok K τ (2, 35, 16) (σ93 a129_s2)) n95
        have F97 := F_89.put t129_s2 (by simp) n95
        have h98 := (n95 w0 (ne_ty t_w0 t129_s2 (by simp))).trans hc89_w0
        refine v_aload_n B dX8_hearRandom_130 rfl rfl ?_
        obtain ⟨a99, z100, z101, a102, a103, a104, a105, a106, h107, t108, r109, r110, t111, t112, t113, t114, t115⟩ : okPairing τ (σ93 h) := G96 h _ t_h
        refine u_get B Z (C := RX8) (T := TX8) (N := 8) (ci := 8) hi_Pairing_hearRandom_X8 t_h h107 rfl 7 (by decide +kernel) (List.mem_of_getElem? (i := 19) rfl) rfl dX8_hearRandom_131 ?_
        refine v_bipush B (v := iI 8) dX8_hearRandom_134 (by decide +kernel) ?_
        refine v_iload B dX8_hearRandom_136 rfl ?_
        refine v_iadd B (v := iI (z89_5 + 8)) dX8_hearRandom_138 ((iI_add _ _).trans (congrArg iI (by omega))) ?_
        refine v_iload B dX8_hearRandom_139 rfl ?_
        refine u_if_eq B (tgt := 154) (by omega) dX8_hearRandom_141 (by decide +kernel) (fun c116 => ?_) (fun c116 => ?_)
        · refine v_iload B dX8_hearRandom_154 rfl ?_
          refine v_lv [0, 1, 2, 3, 4, 5] rfl ?_
          exact J156 σ93 z129_6 (z89_5 + 8) a106 G96 F97 h98 ⟨by omega, by omega⟩ ⟨by omega, by omega⟩ ⟨by omega, by omega⟩ t115
        · refine v_aload_n B dX8_hearRandom_144 rfl rfl ?_
          refine u_get B Z (C := RX8) (T := TX8) (N := 8) (ci := 8) hi_Pairing_hearRandom_X8 t_h h107 rfl 5 (by decide +kernel) (List.mem_of_getElem? (i := 20) rfl) rfl dX8_hearRandom_145 ?_
          refine v_iload B dX8_hearRandom_148 rfl ?_
          obtain ⟨f117, h118, r119, e120⟩ : okB K 16 (σ93 a104) := G96 a104 _ t113
          obtain ⟨z121, e122, r123⟩ := e120 (z89_5 : Int).toNat
          refine u_iald B Z (t0 := 0) t113 h118 rfl (by omega) e122 dX8_hearRandom_150 ?_
          refine v_goto B (tgt := 156) dX8_hearRandom_151 (by decide +kernel) ?_
          refine v_lv [0, 1, 2, 3, 4, 5] rfl ?_
          exact J156 σ93 z121 (z89_5 + 8) a106 G96 F97 h98 ⟨by omega, by omega⟩ ⟨by omega, by omega⟩ ⟨by omega, by omega⟩ t115
      refine v_iload B dX8_hearRandom_89 rfl ?_
      refine v_bipush B (v := iI 8) dX8_hearRandom_91 (by decide +kernel) ?_
      refine u_icmp_ge B (tgt := 163) (by omega) (by omega) dX8_hearRandom_93 (by decide +kernel) (fun c124 => ?_) (fun c124 => ?_)
      · refine v_aload_n B dX8_hearRandom_163 rfl rfl ?_
        obtain ⟨a125, z126, z127, a128, a129, a130, a131, a132, h133, t134, r135, r136, t137, t138, t139, t140, t141⟩ : okPairing τ (σ_89 h) := G_89 h _ t_h
        refine u_get B Z (C := RX8) (T := TX8) (N := 8) (ci := 8) hi_Pairing_hearRandom_X8 t_h h133 rfl 0 (by decide +kernel) (List.mem_of_getElem? (i := 21) rfl) rfl dX8_hearRandom_164 ?_
        refine v_aload_n B dX8_hearRandom_167 rfl rfl ?_
        refine u_get B Z (C := RX8) (T := TX8) (N := 8) (ci := 8) hi_Pairing_hearRandom_X8 t_h h133 rfl 7 (by decide +kernel) (List.mem_of_getElem? (i := 19) rfl) rfl dX8_hearRandom_168 ?_
        refine u_callVv B Z hz (n := 1) (As := [.ref a132]) (rest := []) (c_encipherB l D K Z _ _ _ _ a125 a132 t134 t141 σ_89 G_89) gd_Pairing_hearRandom_encipherB_107 rfl rfl rfl (by decide +kernel) ⟨Nat.le_trans (by decide +kernel) hR.1, Nat.le_trans (by decide +kernel) hR.2⟩ t134 (cls_Cipher G_89 t134) rfl rfl rfl rfl (Nat.le_of_ble_eq_true rfl) dX8_hearRandom_171 ⟨Nat.zero_le _, Nat.zero_le _⟩ (fun σ142 p143 => ?_)
        obtain ⟨G145, F146⟩ := p143
        have F147 := F_89.call F146 (by first | rfl | simp)
        have h148 := (F146 w0 _ t_w0 (by first | rfl | simp)).trans hc89_w0
        have h149 := (F146 h _ t_h (by first | rfl | simp)).trans h133
        refine v_aload_n B dX8_hearRandom_174 rfl rfl ?_
        obtain ⟨z150, yy151, z152, z153, z154, z155, a156, z157, yy158, a159, yy160, a161, a162, a163, a164, a165, a166, a167, a168, h169, r170, r171, r172, r173, r174, r175, t176, r177, r178, t179, r180, t181, t182, t183, t184, t185, t186, t187, t188⟩ : okDevice τ (σ142 d) := G145 d _ t_d
        refine u_getN B Z (C := RX3) (T := TX3) (N := 19) (ci := 3) hi_Pairing_hearRandom_X3 t_d h169 rfl 13 (by decide +kernel) (List.mem_of_getElem? (i := 89) rfl) rfl dX8_hearRandom_175 ?_
        refine v_aload_n B dX8_hearRandom_178 rfl rfl ?_
        refine u_get B Z (C := RX8) (T := TX8) (N := 8) (ci := 8) hi_Pairing_hearRandom_X8 t_h h149 rfl 7 (by decide +kernel) (List.mem_of_getElem? (i := 19) rfl) rfl dX8_hearRandom_179 ?_
        refine u_callVv B Z hz (n := 1) (As := [.ref a132]) (rest := []) (c_Guard_keepKey l D K Z _ _ _ _ a163 a132 t183 t141 σ142 G145) gd_Pairing_hearRandom_Guard_keepKey_116 rfl rfl rfl (by decide +kernel) ⟨Nat.le_trans (by decide +kernel) hR.1, Nat.le_trans (by decide +kernel) hR.2⟩ t183 (cls_Guard G145 t183) rfl rfl rfl rfl (Nat.le_of_ble_eq_true rfl) dX8_hearRandom_182 ⟨Nat.zero_le _, Nat.zero_le _⟩ (fun σ189 p190 => ?_)
        obtain ⟨G192, F193⟩ := p190
        have F194 := F147.call F193 (by first | rfl | simp)
        have h195 := (F193 w0 _ t_w0 (by first | rfl | simp)).trans h148
        have h196 := (F193 h _ t_h (by first | rfl | simp)).trans h149
        have h197 := (F193 d _ t_d (by first | rfl | simp)).trans h169
        refine v_iload B dX8_hearRandom_185 rfl ?_
        refine u_if_ne B (tgt := 203) (by omega) dX8_hearRandom_187 (by decide +kernel) (fun c198 => ?_) (fun c198 => ?_)
        · refine v_lv [0, 1] rfl ?_
          exact J203 σ189 G192 F194 h195
        · refine v_aload_n B dX8_hearRandom_190 rfl rfl ?_
          refine v_iconst B (v := iI 4) dX8_hearRandom_191 rfl ?_
          refine u_callVv B Z hz (n := 1) (As := [.int (iI 4)]) (rest := []) (c_Row_put l D K Z _ _ _ _ g 4 t_g ⟨by omega, by omega⟩ σ189 G192) gd_Pairing_hearRandom_Row_put_96 rfl rfl rfl (by decide +kernel) ⟨Nat.le_trans (by decide +kernel) hR.1, Nat.le_trans (by decide +kernel) hR.2⟩ t_g (cls_Row G192 t_g) rfl rfl rfl rfl (Nat.le_of_ble_eq_true rfl) dX8_hearRandom_192 ⟨Nat.zero_le _, Nat.zero_le _⟩ (fun σ199 p200 => ?_)
          obtain ⟨G202, F203⟩ := p200
          have F204 := F194.call F203 (by first | rfl | simp)
          have h205 := (F203 w0 _ t_w0 (by first | rfl | simp)).trans h195
          have h206 := (F203 h _ t_h (by first | rfl | simp)).trans h196
          have h207 := (F203 d _ t_d (by first | rfl | simp)).trans h197
          refine v_aload_n B dX8_hearRandom_195 rfl rfl ?_
          refine v_aload_n B dX8_hearRandom_196 rfl rfl ?_
          refine u_get B Z (C := RX8) (T := TX8) (N := 8) (ci := 8) hi_Pairing_hearRandom_X8 t_h h206 rfl 5 (by decide +kernel) (List.mem_of_getElem? (i := 20) rfl) rfl dX8_hearRandom_197 ?_
          refine u_callVv B Z hz (n := 1) (As := [.ref a130]) (rest := []) (c_Row_putBytes l D K Z _ _ _ _ g a130 t_g t139 σ199 G202) gd_Pairing_hearRandom_Row_putBytes_99 rfl rfl rfl (by decide +kernel) ⟨Nat.le_trans (by decide +kernel) hR.1, Nat.le_trans (by decide +kernel) hR.2⟩ t_g (cls_Row G202 t_g) rfl rfl rfl rfl (Nat.le_of_ble_eq_true rfl) dX8_hearRandom_200 ⟨Nat.zero_le _, Nat.zero_le _⟩ (fun σ208 p209 => ?_)
          obtain ⟨G211, F212⟩ := p209
          have F213 := F204.call F212 (by first | rfl | simp)
          have h214 := (F212 w0 _ t_w0 (by first | rfl | simp)).trans h205
          have h215 := (F212 h _ t_h (by first | rfl | simp)).trans h206
          have h216 := (F212 d _ t_d (by first | rfl | simp)).trans h207
          refine v_lv [0, 1] rfl ?_
          exact J203 σ208 G211 F213 h214
      · refine v_aload_n B dX8_hearRandom_96 rfl rfl ?_
        refine v_iconst B (v := iI 1) dX8_hearRandom_97 rfl ?_
        refine v_iload B dX8_hearRandom_98 rfl ?_
        refine v_iadd B (v := iI (z89_5 + 1)) dX8_hearRandom_100 ((iI_add _ _).trans (congrArg iI (by omega))) ?_
        refine u_callVi B Z hz (n := 1) (As := [.int (iI (z89_5 + 1))]) (rest := []) (c_Row_atIn l D K Z _ _ _ _ w0 (z89_5 + 1) t_w0 ⟨by omega, by omega⟩ σ_89 G_89 (fun b n e h0 h1 => by have q := row_inj (hc89_w0.symm.trans e) (by omega) (by omega); omega)) gd_Pairing_hearRandom_Row_atIn_55 rfl rfl rfl (by decide +kernel) ⟨Nat.le_trans (by decide +kernel) hR.1, Nat.le_trans (by decide +kernel) hR.2⟩ t_w0 (cls_Row G_89 t_w0) rfl rfl rfl rfl (Nat.le_of_ble_eq_true rfl) dX8_hearRandom_101 ⟨Nat.zero_le _, Nat.zero_le _⟩ (fun v219 σ217 p218 => ?_)
        obtain ⟨rfl, z223, e224, r225⟩ := p218
        subst e224
        refine v_istore B (lv' := [(6, .int (iI z223)), (0, .ref h), (1, .ref d), (2, .ref w0), (3, .ref g), (4, .int (iI z89_4)), (5, .int (iI z89_5))]) dX8_hearRandom_104 (by decide +kernel) rfl ?_
        refine v_aload_n B dX8_hearRandom_106 rfl rfl ?_
        obtain ⟨a226, z227, z228, a229, a230, a231, a232, a233, h234, t235, r236, r237, t238, t239, t240, t241, t242⟩ : okPairing τ (σ_89 h) := G_89 h _ t_h
        refine u_get B Z (C := RX8) (T := TX8) (N := 8) (ci := 8) hi_Pairing_hearRandom_X8 t_h h234 rfl 7 (by decide +kernel) (List.mem_of_getElem? (i := 19) rfl) rfl dX8_hearRandom_107 ?_
        refine v_iload B dX8_hearRandom_110 rfl ?_
        refine v_iload B dX8_hearRandom_112 rfl ?_
        refine u_if_eq B (tgt := 122) (by omega) dX8_hearRandom_114 (by decide +kernel) (fun c243 => ?_) (fun c243 => ?_)
        · refine v_aload_n B dX8_hearRandom_122 rfl rfl ?_
          refine u_get B Z (C := RX8) (T := TX8) (N := 8) (ci := 8) hi_Pairing_hearRandom_X8 t_h h234 rfl 5 (by decide +kernel) (List.mem_of_getElem? (i := 20) rfl) rfl dX8_hearRandom_123 ?_
          refine v_iload B dX8_hearRandom_126 rfl ?_
          obtain ⟨f244, h245, r246, e247⟩ : okB K 16 (σ_89 a231) := G_89 a231 _ t240
          obtain ⟨z248, e249, r250⟩ := e247 (z89_5 : Int).toNat
          refine u_iald B Z (t0 := 0) t240 h245 rfl (by omega) e249 dX8_hearRandom_128 ?_
          refine v_lv [1, 2, 3, 4, 5, 6, 0] rfl ?_
          exact J129 z223 z248 z89_5 a233 ⟨by omega, by omega⟩ ⟨by omega, by omega⟩ ⟨by omega, by omega⟩ ⟨by omega, by omega⟩ t242
        · refine v_iload B dX8_hearRandom_117 rfl ?_
          refine v_goto B (tgt := 129) dX8_hearRandom_119 (by decide +kernel) ?_
          refine v_lv [1, 2, 3, 4, 5, 6, 0] rfl ?_
          exact J129 z223 z223 z89_5 a233 ⟨by omega, by omega⟩ ⟨by omega, by omega⟩ ⟨by omega, by omega⟩ ⟨by omega, by omega⟩ t242
  have J84 : ∀ (σ_84 : Nat → va_E) (z84_s0 : Int), Good K τ σ_84 → Fr τ [(2, 35), (2, 31), (2, 32), (2, 8), (1, 8), (38, 0), (3, 23), (3, 22), (1, 16), (34, 0), (3, 40), (35, 0)] σ0 σ_84 → (σ_84 w0 = .inr (9, [.ref b1, .int (iI n3)])) → (0 ≤ z84_s0 ∧ z84_s0 ≤ 1) → V p l e R s m args below meth c 7 D A Q (0, 0) (fd dom σ_84) [(0, .ref h), (1, .ref d), (2, .ref w0), (3, .ref g)] 84 [.int (iI z84_s0)] := by
    intro σ_84 z84_s0 G_84 F_84 hc84_w0 r84_s0
    refine v_istore B (lv' := [(4, .int (iI z84_s0)), (0, .ref h), (1, .ref d), (2, .ref w0), (3, .ref g)]) dX8_hearRandom_84 (by decide +kernel) rfl ?_
    refine v_iconst B (v := iI 0) dX8_hearRandom_86 rfl ?_
    refine v_istore B (lv' := [(5, .int (iI 0)), (4, .int (iI z84_s0)), (0, .ref h), (1, .ref d), (2, .ref w0), (3, .ref g)]) dX8_hearRandom_87 (by decide +kernel) rfl ?_
    refine v_lv [2, 3, 4, 5, 1, 0] rfl ?_
    exact J89 _ σ_84 z84_s0 0 (Nat.le_refl _) G_84 F_84 hc84_w0 ⟨by omega, by omega⟩ ⟨by omega, by omega⟩
  have J71 : ∀ (σ_71 : Nat → va_E), Good K τ σ_71 → Fr τ [(2, 35), (2, 31), (2, 32), (2, 8), (1, 8), (38, 0), (3, 23), (3, 22), (1, 16), (34, 0), (3, 40), (35, 0)] σ0 σ_71 → (σ_71 w0 = .inr (9, [.ref b1, .int (iI n3)])) → V p l e R s m args below meth c 7 D A Q (0, 0) (fd dom σ_71) [(0, .ref h), (1, .ref d), (2, .ref w0), (3, .ref g)] 71 [] := by
    intro σ_71 G_71 F_71 hc71_w0
    refine v_aload_n B dX8_hearRandom_71 rfl rfl ?_
    obtain ⟨z251, yy252, z253, z254, z255, z256, a257, z258, yy259, a260, yy261, a262, a263, a264, a265, a266, a267, a268, a269, h270, r271, r272, r273, r274, r275, r276, t277, r278, r279, t280, r281, t282, t283, t284, t285, t286, t287, t288, t289⟩ : okDevice τ (σ_71 d) := G_71 d _ t_d
    refine u_getN B Z (C := RX3) (T := TX3) (N := 19) (ci := 3) hi_Pairing_hearRandom_X3 t_d h270 rfl 2 (by decide +kernel) (List.mem_of_getElem? (i := 93) rfl) rfl dX8_hearRandom_72 ?_
    refine v_iconst B (v := iI 4) dX8_hearRandom_75 rfl ?_
    refine u_icmp_ne B (tgt := 83) (by omega) (by omega) dX8_hearRandom_76 (by decide +kernel) (fun c290 => ?_) (fun c290 => ?_)
    · refine v_iconst B (v := iI 0) dX8_hearRandom_83 rfl ?_
      exact J84 σ_71 0 G_71 F_71 hc71_w0 ⟨by omega, by omega⟩
    · refine v_iconst B (v := iI 1) dX8_hearRandom_79 rfl ?_
      refine v_goto B (tgt := 84) dX8_hearRandom_80 (by decide +kernel) ?_
      exact J84 σ_71 1 G_71 F_71 hc71_w0 ⟨by omega, by omega⟩
  have J17 : ∀ (k17 : Nat) (σ_17 : Nat → va_E) (z17_4 : Int), (2147483648 - z17_4).toNat ≤ k17 → Good K τ σ_17 → Fr τ [(2, 35), (2, 31), (2, 32), (2, 8), (1, 8), (38, 0), (3, 23), (3, 22), (1, 16), (34, 0), (3, 40), (35, 0)] σ0 σ_17 → (σ_17 w0 = .inr (9, [.ref b1, .int (iI n3)])) → (0 ≤ z17_4 ∧ z17_4 ≤ 16) → V p l e R s m args below meth c 7 D A Q (0, 0) (fd dom σ_17) [(0, .ref h), (1, .ref d), (2, .ref w0), (3, .ref g), (4, .int (iI z17_4))] 17 [] := by
    intro k17
    induction k17 with
    | zero => intro σ_17 z17_4 m17 G_17 F_17 hc17_w0 r17_4; omega
    | succ k17 IH17 =>
      intro σ_17 z17_4 m17 G_17 F_17 hc17_w0 r17_4
      refine v_iload B dX8_hearRandom_17 rfl ?_
      refine v_aload_n B dX8_hearRandom_19 rfl rfl ?_
      obtain ⟨a291, z292, z293, a294, a295, a296, a297, a298, h299, t300, r301, r302, t303, t304, t305, t306, t307⟩ : okPairing τ (σ_17 h) := G_17 h _ t_h
      refine u_get B Z (C := RX8) (T := TX8) (N := 8) (ci := 8) hi_Pairing_hearRandom_X8 t_h h299 rfl 6 (by decide +kernel) (List.mem_of_getElem? (i := 50) rfl) rfl dX8_hearRandom_20 ?_
      obtain ⟨f308, h309, r310⟩ : okP K 16 (σ_17 a297) := G_17 a297 _ t306
      refine u_alen B Z (t0 := 0) (v := 16) t306 h309 rfl (by first | rfl | omega) dX8_hearRandom_23 ?_
      refine u_icmp_ge B (tgt := 71) (by omega) (by omega) dX8_hearRandom_24 (by decide +kernel) (fun c311 => ?_) (fun c311 => ?_)
      · refine v_lv [0, 1, 2, 3] rfl ?_
        exact J71 σ_17 G_17 F_17 hc17_w0
      · refine v_iload B dX8_hearRandom_27 rfl ?_
        refine v_aload_n B dX8_hearRandom_29 rfl rfl ?_
        refine u_get B Z (C := RX8) (T := TX8) (N := 8) (ci := 8) hi_Pairing_hearRandom_X8 t_h h299 rfl 7 (by decide +kernel) (List.mem_of_getElem? (i := 19) rfl) rfl dX8_hearRandom_30 ?_
        obtain ⟨f312, h313, r314, e315⟩ : okB K 16 (σ_17 a298) := G_17 a298 _ t307
        refine u_alen B Z (t0 := 0) (v := 16) t307 h313 rfl (by first | rfl | omega) dX8_hearRandom_33 ?_
        refine u_icmp_ge B (tgt := 71) (by omega) (by omega) dX8_hearRandom_34 (by decide +kernel) (fun c316 => by omega) (fun c316 => ?_)
        refine v_aload_n B dX8_hearRandom_37 rfl rfl ?_
        refine u_get B Z (C := RX8) (T := TX8) (N := 8) (ci := 8) hi_Pairing_hearRandom_X8 t_h h299 rfl 6 (by decide +kernel) (List.mem_of_getElem? (i := 50) rfl) rfl dX8_hearRandom_38 ?_
        refine v_iload B dX8_hearRandom_41 rfl ?_
        obtain ⟨z317, e318, r319⟩ := iI_any (f308 (z17_4 : Int).toNat)
        refine u_iald B Z (t0 := 0) t306 h309 rfl (by omega) e318 dX8_hearRandom_43 ?_
        refine v_aload_n B dX8_hearRandom_44 rfl rfl ?_
        refine u_get B Z (C := RX8) (T := TX8) (N := 8) (ci := 8) hi_Pairing_hearRandom_X8 t_h h299 rfl 7 (by decide +kernel) (List.mem_of_getElem? (i := 19) rfl) rfl dX8_hearRandom_45 ?_
        refine v_iload B dX8_hearRandom_48 rfl ?_
        obtain ⟨z320, e321, r322⟩ := e315 (z17_4 : Int).toNat
        refine u_iald B Z (t0 := 0) t307 h313 rfl (by omega) e321 dX8_hearRandom_50 ?_
        refine u_icmp_eq B (tgt := 65) (by omega) (by omega) dX8_hearRandom_51 (by decide +kernel) (fun c323 => ?_) (fun c323 => ?_)
        · refine v_iinc B (k := 4) (v := iI (z17_4 + 1)) (lv' := [(4, .int (iI (z17_4 + 1))), (0, .ref h), (1, .ref d), (2, .ref w0), (3, .ref g)]) dX8_hearRandom_65 rfl ((iI_add _ _).trans (congrArg iI (by omega))) (by decide +kernel) rfl ?_
          refine v_goto B (tgt := 17) dX8_hearRandom_68 (by decide +kernel) ?_
          refine v_lv [1, 2, 3, 4, 0] rfl ?_
          exact IH17 σ_17 (z17_4 + 1) (by omega) G_17 F_17 hc17_w0 ⟨by omega, by omega⟩
        · refine v_aload_n B dX8_hearRandom_54 rfl rfl ?_
          refine v_iconst B (v := iI 4) dX8_hearRandom_55 rfl ?_
          refine v_aload_n B dX8_hearRandom_56 rfl rfl ?_
          obtain ⟨z324, yy325, z326, z327, z328, z329, a330, z331, yy332, a333, yy334, a335, a336, a337, a338, a339, a340, a341, a342, h343, r344, r345, r346, r347, r348, r349, t350, r351, r352, t353, r354, t355, t356, t357, t358, t359, t360, t361, t362⟩ : okDevice τ (σ_17 d) := G_17 d _ t_d
          refine u_getN B Z (C := RX3) (T := TX3) (N := 19) (ci := 3) hi_Pairing_hearRandom_X3 t_d h343 rfl 17 (by decide +kernel) (List.mem_of_getElem? (i := 95) rfl) rfl dX8_hearRandom_57 ?_
          refine v_aload_n B dX8_hearRandom_60 rfl rfl ?_
          refine u_callVv B Z hz (n := 3) (As := [.int (iI 4), .ref a341, .ref g]) (rest := []) (c_Pairing_fail l D K Z _ _ _ _ h 4 a341 g t_h ⟨by omega, by omega⟩ t361 t_g σ_17 G_17) gd_Pairing_hearRandom_Pairing_fail_88 rfl rfl rfl (by decide +kernel) ⟨Nat.le_trans (by decide +kernel) hR.1, Nat.le_trans (by decide +kernel) hR.2⟩ t_h (cls_Pairing G_17 t_h) rfl rfl rfl rfl (Nat.le_of_ble_eq_true rfl) dX8_hearRandom_61 ⟨Nat.zero_le _, Nat.zero_le _⟩ (fun σ363 p364 => ?_)
          obtain ⟨G366, F367⟩ := p364
          have F368 := F_17.call F367 (by first | rfl | simp)
          have h369 := (F367 w0 _ t_w0 (by first | rfl | simp)).trans hc17_w0
          have h370 := (F367 a297 _ t306 (by first | rfl | simp)).trans h309
          have h371 := (F367 a298 _ t307 (by first | rfl | simp)).trans h313
          have h372 := (F367 d _ t_d (by first | rfl | simp)).trans h343
          exact hend σ363 _ _ G366 F368 dX8_hearRandom_64
  refine v_aload_n B dX8_hearRandom_0 rfl rfl ?_
  refine v_aload_n B dX8_hearRandom_1 rfl rfl ?_
  obtain ⟨a373, z374, z375, a376, a377, a378, a379, a380, h381, t382, r383, r384, t385, t386, t387, t388, t389⟩ : okPairing τ (σ0 h) := G0 h _ t_h
  refine u_get B Z (C := RX8) (T := TX8) (N := 8) (ci := 8) hi_Pairing_hearRandom_X8 t_h h381 rfl 7 (by decide +kernel) (List.mem_of_getElem? (i := 19) rfl) rfl dX8_hearRandom_2 ?_
  refine v_iconst B (v := iI 1) dX8_hearRandom_5 rfl ?_
  refine u_callVv B Z hz (n := 2) (As := [.ref a380, .int (iI 1)]) (rest := []) (c_Row_copyToB l D K Z _ _ _ _ w0 a380 1 t_w0 t389 ⟨by omega, by omega⟩ σ0 G0) gd_Pairing_hearRandom_Row_copyToB_92 rfl rfl rfl (by decide +kernel) ⟨Nat.le_trans (by decide +kernel) hR.1, Nat.le_trans (by decide +kernel) hR.2⟩ t_w0 (cls_Row G0 t_w0) rfl rfl rfl rfl (Nat.le_of_ble_eq_true rfl) dX8_hearRandom_6 ⟨Nat.zero_le _, Nat.zero_le _⟩ (fun σ390 p391 => ?_)
  obtain ⟨G393, F394⟩ := p391
  have F395 := F0.call F394 (by first | rfl | simp)
  have h396 := (F394 w0 _ t_w0 (by first | rfl | simp)).trans h4
  have h397 := (F394 h _ t_h (by first | rfl | simp)).trans h381
  refine v_aload_n B dX8_hearRandom_9 rfl rfl ?_
  refine v_aload_n B dX8_hearRandom_10 rfl rfl ?_
  refine u_callVv B Z hz (n := 1) (As := [.ref d]) (rest := []) (c_Pairing_confirm l D K Z _ _ _ _ h d t_h t_d σ390 G393) gd_Pairing_hearRandom_Pairing_confirm_103 rfl rfl rfl (by decide +kernel) ⟨Nat.le_trans (by decide +kernel) hR.1, Nat.le_trans (by decide +kernel) hR.2⟩ t_h (cls_Pairing G393 t_h) rfl rfl rfl rfl (Nat.le_of_ble_eq_true rfl) dX8_hearRandom_11 ⟨Nat.zero_le _, Nat.zero_le _⟩ (fun σ398 p399 => ?_)
  obtain ⟨G401, F402⟩ := p399
  have F403 := F395.call F402 (by first | rfl | simp)
  have h404 := (F402 w0 _ t_w0 (by first | rfl | simp)).trans h396
  have h405 := (F402 h _ t_h (by first | rfl | simp)).trans h397
  refine v_iconst B (v := iI 0) dX8_hearRandom_14 rfl ?_
  refine v_istore B (lv' := [(4, .int (iI 0)), (0, .ref h), (1, .ref d), (2, .ref w0), (3, .ref g)]) dX8_hearRandom_15 (by decide +kernel) rfl ?_
  refine v_lv [1, 2, 3, 4, 0] rfl ?_
  exact J17 _ σ398 0 (Nat.le_refl _) G401 F403 h404 ⟨by omega, by omega⟩
set_option maxRecDepth 100000 in
theorem c_Pairing_hearRandom (l : Launch) (D : va_G) (K : Nat → ClassId) {τ : Nat → Option Ty} {dom : List Nat} (Z : Sk τ dom) (zb zL : Nat) (zx : Nat → Int32) (zs : Nat → Nat) (h : Nat) (d : Nat) (w0 : Nat) (g : Nat) (t_h : τ h = some (38, 0, 0)) (t_d : τ d = some (33, 0, 0)) (t_w0 : τ w0 = some (1, 12, 0)) (t_g : τ g = some (1, 8, 0)) (σ0 : Nat → va_E) (G0 : Good K τ σ0) (h17 : ∀ (b : Nat) (n : Int), σ0 w0 = .inr (9, [.ref b, .int (iI n)]) → 0 ≤ n → n ≤ 256 → n = 17) : MZ l yX8_hearRandom wp_Pairing_hearRandom ({ frames := 3, cells := 0, slots := 0, locals := 68 }) D (tysA K) [.ref h, .ref d, .ref w0, .ref g] (fd dom σ0) zb zL zx zs (Qv D (fun σ' => Good K τ σ' ∧ Fr τ [(2, 35), (2, 31), (2, 32), (2, 8), (1, 8), (38, 0), (3, 23), (3, 22), (1, 16), (34, 0), (3, 40), (35, 0)] σ0 σ') (fun σ' => fd dom σ')) 0 0 := by
  refine mz_of (cc := cX8_hearRandom) (maxL := 7) (ret := none) (by decide +kernel) rfl (Nat.le_of_ble_eq_true rfl) ?_
  intro p e s m below meth c A B hr hlk _ hz
  exact b_Pairing_hearRandom ⟨Nat.le_refl _, Nat.le_refl _⟩ B Z hz h d w0 g t_h t_d t_w0 t_g σ0 G0 h17 (fun σ' lv pc G F hd => v_vret B hr hlk σ' ⟨G, F⟩ rfl (Nat.le_refl _) (Nat.le_refl _) hd)
