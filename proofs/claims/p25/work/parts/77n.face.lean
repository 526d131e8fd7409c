def wp_Low_feed : List Cond := .code yX11_feed cX11_feed 6 (some .int) :: (([.fieldLink RX11 27 "LowEnergy" "tape" "LLowEnergy$Row;", .methodLink RX11 46 yX9_putHighestFirst, .instanceMethod yX9_putHighestFirst, .selects RX9 yX9_putHighestFirst yX9_putHighestFirst, .initialized RX9, .code yX9_putHighestFirst cX9_putHighestFirst 3 none, .fieldLink RX9 21 "LowEnergy$Row" "size" "I", .fieldLink RX9 15 "LowEnergy$Row" "bytes" "[I"] : List Cond) ++ (wsX110 ++ (wsX90 ++ ([]))))
theorem hi_Low_feed_X11 : ∀ x ∈ u_ws RX11 TX11 5, x ∈ wp_Low_feed := fun _ h => List.mem_cons_of_mem _ (List.mem_append_right _ (List.mem_append_left _ h))
theorem hi_Low_feed_X9 : ∀ x ∈ u_ws RX9 TX9 2, x ∈ wp_Low_feed := fun _ h => List.mem_cons_of_mem _ (List.mem_append_right _ (List.mem_append_right _ (List.mem_append_left _ h)))
set_option maxRecDepth 100000 in
theorem gd_Low_feed_Row_putHighestFirst_46 : GoodIn wp_Low_feed (wsV RX11 46 RX9 yX9_putHighestFirst wp_Row_putHighestFirst) := goodIn_app (goodIn_r _ [2, 3, 4, 5] rfl rfl) (goodIn_ca (goodIn_r _ [6, 7, 8] rfl rfl) (goodIn_app (goodIn_cls hi_Low_feed_X9 gw_X9) (goodIn_nil)))
set_option maxHeartbeats 4000000 in
set_option maxRecDepth 100000 in
theorem b_Low_feed {p : Program} {l : Launch} {e : Env} {R : Room} {s : State} {m : MethodId} {args : Array Value} {below : List Frame} {meth : Method} {c : Code} {D : va_G} {K : Nat → ClassId} {A : Nat → Prop} {Q : State → Prop} {τ : Nat → Option Ty} {dom : List Nat} {zb zL : Nat} {zx : Nat → Int32} {zs : Nat → Nat} (hR : 1 ≤ R.frames ∧ 22 ≤ R.locals) (B : Bx p s m args c cX11_feed 6 RX11 wp_Low_feed D (tysA K) A) (Z : Sk τ dom) (hz : ZL zb zL zx zs A s s.heap) (h : Nat) (x1 : Int) (x2 : Int) (x3 : Int) (x4 : Int) (x5 : Int) (t_h : τ h = some (41, 0, 0)) (r_x1 : -2147483648 ≤ x1 ∧ x1 ≤ 2147483647) (r_x2 : -2147483648 ≤ x2 ∧ x2 ≤ 2147483647) (r_x3 : -2147483648 ≤ x3 ∧ x3 ≤ 2147483647) (r_x4 : -2147483648 ≤ x4 ∧ x4 ≤ 2147483647) (r_x5 : -2147483648 ≤ x5 ∧ x5 ≤ 2147483647) (σ0 : Nat → va_E) (G0 : Good K τ σ0) (hend : ∀ (σ' : Nat → va_E) (z : Int) (lv : List (Nat × Value)) (pc : Nat), Good K τ σ' → Fr τ [(2, 1), (1, 1)] σ0 σ' → (-1 ≤ z ∧ z ≤ 256) → decode cX11_feed pc = .ok (.ireturn, 1) → V p l e R s m args below meth c 6 D A Q (0, 0) (fd dom σ') lv pc [.int (iI z)]) : V p l e R s m args below meth c 6 D A Q (0, 0) (fd dom σ0) [(0, .ref h), (1, .int (iI x1)), (2, .int (iI x2)), (3, .int (iI x3)), (4, .int (iI x4)), (5, .int (iI x5))] 0 [] := by
  have F0 : Fr τ [(2, 1), (1, 1)] σ0 σ0 := Fr.rf
  refine v_aload_n B dX11_feed_0 rfl rfl ?_
  obtain ⟨a1, a2, a3, a4, z5, h6, t7, t8, t9, t10, r11⟩ : okLow τ (σ0 h) := G0 h _ t_h
  refine u_get B Z (C := RX11) (T := TX11) (N := 5) (ci := 11) hi_Low_feed_X11 t_h h6 rfl 2 (by decide +kernel) (List.mem_of_getElem? (i := 1) rfl) rfl dX11_feed_1 ?_
  obtain ⟨b12, N13, n14, h15, t16, r17⟩ : okRow τ 1 (σ0 a3) := G0 a3 _ t9
  refine u_getN B Z (C := RX9) (T := TX9) (N := 2) (ci := 9) hi_Low_feed_X9 t9 h15 rfl 1 (by decide +kernel) (List.mem_of_getElem? (i := 51) rfl) rfl dX11_feed_4 ?_
  refine v_bipush B (v := iI 20) dX11_feed_7 (by decide +kernel) ?_
  refine v_iadd B (v := iI (n14 + 20)) dX11_feed_9 ((iI_add _ _).trans (congrArg iI (by omega))) ?_
  refine v_bipush B (v := iI 100) dX11_feed_10 (by decide +kernel) ?_
  refine u_icmp_le B (tgt := 17) (by omega) (by omega) dX11_feed_12 (by decide +kernel) (fun c18 => ?_) (fun c18 => ?_)
  · refine v_aload_n B dX11_feed_17 rfl rfl ?_
    refine u_get B Z (C := RX11) (T := TX11) (N := 5) (ci := 11) hi_Low_feed_X11 t_h h6 rfl 2 (by decide +kernel) (List.mem_of_getElem? (i := 1) rfl) rfl dX11_feed_18 ?_
    refine v_iload_n B dX11_feed_21 rfl rfl ?_
    refine u_callVv B Z hz (n := 1) (As := [.int (iI x1)]) (rest := []) (c_Row_putHighestFirst l D K Z _ _ _ _ a3 x1 t9 ⟨by omega, by omega⟩ σ0 G0) gd_Low_feed_Row_putHighestFirst_46 rfl rfl rfl (by decide +kernel) ⟨Nat.le_trans (by decide +kernel) hR.1, Nat.le_trans (by decide +kernel) hR.2⟩ t9 (cls_Row G0 t9) rfl rfl rfl rfl (Nat.le_of_ble_eq_true rfl) dX11_feed_22 ⟨Nat.zero_le _, Nat.zero_le _⟩ (fun σ19 p20 => ?_)
    obtain ⟨G22, F23⟩ := p20
    have F24 := F0.call F23 (by first | rfl | simp)
    have h25 := (F23 h _ t_h (by first | rfl | simp)).trans h6
    refine v_aload_n B dX11_feed_25 rfl rfl ?_
    refine u_get B Z (C := RX11) (T := TX11) (N := 5) (ci := 11) hi_Low_feed_X11 t_h h25 rfl 2 (by decide +kernel) (List.mem_of_getElem? (i := 1) rfl) rfl dX11_feed_26 ?_
    refine v_iload_n B dX11_feed_29 rfl rfl ?_
    refine u_callVv B Z hz (n := 1) (As := [.int (iI x2)]) (rest := []) (c_Row_putHighestFirst l D K Z _ _ _ _ a3 x2 t9 ⟨by omega, by omega⟩ σ19 G22) gd_Low_feed_Row_putHighestFirst_46 rfl rfl rfl (by decide +kernel) ⟨Nat.le_trans (by decide +kernel) hR.1, Nat.le_trans (by decide +kernel) hR.2⟩ t9 (cls_Row G22 t9) rfl rfl rfl rfl (Nat.le_of_ble_eq_true rfl) dX11_feed_30 ⟨Nat.zero_le _, Nat.zero_le _⟩ (fun σ26 p27 => ?_)
    obtain ⟨G29, F30⟩ := p27
    have F31 := F24.call F30 (by first | rfl | simp)
    have h32 := (F30 h _ t_h (by first | rfl | simp)).trans h25
    refine v_aload_n B dX11_feed_33 rfl rfl ?_
    refine u_get B Z (C := RX11) (T := TX11) (N := 5) (ci := 11) hi_Low_feed_X11 t_h h32 rfl 2 (by decide +kernel) (List.mem_of_getElem? (i := 1) rfl) rfl dX11_feed_34 ?_
    refine v_iload_n B dX11_feed_37 rfl rfl ?_
    refine u_callVv B Z hz (n := 1) (As := [.int (iI x3)]) (rest := []) (c_Row_putHighestFirst l D K Z _ _ _ _ a3 x3 t9 ⟨by omega, by omega⟩ σ26 G29) gd_Low_feed_Row_putHighestFirst_46 rfl rfl rfl (by decide +kernel) ⟨Nat.le_trans (by decide +kernel) hR.1, Nat.le_trans (by decide +kernel) hR.2⟩ t9 (cls_Row G29 t9) rfl rfl rfl rfl (Nat.le_of_ble_eq_true rfl) dX11_feed_38 ⟨Nat.zero_le _, Nat.zero_le _⟩ (fun σ33 p34 => ?_)
    obtain ⟨G36, F37⟩ := p34
    have F38 := F31.call F37 (by first | rfl | simp)
    have h39 := (F37 h _ t_h (by first | rfl | simp)).trans h32
    refine v_aload_n B dX11_feed_41 rfl rfl ?_
    refine u_get B Z (C := RX11) (T := TX11) (N := 5) (ci := 11) hi_Low_feed_X11 t_h h39 rfl 2 (by decide +kernel) (List.mem_of_getElem? (i := 1) rfl) rfl dX11_feed_42 ?_
    refine v_iload B dX11_feed_45 rfl ?_
    refine u_callVv B Z hz (n := 1) (As := [.int (iI x4)]) (rest := []) (c_Row_putHighestFirst l D K Z _ _ _ _ a3 x4 t9 ⟨by omega, by omega⟩ σ33 G36) gd_Low_feed_Row_putHighestFirst_46 rfl rfl rfl (by decide +kernel) ⟨Nat.le_trans (by decide +kernel) hR.1, Nat.le_trans (by decide +kernel) hR.2⟩ t9 (cls_Row G36 t9) rfl rfl rfl rfl (Nat.le_of_ble_eq_true rfl) dX11_feed_47 ⟨Nat.zero_le _, Nat.zero_le _⟩ (fun σ40 p41 => ?_)
    obtain ⟨G43, F44⟩ := p41
    have F45 := F38.call F44 (by first | rfl | simp)
    have h46 := (F44 h _ t_h (by first | rfl | simp)).trans h39
    refine v_aload_n B dX11_feed_50 rfl rfl ?_
    refine u_get B Z (C := RX11) (T := TX11) (N := 5) (ci := 11) hi_Low_feed_X11 t_h h46 rfl 2 (by decide +kernel) (List.mem_of_getElem? (i := 1) rfl) rfl dX11_feed_51 ?_
    refine v_iload B dX11_feed_54 rfl ?_
    refine u_callVv B Z hz (n := 1) (As := [.int (iI x5)]) (rest := []) (c_Row_putHighestFirst l D K Z _ _ _ _ a3 x5 t9 ⟨by omega, by omega⟩ σ40 G43) gd_Low_feed_Row_putHighestFirst_46 rfl rfl rfl (by decide +kernel) ⟨Nat.le_trans (by decide +kernel) hR.1, Nat.le_trans (by decide +kernel) hR.2⟩ t9 (cls_Row G43 t9) rfl rfl rfl rfl (Nat.le_of_ble_eq_true rfl) dX11_feed_56 ⟨Nat.zero_le _, Nat.zero_le _⟩ (fun σ47 p48 => ?_)
    obtain ⟨G50, F51⟩ := p48
    have F52 := F45.call F51 (by first | rfl | simp)
    have h53 := (F51 h _ t_h (by first | rfl | simp)).trans h46
    refine v_aload_n B dX11_feed_59 rfl rfl ?_
    refine u_get B Z (C := RX11) (T := TX11) (N := 5) (ci := 11) hi_Low_feed_X11 t_h h53 rfl 2 (by decide +kernel) (List.mem_of_getElem? (i := 1) rfl) rfl dX11_feed_60 ?_
    obtain ⟨b54, N55, n56, h57, t58, r59⟩ : okRow τ 1 (σ47 a3) := G50 a3 _ t9
    refine u_getN B Z (C := RX9) (T := TX9) (N := 2) (ci := 9) hi_Low_feed_X9 t9 h57 rfl 1 (by decide +kernel) (List.mem_of_getElem? (i := 51) rfl) rfl dX11_feed_63 ?_
    exact hend σ47 n56 _ _ G50 F52 ⟨by omega, by omega⟩ dX11_feed_66
  · refine v_iconst B (v := iI (-1)) dX11_feed_15 rfl ?_
    exact hend σ0 (-1) _ _ G0 F0 ⟨by omega, by omega⟩ dX11_feed_16
set_option maxRecDepth 100000 in
theorem c_Low_feed (l : Launch) (D : va_G) (K : Nat → ClassId) {τ : Nat → Option Ty} {dom : List Nat} (Z : Sk τ dom) (zb zL : Nat) (zx : Nat → Int32) (zs : Nat → Nat) (h : Nat) (x1 : Int) (x2 : Int) (x3 : Int) (x4 : Int) (x5 : Int) (t_h : τ h = some (41, 0, 0)) (r_x1 : -2147483648 ≤ x1 ∧ x1 ≤ 2147483647) (r_x2 : -2147483648 ≤ x2 ∧ x2 ≤ 2147483647) (r_x3 : -2147483648 ≤ x3 ∧ x3 ≤ 2147483647) (r_x4 : -2147483648 ≤ x4 ∧ x4 ≤ 2147483647) (r_x5 : -2147483648 ≤ x5 ∧ x5 ≤ 2147483647) (σ0 : Nat → va_E) (G0 : Good K τ σ0) : MZ l yX11_feed wp_Low_feed ({ frames := 1, cells := 0, slots := 0, locals := 22 }) D (tysA K) [.ref h, .int (iI x1), .int (iI x2), .int (iI x3), .int (iI x4), .int (iI x5)] (fd dom σ0) zb zL zx zs (Qi D (fun r σ' => Good K τ σ' ∧ Fr τ [(2, 1), (1, 1)] σ0 σ' ∧ ∃ z : Int, r = iI z ∧ (-1 ≤ z ∧ z ≤ 256)) (fun σ' => fd dom σ')) 0 0 := by
  refine mz_of (cc := cX11_feed) (maxL := 6) (ret := (some .int)) (by decide +kernel) rfl (Nat.le_of_ble_eq_true rfl) ?_
  intro p e s m below meth c A B hr hlk _ hz
  exact b_Low_feed ⟨Nat.le_refl _, Nat.le_refl _⟩ B Z hz h x1 x2 x3 x4 x5 t_h r_x1 r_x2 r_x3 r_x4 r_x5 σ0 G0 (fun σ' z lv pc G F hZ hd => v_iret B hr hlk σ' ⟨G, F, z, rfl, hZ⟩ rfl (Nat.le_refl _) (Nat.le_refl _) hd)

def wp_Low_end : List Cond := .code yX11_end cX11_end 2 (some .int) :: (([.fieldLink RX11 27 "LowEnergy" "tape" "LLowEnergy$Row;", .methodLink RX11 49 yX9_cut, .instanceMethod yX9_cut, .selects RX9 yX9_cut yX9_cut, .initialized RX9, .code yX9_cut cX9_cut 2 none, .fieldLink RX9 21 "LowEnergy$Row" "size" "I"] : List Cond) ++ (wsX110 ++ (wsX90 ++ ([]))))
theorem hi_Low_end_X11 : ∀ x ∈ u_ws RX11 TX11 5, x ∈ wp_Low_end := fun _ h => List.mem_cons_of_mem _ (List.mem_append_right _ (List.mem_append_left _ h))
theorem hi_Low_end_X9 : ∀ x ∈ u_ws RX9 TX9 2, x ∈ wp_Low_end := fun _ h => List.mem_cons_of_mem _ (List.mem_append_right _ (List.mem_append_right _ (List.mem_append_left _ h)))
set_option maxRecDepth 100000 in
theorem gd_Low_end_Row_cut_49 : GoodIn wp_Low_end (wsV RX11 49 RX9 yX9_cut wp_Row_cut) := goodIn_app (goodIn_r _ [2, 3, 4, 5] rfl rfl) (goodIn_ca (goodIn_r _ [6, 7] rfl rfl) (goodIn_app (goodIn_cls hi_Low_end_X9 gw_X9) (goodIn_nil)))
set_option maxHeartbeats 4000000 in
set_option maxRecDepth 100000 in
theorem b_Low_end {p : Program} {l : Launch} {e : Env} {R : Room} {s : State} {m : MethodId} {args : Array Value} {below : List Frame} {meth : Method} {c : Code} {D : va_G} {K : Nat → ClassId} {A : Nat → Prop} {Q : State → Prop} {τ : Nat → Option Ty} {dom : List Nat} {zb zL : Nat} {zx : Nat → Int32} {zs : Nat → Nat} (hR : 1 ≤ R.frames ∧ 21 ≤ R.locals) (B : Bx p s m args c cX11_end 2 RX11 wp_Low_end D (tysA K) A) (Z : Sk τ dom) (hz : ZL zb zL zx zs A s s.heap) (h : Nat) (x1 : Int) (t_h : τ h = some (41, 0, 0)) (r_x1 : -2147483648 ≤ x1 ∧ x1 ≤ 2147483647) (σ0 : Nat → va_E) (G0 : Good K τ σ0) (hend : ∀ (σ' : Nat → va_E) (z : Int) (lv : List (Nat × Value)) (pc : Nat), Good K τ σ' → Fr τ [(1, 1)] σ0 σ' → (-1 ≤ z ∧ z ≤ 256) → decode cX11_end pc = .ok (.ireturn, 1) → V p l e R s m args below meth c 2 D A Q (0, 0) (fd dom σ') lv pc [.int (iI z)]) : V p l e R s m args below meth c 2 D A Q (0, 0) (fd dom σ0) [(0, .ref h), (1, .int (iI x1))] 0 [] := by
  have F0 : Fr τ [(1, 1)] σ0 σ0 := Fr.rf
  refine v_iload_n B dX11_end_0 rfl rfl ?_
  refine u_if_lt B (tgt := 15) (by omega) dX11_end_1 (by decide +kernel) (fun c1 => ?_) (fun c1 => ?_)
  · refine v_iconst B (v := iI (-1)) dX11_end_15 rfl ?_
    exact hend σ0 (-1) _ _ G0 F0 ⟨by omega, by omega⟩ dX11_end_16
  · refine v_iload_n B dX11_end_4 rfl rfl ?_
    refine v_aload_n B dX11_end_5 rfl rfl ?_
    obtain ⟨a2, a3, a4, a5, z6, h7, t8, t9, t10, t11, r12⟩ : okLow τ (σ0 h) := G0 h _ t_h
    refine u_get B Z (C := RX11) (T := TX11) (N := 5) (ci := 11) hi_Low_end_X11 t_h h7 rfl 2 (by decide +kernel) (List.mem_of_getElem? (i := 1) rfl) rfl dX11_end_6 ?_
    obtain ⟨b13, N14, n15, h16, t17, r18⟩ : okRow τ 1 (σ0 a4) := G0 a4 _ t10
    refine u_getN B Z (C := RX9) (T := TX9) (N := 2) (ci := 9) hi_Low_end_X9 t10 h16 rfl 1 (by decide +kernel) (List.mem_of_getElem? (i := 51) rfl) rfl dX11_end_9 ?_
    refine u_icmp_le B (tgt := 17) (by omega) (by omega) dX11_end_12 (by decide +kernel) (fun c19 => ?_) (fun c19 => ?_)
    · refine v_aload_n B dX11_end_17 rfl rfl ?_
      refine u_get B Z (C := RX11) (T := TX11) (N := 5) (ci := 11) hi_Low_end_X11 t_h h7 rfl 2 (by decide +kernel) (List.mem_of_getElem? (i := 1) rfl) rfl dX11_end_18 ?_
      refine v_iload_n B dX11_end_21 rfl rfl ?_
      refine u_callVv B Z hz (n := 1) (As := [.int (iI x1)]) (rest := []) (c_Row_cut l D K Z _ _ _ _ a4 x1 t10 ⟨by omega, by omega⟩ σ0 G0) gd_Low_end_Row_cut_49 rfl rfl rfl (by decide +kernel) ⟨Nat.le_trans (by decide +kernel) hR.1, Nat.le_trans (by decide +kernel) hR.2⟩ t10 (cls_Row G0 t10) rfl rfl rfl rfl (Nat.le_of_ble_eq_true rfl) dX11_end_22 ⟨Nat.zero_le _, Nat.zero_le _⟩ (fun σ20 p21 => ?_)
      obtain ⟨G23, F24⟩ := p21
      have F25 := F0.call F24 (by first | rfl | simp)
      have h26 := (F24 h _ t_h (by first | rfl | simp)).trans h7
      refine v_iload_n B dX11_end_25 rfl rfl ?_
      exact hend σ20 x1 _ _ G23 F25 ⟨by omega, by omega⟩ dX11_end_26
    · refine v_iconst B (v := iI (-1)) dX11_end_15 rfl ?_
      exact hend σ0 (-1) _ _ G0 F0 ⟨by omega, by omega⟩ dX11_end_16
set_option maxRecDepth 100000 in
theorem c_Low_end (l : Launch) (D : va_G) (K : Nat → ClassId) {τ : Nat → Option Ty} {dom : List Nat} (Z : Sk τ dom) (zb zL : Nat) (zx : Nat → Int32) (zs : Nat → Nat) (h : Nat) (x1 : Int) (t_h : τ h = some (41, 0, 0)) (r_x1 : -2147483648 ≤ x1 ∧ x1 ≤ 2147483647) (σ0 : Nat → va_E) (G0 : Good K τ σ0) : MZ l yX11_end wp_Low_end ({ frames := 1, cells := 0, slots := 0, locals := 21 }) D (tysA K) [.ref h, .int (iI x1)] (fd dom σ0) zb zL zx zs (Qi D (fun r σ' => Good K τ σ' ∧ Fr τ [(1, 1)] σ0 σ' ∧ ∃ z : Int, r = iI z ∧ (-1 ≤ z ∧ z ≤ 256)) (fun σ' => fd dom σ')) 0 0 := by
  refine mz_of (cc := cX11_end) (maxL := 2) (ret := (some .int)) (by decide +kernel) rfl (Nat.le_of_ble_eq_true rfl) ?_
  intro p e s m below meth c A B hr hlk _ hz
  exact b_Low_end ⟨Nat.le_refl _, Nat.le_refl _⟩ B Z hz h x1 t_h r_x1 σ0 G0 (fun σ' z lv pc G F hZ hd => v_iret B hr hlk σ' ⟨G, F, z, rfl, hZ⟩ rfl (Nat.le_refl _) (Nat.le_refl _) hd)

def wp_Low_seed : List Cond := .code yX11_seed cX11_seed 4 (some .boolean) :: (([.methodLink RX11 52 yX11_find, .instanceMethod yX11_find, .selects RX11 yX11_find yX11_find, .initialized RX11, .code yX11_find cX11_find 2 (some (.object "LowEnergy$Device")), .fieldLink RX11 9 "LowEnergy" "devices" "[LLowEnergy$Device;"] : List Cond) ++ (wsX110 ++ (wsX30 ++ ([]))))
theorem hi_Low_seed_X11 : ∀ x ∈ u_ws RX11 TX11 5, x ∈ wp_Low_seed := fun _ h => List.mem_cons_of_mem _ (List.mem_append_right _ (List.mem_append_left _ h))
theorem hi_Low_seed_X3 : ∀ x ∈ u_ws RX3 TX3 19, x ∈ wp_Low_seed := fun _ h => List.mem_cons_of_mem _ (List.mem_append_right _ (List.mem_append_right _ (List.mem_append_left _ h)))
set_option maxRecDepth 100000 in
theorem gd_Low_seed_Low_find_52 : GoodIn wp_Low_seed (wsV RX11 52 RX11 yX11_find wp_Low_find) := goodIn_app (goodIn_r _ [1, 2, 3, 4] rfl rfl) (goodIn_ca (goodIn_r _ [5, 6] rfl rfl) (goodIn_app (goodIn_cls hi_Low_seed_X11 gw_X11) (goodIn_nil)))
set_option maxHeartbeats 4000000 in
set_option maxRecDepth 100000 in
theorem b_Low_seed {p : Program} {l : Launch} {e : Env} {R : Room} {s : State} {m : MethodId} {args : Array Value} {below : List Frame} {meth : Method} {c : Code} {D : va_G} {K : Nat → ClassId} {A : Nat → Prop} {Q : State → Prop} {τ : Nat → Option Ty} {dom : List Nat} {zb zL : Nat} {zx : Nat → Int32} {zs : Nat → Nat} (hR : 1 ≤ R.frames ∧ 21 ≤ R.locals) (B : Bx p s m args c cX11_seed 4 RX11 wp_Low_seed D (tysA K) A) (Z : Sk τ dom) (hz : ZL zb zL zx zs A s s.heap) (h : Nat) (x1 : Int) (x2 : Int) (t_h : τ h = some (41, 0, 0)) (r_x1 : -2147483648 ≤ x1 ∧ x1 ≤ 2147483647) (r_x2 : -2147483648 ≤ x2 ∧ x2 ≤ 2147483647) (σ0 : Nat → va_E) (G0 : Good K τ σ0) (hend : ∀ (σ' : Nat → va_E) (z : Int) (lv : List (Nat × Value)) (pc : Nat), Good K τ σ' → Fr τ [(33, 0)] σ0 σ' → (0 ≤ z ∧ z ≤ 1) → decode cX11_seed pc = .ok (.ireturn, 1) → V p l e R s m args below meth c 4 D A Q (0, 0) (fd dom σ') lv pc [.int (iI z)]) : V p l e R s m args below meth c 4 D A Q (0, 0) (fd dom σ0) [(0, .ref h), (1, .int (iI x1)), (2, .int (iI x2))] 0 [] := by
  have F0 : Fr τ [(33, 0)] σ0 σ0 := Fr.rf
  refine v_aload_n B dX11_seed_0 rfl rfl ?_
  refine v_iload_n B dX11_seed_1 rfl rfl ?_
  refine u_callVq B Z hz (n := 1) (As := [.int (iI x1)]) (rest := []) (c_Low_find l D K Z _ _ _ _ h x1 t_h ⟨by omega, by omega⟩ σ0 G0) gd_Low_seed_Low_find_52 rfl rfl rfl (by decide +kernel) ⟨Nat.le_trans (by decide +kernel) hR.1, Nat.le_trans (by decide +kernel) hR.2⟩ t_h (cls_Low G0 t_h) rfl rfl rfl rfl (Nat.le_of_ble_eq_true rfl) dX11_seed_2 ⟨Nat.zero_le _, Nat.zero_le _⟩ (fun v3 σ1 p2 => ?_)
  obtain ⟨rfl, q7⟩ := p2
  rcases q7 with rfl | ⟨a8, rfl, t9⟩
  · show V _ _ _ _ _ _ _ _ _ _ _ _ _ _ _ _ _ _ [.null]
    refine v_astore_nN B (lv' := [(3, .null), (0, .ref h), (1, .int (iI x1)), (2, .int (iI x2))]) dX11_seed_5 rfl (by decide +kernel) rfl ?_
    refine v_aload_nN B dX11_seed_6 rfl rfl ?_
    refine v_ifnonnullN B dX11_seed_7 ?_
    refine v_iconst B (v := iI 0) dX11_seed_10 rfl ?_
    exact hend σ0 0 _ _ G0 F0 ⟨by omega, by omega⟩ dX11_seed_11
  · show V _ _ _ _ _ _ _ _ _ _ _ _ _ _ _ _ _ _ [.ref a8]
    refine v_astore_n B (lv' := [(3, .ref a8), (0, .ref h), (1, .int (iI x1)), (2, .int (iI x2))]) dX11_seed_5 rfl (by decide +kernel) rfl ?_
    refine v_aload_n B dX11_seed_6 rfl rfl ?_
    refine v_ifnonnull B (tgt := 12) dX11_seed_7 (by decide +kernel) ?_
    refine v_aload_n B dX11_seed_12 rfl rfl ?_
    refine v_iload_n B dX11_seed_13 rfl rfl ?_
    obtain ⟨z10, yy11, z12, z13, z14, z15, a16, z17, yy18, a19, yy20, a21, a22, a23, a24, a25, a26, a27, a28, h29, r30, r31, r32, r33, r34, r35, t36, r37, r38, t39, r40, t41, t42, t43, t44, t45, t46, t47, t48⟩ : okDevice τ (σ0 a8) := G0 a8 _ t9
    refine u_putN B Z (C := RX3) (T := TX3) (N := 19) (ci := 3) hi_Low_seed_X3 t9 h29 rfl 3 (by decide +kernel) tyX3 tyX3_ok nmX3 (List.mem_of_getElem? (i := 64) rfl) rfl (ty := .int) (tyX3_ok 3 (by decide +kernel)) rfl rfl (Nat.le_of_ble_eq_true rfl) (fs' := [.int (iI z10), .long (lI yy11), .int (iI z12), .int (iI x2), .int (iI z14), .int (iI z15), .ref a16, .int (iI z17), .long (lI yy18), .ref a19, .long (lI yy20), .ref a21, .ref a22, .ref a23, .ref a24, .ref a25, .ref a26, .ref a27, .ref a28]) rfl dX11_seed_14 (fun σ49 h50 n51 => ?_)
    have G52 := G0.put t9 (⟨z10, yy11, z12, x2, z14, z15, a16, z17, yy18, a19, yy20, a21, a22, a23, a24, a25, a26, a27, a28, h50, ⟨by omega, by omega⟩, ⟨by omega, by omega⟩, ⟨by omega, by omega⟩, ⟨by omega, by omega⟩, ⟨by omega, by omega⟩, ⟨by omega, by omega⟩, t36, ⟨by omega, by omega⟩, ⟨by omega, by omega⟩, t39, ⟨by omega, by omega⟩, t41, t42, t43, t44, t45, t46, t47, t48⟩ : Ok K τ (33, 0, 0) (σ49 a8)) n51
    have F53 := F0.put t9 (by simp) n51
    refine v_iconst B (v := iI 1) dX11_seed_17 rfl ?_
    exact hend σ49 1 _ _ G52 F53 ⟨by omega, by omega⟩ dX11_seed_18
set_option maxRecDepth 100000 in
theorem c_Low_seed (l : Launch) (D : va_G) (K : Nat → ClassId) {τ : Nat → Option Ty} {dom : List Nat} (Z : Sk τ dom) (zb zL : Nat) (zx : Nat → Int32) (zs : Nat → Nat) (h : Nat) (x1 : Int) (x2 : Int) (t_h : τ h = some (41, 0, 0)) (r_x1 : -2147483648 ≤ x1 ∧ x1 ≤ 2147483647) (r_x2 : -2147483648 ≤ x2 ∧ x2 ≤ 2147483647) (σ0 : Nat → va_E) (G0 : Good K τ σ0) : MZ l yX11_seed wp_Low_seed ({ frames := 1, cells := 0, slots := 0, locals := 21 }) D (tysA K) [.ref h, .int (iI x1), .int (iI x2)] (fd dom σ0) zb zL zx zs (Qi D (fun r σ' => Good K τ σ' ∧ Fr τ [(33, 0)] σ0 σ' ∧ ∃ z : Int, r = iI z ∧ (0 ≤ z ∧ z ≤ 1)) (fun σ' => fd dom σ')) 0 0 := by
  refine mz_of (cc := cX11_seed) (maxL := 4) (ret := (some .boolean)) (by decide +kernel) rfl (Nat.le_of_ble_eq_true rfl) ?_
  intro p e s m below meth c A B hr hlk _ hz
  exact b_Low_seed ⟨Nat.le_refl _, Nat.le_refl _⟩ B Z hz h x1 x2 t_h r_x1 r_x2 σ0 G0 (fun σ' z lv pc G F hZ hd => v_zret B hr hlk (nar01 (by omega)) σ' ⟨G, F, z, rfl, hZ⟩ rfl (Nat.le_refl _) (Nat.le_refl _) hd)

def wp_Low_advertise : List Cond := .code yX11_advertise cX11_advertise 4 (some .boolean) :: (([.methodLink RX11 52 yX11_find, .instanceMethod yX11_find, .selects RX11 yX11_find yX11_find, .initialized RX11, .code yX11_find cX11_find 2 (some (.object "LowEnergy$Device")), .fieldLink RX11 9 "LowEnergy" "devices" "[LLowEnergy$Device;", .fieldLink RX11 27 "LowEnergy" "tape" "LLowEnergy$Row;", .fieldLink RX11 65 "LowEnergy" "now" "I", .methodLink RX11 74 yX9_become, .instanceMethod yX9_become, .selects RX9 yX9_become yX9_become, .initialized RX9, .code yX9_become cX9_become 2 none, .fieldLink RX9 21 "LowEnergy$Row" "size" "I", .methodLink RX9 27 yX9_putPart, .instanceMethod yX9_putPart, .selects RX9 yX9_putPart yX9_putPart, .code yX9_putPart cX9_putPart 6 none, .fieldLink RX9 15 "LowEnergy$Row" "bytes" "[I", .methodLink RX9 9 Lib.Math.max.name, .static Lib.Math.max.name, .initialized "java/lang/Math", .code Lib.Math.max.name Lib.Math.max.code 2 (some .int), .methodLink RX11 78 yX9_clear, .instanceMethod yX9_clear, .selects RX9 yX9_clear yX9_clear, .code yX9_clear cX9_clear 1 none] : List Cond) ++ (wsX110 ++ (wsX30 ++ (wsX90 ++ ([])))))
theorem hi_Low_advertise_X11 : ∀ x ∈ u_ws RX11 TX11 5, x ∈ wp_Low_advertise := fun _ h => List.mem_cons_of_mem _ (List.mem_append_right _ (List.mem_append_left _ h))
theorem hi_Low_advertise_X3 : ∀ x ∈ u_ws RX3 TX3 19, x ∈ wp_Low_advertise := fun _ h => List.mem_cons_of_mem _ (List.mem_append_right _ (List.mem_append_right _ (List.mem_append_left _ h)))
theorem hi_Low_advertise_X9 : ∀ x ∈ u_ws RX9 TX9 2, x ∈ wp_Low_advertise := fun _ h => List.mem_cons_of_mem _ (List.mem_append_right _ (List.mem_append_right _ (List.mem_append_right _ (List.mem_append_left _ h))))
set_option maxRecDepth 100000 in
theorem gd_Low_advertise_Low_find_52 : GoodIn wp_Low_advertise (wsV RX11 52 RX11 yX11_find wp_Low_find) := goodIn_app (goodIn_r _ [1, 2, 3, 4] rfl rfl) (goodIn_ca (goodIn_r _ [5, 6] rfl rfl) (goodIn_app (goodIn_cls hi_Low_advertise_X11 gw_X11) (goodIn_nil)))
set_option maxRecDepth 100000 in
theorem gd_Low_advertise_Row_become_74 : GoodIn wp_Low_advertise (wsV RX11 74 RX9 yX9_become wp_Row_become) := goodIn_app (goodIn_r _ [9, 10, 11, 12] rfl rfl) (goodIn_ca (goodIn_r _ [13, 14, 15, 16, 17, 12, 18, 19, 20, 21, 22, 23] rfl rfl) (goodIn_app (goodIn_cls hi_Low_advertise_X9 gw_X9) (goodIn_nil)))
set_option maxRecDepth 100000 in
theorem gd_Low_advertise_Row_clear_78 : GoodIn wp_Low_advertise (wsV RX11 78 RX9 yX9_clear wp_Row_clear) := goodIn_app (goodIn_r _ [24, 25, 26, 12] rfl rfl) (goodIn_ca (goodIn_r _ [27, 14] rfl rfl) (goodIn_app (goodIn_cls hi_Low_advertise_X9 gw_X9) (goodIn_nil)))
set_option maxHeartbeats 4000000 in
set_option maxRecDepth 100000 in
theorem b_Low_advertise {p : Program} {l : Launch} {e : Env} {R : Room} {s : State} {m : MethodId} {args : Array Value} {below : List Frame} {meth : Method} {c : Code} {D : va_G} {K : Nat → ClassId} {A : Nat → Prop} {Q : State → Prop} {τ : Nat → Option Ty} {dom : List Nat} {zb zL : Nat} {zx : Nat → Int32} {zs : Nat → Nat} (hR : 3 ≤ R.frames ∧ 59 ≤ R.locals) (B : Bx p s m args c cX11_advertise 4 RX11 wp_Low_advertise D (tysA K) A) (Z : Sk τ dom) (hz : ZL zb zL zx zs A s s.heap) (h : Nat) (x1 : Int) (x2 : Int) (t_h : τ h = some (41, 0, 0)) (r_x1 : -2147483648 ≤ x1 ∧ x1 ≤ 2147483647) (r_x2 : -2147483648 ≤ x2 ∧ x2 ≤ 2147483647) (σ0 : Nat → va_E) (G0 : Good K τ σ0) (hend : ∀ (σ' : Nat → va_E) (z : Int) (lv : List (Nat × Value)) (pc : Nat), Good K τ σ' → Fr τ [(33, 0), (1, 6), (2, 6), (1, 1)] σ0 σ' → (0 ≤ z ∧ z ≤ 1) → decode cX11_advertise pc = .ok (.ireturn, 1) → V p l e R s m args below meth c 4 D A Q (0, 0) (fd dom σ') lv pc [.int (iI z)]) : V p l e R s m args below meth c 4 D A Q (0, 0) (fd dom σ0) [(0, .ref h), (1, .int (iI x1)), (2, .int (iI x2))] 0 [] := by
  have F0 : Fr τ [(33, 0), (1, 6), (2, 6), (1, 1)] σ0 σ0 := Fr.rf
  refine v_aload_n B dX11_advertise_0 rfl rfl ?_
  refine v_iload_n B dX11_advertise_1 rfl rfl ?_
  refine u_callVq B Z hz (n := 1) (As := [.int (iI x1)]) (rest := []) (c_Low_find l D K Z _ _ _ _ h x1 t_h ⟨by omega, by omega⟩ σ0 G0) gd_Low_advertise_Low_find_52 rfl rfl rfl (by decide +kernel) ⟨Nat.le_trans (by decide +kernel) hR.1, Nat.le_trans (by decide +kernel) hR.2⟩ t_h (cls_Low G0 t_h) rfl rfl rfl rfl (Nat.le_of_ble_eq_true rfl) dX11_advertise_2 ⟨Nat.zero_le _, Nat.zero_le _⟩ (fun v3 σ1 p2 => ?_)
  obtain ⟨rfl, q7⟩ := p2
  rcases q7 with rfl | ⟨a8, rfl, t9⟩
  · show V _ _ _ _ _ _ _ _ _ _ _ _ _ _ _ _ _ _ [.null]
    refine v_astore_nN B (lv' := [(3, .null), (0, .ref h), (1, .int (iI x1)), (2, .int (iI x2))]) dX11_advertise_5 rfl (by decide +kernel) rfl ?_
    refine v_aload_nN B dX11_advertise_6 rfl rfl ?_
    refine v_ifnullN B (tgt := 41) dX11_advertise_7 (by decide +kernel) ?_
    refine v_iconst B (v := iI 0) dX11_advertise_41 rfl ?_
    exact hend σ0 0 _ _ G0 F0 ⟨by omega, by omega⟩ dX11_advertise_42
  · show V _ _ _ _ _ _ _ _ _ _ _ _ _ _ _ _ _ _ [.ref a8]
    refine v_astore_n B (lv' := [(3, .ref a8), (0, .ref h), (1, .int (iI x1)), (2, .int (iI x2))]) dX11_advertise_5 rfl (by decide +kernel) rfl ?_
    refine v_aload_n B dX11_advertise_6 rfl rfl ?_
    refine v_ifnull B dX11_advertise_7 ?_
    refine v_aload_n B dX11_advertise_10 rfl rfl ?_
    obtain ⟨z10, yy11, z12, z13, z14, z15, a16, z17, yy18, a19, yy20, a21, a22, a23, a24, a25, a26, a27, a28, h29, r30, r31, r32, r33, r34, r35, t36, r37, r38, t39, r40, t41, t42, t43, t44, t45, t46, t47, t48⟩ : okDevice τ (σ0 a8) := G0 a8 _ t9
    refine u_getN B Z (C := RX3) (T := TX3) (N := 19) (ci := 3) hi_Low_advertise_X3 t9 h29 rfl 2 (by decide +kernel) (List.mem_of_getElem? (i := 65) rfl) rfl dX11_advertise_11 ?_
    refine u_if_ne B (tgt := 41) (by omega) dX11_advertise_14 (by decide +kernel) (fun c49 => ?_) (fun c49 => ?_)
    · refine v_iconst B (v := iI 0) dX11_advertise_41 rfl ?_
      exact hend σ0 0 _ _ G0 F0 ⟨by omega, by omega⟩ dX11_advertise_42
    · refine v_iload_n B dX11_advertise_17 rfl rfl ?_
      refine v_iconst B (v := iI 5) dX11_advertise_18 rfl ?_
      refine u_icmp_lt B (tgt := 41) (by omega) (by omega) dX11_advertise_19 (by decide +kernel) (fun c50 => ?_) (fun c50 => ?_)
      · refine v_iconst B (v := iI 0) dX11_advertise_41 rfl ?_
        exact hend σ0 0 _ _ G0 F0 ⟨by omega, by omega⟩ dX11_advertise_42
      · refine v_iload_n B dX11_advertise_22 rfl rfl ?_
        refine v_sipush B (v := iI 1000) dX11_advertise_23 (by decide +kernel) ?_
        refine u_icmp_gt B (tgt := 41) (by omega) (by omega) dX11_advertise_26 (by decide +kernel) (fun c51 => ?_) (fun c51 => ?_)
        · refine v_iconst B (v := iI 0) dX11_advertise_41 rfl ?_
          exact hend σ0 0 _ _ G0 F0 ⟨by omega, by omega⟩ dX11_advertise_42
        · refine v_aload_n B dX11_advertise_29 rfl rfl ?_
          obtain ⟨a52, a53, a54, a55, z56, h57, t58, t59, t60, t61, r62⟩ : okLow τ (σ0 h) := G0 h _ t_h
          refine u_get B Z (C := RX11) (T := TX11) (N := 5) (ci := 11) hi_Low_advertise_X11 t_h h57 rfl 2 (by decide +kernel) (List.mem_of_getElem? (i := 7) rfl) rfl dX11_advertise_30 ?_
          obtain ⟨b63, N64, n65, h66, t67, r68⟩ : okRow τ 1 (σ0 a54) := G0 a54 _ t60
          refine u_getN B Z (C := RX9) (T := TX9) (N := 2) (ci := 9) hi_Low_advertise_X9 t60 h66 rfl 1 (by decide +kernel) (List.mem_of_getElem? (i := 51) rfl) rfl dX11_advertise_33 ?_
          refine v_bipush B (v := iI 20) dX11_advertise_36 (by decide +kernel) ?_
          refine u_icmp_le B (tgt := 43) (by omega) (by omega) dX11_advertise_38 (by decide +kernel) (fun c69 => ?_) (fun c69 => ?_)
          · refine v_aload_n B dX11_advertise_43 rfl rfl ?_
            refine v_iconst B (v := iI 1) dX11_advertise_44 rfl ?_
            refine u_putN B Z (C := RX3) (T := TX3) (N := 19) (ci := 3) hi_Low_advertise_X3 t9 h29 rfl 2 (by decide +kernel) tyX3 tyX3_ok nmX3 (List.mem_of_getElem? (i := 65) rfl) rfl (ty := .int) (tyX3_ok 2 (by decide +kernel)) rfl rfl (Nat.le_of_ble_eq_true rfl) (fs' := [.int (iI z10), .long (lI yy11), .int (iI 1), .int (iI z13), .int (iI z14), .int (iI z15), .ref a16, .int (iI z17), .long (lI yy18), .ref a19, .long (lI yy20), .ref a21, .ref a22, .ref a23, .ref a24, .ref a25, .ref a26, .ref a27, .ref a28]) rfl dX11_advertise_45 (fun σ70 h71 n72 => ?_)
            have G73 := G0.put t9 (⟨z10, yy11, 1, z13, z14, z15, a16, z17, yy18, a19, yy20, a21, a22, a23, a24, a25, a26, a27, a28, h71, ⟨by omega, by omega⟩, ⟨by omega, by omega⟩, ⟨by omega, by omega⟩, ⟨by omega, by omega⟩, ⟨by omega, by omega⟩, ⟨by omega, by omega⟩, t36, ⟨by omega, by omega⟩, ⟨by omega, by omega⟩, t39, ⟨by omega, by omega⟩, t41, t42, t43, t44, t45, t46, t47, t48⟩ : Ok K τ (33, 0, 0) (σ70 a8)) n72
            have F74 := F0.put t9 (by simp) n72
            have h75 := (n72 h (ne_ty t_h t9 (by simp))).trans h57
            have h76 := (n72 a54 (ne_ty t60 t9 (by simp))).trans h66
            refine v_aload_n B dX11_advertise_48 rfl rfl ?_
            refine v_iload_n B dX11_advertise_49 rfl rfl ?_
            refine u_putN B Z (C := RX3) (T := TX3) (N := 19) (ci := 3) hi_Low_advertise_X3 t9 h71 rfl 4 (by decide +kernel) tyX3 tyX3_ok nmX3 (List.mem_of_getElem? (i := 66) rfl) rfl (ty := .int) (tyX3_ok 4 (by decide +kernel)) rfl rfl (Nat.le_of_ble_eq_true rfl) (fs' := [.int (iI z10), .long (lI yy11), .int (iI 1), .int (iI z13), .int (iI x2), .int (iI z15), .ref a16, .int (iI z17), .long (lI yy18), .ref a19, .long (lI yy20), .ref a21, .ref a22, .ref a23, .ref a24, .ref a25, .ref a26, .ref a27, .ref a28]) rfl dX11_advertise_50 (fun σ77 h78 n79 => ?_)
            have G80 := G73.put t9 (⟨z10, yy11, 1, z13, x2, z15, a16, z17, yy18, a19, yy20, a21, a22, a23, a24, a25, a26, a27, a28, h78, ⟨by omega, by omega⟩, ⟨by omega, by omega⟩, ⟨by omega, by omega⟩, ⟨by omega, by omega⟩, ⟨by omega, by omega⟩, ⟨by omega, by omega⟩, t36, ⟨by omega, by omega⟩, ⟨by omega, by omega⟩, t39, ⟨by omega, by omega⟩, t41, t42, t43, t44, t45, t46, t47, t48⟩ : Ok K τ (33, 0, 0) (σ77 a8)) n79
            have F81 := F74.put t9 (by simp) n79
            have h82 := (n79 h (ne_ty t_h t9 (by simp))).trans h75
            have h83 := (n79 a54 (ne_ty t60 t9 (by simp))).trans h76
            refine v_aload_n B dX11_advertise_53 rfl rfl ?_
            refine v_aload_n B dX11_advertise_54 rfl rfl ?_
            refine u_get B Z (C := RX11) (T := TX11) (N := 5) (ci := 11) hi_Low_advertise_X11 t_h h82 rfl 4 (by decide +kernel) (List.mem_of_getElem? (i := 8) rfl) rfl dX11_advertise_55 ?_
            refine u_putN B Z (C := RX3) (T := TX3) (N := 19) (ci := 3) hi_Low_advertise_X3 t9 h78 rfl 5 (by decide +kernel) tyX3 tyX3_ok nmX3 (List.mem_of_getElem? (i := 67) rfl) rfl (ty := .int) (tyX3_ok 5 (by decide +kernel)) rfl rfl (Nat.le_of_ble_eq_true rfl) (fs' := [.int (iI z10), .long (lI yy11), .int (iI 1), .int (iI z13), .int (iI x2), .int (iI z56), .ref a16, .int (iI z17), .long (lI yy18), .ref a19, .long (lI yy20), .ref a21, .ref a22, .ref a23, .ref a24, .ref a25, .ref a26, .ref a27, .ref a28]) rfl dX11_advertise_58 (fun σ84 h85 n86 => ?_)
            have G87 := G80.put t9 (⟨z10, yy11, 1, z13, x2, z56, a16, z17, yy18, a19, yy20, a21, a22, a23, a24, a25, a26, a27, a28, h85, ⟨by omega, by omega⟩, ⟨by omega, by omega⟩, ⟨by omega, by omega⟩, ⟨by omega, by omega⟩, ⟨by omega, by omega⟩, ⟨by omega, by omega⟩, t36, ⟨by omega, by omega⟩, ⟨by omega, by omega⟩, t39, ⟨by omega, by omega⟩, t41, t42, t43, t44, t45, t46, t47, t48⟩ : Ok K τ (33, 0, 0) (σ84 a8)) n86
            have F88 := F81.put t9 (by simp) n86
            have h89 := (n86 h (ne_ty t_h t9 (by simp))).trans h82
            have h90 := (n86 a54 (ne_ty t60 t9 (by simp))).trans h83
            refine v_aload_n B dX11_advertise_61 rfl rfl ?_
            refine u_getN B Z (C := RX3) (T := TX3) (N := 19) (ci := 3) hi_Low_advertise_X3 t9 h85 rfl 6 (by decide +kernel) (List.mem_of_getElem? (i := 68) rfl) rfl dX11_advertise_62 ?_
            refine v_aload_n B dX11_advertise_65 rfl rfl ?_
            refine u_get B Z (C := RX11) (T := TX11) (N := 5) (ci := 11) hi_Low_advertise_X11 t_h h89 rfl 2 (by decide +kernel) (List.mem_of_getElem? (i := 7) rfl) rfl dX11_advertise_66 ?_
            refine u_callVv B Z hz (n := 1) (As := [.ref a54]) (rest := []) (c_Row_become l D K Z _ _ _ _ a16 a54 t36 t60 σ84 G87) gd_Low_advertise_Row_become_74 rfl rfl rfl (by decide +kernel) ⟨Nat.le_trans (by decide +kernel) hR.1, Nat.le_trans (by decide +kernel) hR.2⟩ t36 (cls_Row G87 t36) rfl rfl rfl rfl (Nat.le_of_ble_eq_true rfl) dX11_advertise_69 ⟨Nat.zero_le _, Nat.zero_le _⟩ (fun σ91 p92 => ?_)
            obtain ⟨G94, F95⟩ := p92
            have F96 := F88.call F95 (by first | rfl | simp)
            have h97 := (F95 a8 _ t9 (by first | rfl | simp)).trans h85
            have h98 := (F95 h _ t_h (by first | rfl | simp)).trans h89
            have h99 := (F95 a54 _ t60 (by first | rfl | simp)).trans h90
            refine v_aload_n B dX11_advertise_72 rfl rfl ?_
            refine u_get B Z (C := RX11) (T := TX11) (N := 5) (ci := 11) hi_Low_advertise_X11 t_h h98 rfl 2 (by decide +kernel) (List.mem_of_getElem? (i := 7) rfl) rfl dX11_advertise_73 ?_
            refine u_callVv B Z hz (n := 0) (As := []) (rest := []) (c_Row_clear l D K Z _ _ _ _ a54 t60 σ91 G94) gd_Low_advertise_Row_clear_78 rfl rfl rfl (by decide +kernel) ⟨Nat.le_trans (by decide +kernel) hR.1, Nat.le_trans (by decide +kernel) hR.2⟩ t60 (cls_Row G94 t60) rfl rfl rfl rfl (Nat.le_of_ble_eq_true rfl) dX11_advertise_76 ⟨Nat.zero_le _, Nat.zero_le _⟩ (fun σ100 p101 => ?_)
            obtain ⟨G103, F104⟩ := p101
            have F105 := F96.call F104 (by first | rfl | simp)
            have h106 := (F104 a8 _ t9 (by first | rfl | simp)).trans h97
            have h107 := (F104 h _ t_h (by first | rfl | simp)).trans h98
            refine v_iconst B (v := iI 1) dX11_advertise_79 rfl ?_
            exact hend σ100 1 _ _ G103 F105 ⟨by omega, by omega⟩ dX11_advertise_80
          · refine v_iconst B (v := iI 0) dX11_advertise_41 rfl ?_
            exact hend σ0 0 _ _ G0 F0 ⟨by omega, by omega⟩ dX11_advertise_42
set_option maxRecDepth 100000 in
theorem c_Low_advertise (l : Launch) (D : va_G) (K : Nat → ClassId) {τ : Nat → Option Ty} {dom : List Nat} (Z : Sk τ dom) (zb zL : Nat) (zx : Nat → Int32) (zs : Nat → Nat) (h : Nat) (x1 : Int) (x2 : Int) (t_h : τ h = some (41, 0, 0)) (r_x1 : -2147483648 ≤ x1 ∧ x1 ≤ 2147483647) (r_x2 : -2147483648 ≤ x2 ∧ x2 ≤ 2147483647) (σ0 : Nat → va_E) (G0 : Good K τ σ0) : MZ l yX11_advertise wp_Low_advertise ({ frames := 3, cells := 0, slots := 0, locals := 59 }) D (tysA K) [.ref h, .int (iI x1), .int (iI x2)] (fd dom σ0) zb zL zx zs (Qi D (fun r σ' => Good K τ σ' ∧ Fr τ [(33, 0), (1, 6), (2, 6), (1, 1)] σ0 σ' ∧ ∃ z : Int, r = iI z ∧ (0 ≤ z ∧ z ≤ 1)) (fun σ' => fd dom σ')) 0 0 := by
  refine mz_of (cc := cX11_advertise) (maxL := 4) (ret := (some .boolean)) (by decide +kernel) rfl (Nat.le_of_ble_eq_true rfl) ?_
  intro p e s m below meth c A B hr hlk _ hz
  exact b_Low_advertise ⟨Nat.le_refl _, Nat.le_refl _⟩ B Z hz h x1 x2 t_h r_x1 r_x2 σ0 G0 (fun σ' z lv pc G F hZ hd => v_zret B hr hlk (nar01 (by omega)) σ' ⟨G, F, z, rfl, hZ⟩ rfl (Nat.le_refl _) (Nat.le_refl _) hd)

def wp_Low_scan : List Cond := .code yX11_scan cX11_scan 3 (some .boolean) :: (([.methodLink RX11 52 yX11_find, .instanceMethod yX11_find, .selects RX11 yX11_find yX11_find, .initialized RX11, .code yX11_find cX11_find 2 (some (.object "LowEnergy$Device")), .fieldLink RX11 9 "LowEnergy" "devices" "[LLowEnergy$Device;"] : List Cond) ++ (wsX110 ++ (wsX30 ++ ([]))))
theorem hi_Low_scan_X11 : ∀ x ∈ u_ws RX11 TX11 5, x ∈ wp_Low_scan := fun _ h => List.mem_cons_of_mem _ (List.mem_append_right _ (List.mem_append_left _ h))
theorem hi_Low_scan_X3 : ∀ x ∈ u_ws RX3 TX3 19, x ∈ wp_Low_scan := fun _ h => List.mem_cons_of_mem _ (List.mem_append_right _ (List.mem_append_right _ (List.mem_append_left _ h)))
set_option maxRecDepth 100000 in
theorem gd_Low_scan_Low_find_52 : GoodIn wp_Low_scan (wsV RX11 52 RX11 yX11_find wp_Low_find) := goodIn_app (goodIn_r _ [1, 2, 3, 4] rfl rfl) (goodIn_ca (goodIn_r _ [5, 6] rfl rfl) (goodIn_app (goodIn_cls hi_Low_scan_X11 gw_X11) (goodIn_nil)))
set_option maxHeartbeats 4000000 in
set_option maxRecDepth 100000 in
theorem b_Low_scan {p : Program} {l : Launch} {e : Env} {R : Room} {s : State} {m : MethodId} {args : Array Value} {below : List Frame} {meth : Method} {c : Code} {D : va_G} {K : Nat → ClassId} {A : Nat → Prop} {Q : State → Prop} {τ : Nat → Option Ty} {dom : List Nat} {zb zL : Nat} {zx : Nat → Int32} {zs : Nat → Nat} (hR : 1 ≤ R.frames ∧ 21 ≤ R.locals) (B : Bx p s m args c cX11_scan 3 RX11 wp_Low_scan D (tysA K) A) (Z : Sk τ dom) (hz : ZL zb zL zx zs A s s.heap) (h : Nat) (x1 : Int) (t_h : τ h = some (41, 0, 0)) (r_x1 : -2147483648 ≤ x1 ∧ x1 ≤ 2147483647) (σ0 : Nat → va_E) (G0 : Good K τ σ0) (hend : ∀ (σ' : Nat → va_E) (z : Int) (lv : List (Nat × Value)) (pc : Nat), Good K τ σ' → Fr τ [(33, 0)] σ0 σ' → (0 ≤ z ∧ z ≤ 1) → decode cX11_scan pc = .ok (.ireturn, 1) → V p l e R s m args below meth c 3 D A Q (0, 0) (fd dom σ') lv pc [.int (iI z)]) : V p l e R s m args below meth c 3 D A Q (0, 0) (fd dom σ0) [(0, .ref h), (1, .int (iI x1))] 0 [] := by
  have F0 : Fr τ [(33, 0)] σ0 σ0 := Fr.rf
  refine v_aload_n B dX11_scan_0 rfl rfl ?_
  refine v_iload_n B dX11_scan_1 rfl rfl ?_
  refine u_callVq B Z hz (n := 1) (As := [.int (iI x1)]) (rest := []) (c_Low_find l D K Z _ _ _ _ h x1 t_h ⟨by omega, by omega⟩ σ0 G0) gd_Low_scan_Low_find_52 rfl rfl rfl (by decide +kernel) ⟨Nat.le_trans (by decide +kernel) hR.1, Nat.le_trans (by decide +kernel) hR.2⟩ t_h (cls_Low G0 t_h) rfl rfl rfl rfl (Nat.le_of_ble_eq_true rfl) dX11_scan_2 ⟨Nat.zero_le _, Nat.zero_le _⟩ (fun v3 σ1 p2 => ?_)
  obtain ⟨rfl, q7⟩ := p2
  rcases q7 with rfl | ⟨a8, rfl, t9⟩
  · show V _ _ _ _ _ _ _ _ _ _ _ _ _ _ _ _ _ _ [.null]
    refine v_astore_nN B (lv' := [(2, .null), (0, .ref h), (1, .int (iI x1))]) dX11_scan_5 rfl (by decide +kernel) rfl ?_
    refine v_aload_nN B dX11_scan_6 rfl rfl ?_
    refine v_ifnullN B (tgt := 17) dX11_scan_7 (by decide +kernel) ?_
    refine v_iconst B (v := iI 0) dX11_scan_17 rfl ?_
    exact hend σ0 0 _ _ G0 F0 ⟨by omega, by omega⟩ dX11_scan_18
  · show V _ _ _ _ _ _ _ _ _ _ _ _ _ _ _ _ _ _ [.ref a8]
    refine v_astore_n B (lv' := [(2, .ref a8), (0, .ref h), (1, .int (iI x1))]) dX11_scan_5 rfl (by decide +kernel) rfl ?_
    refine v_aload_n B dX11_scan_6 rfl rfl ?_
    refine v_ifnull B dX11_scan_7 ?_
    refine v_aload_n B dX11_scan_10 rfl rfl ?_
    obtain ⟨z10, yy11, z12, z13, z14, z15, a16, z17, yy18, a19, yy20, a21, a22, a23, a24, a25, a26, a27, a28, h29, r30, r31, r32, r33, r34, r35, t36, r37, r38, t39, r40, t41, t42, t43, t44, t45, t46, t47, t48⟩ : okDevice τ (σ0 a8) := G0 a8 _ t9
    refine u_getN B Z (C := RX3) (T := TX3) (N := 19) (ci := 3) hi_Low_scan_X3 t9 h29 rfl 2 (by decide +kernel) (List.mem_of_getElem? (i := 65) rfl) rfl dX11_scan_11 ?_
    refine u_if_eq B (tgt := 19) (by omega) dX11_scan_14 (by decide +kernel) (fun c49 => ?_) (fun c49 => ?_)
    · refine v_aload_n B dX11_scan_19 rfl rfl ?_
      refine v_iconst B (v := iI 2) dX11_scan_20 rfl ?_
      refine u_putN B Z (C := RX3) (T := TX3) (N := 19) (ci := 3) hi_Low_scan_X3 t9 h29 rfl 2 (by decide +kernel) tyX3 tyX3_ok nmX3 (List.mem_of_getElem? (i := 65) rfl) rfl (ty := .int) (tyX3_ok 2 (by decide +kernel)) rfl rfl (Nat.le_of_ble_eq_true rfl) (fs' := [.int (iI z10), .long (lI yy11), .int (iI 2), .int (iI z13), .int (iI z14), .int (iI z15), .ref a16, .int (iI z17), .long (lI yy18), .ref a19, .long (lI yy20), .ref a21, .ref a22, .ref a23, .ref a24, .ref a25, .ref a26, .ref a27, .ref a28]) rfl dX11_scan_21 (fun σ50 h51 n52 => ?_)
      have G53 := G0.put t9 (⟨z10, yy11, 2, z13, z14, z15, a16, z17, yy18, a19, yy20, a21, a22, a23, a24, a25, a26, a27, a28, h51, ⟨by omega, by omega⟩, ⟨by omega, by omega⟩, ⟨by omega, by omega⟩, ⟨by omega, by omega⟩, ⟨by omega, by omega⟩, ⟨by omega, by omega⟩, t36, ⟨by omega, by omega⟩, ⟨by omega, by omega⟩, t39, ⟨by omega, by omega⟩, t41, t42, t43, t44, t45, t46, t47, t48⟩ : Ok K τ (33, 0, 0) (σ50 a8)) n52
      have F54 := F0.put t9 (by simp) n52
      refine v_iconst B (v := iI 1) dX11_scan_24 rfl ?_
      exact hend σ50 1 _ _ G53 F54 ⟨by omega, by omega⟩ dX11_scan_25
    · refine v_iconst B (v := iI 0) dX11_scan_17 rfl ?_
      exact hend σ0 0 _ _ G0 F0 ⟨by omega, by omega⟩ dX11_scan_18
set_option maxRecDepth 100000 in
theorem c_Low_scan (l : Launch) (D : va_G) (K : Nat → ClassId) {τ : Nat → Option Ty} {dom : List Nat} (Z : Sk τ dom) (zb zL : Nat) (zx : Nat → Int32) (zs : Nat → Nat) (h : Nat) (x1 : Int) (t_h : τ h = some (41, 0, 0)) (r_x1 : -2147483648 ≤ x1 ∧ x1 ≤ 2147483647) (σ0 : Nat → va_E) (G0 : Good K τ σ0) : MZ l yX11_scan wp_Low_scan ({ frames := 1, cells := 0, slots := 0, locals := 21 }) D (tysA K) [.ref h, .int (iI x1)] (fd dom σ0) zb zL zx zs (Qi D (fun r σ' => Good K τ σ' ∧ Fr τ [(33, 0)] σ0 σ' ∧ ∃ z : Int, r = iI z ∧ (0 ≤ z ∧ z ≤ 1)) (fun σ' => fd dom σ')) 0 0 := by
  refine mz_of (cc := cX11_scan) (maxL := 3) (ret := (some .boolean)) (by decide +kernel) rfl (Nat.le_of_ble_eq_true rfl) ?_
  intro p e s m below meth c A B hr hlk _ hz
  exact b_Low_scan ⟨Nat.le_refl _, Nat.le_refl _⟩ B Z hz h x1 t_h r_x1 σ0 G0 (fun σ' z lv pc G F hZ hd => v_zret B hr hlk (nar01 (by omega)) σ' ⟨G, F, z, rfl, hZ⟩ rfl (Nat.le_refl _) (Nat.le_refl _) hd)

def wp_Low_connect : List Cond := .code yX11_connect cX11_connect 10 (some .boolean) :: (([.methodLink RX11 52 yX11_find, .instanceMethod yX11_find, .selects RX11 yX11_find yX11_find, .initialized RX11, .code yX11_find cX11_find 2 (some (.object "LowEnergy$Device")), .fieldLink RX11 9 "LowEnergy" "devices" "[LLowEnergy$Device;", .methodLink RX11 81 yX6_isProper, .static yX6_isProper, .initialized RX6, .code yX6_isProper cX6_isProper 5 (some .boolean), .methodLink RX6 21 yX6_isProperMap, .static yX6_isProperMap, .code yX6_isProperMap cX6_isProperMap 2 (some .boolean), .methodLink RX6 25 yJ13_bitCount_95d88, .static yJ13_bitCount_95d88, .initialized RJ13, .code yJ13_bitCount_95d88 cJ13_bitCount_95d88 2 (some .int), .constantLong RJ13 314 (6148914691236517205), .constantLong RJ13 316 (3689348814741910323), .constantLong RJ13 318 (1085102592571150095), .methodLink RX11 91 yX6_arrange, .instanceMethod yX6_arrange, .selects RX6 yX6_arrange yX6_arrange, .code yX6_arrange cX6_arrange 6 none, .fieldLink RX6 31 "LowEnergy$Link" "interval" "I", .fieldLink RX6 34 "LowEnergy$Link" "timeout" "I", .fieldLink RX6 37 "LowEnergy$Link" "hop" "I", .fieldLink RX6 40 "LowEnergy$Link" "map" "J", .constantLong RX11 37 (281474976710655)] : List Cond) ++ (wsX110 ++ (wsX30 ++ (wsX60 ++ ([])))))
theorem hi_Low_connect_X11 : ∀ x ∈ u_ws RX11 TX11 5, x ∈ wp_Low_connect := fun _ h => List.mem_cons_of_mem _ (List.mem_append_right _ (List.mem_append_left _ h))
theorem hi_Low_connect_X3 : ∀ x ∈ u_ws RX3 TX3 19, x ∈ wp_Low_connect := fun _ h => List.mem_cons_of_mem _ (List.mem_append_right _ (List.mem_append_right _ (List.mem_append_left _ h)))
theorem hi_Low_connect_X6 : ∀ x ∈ u_ws RX6 TX6 20, x ∈ wp_Low_connect := fun _ h => List.mem_cons_of_mem _ (List.mem_append_right _ (List.mem_append_right _ (List.mem_append_right _ (List.mem_append_left _ h))))
set_option maxRecDepth 100000 in
theorem gd_Low_connect_Low_find_52 : GoodIn wp_Low_connect (wsV RX11 52 RX11 yX11_find wp_Low_find) := goodIn_app (goodIn_r _ [1, 2, 3, 4] rfl rfl) (goodIn_ca (goodIn_r _ [5, 6] rfl rfl) (goodIn_app (goodIn_cls hi_Low_connect_X11 gw_X11) (goodIn_nil)))
set_option maxRecDepth 100000 in
theorem gd_Low_connect_Link_isProper_81 : GoodIn wp_Low_connect (va_wsS RX11 81 yX6_isProper wp_Link_isProper) := goodIn_app (goodIn_r _ [7, 8, 9] rfl rfl) (goodIn_ca (goodIn_r _ [10, 11, 12, 9, 13, 14, 15, 16, 17, 18, 19, 20] rfl rfl) (goodIn_nil))
set_option maxRecDepth 100000 in
theorem gd_Low_connect_Link_arrange_91 : GoodIn wp_Low_connect (wsV RX11 91 RX6 yX6_arrange wp_Link_arrange) := goodIn_app (goodIn_r _ [21, 22, 23, 9] rfl rfl) (goodIn_ca (goodIn_r _ [24, 25, 26, 27, 28] rfl rfl) (goodIn_app (goodIn_cls hi_Low_connect_X6 gw_X6) (goodIn_nil)))
set_option maxHeartbeats 4000000 in
set_option maxRecDepth 100000 in
theorem b_Low_connect {p : Program} {l : Launch} {e : Env} {R : Room} {s : State} {m : MethodId} {args : Array Value} {below : List Frame} {meth : Method} {c : Code} {D : va_G} {K : Nat → ClassId} {A : Nat → Prop} {Q : State → Prop} {τ : Nat → Option Ty} {dom : List Nat} {zb zL : Nat} {zx : Nat → Int32} {zs : Nat → Nat} (hR : 3 ≤ R.frames ∧ 66 ≤ R.locals) (B : Bx p s m args c cX11_connect 10 RX11 wp_Low_connect D (tysA K) A) (Z : Sk τ dom) (hz : ZL zb zL zx zs A s s.heap) (h : Nat) (x1 : Int) (y2 : Int) (x4 : Int) (x5 : Int) (x6 : Int) (y7 : Int) (t_h : τ h = some (41, 0, 0)) (r_x1 : -2147483648 ≤ x1 ∧ x1 ≤ 2147483647) (r_y2 : InL y2) (r_x4 : -2147483648 ≤ x4 ∧ x4 ≤ 2147483647) (r_x5 : -2147483648 ≤ x5 ∧ x5 ≤ 2147483647) (r_x6 : -2147483648 ≤ x6 ∧ x6 ≤ 2147483647) (r_y7 : InL y7) (σ0 : Nat → va_E) (G0 : Good K τ σ0) (hend : ∀ (σ' : Nat → va_E) (z : Int) (lv : List (Nat × Value)) (pc : Nat), Good K τ σ' → Fr τ [(33, 0), (36, 0)] σ0 σ' → (0 ≤ z ∧ z ≤ 1) → decode cX11_connect pc = .ok (.ireturn, 1) → V p l e R s m args below meth c 10 D A Q (0, 0) (fd dom σ') lv pc [.int (iI z)]) : V p l e R s m args below meth c 10 D A Q (0, 0) (fd dom σ0) [(0, .ref h), (1, .int (iI x1)), (2, .long (lI y2)), (4, .int (iI x4)), (5, .int (iI x5)), (6, .int (iI x6)), (7, .long (lI y7))] 0 [] := by
  have F0 : Fr τ [(33, 0), (36, 0)] σ0 σ0 := Fr.rf
  refine v_aload_n B dX11_connect_0 rfl rfl ?_
  refine v_iload_n B dX11_connect_1 rfl rfl ?_
  refine u_callVq B Z hz (n := 1) (As := [.int (iI x1)]) (rest := []) (c_Low_find l D K Z _ _ _ _ h x1 t_h ⟨by omega, by omega⟩ σ0 G0) gd_Low_connect_Low_find_52 rfl rfl rfl (by decide +kernel) ⟨Nat.le_trans (by decide +kernel) hR.1, Nat.le_trans (by decide +kernel) hR.2⟩ t_h (cls_Low G0 t_h) rfl rfl rfl rfl (Nat.le_of_ble_eq_true rfl) dX11_connect_2 ⟨Nat.zero_le _, Nat.zero_le _⟩ (fun v3 σ1 p2 => ?_)
  obtain ⟨rfl, q7⟩ := p2
  rcases q7 with rfl | ⟨a8, rfl, t9⟩
  · show V _ _ _ _ _ _ _ _ _ _ _ _ _ _ _ _ _ _ [.null]
    refine v_astoreN B (lv' := [(9, .null), (0, .ref h), (1, .int (iI x1)), (2, .long (lI y2)), (4, .int (iI x4)), (5, .int (iI x5)), (6, .int (iI x6)), (7, .long (lI y7))]) dX11_connect_5 (by decide +kernel) rfl ?_
    refine v_aloadN B dX11_connect_7 rfl ?_
    refine v_ifnullN B (tgt := 34) dX11_connect_9 (by decide +kernel) ?_
    refine v_iconst B (v := iI 0) dX11_connect_34 rfl ?_
    exact hend σ0 0 _ _ G0 F0 ⟨by omega, by omega⟩ dX11_connect_35
  · show V _ _ _ _ _ _ _ _ _ _ _ _ _ _ _ _ _ _ [.ref a8]
    refine v_astore B (lv' := [(9, .ref a8), (0, .ref h), (1, .int (iI x1)), (2, .long (lI y2)), (4, .int (iI x4)), (5, .int (iI x5)), (6, .int (iI x6)), (7, .long (lI y7))]) dX11_connect_5 (by decide +kernel) rfl ?_
    refine v_aload B dX11_connect_7 rfl ?_
    refine v_ifnull B dX11_connect_9 ?_
    refine v_aload B dX11_connect_12 rfl ?_
    obtain ⟨z10, yy11, z12, z13, z14, z15, a16, z17, yy18, a19, yy20, a21, a22, a23, a24, a25, a26, a27, a28, h29, r30, r31, r32, r33, r34, r35, t36, r37, r38, t39, r40, t41, t42, t43, t44, t45, t46, t47, t48⟩ : okDevice τ (σ0 a8) := G0 a8 _ t9
    refine u_getN B Z (C := RX3) (T := TX3) (N := 19) (ci := 3) hi_Low_connect_X3 t9 h29 rfl 2 (by decide +kernel) (List.mem_of_getElem? (i := 65) rfl) rfl dX11_connect_14 ?_
    refine u_if_ne B (tgt := 34) (by omega) dX11_connect_17 (by decide +kernel) (fun c49 => ?_) (fun c49 => ?_)
    · refine v_iconst B (v := iI 0) dX11_connect_34 rfl ?_
      exact hend σ0 0 _ _ G0 F0 ⟨by omega, by omega⟩ dX11_connect_35
    · refine v_iload B dX11_connect_20 rfl ?_
      refine v_iload B dX11_connect_22 rfl ?_
      refine v_iload B dX11_connect_24 rfl ?_
      refine v_lload B dX11_connect_26 rfl ?_
      refine u_callSi B Z hz (n := 4) (As := [.int (iI x4), .int (iI x5), .int (iI x6), .long (lI y7)]) (rest := []) (c_Link_isProper l D K Z _ _ _ _ x4 x5 x6 y7 ⟨by omega, by omega⟩ ⟨by omega, by omega⟩ ⟨by omega, by omega⟩ ⟨by omega, by omega⟩ σ0 G0) gd_Low_connect_Link_isProper_81 rfl rfl rfl (by decide +kernel) ⟨Nat.le_trans (by decide +kernel) hR.1, Nat.le_trans (by decide +kernel) hR.2⟩ rfl rfl (Nat.le_of_ble_eq_true rfl) dX11_connect_28 ⟨Nat.zero_le _, Nat.zero_le _⟩ (fun v52 σ50 p51 => ?_)
      obtain ⟨rfl, z56, e57, r58⟩ := p51
      subst e57
      refine u_if_ne B (tgt := 36) (by omega) dX11_connect_31 (by decide +kernel) (fun c59 => ?_) (fun c59 => ?_)
      · refine v_aload B dX11_connect_36 rfl ?_
        refine v_iconst B (v := iI 3) dX11_connect_38 rfl ?_
        refine u_putN B Z (C := RX3) (T := TX3) (N := 19) (ci := 3) hi_Low_connect_X3 t9 h29 rfl 2 (by decide +kernel) tyX3 tyX3_ok nmX3 (List.mem_of_getElem? (i := 65) rfl) rfl (ty := .int) (tyX3_ok 2 (by decide +kernel)) rfl rfl (Nat.le_of_ble_eq_true rfl) (fs' := [.int (iI z10), .long (lI yy11), .int (iI 3), .int (iI z13), .int (iI z14), .int (iI z15), .ref a16, .int (iI z17), .long (lI yy18), .ref a19, .long (lI yy20), .ref a21, .ref a22, .ref a23, .ref a24, .ref a25, .ref a26, .ref a27, .ref a28]) rfl dX11_connect_39 (fun σ60 h61 n62 => ?_)
        have G63 := G0.put t9 (⟨z10, yy11, 3, z13, z14, z15, a16, z17, yy18, a19, yy20, a21, a22, a23, a24, a25, a26, a27, a28, h61, ⟨by omega, by omega⟩, ⟨by omega, by omega⟩, ⟨by omega, by omega⟩, ⟨by omega, by omega⟩, ⟨by omega, by omega⟩, ⟨by omega, by omega⟩, t36, ⟨by omega, by omega⟩, ⟨by omega, by omega⟩, t39, ⟨by omega, by omega⟩, t41, t42, t43, t44, t45, t46, t47, t48⟩ : Ok K τ (33, 0, 0) (σ60 a8)) n62
        have F64 := F0.put t9 (by simp) n62
        refine v_aload B dX11_connect_42 rfl ?_
        refine u_getN B Z (C := RX3) (T := TX3) (N := 19) (ci := 3) hi_Low_connect_X3 t9 h61 rfl 11 (by decide +kernel) (List.mem_of_getElem? (i := 69) rfl) rfl dX11_connect_44 ?_
        refine v_iload B dX11_connect_47 rfl ?_
        refine v_iload B dX11_connect_49 rfl ?_
        refine v_iload B dX11_connect_51 rfl ?_
        refine v_lload B dX11_connect_53 rfl ?_
        refine u_callVv B Z hz (n := 4) (As := [.int (iI x4), .int (iI x5), .int (iI x6), .long (lI y7)]) (rest := []) (c_Link_arrange l D K Z _ _ _ _ a21 x4 x5 x6 y7 t41 ⟨by omega, by omega⟩ ⟨by omega, by omega⟩ ⟨by omega, by omega⟩ ⟨by omega, by omega⟩ σ60 G63) gd_Low_connect_Link_arrange_91 rfl rfl rfl (by decide +kernel) ⟨Nat.le_trans (by decide +kernel) hR.1, Nat.le_trans (by decide +kernel) hR.2⟩ t41 (cls_Link G63 t41) rfl rfl rfl rfl (Nat.le_of_ble_eq_true rfl) dX11_connect_55 ⟨Nat.zero_le _, Nat.zero_le _⟩ (fun σ65 p66 => ?_)
        obtain ⟨G68, F69⟩ := p66
        have F70 := F64.call F69 (by first | rfl | simp)
        have h71 := (F69 a8 _ t9 (by first | rfl | simp)).trans h61
        refine v_aload B dX11_connect_58 rfl ?_
        refine u_getN B Z (C := RX3) (T := TX3) (N := 19) (ci := 3) hi_Low_connect_X3 t9 h71 rfl 11 (by decide +kernel) (List.mem_of_getElem? (i := 69) rfl) rfl dX11_connect_60 ?_
        refine v_lload_n B dX11_connect_63 rfl rfl ?_
        refine v_ldc2 B (v := lI 281474976710655) (u_cl (List.mem_of_getElem? (i := 29) rfl) (by decide +kernel)) dX11_connect_64 ?_
        obtain ⟨yy72, e73, r74⟩ := lI_and y2 (c := 281474976710655) (by decide) (by decide)
        refine v_land B (v := lI yy72) dX11_connect_67 e73 ?_
        obtain ⟨z75, z76, z77, z78, z79, yy80, yy81, z82, z83, z84, z85, z86, z87, z88, z89, z90, z91, z92, z93, yy94, h95, r96, r97, r98, r99, r100, r101, r102, r103, r104, r105, r106, r107, r108, r109, r110, r111, r112, r113, r114, r115⟩ : okLink τ (σ65 a21) := G68 a21 _ t41
        refine u_putN B Z (C := RX6) (T := TX6) (N := 20) (ci := 6) hi_Low_connect_X6 t41 h95 rfl 19 (by decide +kernel) tyX6 tyX6_ok nmX6 (List.mem_of_getElem? (i := 70) rfl) rfl (ty := .long) (tyX6_ok 19 (by decide +kernel)) rfl rfl (Nat.le_of_ble_eq_true rfl) (fs' := [.int (iI z75), .int (iI z76), .int (iI z77), .int (iI z78), .int (iI z79), .long (lI yy80), .long (lI yy81), .int (iI z82), .int (iI z83), .int (iI z84), .int (iI z85), .int (iI z86), .int (iI z87), .int (iI z88), .int (iI z89), .int (iI z90), .int (iI z91), .int (iI z92), .int (iI z93), .long (lI yy72)]) rfl dX11_connect_68 (fun σ116 h117 n118 => ?_)
        have G119 := G68.put t41 (⟨z75, z76, z77, z78, z79, yy80, yy81, z82, z83, z84, z85, z86, z87, z88, z89, z90, z91, z92, z93, yy72, h117, ⟨by omega, by omega⟩, ⟨by omega, by omega⟩, ⟨by omega, by omega⟩, ⟨by omega, by omega⟩, ⟨by omega, by omega⟩, ⟨by omega, by omega⟩, ⟨by omega, by omega⟩, ⟨by omega, by omega⟩, ⟨by omega, by omega⟩, ⟨by omega, by omega⟩, ⟨by omega, by omega⟩, ⟨by omega, by omega⟩, ⟨by omega, by omega⟩, ⟨by omega, by omega⟩, ⟨by omega, by omega⟩, ⟨by omega, by omega⟩, ⟨by omega, by omega⟩, ⟨by omega, by omega⟩, ⟨by omega, by omega⟩, ⟨by omega, by omega⟩⟩ : Ok K τ (36, 0, 0) (σ116 a21)) n118
        have F120 := F70.put t41 (by simp) n118
        have h121 := (n118 a8 (ne_ty t9 t41 (by simp))).trans h71
        refine v_iconst B (v := iI 1) dX11_connect_71 rfl ?_
        exact hend σ116 1 _ _ G119 F120 ⟨by omega, by omega⟩ dX11_connect_72
      · refine v_iconst B (v := iI 0) dX11_connect_34 rfl ?_
        exact hend σ0 0 _ _ G0 F0 ⟨by omega, by omega⟩ dX11_connect_35
set_option maxRecDepth 100000 in
theorem c_Low_connect (l : Launch) (D : va_G) (K : Nat → ClassId) {τ : Nat → Option Ty} {dom : List Nat} (Z : Sk τ dom) (zb zL : Nat) (zx : Nat → Int32) (zs : Nat → Nat) (h : Nat) (x1 : Int) (y2 : Int) (x4 : Int) (x5 : Int) (x6 : Int) (y7 : Int) (t_h : τ h = some (41, 0, 0)) (r_x1 : -2147483648 ≤ x1 ∧ x1 ≤ 2147483647) (r_y2 : InL y2) (r_x4 : -2147483648 ≤ x4 ∧ x4 ≤ 2147483647) (r_x5 : -2147483648 ≤ x5 ∧ x5 ≤ 2147483647) (r_x6 : -2147483648 ≤ x6 ∧ x6 ≤ 2147483647) (r_y7 : InL y7) (σ0 : Nat → va_E) (G0 : Good K τ σ0) : MZ l yX11_connect wp_Low_connect ({ frames := 3, cells := 0, slots := 0, locals := 66 }) D (tysA K) [.ref h, .int (iI x1), .long (lI y2), .int (iI x4), .int (iI x5), .int (iI x6), .long (lI y7)] (fd dom σ0) zb zL zx zs (Qi D (fun r σ' => Good K τ σ' ∧ Fr τ [(33, 0), (36, 0)] σ0 σ' ∧ ∃ z : Int, r = iI z ∧ (0 ≤ z ∧ z ≤ 1)) (fun σ' => fd dom σ')) 0 0 := by
  refine mz_of (cc := cX11_connect) (maxL := 10) (ret := (some .boolean)) (by decide +kernel) rfl (Nat.le_of_ble_eq_true rfl) ?_
  intro p e s m below meth c A B hr hlk _ hz
  exact b_Low_connect ⟨Nat.le_refl _, Nat.le_refl _⟩ B Z hz h x1 y2 x4 x5 x6 y7 t_h r_x1 r_y2 r_x4 r_x5 r_x6 r_y7 σ0 G0 (fun σ' z lv pc G F hZ hd => v_zret B hr hlk (nar01 (by omega)) σ' ⟨G, F, z, rfl, hZ⟩ rfl (Nat.le_refl _) (Nat.le_refl _) hd)

def wp_Low_stop : List Cond := .code yX11_stop cX11_stop 3 (some .boolean) :: (([.methodLink RX11 52 yX11_find, .instanceMethod yX11_find, .selects RX11 yX11_find yX11_find, .initialized RX11, .code yX11_find cX11_find 2 (some (.object "LowEnergy$Device")), .fieldLink RX11 9 "LowEnergy" "devices" "[LLowEnergy$Device;", .methodLink RX11 99 yX3_inLink, .instanceMethod yX3_inLink, .selects RX3 yX3_inLink yX3_inLink, .initialized RX3, .code yX3_inLink cX3_inLink 1 (some .boolean), .fieldLink RX3 93 "LowEnergy$Device" "state" "I"] : List Cond) ++ (wsX110 ++ (wsX30 ++ ([]))))
theorem hi_Low_stop_X11 : ∀ x ∈ u_ws RX11 TX11 5, x ∈ wp_Low_stop := fun _ h => List.mem_cons_of_mem _ (List.mem_append_right _ (List.mem_append_left _ h))
theorem hi_Low_stop_X3 : ∀ x ∈ u_ws RX3 TX3 19, x ∈ wp_Low_stop := fun _ h => List.mem_cons_of_mem _ (List.mem_append_right _ (List.mem_append_right _ (List.mem_append_left _ h)))
set_option maxRecDepth 100000 in
theorem gd_Low_stop_Low_find_52 : GoodIn wp_Low_stop (wsV RX11 52 RX11 yX11_find wp_Low_find) := goodIn_app (goodIn_r _ [1, 2, 3, 4] rfl rfl) (goodIn_ca (goodIn_r _ [5, 6] rfl rfl) (goodIn_app (goodIn_cls hi_Low_stop_X11 gw_X11) (goodIn_nil)))
set_option maxRecDepth 100000 in
theorem gd_Low_stop_Device_inLink_99 : GoodIn wp_Low_stop (wsV RX11 99 RX3 yX3_inLink wp_Device_inLink) := goodIn_app (goodIn_r _ [7, 8, 9, 10] rfl rfl) (goodIn_ca (goodIn_r _ [11, 12] rfl rfl) (goodIn_app (goodIn_cls hi_Low_stop_X3 gw_X3) (goodIn_nil)))
set_option maxHeartbeats 4000000 in
set_option maxRecDepth 100000 in
theorem b_Low_stop {p : Program} {l : Launch} {e : Env} {R : Room} {s : State} {m : MethodId} {args : Array Value} {below : List Frame} {meth : Method} {c : Code} {D : va_G} {K : Nat → ClassId} {A : Nat → Prop} {Q : State → Prop} {τ : Nat → Option Ty} {dom : List Nat} {zb zL : Nat} {zx : Nat → Int32} {zs : Nat → Nat} (hR : 1 ≤ R.frames ∧ 21 ≤ R.locals) (B : Bx p s m args c cX11_stop 3 RX11 wp_Low_stop D (tysA K) A) (Z : Sk τ dom) (hz : ZL zb zL zx zs A s s.heap) (h : Nat) (x1 : Int) (t_h : τ h = some (41, 0, 0)) (r_x1 : -2147483648 ≤ x1 ∧ x1 ≤ 2147483647) (σ0 : Nat → va_E) (G0 : Good K τ σ0) (hend : ∀ (σ' : Nat → va_E) (z : Int) (lv : List (Nat × Value)) (pc : Nat), Good K τ σ' → Fr τ [(33, 0)] σ0 σ' → (0 ≤ z ∧ z ≤ 1) → decode cX11_stop pc = .ok (.ireturn, 1) → V p l e R s m args below meth c 3 D A Q (0, 0) (fd dom σ') lv pc [.int (iI z)]) : V p l e R s m args below meth c 3 D A Q (0, 0) (fd dom σ0) [(0, .ref h), (1, .int (iI x1))] 0 [] := by
  have F0 : Fr τ [(33, 0)] σ0 σ0 := Fr.rf
  refine v_aload_n B dX11_stop_0 rfl rfl ?_
  refine v_iload_n B dX11_stop_1 rfl rfl ?_
  refine u_callVq B Z hz (n := 1) (As := [.int (iI x1)]) (rest := []) (c_Low_find l D K Z _ _ _ _ h x1 t_h ⟨by omega, by omega⟩ σ0 G0) gd_Low_stop_Low_find_52 rfl rfl rfl (by decide +kernel) ⟨Nat.le_trans (by decide +kernel) hR.1, Nat.le_trans (by decide +kernel) hR.2⟩ t_h (cls_Low G0 t_h) rfl rfl rfl rfl (Nat.le_of_ble_eq_true rfl) dX11_stop_2 ⟨Nat.zero_le _, Nat.zero_le _⟩ (fun v3 σ1 p2 => ?_)
  obtain ⟨rfl, q7⟩ := p2
  rcases q7 with rfl | ⟨a8, rfl, t9⟩
  · show V _ _ _ _ _ _ _ _ _ _ _ _ _ _ _ _ _ _ [.null]
    refine v_astore_nN B (lv' := [(2, .null), (0, .ref h), (1, .int (iI x1))]) dX11_stop_5 rfl (by decide +kernel) rfl ?_
    refine v_aload_nN B dX11_stop_6 rfl rfl ?_
    refine v_ifnullN B (tgt := 24) dX11_stop_7 (by decide +kernel) ?_
    refine v_iconst B (v := iI 0) dX11_stop_24 rfl ?_
    exact hend σ0 0 _ _ G0 F0 ⟨by omega, by omega⟩ dX11_stop_25
  · show V _ _ _ _ _ _ _ _ _ _ _ _ _ _ _ _ _ _ [.ref a8]
    refine v_astore_n B (lv' := [(2, .ref a8), (0, .ref h), (1, .int (iI x1))]) dX11_stop_5 rfl (by decide +kernel) rfl ?_
    refine v_aload_n B dX11_stop_6 rfl rfl ?_
    refine v_ifnull B dX11_stop_7 ?_
    refine v_aload_n B dX11_stop_10 rfl rfl ?_
    obtain ⟨z10, yy11, z12, z13, z14, z15, a16, z17, yy18, a19, yy20, a21, a22, a23, a24, a25, a26, a27, a28, h29, r30, r31, r32, r33, r34, r35, t36, r37, r38, t39, r40, t41, t42, t43, t44, t45, t46, t47, t48⟩ : okDevice τ (σ0 a8) := G0 a8 _ t9
    refine u_getN B Z (C := RX3) (T := TX3) (N := 19) (ci := 3) hi_Low_stop_X3 t9 h29 rfl 2 (by decide +kernel) (List.mem_of_getElem? (i := 65) rfl) rfl dX11_stop_11 ?_
    refine u_if_eq B (tgt := 24) (by omega) dX11_stop_14 (by decide +kernel) (fun c49 => ?_) (fun c49 => ?_)
    · refine v_iconst B (v := iI 0) dX11_stop_24 rfl ?_
      exact hend σ0 0 _ _ G0 F0 ⟨by omega, by omega⟩ dX11_stop_25
    · refine v_aload_n B dX11_stop_17 rfl rfl ?_
      refine u_callVi B Z hz (n := 0) (As := []) (rest := []) (c_Device_inLink l D K Z _ _ _ _ a8 t9 σ0 G0) gd_Low_stop_Device_inLink_99 rfl rfl rfl (by decide +kernel) ⟨Nat.le_trans (by decide +kernel) hR.1, Nat.le_trans (by decide +kernel) hR.2⟩ t9 (cls_Device G0 t9) rfl rfl rfl rfl (Nat.le_of_ble_eq_true rfl) dX11_stop_18 ⟨Nat.zero_le _, Nat.zero_le _⟩ (fun v52 σ50 p51 => ?_)
      obtain ⟨rfl, z56, e57, r58⟩ := p51
      subst e57
      refine u_if_eq B (tgt := 26) (by omega) dX11_stop_21 (by decide +kernel) (fun c59 => ?_) (fun c59 => ?_)
      · refine v_aload_n B dX11_stop_26 rfl rfl ?_
        refine v_iconst B (v := iI 0) dX11_stop_27 rfl ?_
        refine u_putN B Z (C := RX3) (T := TX3) (N := 19) (ci := 3) hi_Low_stop_X3 t9 h29 rfl 2 (by decide +kernel) tyX3 tyX3_ok nmX3 (List.mem_of_getElem? (i := 65) rfl) rfl (ty := .int) (tyX3_ok 2 (by decide +kernel)) rfl rfl (Nat.le_of_ble_eq_true rfl) (fs' := [.int (iI z10), .long (lI yy11), .int (iI 0), .int (iI z13), .int (iI z14), .int (iI z15), .ref a16, .int (iI z17), .long (lI yy18), .ref a19, .long (lI yy20), .ref a21, .ref a22, .ref a23, .ref a24, .ref a25, .ref a26, .ref a27, .ref a28]) rfl dX11_stop_28 (fun σ60 h61 n62 => ?_)
        have G63 := G0.put t9 (⟨z10, yy11, 0, z13, z14, z15, a16, z17, yy18, a19, yy20, a21, a22, a23, a24, a25, a26, a27, a28, h61, ⟨by omega, by omega⟩, ⟨by omega, by omega⟩, ⟨by omega, by omega⟩, ⟨by omega, by omega⟩, ⟨by omega, by omega⟩, ⟨by omega, by omega⟩, t36, ⟨by omega, by omega⟩, ⟨by omega, by omega⟩, t39, ⟨by omega, by omega⟩, t41, t42, t43, t44, t45, t46, t47, t48⟩ : Ok K τ (33, 0, 0) (σ60 a8)) n62
        have F64 := F0.put t9 (by simp) n62
        refine v_iconst B (v := iI 1) dX11_stop_31 rfl ?_
        exact hend σ60 1 _ _ G63 F64 ⟨by omega, by omega⟩ dX11_stop_32
      · refine v_iconst B (v := iI 0) dX11_stop_24 rfl ?_
        exact hend σ0 0 _ _ G0 F0 ⟨by omega, by omega⟩ dX11_stop_25
set_option maxRecDepth 100000 in
theorem c_Low_stop (l : Launch) (D : va_G) (K : Nat → ClassId) {τ : Nat → Option Ty} {dom : List Nat} (Z : Sk τ dom) (zb zL : Nat) (zx : Nat → Int32) (zs : Nat → Nat) (h : Nat) (x1 : Int) (t_h : τ h = some (41, 0, 0)) (r_x1 : -2147483648 ≤ x1 ∧ x1 ≤ 2147483647) (σ0 : Nat → va_E) (G0 : Good K τ σ0) : MZ l yX11_stop wp_Low_stop ({ frames := 1, cells := 0, slots := 0, locals := 21 }) D (tysA K) [.ref h, .int (iI x1)] (fd dom σ0) zb zL zx zs (Qi D (fun r σ' => Good K τ σ' ∧ Fr τ [(33, 0)] σ0 σ' ∧ ∃ z : Int, r = iI z ∧ (0 ≤ z ∧ z ≤ 1)) (fun σ' => fd dom σ')) 0 0 := by
  refine mz_of (cc := cX11_stop) (maxL := 3) (ret := (some .boolean)) (by decide +kernel) rfl (Nat.le_of_ble_eq_true rfl) ?_
  intro p e s m below meth c A B hr hlk _ hz
  exact b_Low_stop ⟨Nat.le_refl _, Nat.le_refl _⟩ B Z hz h x1 t_h r_x1 σ0 G0 (fun σ' z lv pc G F hZ hd => v_zret B hr hlk (nar01 (by omega)) σ' ⟨G, F, z, rfl, hZ⟩ rfl (Nat.le_refl _) (Nat.le_refl _) hd)

def wp_Low_noise : List Cond := .code yX11_noise cX11_noise 3 (some .boolean) :: (([.methodLink RX11 52 yX11_find, .instanceMethod yX11_find, .selects RX11 yX11_find yX11_find, .initialized RX11, .code yX11_find cX11_find 2 (some (.object "LowEnergy$Device")), .fieldLink RX11 9 "LowEnergy" "devices" "[LLowEnergy$Device;", .fieldLink RX11 18 "LowEnergy" "sky" "LLowEnergy$Air;", .methodLink RX11 103 yX0_disturbNext, .instanceMethod yX0_disturbNext, .selects RX0 yX0_disturbNext yX0_disturbNext, .initialized RX0, .code yX0_disturbNext cX0_disturbNext 3 (some .boolean), .fieldLink RX0 26 "LowEnergy$Air" "noiseCounts" "[I", .fieldLink RX0 23 "LowEnergy$Air" "noises" "[[I"] : List Cond) ++ (wsX110 ++ (wsX00 ++ ([]))))
theorem hi_Low_noise_X11 : ∀ x ∈ u_ws RX11 TX11 5, x ∈ wp_Low_noise := fun _ h => List.mem_cons_of_mem _ (List.mem_append_right _ (List.mem_append_left _ h))
theorem hi_Low_noise_X0 : ∀ x ∈ u_ws RX0 TX0 10, x ∈ wp_Low_noise := fun _ h => List.mem_cons_of_mem _ (List.mem_append_right _ (List.mem_append_right _ (List.mem_append_left _ h)))
set_option maxRecDepth 100000 in
theorem gd_Low_noise_Low_find_52 : GoodIn wp_Low_noise (wsV RX11 52 RX11 yX11_find wp_Low_find) := goodIn_app (goodIn_r _ [1, 2, 3, 4] rfl rfl) (goodIn_ca (goodIn_r _ [5, 6] rfl rfl) (goodIn_app (goodIn_cls hi_Low_noise_X11 gw_X11) (goodIn_nil)))
set_option maxRecDepth 100000 in
theorem gd_Low_noise_Air_disturbNext_103 : GoodIn wp_Low_noise (wsV RX11 103 RX0 yX0_disturbNext wp_Air_disturbNext) := goodIn_app (goodIn_r _ [8, 9, 10, 11] rfl rfl) (goodIn_ca (goodIn_r _ [12, 13, 14] rfl rfl) (goodIn_app (goodIn_cls hi_Low_noise_X0 gw_X0) (goodIn_nil)))
set_option maxHeartbeats 4000000 in
set_option maxRecDepth 100000 in
theorem b_Low_noise {p : Program} {l : Launch} {e : Env} {R : Room} {s : State} {m : MethodId} {args : Array Value} {below : List Frame} {meth : Method} {c : Code} {D : va_G} {K : Nat → ClassId} {A : Nat → Prop} {Q : State → Prop} {τ : Nat → Option Ty} {dom : List Nat} {zb zL : Nat} {zx : Nat → Int32} {zs : Nat → Nat} (hR : 1 ≤ R.frames ∧ 22 ≤ R.locals) (B : Bx p s m args c cX11_noise 3 RX11 wp_Low_noise D (tysA K) A) (Z : Sk τ dom) (hz : ZL zb zL zx zs A s s.heap) (h : Nat) (x1 : Int) (x2 : Int) (t_h : τ h = some (41, 0, 0)) (r_x1 : -2147483648 ≤ x1 ∧ x1 ≤ 2147483647) (r_x2 : -2147483648 ≤ x2 ∧ x2 ≤ 2147483647) (σ0 : Nat → va_E) (G0 : Good K τ σ0) (hend : ∀ (σ' : Nat → va_E) (z : Int) (lv : List (Nat × Value)) (pc : Nat), Good K τ σ' → Fr τ [(3, 21), (4, 24)] σ0 σ' → (0 ≤ z ∧ z ≤ 1) → decode cX11_noise pc = .ok (.ireturn, 1) → V p l e R s m args below meth c 3 D A Q (0, 0) (fd dom σ') lv pc [.int (iI z)]) : V p l e R s m args below meth c 3 D A Q (0, 0) (fd dom σ0) [(0, .ref h), (1, .int (iI x1)), (2, .int (iI x2))] 0 [] := by
  have F0 : Fr τ [(3, 21), (4, 24)] σ0 σ0 := Fr.rf
  refine v_aload_n B dX11_noise_0 rfl rfl ?_
  refine v_iload_n B dX11_noise_1 rfl rfl ?_
  refine u_callVq B Z hz (n := 1) (As := [.int (iI x1)]) (rest := []) (c_Low_find l D K Z _ _ _ _ h x1 t_h ⟨by omega, by omega⟩ σ0 G0) gd_Low_noise_Low_find_52 rfl rfl rfl (by decide +kernel) ⟨Nat.le_trans (by decide +kernel) hR.1, Nat.le_trans (by decide +kernel) hR.2⟩ t_h (cls_Low G0 t_h) rfl rfl rfl rfl (Nat.le_of_ble_eq_true rfl) dX11_noise_2 ⟨Nat.zero_le _, Nat.zero_le _⟩ (fun v3 σ1 p2 => ?_)
  obtain ⟨rfl, q7⟩ := p2
  rcases q7 with rfl | ⟨a8, rfl, t9⟩
  · show V _ _ _ _ _ _ _ _ _ _ _ _ _ _ _ _ _ _ [.null]
    refine v_ifnullN B (tgt := 24) dX11_noise_5 (by decide +kernel) ?_
    refine v_iconst B (v := iI 0) dX11_noise_24 rfl ?_
    exact hend σ0 0 _ _ G0 F0 ⟨by omega, by omega⟩ dX11_noise_25
  · show V _ _ _ _ _ _ _ _ _ _ _ _ _ _ _ _ _ _ [.ref a8]
    refine v_ifnull B dX11_noise_5 ?_
    refine v_aload_n B dX11_noise_8 rfl rfl ?_
    obtain ⟨a10, a11, a12, a13, z14, h15, t16, t17, t18, t19, r20⟩ : okLow τ (σ0 h) := G0 h _ t_h
    refine u_get B Z (C := RX11) (T := TX11) (N := 5) (ci := 11) hi_Low_noise_X11 t_h h15 rfl 1 (by decide +kernel) (List.mem_of_getElem? (i := 7) rfl) rfl dX11_noise_9 ?_
    refine v_iload_n B dX11_noise_12 rfl rfl ?_
    refine v_iload_n B dX11_noise_13 rfl rfl ?_
    refine u_callVi B Z hz (n := 2) (As := [.int (iI x1), .int (iI x2)]) (rest := []) (c_Air_disturbNext l D K Z _ _ _ _ a11 x1 x2 t17 ⟨by omega, by omega⟩ ⟨by omega, by omega⟩ σ0 G0) gd_Low_noise_Air_disturbNext_103 rfl rfl rfl (by decide +kernel) ⟨Nat.le_trans (by decide +kernel) hR.1, Nat.le_trans (by decide +kernel) hR.2⟩ t17 (cls_Air G0 t17) rfl rfl rfl rfl (Nat.le_of_ble_eq_true rfl) dX11_noise_14 ⟨Nat.zero_le _, Nat.zero_le _⟩ (fun v23 σ21 p22 => ?_)
    obtain ⟨G24, F25, z27, e28, r29⟩ := p22
    subst e28
    have F26 := F0.call F25 (by first | rfl | simp)
    have h30 := (F25 h _ t_h (by first | rfl | simp)).trans h15
    refine u_if_eq B (tgt := 24) (by omega) dX11_noise_17 (by decide +kernel) (fun c31 => ?_) (fun c31 => ?_)
    · refine v_iconst B (v := iI 0) dX11_noise_24 rfl ?_
      exact hend σ21 0 _ _ G24 F26 ⟨by omega, by omega⟩ dX11_noise_25
    · refine v_iconst B (v := iI 1) dX11_noise_20 rfl ?_
      refine v_goto B (tgt := 25) dX11_noise_21 (by decide +kernel) ?_
      exact hend σ21 1 _ _ G24 F26 ⟨by omega, by omega⟩ dX11_noise_25
set_option maxRecDepth 100000 in
theorem c_Low_noise (l : Launch) (D : va_G) (K : Nat → ClassId) {τ : Nat → Option Ty} {dom : List Nat} (Z : Sk τ dom) (zb zL : Nat) (zx : Nat → Int32) (zs : Nat → Nat) (h : Nat) (x1 : Int) (x2 : Int) (t_h : τ h = some (41, 0, 0)) (r_x1 : -2147483648 ≤ x1 ∧ x1 ≤ 2147483647) (r_x2 : -2147483648 ≤ x2 ∧ x2 ≤ 2147483647) (σ0 : Nat → va_E) (G0 : Good K τ σ0) : MZ l yX11_noise wp_Low_noise ({ frames := 1, cells := 0, slots := 0, locals := 22 }) D (tysA K) [.ref h, .int (iI x1), .int (iI x2)] (fd dom σ0) zb zL zx zs (Qi D (fun r σ' => Good K τ σ' ∧ Fr τ [(3, 21), (4, 24)] σ0 σ' ∧ ∃ z : Int, r = iI z ∧ (0 ≤ z ∧ z ≤ 1)) (fun σ' => fd dom σ')) 0 0 := by
  refine mz_of (cc := cX11_noise) (maxL := 3) (ret := (some .boolean)) (by decide +kernel) rfl (Nat.le_of_ble_eq_true rfl) ?_
  intro p e s m below meth c A B hr hlk _ hz
  exact b_Low_noise ⟨Nat.le_refl _, Nat.le_refl _⟩ B Z hz h x1 x2 t_h r_x1 r_x2 σ0 G0 (fun σ' z lv pc G F hZ hd => v_zret B hr hlk (nar01 (by omega)) σ' ⟨G, F, z, rfl, hZ⟩ rfl (Nat.le_refl _) (Nat.le_refl _) hd)

def wp_Low_lose : List Cond := .code yX11_lose cX11_lose 3 (some .boolean) :: (([.methodLink RX11 52 yX11_find, .instanceMethod yX11_find, .selects RX11 yX11_find yX11_find, .initialized RX11, .code yX11_find cX11_find 2 (some (.object "LowEnergy$Device")), .fieldLink RX11 9 "LowEnergy" "devices" "[LLowEnergy$Device;", .fieldLink RX11 18 "LowEnergy" "sky" "LLowEnergy$Air;", .methodLink RX11 107 yX0_loseNext, .instanceMethod yX0_loseNext, .selects RX0 yX0_loseNext yX0_loseNext, .initialized RX0, .code yX0_loseNext cX0_loseNext 3 (some .boolean), .fieldLink RX0 29 "LowEnergy$Air" "losses" "[I"] : List Cond) ++ (wsX110 ++ (wsX00 ++ ([]))))
theorem hi_Low_lose_X11 : ∀ x ∈ u_ws RX11 TX11 5, x ∈ wp_Low_lose := fun _ h => List.mem_cons_of_mem _ (List.mem_append_right _ (List.mem_append_left _ h))
theorem hi_Low_lose_X0 : ∀ x ∈ u_ws RX0 TX0 10, x ∈ wp_Low_lose := fun _ h => List.mem_cons_of_mem _ (List.mem_append_right _ (List.mem_append_right _ (List.mem_append_left _ h)))
set_option maxRecDepth 100000 in
theorem gd_Low_lose_Low_find_52 : GoodIn wp_Low_lose (wsV RX11 52 RX11 yX11_find wp_Low_find) := goodIn_app (goodIn_r _ [1, 2, 3, 4] rfl rfl) (goodIn_ca (goodIn_r _ [5, 6] rfl rfl) (goodIn_app (goodIn_cls hi_Low_lose_X11 gw_X11) (goodIn_nil)))
set_option maxRecDepth 100000 in
theorem gd_Low_lose_Air_loseNext_107 : GoodIn wp_Low_lose (wsV RX11 107 RX0 yX0_loseNext wp_Air_loseNext) := goodIn_app (goodIn_r _ [8, 9, 10, 11] rfl rfl) (goodIn_ca (goodIn_r _ [12, 13] rfl rfl) (goodIn_app (goodIn_cls hi_Low_lose_X0 gw_X0) (goodIn_nil)))
set_option maxHeartbeats 4000000 in
set_option maxRecDepth 100000 in
theorem b_Low_lose {p : Program} {l : Launch} {e : Env} {R : Room} {s : State} {m : MethodId} {args : Array Value} {below : List Frame} {meth : Method} {c : Code} {D : va_G} {K : Nat → ClassId} {A : Nat → Prop} {Q : State → Prop} {τ : Nat → Option Ty} {dom : List Nat} {zb zL : Nat} {zx : Nat → Int32} {zs : Nat → Nat} (hR : 1 ≤ R.frames ∧ 22 ≤ R.locals) (B : Bx p s m args c cX11_lose 3 RX11 wp_Low_lose D (tysA K) A) (Z : Sk τ dom) (hz : ZL zb zL zx zs A s s.heap) (h : Nat) (x1 : Int) (x2 : Int) (t_h : τ h = some (41, 0, 0)) (r_x1 : -2147483648 ≤ x1 ∧ x1 ≤ 2147483647) (r_x2 : -2147483648 ≤ x2 ∧ x2 ≤ 2147483647) (σ0 : Nat → va_E) (G0 : Good K τ σ0) (hend : ∀ (σ' : Nat → va_E) (z : Int) (lv : List (Nat × Value)) (pc : Nat), Good K τ σ' → Fr τ [(3, 25)] σ0 σ' → (0 ≤ z ∧ z ≤ 1) → decode cX11_lose pc = .ok (.ireturn, 1) → V p l e R s m args below meth c 3 D A Q (0, 0) (fd dom σ') lv pc [.int (iI z)]) : V p l e R s m args below meth c 3 D A Q (0, 0) (fd dom σ0) [(0, .ref h), (1, .int (iI x1)), (2, .int (iI x2))] 0 [] := by
  have F0 : Fr τ [(3, 25)] σ0 σ0 := Fr.rf
  refine v_aload_n B dX11_lose_0 rfl rfl ?_
  refine v_iload_n B dX11_lose_1 rfl rfl ?_
  refine u_callVq B Z hz (n := 1) (As := [.int (iI x1)]) (rest := []) (c_Low_find l D K Z _ _ _ _ h x1 t_h ⟨by omega, by omega⟩ σ0 G0) gd_Low_lose_Low_find_52 rfl rfl rfl (by decide +kernel) ⟨Nat.le_trans (by decide +kernel) hR.1, Nat.le_trans (by decide +kernel) hR.2⟩ t_h (cls_Low G0 t_h) rfl rfl rfl rfl (Nat.le_of_ble_eq_true rfl) dX11_lose_2 ⟨Nat.zero_le _, Nat.zero_le _⟩ (fun v3 σ1 p2 => ?_)
  obtain ⟨rfl, q7⟩ := p2
  rcases q7 with rfl | ⟨a8, rfl, t9⟩
  · show V _ _ _ _ _ _ _ _ _ _ _ _ _ _ _ _ _ _ [.null]
    refine v_ifnullN B (tgt := 24) dX11_lose_5 (by decide +kernel) ?_
    refine v_iconst B (v := iI 0) dX11_lose_24 rfl ?_
    exact hend σ0 0 _ _ G0 F0 ⟨by omega, by omega⟩ dX11_lose_25
  · show V _ _ _ _ _ _ _ _ _ _ _ _ _ _ _ _ _ _ [.ref a8]
    refine v_ifnull B dX11_lose_5 ?_
    refine v_aload_n B dX11_lose_8 rfl rfl ?_
    obtain ⟨a10, a11, a12, a13, z14, h15, t16, t17, t18, t19, r20⟩ : okLow τ (σ0 h) := G0 h _ t_h
    refine u_get B Z (C := RX11) (T := TX11) (N := 5) (ci := 11) hi_Low_lose_X11 t_h h15 rfl 1 (by decide +kernel) (List.mem_of_getElem? (i := 7) rfl) rfl dX11_lose_9 ?_
    refine v_iload_n B dX11_lose_12 rfl rfl ?_
    refine v_iload_n B dX11_lose_13 rfl rfl ?_
    refine u_callVi B Z hz (n := 2) (As := [.int (iI x1), .int (iI x2)]) (rest := []) (c_Air_loseNext l D K Z _ _ _ _ a11 x1 x2 t17 ⟨by omega, by omega⟩ ⟨by omega, by omega⟩ σ0 G0) gd_Low_lose_Air_loseNext_107 rfl rfl rfl (by decide +kernel) ⟨Nat.le_trans (by decide +kernel) hR.1, Nat.le_trans (by decide +kernel) hR.2⟩ t17 (cls_Air G0 t17) rfl rfl rfl rfl (Nat.le_of_ble_eq_true rfl) dX11_lose_14 ⟨Nat.zero_le _, Nat.zero_le _⟩ (fun v23 σ21 p22 => ?_)
    obtain ⟨G24, F25, z27, e28, r29⟩ := p22
    subst e28
    have F26 := F0.call F25 (by first | rfl | simp)
    have h30 := (F25 h _ t_h (by first | rfl | simp)).trans h15
    refine u_if_eq B (tgt := 24) (by omega) dX11_lose_17 (by decide +kernel) (fun c31 => ?_) (fun c31 => ?_)
    · refine v_iconst B (v := iI 0) dX11_lose_24 rfl ?_
      exact hend σ21 0 _ _ G24 F26 ⟨by omega, by omega⟩ dX11_lose_25
    · refine v_iconst B (v := iI 1) dX11_lose_20 rfl ?_
      refine v_goto B (tgt := 25) dX11_lose_21 (by decide +kernel) ?_
      exact hend σ21 1 _ _ G24 F26 ⟨by omega, by omega⟩ dX11_lose_25
set_option maxRecDepth 100000 in
theorem c_Low_lose (l : Launch) (D : va_G) (K : Nat → ClassId) {τ : Nat → Option Ty} {dom : List Nat} (Z : Sk τ dom) (zb zL : Nat) (zx : Nat → Int32) (zs : Nat → Nat) (h : Nat) (x1 : Int) (x2 : Int) (t_h : τ h = some (41, 0, 0)) (r_x1 : -2147483648 ≤ x1 ∧ x1 ≤ 2147483647) (r_x2 : -2147483648 ≤ x2 ∧ x2 ≤ 2147483647) (σ0 : Nat → va_E) (G0 : Good K τ σ0) : MZ l yX11_lose wp_Low_lose ({ frames := 1, cells := 0, slots := 0, locals := 22 }) D (tysA K) [.ref h, .int (iI x1), .int (iI x2)] (fd dom σ0) zb zL zx zs (Qi D (fun r σ' => Good K τ σ' ∧ Fr τ [(3, 25)] σ0 σ' ∧ ∃ z : Int, r = iI z ∧ (0 ≤ z ∧ z ≤ 1)) (fun σ' => fd dom σ')) 0 0 := by
  refine mz_of (cc := cX11_lose) (maxL := 3) (ret := (some .boolean)) (by decide +kernel) rfl (Nat.le_of_ble_eq_true rfl) ?_
  intro p e s m below meth c A B hr hlk _ hz
  exact b_Low_lose ⟨Nat.le_refl _, Nat.le_refl _⟩ B Z hz h x1 x2 t_h r_x1 r_x2 σ0 G0 (fun σ' z lv pc G F hZ hd => v_zret B hr hlk (nar01 (by omega)) σ' ⟨G, F, z, rfl, hZ⟩ rfl (Nat.le_refl _) (Nat.le_refl _) hd)

def wp_Low_allow : List Cond := .code yX11_allow cX11_allow 4 (some .boolean) :: (([.methodLink RX11 52 yX11_find, .instanceMethod yX11_find, .selects RX11 yX11_find yX11_find, .initialized RX11, .code yX11_find cX11_find 2 (some (.object "LowEnergy$Device")), .fieldLink RX11 9 "LowEnergy" "devices" "[LLowEnergy$Device;", .constant RX11 110 (999999)] : List Cond) ++ (wsX110 ++ (wsX30 ++ (wsX80 ++ ([])))))
theorem hi_Low_allow_X11 : ∀ x ∈ u_ws RX11 TX11 5, x ∈ wp_Low_allow := fun _ h => List.mem_cons_of_mem _ (List.mem_append_right _ (List.mem_append_left _ h))
theorem hi_Low_allow_X3 : ∀ x ∈ u_ws RX3 TX3 19, x ∈ wp_Low_allow := fun _ h => List.mem_cons_of_mem _ (List.mem_append_right _ (List.mem_append_right _ (List.mem_append_left _ h)))
theorem hi_Low_allow_X8 : ∀ x ∈ u_ws RX8 TX8 8, x ∈ wp_Low_allow := fun _ h => List.mem_cons_of_mem _ (List.mem_append_right _ (List.mem_append_right _ (List.mem_append_right _ (List.mem_append_left _ h))))
set_option maxRecDepth 100000 in
theorem gd_Low_allow_Low_find_52 : GoodIn wp_Low_allow (wsV RX11 52 RX11 yX11_find wp_Low_find) := goodIn_app (goodIn_r _ [1, 2, 3, 4] rfl rfl) (goodIn_ca (goodIn_r _ [5, 6] rfl rfl) (goodIn_app (goodIn_cls hi_Low_allow_X11 gw_X11) (goodIn_nil)))
set_option maxHeartbeats 4000000 in
set_option maxRecDepth 100000 in
theorem b_Low_allow {p : Program} {l : Launch} {e : Env} {R : Room} {s : State} {m : MethodId} {args : Array Value} {below : List Frame} {meth : Method} {c : Code} {D : va_G} {K : Nat → ClassId} {A : Nat → Prop} {Q : State → Prop} {τ : Nat → Option Ty} {dom : List Nat} {zb zL : Nat} {zx : Nat → Int32} {zs : Nat → Nat} (hR : 1 ≤ R.frames ∧ 21 ≤ R.locals) (B : Bx p s m args c cX11_allow 4 RX11 wp_Low_allow D (tysA K) A) (Z : Sk τ dom) (hz : ZL zb zL zx zs A s s.heap) (h : Nat) (x1 : Int) (x2 : Int) (t_h : τ h = some (41, 0, 0)) (r_x1 : -2147483648 ≤ x1 ∧ x1 ≤ 2147483647) (r_x2 : -2147483648 ≤ x2 ∧ x2 ≤ 2147483647) (σ0 : Nat → va_E) (G0 : Good K τ σ0) (hend : ∀ (σ' : Nat → va_E) (z : Int) (lv : List (Nat × Value)) (pc : Nat), Good K τ σ' → Fr τ [(38, 0)] σ0 σ' → (0 ≤ z ∧ z ≤ 1) → decode cX11_allow pc = .ok (.ireturn, 1) → V p l e R s m args below meth c 4 D A Q (0, 0) (fd dom σ') lv pc [.int (iI z)]) : V p l e R s m args below meth c 4 D A Q (0, 0) (fd dom σ0) [(0, .ref h), (1, .int (iI x1)), (2, .int (iI x2))] 0 [] := by
  have F0 : Fr τ [(38, 0)] σ0 σ0 := Fr.rf
  refine v_aload_n B dX11_allow_0 rfl rfl ?_
  refine v_iload_n B dX11_allow_1 rfl rfl ?_
  refine u_callVq B Z hz (n := 1) (As := [.int (iI x1)]) (rest := []) (c_Low_find l D K Z _ _ _ _ h x1 t_h ⟨by omega, by omega⟩ σ0 G0) gd_Low_allow_Low_find_52 rfl rfl rfl (by decide +kernel) ⟨Nat.le_trans (by decide +kernel) hR.1, Nat.le_trans (by decide +kernel) hR.2⟩ t_h (cls_Low G0 t_h) rfl rfl rfl rfl (Nat.le_of_ble_eq_true rfl) dX11_allow_2 ⟨Nat.zero_le _, Nat.zero_le _⟩ (fun v3 σ1 p2 => ?_)
  obtain ⟨rfl, q7⟩ := p2
  rcases q7 with rfl | ⟨a8, rfl, t9⟩
  · show V _ _ _ _ _ _ _ _ _ _ _ _ _ _ _ _ _ _ [.null]
    refine v_astore_nN B (lv' := [(3, .null), (0, .ref h), (1, .int (iI x1)), (2, .int (iI x2))]) dX11_allow_5 rfl (by decide +kernel) rfl ?_
    refine v_aload_nN B dX11_allow_6 rfl rfl ?_
    refine v_ifnullN B (tgt := 21) dX11_allow_7 (by decide +kernel) ?_
    refine v_iconst B (v := iI 0) dX11_allow_21 rfl ?_
    exact hend σ0 0 _ _ G0 F0 ⟨by omega, by omega⟩ dX11_allow_22
  · show V _ _ _ _ _ _ _ _ _ _ _ _ _ _ _ _ _ _ [.ref a8]
    refine v_astore_n B (lv' := [(3, .ref a8), (0, .ref h), (1, .int (iI x1)), (2, .int (iI x2))]) dX11_allow_5 rfl (by decide +kernel) rfl ?_
    refine v_aload_n B dX11_allow_6 rfl rfl ?_
    refine v_ifnull B dX11_allow_7 ?_
    refine v_iload_n B dX11_allow_10 rfl rfl ?_
    refine v_iconst B (v := iI (-1)) dX11_allow_11 rfl ?_
    refine u_icmp_lt B (tgt := 21) (by omega) (by omega) dX11_allow_12 (by decide +kernel) (fun c10 => ?_) (fun c10 => ?_)
    · refine v_iconst B (v := iI 0) dX11_allow_21 rfl ?_
      exact hend σ0 0 _ _ G0 F0 ⟨by omega, by omega⟩ dX11_allow_22
    · refine v_iload_n B dX11_allow_15 rfl rfl ?_
      refine v_ldc B (v := iI 999999) (u_ci (List.mem_of_getElem? (i := 7) rfl) (by decide +kernel)) dX11_allow_16 ?_
      refine u_icmp_le B (tgt := 23) (by omega) (by omega) dX11_allow_18 (by decide +kernel) (fun c11 => ?_) (fun c11 => ?_)
      · refine v_aload_n B dX11_allow_23 rfl rfl ?_
        obtain ⟨z12, yy13, z14, z15, z16, z17, a18, z19, yy20, a21, yy22, a23, a24, a25, a26, a27, a28, a29, a30, h31, r32, r33, r34, r35, r36, r37, t38, r39, r40, t41, r42, t43, t44, t45, t46, t47, t48, t49, t50⟩ : okDevice τ (σ0 a8) := G0 a8 _ t9
        refine u_getN B Z (C := RX3) (T := TX3) (N := 19) (ci := 3) hi_Low_allow_X3 t9 h31 rfl 14 (by decide +kernel) (List.mem_of_getElem? (i := 0) rfl) rfl dX11_allow_24 ?_
        refine v_iload_n B dX11_allow_27 rfl rfl ?_
        obtain ⟨a51, z52, z53, a54, a55, a56, a57, a58, h59, t60, r61, r62, t63, t64, t65, t66, t67⟩ : okPairing τ (σ0 a26) := G0 a26 _ t46
        refine u_putN B Z (C := RX8) (T := TX8) (N := 8) (ci := 8) hi_Low_allow_X8 t46 h59 rfl 1 (by decide +kernel) tyX8 tyX8_ok nmX8 (List.mem_of_getElem? (i := 1) rfl) rfl (ty := .int) (tyX8_ok 1 (by decide +kernel)) rfl rfl (Nat.le_of_ble_eq_true rfl) (fs' := [.ref a51, .int (iI x2), .int (iI z53), .ref a54, .ref a55, .ref a56, .ref a57, .ref a58]) rfl dX11_allow_28 (fun σ68 h69 n70 => ?_)
        have G71 := G0.put t46 (⟨a51, x2, z53, a54, a55, a56, a57, a58, h69, t60, ⟨by omega, by omega⟩, ⟨by omega, by omega⟩, t63, t64, t65, t66, t67⟩ : Ok K τ (38, 0, 0) (σ68 a26)) n70
        have F72 := F0.put t46 (by simp) n70
        have h73 := (n70 a8 (ne_ty t9 t46 (by simp))).trans h31
        refine v_iconst B (v := iI 1) dX11_allow_31 rfl ?_
        exact hend σ68 1 _ _ G71 F72 ⟨by omega, by omega⟩ dX11_allow_32
      · refine v_iconst B (v := iI 0) dX11_allow_21 rfl ?_
        exact hend σ0 0 _ _ G0 F0 ⟨by omega, by omega⟩ dX11_allow_22
set_option maxRecDepth 100000 in
theorem c_Low_allow (l : Launch) (D : va_G) (K : Nat → ClassId) {τ : Nat → Option Ty} {dom : List Nat} (Z : Sk τ dom) (zb zL : Nat) (zx : Nat → Int32) (zs : Nat → Nat) (h : Nat) (x1 : Int) (x2 : Int) (t_h : τ h = some (41, 0, 0)) (r_x1 : -2147483648 ≤ x1 ∧ x1 ≤ 2147483647) (r_x2 : -2147483648 ≤ x2 ∧ x2 ≤ 2147483647) (σ0 : Nat → va_E) (G0 : Good K τ σ0) : MZ l yX11_allow wp_Low_allow ({ frames := 1, cells := 0, slots := 0, locals := 21 }) D (tysA K) [.ref h, .int (iI x1), .int (iI x2)] (fd dom σ0) zb zL zx zs (Qi D (fun r σ' => Good K τ σ' ∧ Fr τ [(38, 0)] σ0 σ' ∧ ∃ z : Int, r = iI z ∧ (0 ≤ z ∧ z ≤ 1)) (fun σ' => fd dom σ')) 0 0 := by
  refine mz_of (cc := cX11_allow) (maxL := 4) (ret := (some .boolean)) (by decide +kernel) rfl (Nat.le_of_ble_eq_true rfl) ?_
  intro p e s m below meth c A B hr hlk _ hz
  exact b_Low_allow ⟨Nat.le_refl _, Nat.le_refl _⟩ B Z hz h x1 x2 t_h r_x1 r_x2 σ0 G0 (fun σ' z lv pc G F hZ hd => v_zret B hr hlk (nar01 (by omega)) σ' ⟨G, F, z, rfl, hZ⟩ rfl (Nat.le_refl _) (Nat.le_refl _) hd)

def wp_Low_features : List Cond := .code yX11_features cX11_features 5 (some .boolean) :: (([.methodLink RX11 52 yX11_find, .instanceMethod yX11_find, .selects RX11 yX11_find yX11_find, .initialized RX11, .code yX11_find cX11_find 2 (some (.object "LowEnergy$Device")), .fieldLink RX11 9 "LowEnergy" "devices" "[LLowEnergy$Device;"] : List Cond) ++ (wsX110 ++ (wsX30 ++ ([]))))
theorem hi_Low_features_X11 : ∀ x ∈ u_ws RX11 TX11 5, x ∈ wp_Low_features := fun _ h => List.mem_cons_of_mem _ (List.mem_append_right _ (List.mem_append_left _ h))
theorem hi_Low_features_X3 : ∀ x ∈ u_ws RX3 TX3 19, x ∈ wp_Low_features := fun _ h => List.mem_cons_of_mem _ (List.mem_append_right _ (List.mem_append_right _ (List.mem_append_left _ h)))
set_option maxRecDepth 100000 in
theorem gd_Low_features_Low_find_52 : GoodIn wp_Low_features (wsV RX11 52 RX11 yX11_find wp_Low_find) := goodIn_app (goodIn_r _ [1, 2, 3, 4] rfl rfl) (goodIn_ca (goodIn_r _ [5, 6] rfl rfl) (goodIn_app (goodIn_cls hi_Low_features_X11 gw_X11) (goodIn_nil)))
set_option maxHeartbeats 4000000 in
set_option maxRecDepth 100000 in
theorem b_Low_features {p : Program} {l : Launch} {e : Env} {R : Room} {s : State} {m : MethodId} {args : Array Value} {below : List Frame} {meth : Method} {c : Code} {D : va_G} {K : Nat → ClassId} {A : Nat → Prop} {Q : State → Prop} {τ : Nat → Option Ty} {dom : List Nat} {zb zL : Nat} {zx : Nat → Int32} {zs : Nat → Nat} (hR : 1 ≤ R.frames ∧ 21 ≤ R.locals) (B : Bx p s m args c cX11_features 5 RX11 wp_Low_features D (tysA K) A) (Z : Sk τ dom) (hz : ZL zb zL zx zs A s s.heap) (h : Nat) (x1 : Int) (y2 : Int) (t_h : τ h = some (41, 0, 0)) (r_x1 : -2147483648 ≤ x1 ∧ x1 ≤ 2147483647) (r_y2 : InL y2) (σ0 : Nat → va_E) (G0 : Good K τ σ0) (hend : ∀ (σ' : Nat → va_E) (z : Int) (lv : List (Nat × Value)) (pc : Nat), Good K τ σ' → Fr τ [(33, 0)] σ0 σ' → (0 ≤ z ∧ z ≤ 1) → decode cX11_features pc = .ok (.ireturn, 1) → V p l e R s m args below meth c 5 D A Q (0, 0) (fd dom σ') lv pc [.int (iI z)]) : V p l e R s m args below meth c 5 D A Q (0, 0) (fd dom σ0) [(0, .ref h), (1, .int (iI x1)), (2, .long (lI y2))] 0 [] := by
  have F0 : Fr τ [(33, 0)] σ0 σ0 := Fr.rf
  refine v_aload_n B dX11_features_0 rfl rfl ?_
  refine v_iload_n B dX11_features_1 rfl rfl ?_
  refine u_callVq B Z hz (n := 1) (As := [.int (iI x1)]) (rest := []) (c_Low_find l D K Z _ _ _ _ h x1 t_h ⟨by omega, by omega⟩ σ0 G0) gd_Low_features_Low_find_52 rfl rfl rfl (by decide +kernel) ⟨Nat.le_trans (by decide +kernel) hR.1, Nat.le_trans (by decide +kernel) hR.2⟩ t_h (cls_Low G0 t_h) rfl rfl rfl rfl (Nat.le_of_ble_eq_true rfl) dX11_features_2 ⟨Nat.zero_le _, Nat.zero_le _⟩ (fun v3 σ1 p2 => ?_)
  obtain ⟨rfl, q7⟩ := p2
  rcases q7 with rfl | ⟨a8, rfl, t9⟩
  · show V _ _ _ _ _ _ _ _ _ _ _ _ _ _ _ _ _ _ [.null]
    refine v_astoreN B (lv' := [(4, .null), (0, .ref h), (1, .int (iI x1)), (2, .long (lI y2))]) dX11_features_5 (by decide +kernel) rfl ?_
    refine v_aloadN B dX11_features_7 rfl ?_
    refine v_ifnonnullN B dX11_features_9 ?_
    refine v_iconst B (v := iI 0) dX11_features_12 rfl ?_
    exact hend σ0 0 _ _ G0 F0 ⟨by omega, by omega⟩ dX11_features_13
  · show V _ _ _ _ _ _ _ _ _ _ _ _ _ _ _ _ _ _ [.ref a8]
    refine v_astore B (lv' := [(4, .ref a8), (0, .ref h), (1, .int (iI x1)), (2, .long (lI y2))]) dX11_features_5 (by decide +kernel) rfl ?_
    refine v_aload B dX11_features_7 rfl ?_
    refine v_ifnonnull B (tgt := 14) dX11_features_9 (by decide +kernel) ?_
    refine v_aload B dX11_features_14 rfl ?_
    refine v_lload_n B dX11_features_16 rfl rfl ?_
    obtain ⟨z10, yy11, z12, z13, z14, z15, a16, z17, yy18, a19, yy20, a21, a22, a23, a24, a25, a26, a27, a28, h29, r30, r31, r32, r33, r34, r35, t36, r37, r38, t39, r40, t41, t42, t43, t44, t45, t46, t47, t48⟩ : okDevice τ (σ0 a8) := G0 a8 _ t9
    refine u_putN B Z (C := RX3) (T := TX3) (N := 19) (ci := 3) hi_Low_features_X3 t9 h29 rfl 10 (by decide +kernel) tyX3 tyX3_ok nmX3 (List.mem_of_getElem? (i := 2) rfl) rfl (ty := .long) (tyX3_ok 10 (by decide +kernel)) rfl rfl (Nat.le_of_ble_eq_true rfl) (fs' := [.int (iI z10), .long (lI yy11), .int (iI z12), .int (iI z13), .int (iI z14), .int (iI z15), .ref a16, .int (iI z17), .long (lI yy18), .ref a19, .long (lI y2), .ref a21, .ref a22, .ref a23, .ref a24, .ref a25, .ref a26, .ref a27, .ref a28]) rfl dX11_features_17 (fun σ49 h50 n51 => ?_)
    have G52 := G0.put t9 (⟨z10, yy11, z12, z13, z14, z15, a16, z17, yy18, a19, y2, a21, a22, a23, a24, a25, a26, a27, a28, h50, ⟨by omega, by omega⟩, ⟨by omega, by omega⟩, ⟨by omega, by omega⟩, ⟨by omega, by omega⟩, ⟨by omega, by omega⟩, ⟨by omega, by omega⟩, t36, ⟨by omega, by omega⟩, ⟨by omega, by omega⟩, t39, ⟨by omega, by omega⟩, t41, t42, t43, t44, t45, t46, t47, t48⟩ : Ok K τ (33, 0, 0) (σ49 a8)) n51
    have F53 := F0.put t9 (by simp) n51
    refine v_iconst B (v := iI 1) dX11_features_20 rfl ?_
    exact hend σ49 1 _ _ G52 F53 ⟨by omega, by omega⟩ dX11_features_21
set_option maxRecDepth 100000 in
theorem c_Low_features (l : Launch) (D : va_G) (K : Nat → ClassId) {τ : Nat → Option Ty} {dom : List Nat} (Z : Sk τ dom) (zb zL : Nat) (zx : Nat → Int32) (zs : Nat → Nat) (h : Nat) (x1 : Int) (y2 : Int) (t_h : τ h = some (41, 0, 0)) (r_x1 : -2147483648 ≤ x1 ∧ x1 ≤ 2147483647) (r_y2 : InL y2) (σ0 : Nat → va_E) (G0 : Good K τ σ0) : MZ l yX11_features wp_Low_features ({ frames := 1, cells := 0, slots := 0, locals := 21 }) D (tysA K) [.ref h, .int (iI x1), .long (lI y2)] (fd dom σ0) zb zL zx zs (Qi D (fun r σ' => Good K τ σ' ∧ Fr τ [(33, 0)] σ0 σ' ∧ ∃ z : Int, r = iI z ∧ (0 ≤ z ∧ z ≤ 1)) (fun σ' => fd dom σ')) 0 0 := by
  refine mz_of (cc := cX11_features) (maxL := 5) (ret := (some .boolean)) (by decide +kernel) rfl (Nat.le_of_ble_eq_true rfl) ?_
  intro p e s m below meth c A B hr hlk _ hz
  exact b_Low_features ⟨Nat.le_refl _, Nat.le_refl _⟩ B Z hz h x1 y2 t_h r_x1 r_y2 σ0 G0 (fun σ' z lv pc G F hZ hd => v_zret B hr hlk (nar01 (by omega)) σ' ⟨G, F, z, rfl, hZ⟩ rfl (Nat.le_refl _) (Nat.le_refl _) hd)

def wp_Low_attribute : List Cond := .code yX11_attribute cX11_attribute 6 (some .int) :: (([.methodLink RX11 52 yX11_find, .instanceMethod yX11_find, .selects RX11 yX11_find yX11_find, .initialized RX11, .code yX11_find cX11_find 2 (some (.object "LowEnergy$Device")), .fieldLink RX11 9 "LowEnergy" "devices" "[LLowEnergy$Device;", .constant RX11 123 (65535), .fieldLink RX11 27 "LowEnergy" "tape" "LLowEnergy$Row;", .methodLink RX11 128 yX10_addAttribute, .instanceMethod yX10_addAttribute, .selects RX10 yX10_addAttribute yX10_addAttribute, .initialized RX10, .code yX10_addAttribute cX10_addAttribute 4 (some .int), .fieldLink RX10 56 "LowEnergy$Server" "count" "I", .fieldLink RX10 11 "LowEnergy$Server" "types" "[I", .fieldLink RX10 15 "LowEnergy$Server" "rights" "[I", .fieldLink RX10 20 "LowEnergy$Server" "values" "[LLowEnergy$Row;", .methodLink RX10 59 yX9_become, .instanceMethod yX9_become, .selects RX9 yX9_become yX9_become, .initialized RX9, .code yX9_become cX9_become 2 none, .fieldLink RX9 21 "LowEnergy$Row" "size" "I", .methodLink RX9 27 yX9_putPart, .instanceMethod yX9_putPart, .selects RX9 yX9_putPart yX9_putPart, .code yX9_putPart cX9_putPart 6 none, .fieldLink RX9 15 "LowEnergy$Row" "bytes" "[I", .methodLink RX9 9 Lib.Math.max.name, .static Lib.Math.max.name, .initialized "java/lang/Math", .code Lib.Math.max.name Lib.Math.max.code 2 (some .int), .methodLink RX11 78 yX9_clear, .instanceMethod yX9_clear, .selects RX9 yX9_clear yX9_clear, .code yX9_clear cX9_clear 1 none] : List Cond) ++ (wsX110 ++ (wsX90 ++ (wsX30 ++ (wsX100 ++ ([]))))))
theorem hi_Low_attribute_X11 : ∀ x ∈ u_ws RX11 TX11 5, x ∈ wp_Low_attribute := fun _ h => List.mem_cons_of_mem _ (List.mem_append_right _ (List.mem_append_left _ h))
theorem hi_Low_attribute_X9 : ∀ x ∈ u_ws RX9 TX9 2, x ∈ wp_Low_attribute := fun _ h => List.mem_cons_of_mem _ (List.mem_append_right _ (List.mem_append_right _ (List.mem_append_left _ h)))
theorem hi_Low_attribute_X3 : ∀ x ∈ u_ws RX3 TX3 19, x ∈ wp_Low_attribute := fun _ h => List.mem_cons_of_mem _ (List.mem_append_right _ (List.mem_append_right _ (List.mem_append_right _ (List.mem_append_left _ h))))
theorem hi_Low_attribute_X10 : ∀ x ∈ u_ws RX10 TX10 10, x ∈ wp_Low_attribute := fun _ h => List.mem_cons_of_mem _ (List.mem_append_right _ (List.mem_append_right _ (List.mem_append_right _ (List.mem_append_right _ (List.mem_append_left _ h)))))
set_option maxRecDepth 100000 in
theorem gd_Low_attribute_Low_find_52 : GoodIn wp_Low_attribute (wsV RX11 52 RX11 yX11_find wp_Low_find) := goodIn_app (goodIn_r _ [1, 2, 3, 4] rfl rfl) (goodIn_ca (goodIn_r _ [5, 6] rfl rfl) (goodIn_app (goodIn_cls hi_Low_attribute_X11 gw_X11) (goodIn_nil)))
set_option maxRecDepth 100000 in
theorem gd_Low_attribute_Server_addAttribute_128 : GoodIn wp_Low_attribute (wsV RX11 128 RX10 yX10_addAttribute wp_Server_addAttribute) := goodIn_app (goodIn_r _ [9, 10, 11, 12] rfl rfl) (goodIn_ca (goodIn_r _ [13, 14, 15, 16, 17, 18, 19, 20, 21, 22, 23, 24, 25, 26, 27, 28, 29, 30, 31, 32] rfl rfl) (goodIn_app (goodIn_cls hi_Low_attribute_X10 gw_X10) (goodIn_app (goodIn_cls hi_Low_attribute_X9 gw_X9) (goodIn_nil))))
set_option maxRecDepth 100000 in
theorem gd_Low_attribute_Row_clear_78 : GoodIn wp_Low_attribute (wsV RX11 78 RX9 yX9_clear wp_Row_clear) := goodIn_app (goodIn_r _ [33, 34, 35, 21] rfl rfl) (goodIn_ca (goodIn_r _ [36, 23] rfl rfl) (goodIn_app (goodIn_cls hi_Low_attribute_X9 gw_X9) (goodIn_nil)))
set_option maxHeartbeats 4000000 in
set_option maxRecDepth 100000 in
theorem b_Low_attribute {p : Program} {l : Launch} {e : Env} {R : Room} {s : State} {m : MethodId} {args : Array Value} {below : List Frame} {meth : Method} {c : Code} {D : va_G} {K : Nat → ClassId} {A : Nat → Prop} {Q : State → Prop} {τ : Nat → Option Ty} {dom : List Nat} {zb zL : Nat} {zx : Nat → Int32} {zs : Nat → Nat} (hR : 4 ≤ R.frames ∧ 82 ≤ R.locals) (B : Bx p s m args c cX11_attribute 6 RX11 wp_Low_attribute D (tysA K) A) (Z : Sk τ dom) (hz : ZL zb zL zx zs A s s.heap) (h : Nat) (x1 : Int) (x2 : Int) (x3 : Int) (t_h : τ h = some (41, 0, 0)) (r_x1 : -2147483648 ≤ x1 ∧ x1 ≤ 2147483647) (r_x2 : -2147483648 ≤ x2 ∧ x2 ≤ 2147483647) (r_x3 : -2147483648 ≤ x3 ∧ x3 ≤ 2147483647) (σ0 : Nat → va_E) (G0 : Good K τ σ0) (hend : ∀ (σ' : Nat → va_E) (z : Int) (lv : List (Nat × Value)) (pc : Nat), Good K τ σ' → Fr τ [(3, 26), (3, 27), (1, 13), (2, 13), (40, 0), (1, 1)] σ0 σ' → (-1 ≤ z ∧ z ≤ 20) → decode cX11_attribute pc = .ok (.ireturn, 1) → V p l e R s m args below meth c 6 D A Q (0, 0) (fd dom σ') lv pc [.int (iI z)]) : V p l e R s m args below meth c 6 D A Q (0, 0) (fd dom σ0) [(0, .ref h), (1, .int (iI x1)), (2, .int (iI x2)), (3, .int (iI x3))] 0 [] := by
  have F0 : Fr τ [(3, 26), (3, 27), (1, 13), (2, 13), (40, 0), (1, 1)] σ0 σ0 := Fr.rf
  refine v_aload_n B dX11_attribute_0 rfl rfl ?_
  refine v_iload_n B dX11_attribute_1 rfl rfl ?_
  refine u_callVq B Z hz (n := 1) (As := [.int (iI x1)]) (rest := []) (c_Low_find l D K Z _ _ _ _ h x1 t_h ⟨by omega, by omega⟩ σ0 G0) gd_Low_attribute_Low_find_52 rfl rfl rfl (by decide +kernel) ⟨Nat.le_trans (by decide +kernel) hR.1, Nat.le_trans (by decide +kernel) hR.2⟩ t_h (cls_Low G0 t_h) rfl rfl rfl rfl (Nat.le_of_ble_eq_true rfl) dX11_attribute_2 ⟨Nat.zero_le _, Nat.zero_le _⟩ (fun v3 σ1 p2 => ?_)
  obtain ⟨rfl, q7⟩ := p2
  rcases q7 with rfl | ⟨a8, rfl, t9⟩
  · show V _ _ _ _ _ _ _ _ _ _ _ _ _ _ _ _ _ _ [.null]
    refine v_astoreN B (lv' := [(4, .null), (0, .ref h), (1, .int (iI x1)), (2, .int (iI x2)), (3, .int (iI x3))]) dX11_attribute_5 (by decide +kernel) rfl ?_
    refine v_aloadN B dX11_attribute_7 rfl ?_
    refine v_ifnullN B (tgt := 44) dX11_attribute_9 (by decide +kernel) ?_
    refine v_iconst B (v := iI (-1)) dX11_attribute_44 rfl ?_
    exact hend σ0 (-1) _ _ G0 F0 ⟨by omega, by omega⟩ dX11_attribute_45
  · show V _ _ _ _ _ _ _ _ _ _ _ _ _ _ _ _ _ _ [.ref a8]
    refine v_astore B (lv' := [(4, .ref a8), (0, .ref h), (1, .int (iI x1)), (2, .int (iI x2)), (3, .int (iI x3))]) dX11_attribute_5 (by decide +kernel) rfl ?_
    refine v_aload B dX11_attribute_7 rfl ?_
    refine v_ifnull B dX11_attribute_9 ?_
    refine v_iload_n B dX11_attribute_12 rfl rfl ?_
    refine u_if_lt B (tgt := 44) (by omega) dX11_attribute_13 (by decide +kernel) (fun c10 => ?_) (fun c10 => ?_)
    · refine v_iconst B (v := iI (-1)) dX11_attribute_44 rfl ?_
      exact hend σ0 (-1) _ _ G0 F0 ⟨by omega, by omega⟩ dX11_attribute_45
    · refine v_iload_n B dX11_attribute_16 rfl rfl ?_
      refine v_ldc B (v := iI 65535) (u_ci (List.mem_of_getElem? (i := 7) rfl) (by decide +kernel)) dX11_attribute_17 ?_
      refine u_icmp_gt B (tgt := 44) (by omega) (by omega) dX11_attribute_19 (by decide +kernel) (fun c11 => ?_) (fun c11 => ?_)
      · refine v_iconst B (v := iI (-1)) dX11_attribute_44 rfl ?_
        exact hend σ0 (-1) _ _ G0 F0 ⟨by omega, by omega⟩ dX11_attribute_45
      · refine v_iload_n B dX11_attribute_22 rfl rfl ?_
        refine u_if_lt B (tgt := 44) (by omega) dX11_attribute_23 (by decide +kernel) (fun c12 => ?_) (fun c12 => ?_)
        · refine v_iconst B (v := iI (-1)) dX11_attribute_44 rfl ?_
          exact hend σ0 (-1) _ _ G0 F0 ⟨by omega, by omega⟩ dX11_attribute_45
        · refine v_iload_n B dX11_attribute_26 rfl rfl ?_
          refine v_bipush B (v := iI 7) dX11_attribute_27 (by decide +kernel) ?_
          refine u_icmp_gt B (tgt := 44) (by omega) (by omega) dX11_attribute_29 (by decide +kernel) (fun c13 => ?_) (fun c13 => ?_)
          · refine v_iconst B (v := iI (-1)) dX11_attribute_44 rfl ?_
            exact hend σ0 (-1) _ _ G0 F0 ⟨by omega, by omega⟩ dX11_attribute_45
          · refine v_aload_n B dX11_attribute_32 rfl rfl ?_
            obtain ⟨a14, a15, a16, a17, z18, h19, t20, t21, t22, t23, r24⟩ : okLow τ (σ0 h) := G0 h _ t_h
            refine u_get B Z (C := RX11) (T := TX11) (N := 5) (ci := 11) hi_Low_attribute_X11 t_h h19 rfl 2 (by decide +kernel) (List.mem_of_getElem? (i := 8) rfl) rfl dX11_attribute_33 ?_
            obtain ⟨b25, N26, n27, h28, t29, r30⟩ : okRow τ 1 (σ0 a16) := G0 a16 _ t22
            refine u_getN B Z (C := RX9) (T := TX9) (N := 2) (ci := 9) hi_Low_attribute_X9 t22 h28 rfl 1 (by decide +kernel) (List.mem_of_getElem? (i := 51) rfl) rfl dX11_attribute_36 ?_
            refine v_bipush B (v := iI 40) dX11_attribute_39 (by decide +kernel) ?_
            refine u_icmp_le B (tgt := 46) (by omega) (by omega) dX11_attribute_41 (by decide +kernel) (fun c31 => ?_) (fun c31 => ?_)
            · refine v_aload B dX11_attribute_46 rfl ?_
              obtain ⟨z32, yy33, z34, z35, z36, z37, a38, z39, yy40, a41, yy42, a43, a44, a45, a46, a47, a48, a49, a50, h51, r52, r53, r54, r55, r56, r57, t58, r59, r60, t61, r62, t63, t64, t65, t66, t67, t68, t69, t70⟩ : okDevice τ (σ0 a8) := G0 a8 _ t9
              refine u_getN B Z (C := RX3) (T := TX3) (N := 19) (ci := 3) hi_Low_attribute_X3 t9 h51 rfl 15 (by decide +kernel) (List.mem_of_getElem? (i := 3) rfl) rfl dX11_attribute_48 ?_
              refine v_iload_n B dX11_attribute_51 rfl rfl ?_
              refine v_iload_n B dX11_attribute_52 rfl rfl ?_
              refine v_aload_n B dX11_attribute_53 rfl rfl ?_
              refine u_get B Z (C := RX11) (T := TX11) (N := 5) (ci := 11) hi_Low_attribute_X11 t_h h19 rfl 2 (by decide +kernel) (List.mem_of_getElem? (i := 8) rfl) rfl dX11_attribute_54 ?_
              refine u_callVi B Z hz (n := 3) (As := [.int (iI x2), .int (iI x3), .ref a16]) (rest := []) (c_Server_addAttribute l D K Z _ _ _ _ a47 x2 x3 a16 t67 ⟨by omega, by omega⟩ ⟨by omega, by omega⟩ t22 σ0 G0) gd_Low_attribute_Server_addAttribute_128 rfl rfl rfl (by decide +kernel) ⟨Nat.le_trans (by decide +kernel) hR.1, Nat.le_trans (by decide +kernel) hR.2⟩ t67 (cls_Server G0 t67) rfl rfl rfl rfl (Nat.le_of_ble_eq_true rfl) dX11_attribute_57 ⟨Nat.zero_le _, Nat.zero_le _⟩ (fun v73 σ71 p72 => ?_)
              obtain ⟨G74, F75, z77, e78, r79⟩ := p72
              subst e78
              have F76 := F0.call F75 (by first | rfl | simp)
              have h80 := (F75 h _ t_h (by first | rfl | simp)).trans h19
              have h81 := (F75 a16 _ t22 (by first | rfl | simp)).trans h28
              have h82 := (F75 a8 _ t9 (by first | rfl | simp)).trans h51
              refine v_istore B (lv' := [(5, .int (iI z77)), (4, .ref a8), (0, .ref h), (1, .int (iI x1)), (2, .int (iI x2)), (3, .int (iI x3))]) dX11_attribute_60 (by decide +kernel) rfl ?_
              refine v_iload B dX11_attribute_62 rfl ?_
              refine v_iconst B (v := iI (-1)) dX11_attribute_64 rfl ?_
              refine u_icmp_eq B (tgt := 75) (by omega) (by omega) dX11_attribute_65 (by decide +kernel) (fun c83 => ?_) (fun c83 => ?_)
              · refine v_iload B dX11_attribute_75 rfl ?_
                exact hend σ71 z77 _ _ G74 F76 ⟨by omega, by omega⟩ dX11_attribute_77
              · refine v_aload_n B dX11_attribute_68 rfl rfl ?_
                refine u_get B Z (C := RX11) (T := TX11) (N := 5) (ci := 11) hi_Low_attribute_X11 t_h h80 rfl 2 (by decide +kernel) (List.mem_of_getElem? (i := 8) rfl) rfl dX11_attribute_69 ?_
                refine u_callVv B Z hz (n := 0) (As := []) (rest := []) (c_Row_clear l D K Z _ _ _ _ a16 t22 σ71 G74) gd_Low_attribute_Row_clear_78 rfl rfl rfl (by decide +kernel) ⟨Nat.le_trans (by decide +kernel) hR.1, Nat.le_trans (by decide +kernel) hR.2⟩ t22 (cls_Row G74 t22) rfl rfl rfl rfl (Nat.le_of_ble_eq_true rfl) dX11_attribute_72 ⟨Nat.zero_le _, Nat.zero_le _⟩ (fun σ84 p85 => ?_)
                obtain ⟨G87, F88⟩ := p85
                have F89 := F76.call F88 (by first | rfl | simp)
                have h90 := (F88 h _ t_h (by first | rfl | simp)).trans h80
                have h91 := (F88 a8 _ t9 (by first | rfl | simp)).trans h82
                refine v_iload B dX11_attribute_75 rfl ?_
                exact hend σ84 z77 _ _ G87 F89 ⟨by omega, by omega⟩ dX11_attribute_77
            · refine v_iconst B (v := iI (-1)) dX11_attribute_44 rfl ?_
              exact hend σ0 (-1) _ _ G0 F0 ⟨by omega, by omega⟩ dX11_attribute_45
set_option maxRecDepth 100000 in
theorem c_Low_attribute (l : Launch) (D : va_G) (K : Nat → ClassId) {τ : Nat → Option Ty} {dom : List Nat} (Z : Sk τ dom) (zb zL : Nat) (zx : Nat → Int32) (zs : Nat → Nat) (h : Nat) (x1 : Int) (x2 : Int) (x3 : Int) (t_h : τ h = some (41, 0, 0)) (r_x1 : -2147483648 ≤ x1 ∧ x1 ≤ 2147483647) (r_x2 : -2147483648 ≤ x2 ∧ x2 ≤ 2147483647) (r_x3 : -2147483648 ≤ x3 ∧ x3 ≤ 2147483647) (σ0 : Nat → va_E) (G0 : Good K τ σ0) : MZ l yX11_attribute wp_Low_attribute ({ frames := 4, cells := 0, slots := 0, locals := 82 }) D (tysA K) [.ref h, .int (iI x1), .int (iI x2), .int (iI x3)] (fd dom σ0) zb zL zx zs (Qi D (fun r σ' => Good K τ σ' ∧ Fr τ [(3, 26), (3, 27), (1, 13), (2, 13), (40, 0), (1, 1)] σ0 σ' ∧ ∃ z : Int, r = iI z ∧ (-1 ≤ z ∧ z ≤ 20)) (fun σ' => fd dom σ')) 0 0 := by
  refine mz_of (cc := cX11_attribute) (maxL := 6) (ret := (some .int)) (by decide +kernel) rfl (Nat.le_of_ble_eq_true rfl) ?_
  intro p e s m below meth c A B hr hlk _ hz
  exact b_Low_attribute ⟨Nat.le_refl _, Nat.le_refl _⟩ B Z hz h x1 x2 x3 t_h r_x1 r_x2 r_x3 σ0 G0 (fun σ' z lv pc G F hZ hd => v_iret B hr hlk σ' ⟨G, F, z, rfl, hZ⟩ rfl (Nat.le_refl _) (Nat.le_refl _) hd)

def wp_Low_set : List Cond := .code yX11_set cX11_set 5 (some .boolean) :: (([.methodLink RX11 52 yX11_find, .instanceMethod yX11_find, .selects RX11 yX11_find yX11_find, .initialized RX11, .code yX11_find cX11_find 2 (some (.object "LowEnergy$Device")), .fieldLink RX11 9 "LowEnergy" "devices" "[LLowEnergy$Device;", .methodLink RX11 134 yX10_valueOf, .instanceMethod yX10_valueOf, .selects RX10 yX10_valueOf yX10_valueOf, .initialized RX10, .code yX10_valueOf cX10_valueOf 2 (some (.object "LowEnergy$Row")), .fieldLink RX10 56 "LowEnergy$Server" "count" "I", .fieldLink RX10 20 "LowEnergy$Server" "values" "[LLowEnergy$Row;", .fieldLink RX11 27 "LowEnergy" "tape" "LLowEnergy$Row;", .methodLink RX11 74 yX9_become, .instanceMethod yX9_become, .selects RX9 yX9_become yX9_become, .initialized RX9, .code yX9_become cX9_become 2 none, .fieldLink RX9 21 "LowEnergy$Row" "size" "I", .methodLink RX9 27 yX9_putPart, .instanceMethod yX9_putPart, .selects RX9 yX9_putPart yX9_putPart, .code yX9_putPart cX9_putPart 6 none, .fieldLink RX9 15 "LowEnergy$Row" "bytes" "[I", .methodLink RX9 9 Lib.Math.max.name, .static Lib.Math.max.name, .initialized "java/lang/Math", .code Lib.Math.max.name Lib.Math.max.code 2 (some .int), .methodLink RX11 78 yX9_clear, .instanceMethod yX9_clear, .selects RX9 yX9_clear yX9_clear, .code yX9_clear cX9_clear 1 none] : List Cond) ++ (wsX110 ++ (wsX30 ++ (wsX100 ++ (wsX90 ++ ([]))))))
theorem hi_Low_set_X11 : ∀ x ∈ u_ws RX11 TX11 5, x ∈ wp_Low_set := fun _ h => List.mem_cons_of_mem _ (List.mem_append_right _ (List.mem_append_left _ h))
theorem hi_Low_set_X3 : ∀ x ∈ u_ws RX3 TX3 19, x ∈ wp_Low_set := fun _ h => List.mem_cons_of_mem _ (List.mem_append_right _ (List.mem_append_right _ (List.mem_append_left _ h)))
theorem hi_Low_set_X10 : ∀ x ∈ u_ws RX10 TX10 10, x ∈ wp_Low_set := fun _ h => List.mem_cons_of_mem _ (List.mem_append_right _ (List.mem_append_right _ (List.mem_append_right _ (List.mem_append_left _ h))))
theorem hi_Low_set_X9 : ∀ x ∈ u_ws RX9 TX9 2, x ∈ wp_Low_set := fun _ h => List.mem_cons_of_mem _ (List.mem_append_right _ (List.mem_append_right _ (List.mem_append_right _ (List.mem_append_right _ (List.mem_append_left _ h)))))
set_option maxRecDepth 100000 in
theorem gd_Low_set_Low_find_52 : GoodIn wp_Low_set (wsV RX11 52 RX11 yX11_find wp_Low_find) := goodIn_app (goodIn_r _ [1, 2, 3, 4] rfl rfl) (goodIn_ca (goodIn_r _ [5, 6] rfl rfl) (goodIn_app (goodIn_cls hi_Low_set_X11 gw_X11) (goodIn_nil)))
set_option maxRecDepth 100000 in
theorem gd_Low_set_Server_valueOf_134 : GoodIn wp_Low_set (wsV RX11 134 RX10 yX10_valueOf wp_Server_valueOf) := goodIn_app (goodIn_r _ [7, 8, 9, 10] rfl rfl) (goodIn_ca (goodIn_r _ [11, 12, 13] rfl rfl) (goodIn_app (goodIn_cls hi_Low_set_X10 gw_X10) (goodIn_nil)))
set_option maxRecDepth 100000 in
theorem gd_Low_set_Row_become_74 : GoodIn wp_Low_set (wsV RX11 74 RX9 yX9_become wp_Row_become) := goodIn_app (goodIn_r _ [15, 16, 17, 18] rfl rfl) (goodIn_ca (goodIn_r _ [19, 20, 21, 22, 23, 18, 24, 25, 26, 27, 28, 29] rfl rfl) (goodIn_app (goodIn_cls hi_Low_set_X9 gw_X9) (goodIn_nil)))
set_option maxRecDepth 100000 in
theorem gd_Low_set_Row_clear_78 : GoodIn wp_Low_set (wsV RX11 78 RX9 yX9_clear wp_Row_clear) := goodIn_app (goodIn_r _ [30, 31, 32, 18] rfl rfl) (goodIn_ca (goodIn_r _ [33, 20] rfl rfl) (goodIn_app (goodIn_cls hi_Low_set_X9 gw_X9) (goodIn_nil)))
set_option maxHeartbeats 4000000 in
set_option maxRecDepth 100000 in
theorem b_Low_set {p : Program} {l : Launch} {e : Env} {R : Room} {s : State} {m : MethodId} {args : Array Value} {below : List Frame} {meth : Method} {c : Code} {D : va_G} {K : Nat → ClassId} {A : Nat → Prop} {Q : State → Prop} {τ : Nat → Option Ty} {dom : List Nat} {zb zL : Nat} {zx : Nat → Int32} {zs : Nat → Nat} (hR : 3 ≤ R.frames ∧ 59 ≤ R.locals) (B : Bx p s m args c cX11_set 5 RX11 wp_Low_set D (tysA K) A) (Z : Sk τ dom) (hz : ZL zb zL zx zs A s s.heap) (h : Nat) (x1 : Int) (x2 : Int) (t_h : τ h = some (41, 0, 0)) (r_x1 : -2147483648 ≤ x1 ∧ x1 ≤ 2147483647) (r_x2 : -2147483648 ≤ x2 ∧ x2 ≤ 2147483647) (σ0 : Nat → va_E) (G0 : Good K τ σ0) (hend : ∀ (σ' : Nat → va_E) (z : Int) (lv : List (Nat × Value)) (pc : Nat), Good K τ σ' → Fr τ [(1, 13), (2, 13), (1, 1)] σ0 σ' → (0 ≤ z ∧ z ≤ 1) → decode cX11_set pc = .ok (.ireturn, 1) → V p l e R s m args below meth c 5 D A Q (0, 0) (fd dom σ') lv pc [.int (iI z)]) : V p l e R s m args below meth c 5 D A Q (0, 0) (fd dom σ0) [(0, .ref h), (1, .int (iI x1)), (2, .int (iI x2))] 0 [] := by
  have F0 : Fr τ [(1, 13), (2, 13), (1, 1)] σ0 σ0 := Fr.rf
  refine v_aload_n B dX11_set_0 rfl rfl ?_
  refine v_iload_n B dX11_set_1 rfl rfl ?_
  refine u_callVq B Z hz (n := 1) (As := [.int (iI x1)]) (rest := []) (c_Low_find l D K Z _ _ _ _ h x1 t_h ⟨by omega, by omega⟩ σ0 G0) gd_Low_set_Low_find_52 rfl rfl rfl (by decide +kernel) ⟨Nat.le_trans (by decide +kernel) hR.1, Nat.le_trans (by decide +kernel) hR.2⟩ t_h (cls_Low G0 t_h) rfl rfl rfl rfl (Nat.le_of_ble_eq_true rfl) dX11_set_2 ⟨Nat.zero_le _, Nat.zero_le _⟩ (fun v3 σ1 p2 => ?_)
  obtain ⟨rfl, q7⟩ := p2
  rcases q7 with rfl | ⟨a8, rfl, t9⟩
  · show V _ _ _ _ _ _ _ _ _ _ _ _ _ _ _ _ _ _ [.null]
    refine v_astore_nN B (lv' := [(3, .null), (0, .ref h), (1, .int (iI x1)), (2, .int (iI x2))]) dX11_set_5 rfl (by decide +kernel) rfl ?_
    refine v_aload_nN B dX11_set_6 rfl rfl ?_
    refine v_ifnonnullN B dX11_set_7 ?_
    refine v_null B dX11_set_10 ?_
    refine v_goto B (tgt := 22) dX11_set_11 (by decide +kernel) ?_
    refine v_astoreN B (lv' := [(4, .null), (3, .null), (0, .ref h), (1, .int (iI x1)), (2, .int (iI x2))]) dX11_set_22 (by decide +kernel) rfl ?_
    refine v_aloadN B dX11_set_24 rfl ?_
    refine v_ifnullN B (tgt := 41) dX11_set_26 (by decide +kernel) ?_
    refine v_iconst B (v := iI 0) dX11_set_41 rfl ?_
    exact hend σ0 0 _ _ G0 F0 ⟨by omega, by omega⟩ dX11_set_42
  · show V _ _ _ _ _ _ _ _ _ _ _ _ _ _ _ _ _ _ [.ref a8]
    refine v_astore_n B (lv' := [(3, .ref a8), (0, .ref h), (1, .int (iI x1)), (2, .int (iI x2))]) dX11_set_5 rfl (by decide +kernel) rfl ?_
    refine v_aload_n B dX11_set_6 rfl rfl ?_
    refine v_ifnonnull B (tgt := 14) dX11_set_7 (by decide +kernel) ?_
    refine v_aload_n B dX11_set_14 rfl rfl ?_
    obtain ⟨z10, yy11, z12, z13, z14, z15, a16, z17, yy18, a19, yy20, a21, a22, a23, a24, a25, a26, a27, a28, h29, r30, r31, r32, r33, r34, r35, t36, r37, r38, t39, r40, t41, t42, t43, t44, t45, t46, t47, t48⟩ : okDevice τ (σ0 a8) := G0 a8 _ t9
    refine u_getN B Z (C := RX3) (T := TX3) (N := 19) (ci := 3) hi_Low_set_X3 t9 h29 rfl 15 (by decide +kernel) (List.mem_of_getElem? (i := 3) rfl) rfl dX11_set_15 ?_
    refine v_iload_n B dX11_set_18 rfl rfl ?_
    refine u_callVq B Z hz (n := 1) (As := [.int (iI x2)]) (rest := []) (c_Server_valueOf l D K Z _ _ _ _ a25 x2 t45 ⟨by omega, by omega⟩ σ0 G0) gd_Low_set_Server_valueOf_134 rfl rfl rfl (by decide +kernel) ⟨Nat.le_trans (by decide +kernel) hR.1, Nat.le_trans (by decide +kernel) hR.2⟩ t45 (cls_Server G0 t45) rfl rfl rfl rfl (Nat.le_of_ble_eq_true rfl) dX11_set_19 ⟨Nat.zero_le _, Nat.zero_le _⟩ (fun v51 σ49 p50 => ?_)
    obtain ⟨rfl, q55⟩ := p50
    rcases q55 with rfl | ⟨a56, rfl, t57⟩
    · show V _ _ _ _ _ _ _ _ _ _ _ _ _ _ _ _ _ _ [.null]
      refine v_astoreN B (lv' := [(4, .null), (3, .ref a8), (0, .ref h), (1, .int (iI x1)), (2, .int (iI x2))]) dX11_set_22 (by decide +kernel) rfl ?_
      refine v_aloadN B dX11_set_24 rfl ?_
      refine v_ifnullN B (tgt := 41) dX11_set_26 (by decide +kernel) ?_
      refine v_iconst B (v := iI 0) dX11_set_41 rfl ?_
      exact hend σ0 0 _ _ G0 F0 ⟨by omega, by omega⟩ dX11_set_42
    · show V _ _ _ _ _ _ _ _ _ _ _ _ _ _ _ _ _ _ [.ref a56]
      refine v_astore B (lv' := [(4, .ref a56), (3, .ref a8), (0, .ref h), (1, .int (iI x1)), (2, .int (iI x2))]) dX11_set_22 (by decide +kernel) rfl ?_
      refine v_aload B dX11_set_24 rfl ?_
      refine v_ifnull B dX11_set_26 ?_
      refine v_aload_n B dX11_set_29 rfl rfl ?_
      obtain ⟨a58, a59, a60, a61, z62, h63, t64, t65, t66, t67, r68⟩ : okLow τ (σ0 h) := G0 h _ t_h
      refine u_get B Z (C := RX11) (T := TX11) (N := 5) (ci := 11) hi_Low_set_X11 t_h h63 rfl 2 (by decide +kernel) (List.mem_of_getElem? (i := 14) rfl) rfl dX11_set_30 ?_
      obtain ⟨b69, N70, n71, h72, t73, r74⟩ : okRow τ 1 (σ0 a60) := G0 a60 _ t66
      refine u_getN B Z (C := RX9) (T := TX9) (N := 2) (ci := 9) hi_Low_set_X9 t66 h72 rfl 1 (by decide +kernel) (List.mem_of_getElem? (i := 51) rfl) rfl dX11_set_33 ?_
      refine v_bipush B (v := iI 40) dX11_set_36 (by decide +kernel) ?_
      refine u_icmp_le B (tgt := 43) (by omega) (by omega) dX11_set_38 (by decide +kernel) (fun c75 => ?_) (fun c75 => ?_)
      · refine v_aload B dX11_set_43 rfl ?_
        refine v_aload_n B dX11_set_45 rfl rfl ?_
        refine u_get B Z (C := RX11) (T := TX11) (N := 5) (ci := 11) hi_Low_set_X11 t_h h63 rfl 2 (by decide +kernel) (List.mem_of_getElem? (i := 14) rfl) rfl dX11_set_46 ?_
        refine u_callVv B Z hz (n := 1) (As := [.ref a60]) (rest := []) (c_Row_become l D K Z _ _ _ _ a56 a60 t57 t66 σ0 G0) gd_Low_set_Row_become_74 rfl rfl rfl (by decide +kernel) ⟨Nat.le_trans (by decide +kernel) hR.1, Nat.le_trans (by decide +kernel) hR.2⟩ t57 (cls_Row G0 t57) rfl rfl rfl rfl (Nat.le_of_ble_eq_true rfl) dX11_set_49 ⟨Nat.zero_le _, Nat.zero_le _⟩ (fun σ76 p77 => ?_)
        obtain ⟨G79, F80⟩ := p77
        have F81 := F0.call F80 (by first | rfl | simp)
        have h82 := (F80 a8 _ t9 (by first | rfl | simp)).trans h29
        have h83 := (F80 h _ t_h (by first | rfl | simp)).trans h63
        have h84 := (F80 a60 _ t66 (by first | rfl | simp)).trans h72
        refine v_aload_n B dX11_set_52 rfl rfl ?_
        refine u_get B Z (C := RX11) (T := TX11) (N := 5) (ci := 11) hi_Low_set_X11 t_h h83 rfl 2 (by decide +kernel) (List.mem_of_getElem? (i := 14) rfl) rfl dX11_set_53 ?_
        refine u_callVv B Z hz (n := 0) (As := []) (rest := []) (c_Row_clear l D K Z _ _ _ _ a60 t66 σ76 G79) gd_Low_set_Row_clear_78 rfl rfl rfl (by decide +kernel) ⟨Nat.le_trans (by decide +kernel) hR.1, Nat.le_trans (by decide +kernel) hR.2⟩ t66 (cls_Row G79 t66) rfl rfl rfl rfl (Nat.le_of_ble_eq_true rfl) dX11_set_56 ⟨Nat.zero_le _, Nat.zero_le _⟩ (fun σ85 p86 => ?_)
        obtain ⟨G88, F89⟩ := p86
        have F90 := F81.call F89 (by first | rfl | simp)
        have h91 := (F89 a8 _ t9 (by first | rfl | simp)).trans h82
        have h92 := (F89 h _ t_h (by first | rfl | simp)).trans h83
        refine v_iconst B (v := iI 1) dX11_set_59 rfl ?_
        exact hend σ85 1 _ _ G88 F90 ⟨by omega, by omega⟩ dX11_set_60
      · refine v_iconst B (v := iI 0) dX11_set_41 rfl ?_
        exact hend σ0 0 _ _ G0 F0 ⟨by omega, by omega⟩ dX11_set_42
set_option maxRecDepth 100000 in
theorem c_Low_set (l : Launch) (D : va_G) (K : Nat → ClassId) {τ : Nat → Option Ty} {dom : List Nat} (Z : Sk τ dom) (zb zL : Nat) (zx : Nat → Int32) (zs : Nat → Nat) (h : Nat) (x1 : Int) (x2 : Int) (t_h : τ h = some (41, 0, 0)) (r_x1 : -2147483648 ≤ x1 ∧ x1 ≤ 2147483647) (r_x2 : -2147483648 ≤ x2 ∧ x2 ≤ 2147483647) (σ0 : Nat → va_E) (G0 : Good K τ σ0) : MZ l yX11_set wp_Low_set ({ frames := 3, cells := 0, slots := 0, locals := 59 }) D (tysA K) [.ref h, .int (iI x1), .int (iI x2)] (fd dom σ0) zb zL zx zs (Qi D (fun r σ' => Good K τ σ' ∧ Fr τ [(1, 13), (2, 13), (1, 1)] σ0 σ' ∧ ∃ z : Int, r = iI z ∧ (0 ≤ z ∧ z ≤ 1)) (fun σ' => fd dom σ')) 0 0 := by
  refine mz_of (cc := cX11_set) (maxL := 5) (ret := (some .boolean)) (by decide +kernel) rfl (Nat.le_of_ble_eq_true rfl) ?_
  intro p e s m below meth c A B hr hlk _ hz
  exact b_Low_set ⟨Nat.le_refl _, Nat.le_refl _⟩ B Z hz h x1 x2 t_h r_x1 r_x2 σ0 G0 (fun σ' z lv pc G F hZ hd => v_zret B hr hlk (nar01 (by omega)) σ' ⟨G, F, z, rfl, hZ⟩ rfl (Nat.le_refl _) (Nat.le_refl _) hd)

def wp_Low_mtu : List Cond := .code yX11_mtu cX11_mtu 4 (some .boolean) :: (([.methodLink RX11 52 yX11_find, .instanceMethod yX11_find, .selects RX11 yX11_find yX11_find, .initialized RX11, .code yX11_find cX11_find 2 (some (.object "LowEnergy$Device")), .fieldLink RX11 9 "LowEnergy" "devices" "[LLowEnergy$Device;"] : List Cond) ++ (wsX110 ++ (wsX30 ++ (wsX100 ++ ([])))))
theorem hi_Low_mtu_X11 : ∀ x ∈ u_ws RX11 TX11 5, x ∈ wp_Low_mtu := fun _ h => List.mem_cons_of_mem _ (List.mem_append_right _ (List.mem_append_left _ h))
theorem hi_Low_mtu_X3 : ∀ x ∈ u_ws RX3 TX3 19, x ∈ wp_Low_mtu := fun _ h => List.mem_cons_of_mem _ (List.mem_append_right _ (List.mem_append_right _ (List.mem_append_left _ h)))
theorem hi_Low_mtu_X10 : ∀ x ∈ u_ws RX10 TX10 10, x ∈ wp_Low_mtu := fun _ h => List.mem_cons_of_mem _ (List.mem_append_right _ (List.mem_append_right _ (List.mem_append_right _ (List.mem_append_left _ h))))
set_option maxRecDepth 100000 in
theorem gd_Low_mtu_Low_find_52 : GoodIn wp_Low_mtu (wsV RX11 52 RX11 yX11_find wp_Low_find) := goodIn_app (goodIn_r _ [1, 2, 3, 4] rfl rfl) (goodIn_ca (goodIn_r _ [5, 6] rfl rfl) (goodIn_app (goodIn_cls hi_Low_mtu_X11 gw_X11) (goodIn_nil)))
set_option maxHeartbeats 4000000 in
set_option maxRecDepth 100000 in
theorem b_Low_mtu {p : Program} {l : Launch} {e : Env} {R : Room} {s : State} {m : MethodId} {args : Array Value} {below : List Frame} {meth : Method} {c : Code} {D : va_G} {K : Nat → ClassId} {A : Nat → Prop} {Q : State → Prop} {τ : Nat → Option Ty} {dom : List Nat} {zb zL : Nat} {zx : Nat → Int32} {zs : Nat → Nat} (hR : 1 ≤ R.frames ∧ 21 ≤ R.locals) (B : Bx p s m args c cX11_mtu 4 RX11 wp_Low_mtu D (tysA K) A) (Z : Sk τ dom) (hz : ZL zb zL zx zs A s s.heap) (h : Nat) (x1 : Int) (x2 : Int) (t_h : τ h = some (41, 0, 0)) (r_x1 : -2147483648 ≤ x1 ∧ x1 ≤ 2147483647) (r_x2 : -2147483648 ≤ x2 ∧ x2 ≤ 2147483647) (σ0 : Nat → va_E) (G0 : Good K τ σ0) (hend : ∀ (σ' : Nat → va_E) (z : Int) (lv : List (Nat × Value)) (pc : Nat), Good K τ σ' → Fr τ [(40, 0)] σ0 σ' → (0 ≤ z ∧ z ≤ 1) → decode cX11_mtu pc = .ok (.ireturn, 1) → V p l e R s m args below meth c 4 D A Q (0, 0) (fd dom σ') lv pc [.int (iI z)]) : V p l e R s m args below meth c 4 D A Q (0, 0) (fd dom σ0) [(0, .ref h), (1, .int (iI x1)), (2, .int (iI x2))] 0 [] := by
  have F0 : Fr τ [(40, 0)] σ0 σ0 := Fr.rf
  refine v_aload_n B dX11_mtu_0 rfl rfl ?_
  refine v_iload_n B dX11_mtu_1 rfl rfl ?_
  refine u_callVq B Z hz (n := 1) (As := [.int (iI x1)]) (rest := []) (c_Low_find l D K Z _ _ _ _ h x1 t_h ⟨by omega, by omega⟩ σ0 G0) gd_Low_mtu_Low_find_52 rfl rfl rfl (by decide +kernel) ⟨Nat.le_trans (by decide +kernel) hR.1, Nat.le_trans (by decide +kernel) hR.2⟩ t_h (cls_Low G0 t_h) rfl rfl rfl rfl (Nat.le_of_ble_eq_true rfl) dX11_mtu_2 ⟨Nat.zero_le _, Nat.zero_le _⟩ (fun v3 σ1 p2 => ?_)
  obtain ⟨rfl, q7⟩ := p2
  rcases q7 with rfl | ⟨a8, rfl, t9⟩
  · show V _ _ _ _ _ _ _ _ _ _ _ _ _ _ _ _ _ _ [.null]
    refine v_astore_nN B (lv' := [(3, .null), (0, .ref h), (1, .int (iI x1)), (2, .int (iI x2))]) dX11_mtu_5 rfl (by decide +kernel) rfl ?_
    refine v_aload_nN B dX11_mtu_6 rfl rfl ?_
    refine v_ifnullN B (tgt := 22) dX11_mtu_7 (by decide +kernel) ?_
    refine v_iconst B (v := iI 0) dX11_mtu_22 rfl ?_
    exact hend σ0 0 _ _ G0 F0 ⟨by omega, by omega⟩ dX11_mtu_23
  · show V _ _ _ _ _ _ _ _ _ _ _ _ _ _ _ _ _ _ [.ref a8]
    refine v_astore_n B (lv' := [(3, .ref a8), (0, .ref h), (1, .int (iI x1)), (2, .int (iI x2))]) dX11_mtu_5 rfl (by decide +kernel) rfl ?_
    refine v_aload_n B dX11_mtu_6 rfl rfl ?_
    refine v_ifnull B dX11_mtu_7 ?_
    refine v_iload_n B dX11_mtu_10 rfl rfl ?_
    refine v_bipush B (v := iI 23) dX11_mtu_11 (by decide +kernel) ?_
    refine u_icmp_lt B (tgt := 22) (by omega) (by omega) dX11_mtu_13 (by decide +kernel) (fun c10 => ?_) (fun c10 => ?_)
    · refine v_iconst B (v := iI 0) dX11_mtu_22 rfl ?_
      exact hend σ0 0 _ _ G0 F0 ⟨by omega, by omega⟩ dX11_mtu_23
    · refine v_iload_n B dX11_mtu_16 rfl rfl ?_
      refine v_bipush B (v := iI 64) dX11_mtu_17 (by decide +kernel) ?_
      refine u_icmp_le B (tgt := 24) (by omega) (by omega) dX11_mtu_19 (by decide +kernel) (fun c11 => ?_) (fun c11 => ?_)
      · refine v_aload_n B dX11_mtu_24 rfl rfl ?_
        obtain ⟨z12, yy13, z14, z15, z16, z17, a18, z19, yy20, a21, yy22, a23, a24, a25, a26, a27, a28, a29, a30, h31, r32, r33, r34, r35, r36, r37, t38, r39, r40, t41, r42, t43, t44, t45, t46, t47, t48, t49, t50⟩ : okDevice τ (σ0 a8) := G0 a8 _ t9
        refine u_getN B Z (C := RX3) (T := TX3) (N := 19) (ci := 3) hi_Low_mtu_X3 t9 h31 rfl 15 (by decide +kernel) (List.mem_of_getElem? (i := 3) rfl) rfl dX11_mtu_25 ?_
        refine v_iload_n B dX11_mtu_28 rfl rfl ?_
        obtain ⟨a51, a52, a53, z54, z55, z56, a57, z58, z59, a60, h61, t62, t63, t64, r65, r66, r67, t68, r69, r70, t71⟩ : okServer τ (σ0 a27) := G0 a27 _ t47
        refine u_putN B Z (C := RX10) (T := TX10) (N := 10) (ci := 10) hi_Low_mtu_X10 t47 h61 rfl 4 (by decide +kernel) tyX10 tyX10_ok nmX10 (List.mem_of_getElem? (i := 4) rfl) rfl (ty := .int) (tyX10_ok 4 (by decide +kernel)) rfl rfl (Nat.le_of_ble_eq_true rfl) (fs' := [.ref a51, .ref a52, .ref a53, .int (iI z54), .int (iI x2), .int (iI z56), .ref a57, .int (iI z58), .int (iI z59), .ref a60]) rfl dX11_mtu_29 (fun σ72 h73 n74 => ?_)
        have G75 := G0.put t47 (⟨a51, a52, a53, z54, x2, z56, a57, z58, z59, a60, h73, t62, t63, t64, ⟨by omega, by omega⟩, ⟨by omega, by omega⟩, ⟨by omega, by omega⟩, t68, ⟨by omega, by omega⟩, ⟨by omega, by omega⟩, t71⟩ : Ok K τ (40, 0, 0) (σ72 a27)) n74
        have F76 := F0.put t47 (by simp) n74
        have h77 := (n74 a8 (ne_ty t9 t47 (by simp))).trans h31
        refine v_iconst B (v := iI 1) dX11_mtu_32 rfl ?_
        exact hend σ72 1 _ _ G75 F76 ⟨by omega, by omega⟩ dX11_mtu_33
      · refine v_iconst B (v := iI 0) dX11_mtu_22 rfl ?_
        exact hend σ0 0 _ _ G0 F0 ⟨by omega, by omega⟩ dX11_mtu_23
set_option maxRecDepth 100000 in
theorem c_Low_mtu (l : Launch) (D : va_G) (K : Nat → ClassId) {τ : Nat → Option Ty} {dom : List Nat} (Z : Sk τ dom) (zb zL : Nat) (zx : Nat → Int32) (zs : Nat → Nat) (h : Nat) (x1 : Int) (x2 : Int) (t_h : τ h = some (41, 0, 0)) (r_x1 : -2147483648 ≤ x1 ∧ x1 ≤ 2147483647) (r_x2 : -2147483648 ≤ x2 ∧ x2 ≤ 2147483647) (σ0 : Nat → va_E) (G0 : Good K τ σ0) : MZ l yX11_mtu wp_Low_mtu ({ frames := 1, cells := 0, slots := 0, locals := 21 }) D (tysA K) [.ref h, .int (iI x1), .int (iI x2)] (fd dom σ0) zb zL zx zs (Qi D (fun r σ' => Good K τ σ' ∧ Fr τ [(40, 0)] σ0 σ' ∧ ∃ z : Int, r = iI z ∧ (0 ≤ z ∧ z ≤ 1)) (fun σ' => fd dom σ')) 0 0 := by
  refine mz_of (cc := cX11_mtu) (maxL := 4) (ret := (some .boolean)) (by decide +kernel) rfl (Nat.le_of_ble_eq_true rfl) ?_
  intro p e s m below meth c A B hr hlk _ hz
  exact b_Low_mtu ⟨Nat.le_refl _, Nat.le_refl _⟩ B Z hz h x1 x2 t_h r_x1 r_x2 σ0 G0 (fun σ' z lv pc G F hZ hd => v_zret B hr hlk (nar01 (by omega)) σ' ⟨G, F, z, rfl, hZ⟩ rfl (Nat.le_refl _) (Nat.le_refl _) hd)

def wp_Low_control : List Cond := .code yX11_control cX11_control 4 (some .boolean) :: (([.methodLink RX11 52 yX11_find, .instanceMethod yX11_find, .selects RX11 yX11_find yX11_find, .initialized RX11, .code yX11_find cX11_find 2 (some (.object "LowEnergy$Device")), .fieldLink RX11 9 "LowEnergy" "devices" "[LLowEnergy$Device;", .methodLink RX11 99 yX3_inLink, .instanceMethod yX3_inLink, .selects RX3 yX3_inLink yX3_inLink, .initialized RX3, .code yX3_inLink cX3_inLink 1 (some .boolean), .fieldLink RX3 93 "LowEnergy$Device" "state" "I", .methodLink RX11 141 yX3_mayControl, .instanceMethod yX3_mayControl, .selects RX3 yX3_mayControl yX3_mayControl, .code yX3_mayControl cX3_mayControl 1 (some .boolean), .fieldLink RX3 33 "LowEnergy$Device" "mail" "LLowEnergy$Mail;", .fieldLink RX3 77 "LowEnergy$Device" "guard" "LLowEnergy$Guard;", .methodLink RX11 154 yX7_addVersion, .instanceMethod yX7_addVersion, .selects RX7 yX7_addVersion yX7_addVersion, .initialized RX7, .code yX7_addVersion cX7_addVersion 2 none, .methodLink RX7 74 yX7_newControl, .instanceMethod yX7_newControl, .selects RX7 yX7_newControl yX7_newControl, .code yX7_newControl cX7_newControl 3 (some (.object "LowEnergy$Row")), .methodLink RX7 62 yX9_clear, .instanceMethod yX9_clear, .selects RX9 yX9_clear yX9_clear, .initialized RX9, .code yX9_clear cX9_clear 1 none, .fieldLink RX9 21 "LowEnergy$Row" "size" "I", .methodLink RX7 71 yX9_put, .instanceMethod yX9_put, .selects RX9 yX9_put yX9_put, .code yX9_put cX9_put 2 none, .fieldLink RX9 15 "LowEnergy$Row" "bytes" "[I", .fieldLink RX7 33 "LowEnergy$Mail" "spare" "LLowEnergy$Row;", .fieldLink RX7 43 "LowEnergy$Mail" "controlCount" "I", .fieldLink RX7 20 "LowEnergy$Mail" "controls" "[LLowEnergy$Row;", .fieldLink RX7 39 "LowEnergy$Mail" "controlHead" "I", .methodLink RX7 78 yX9_putNumber, .instanceMethod yX9_putNumber, .selects RX9 yX9_putNumber yX9_putNumber, .code yX9_putNumber cX9_putNumber 5 none, .constantLong RX9 25 (255), .constantLong RX7 82 (258), .fieldLink RX7 46 "LowEnergy$Mail" "versionSent" "Z", .methodLink RX11 157 yX7_newControl, .methodLink RX11 160 yX9_putNumber, .methodLink RX11 164 yX9_put] : List Cond) ++ (wsX110 ++ (wsX30 ++ (wsX70 ++ (wsX50 ++ (wsX90 ++ ([])))))))
theorem hi_Low_control_X11 : ∀ x ∈ u_ws RX11 TX11 5, x ∈ wp_Low_control := fun _ h => List.mem_cons_of_mem _ (List.mem_append_right _ (List.mem_append_left _ h))
theorem hi_Low_control_X3 : ∀ x ∈ u_ws RX3 TX3 19, x ∈ wp_Low_control := fun _ h => List.mem_cons_of_mem _ (List.mem_append_right _ (List.mem_append_right _ (List.mem_append_left _ h)))
theorem hi_Low_control_X7 : ∀ x ∈ u_ws RX7 TX7 16, x ∈ wp_Low_control := fun _ h => List.mem_cons_of_mem _ (List.mem_append_right _ (List.mem_append_right _ (List.mem_append_right _ (List.mem_append_left _ h))))
theorem hi_Low_control_X5 : ∀ x ∈ u_ws RX5 TX5 16, x ∈ wp_Low_control := fun _ h => List.mem_cons_of_mem _ (List.mem_append_right _ (List.mem_append_right _ (List.mem_append_right _ (List.mem_append_right _ (List.mem_append_left _ h)))))
theorem hi_Low_control_X9 : ∀ x ∈ u_ws RX9 TX9 2, x ∈ wp_Low_control := fun _ h => List.mem_cons_of_mem _ (List.mem_append_right _ (List.mem_append_right _ (List.mem_append_right _ (List.mem_append_right _ (List.mem_append_right _ (List.mem_append_left _ h))))))
set_option maxRecDepth 100000 in
theorem gd_Low_control_Low_find_52 : GoodIn wp_Low_control (wsV RX11 52 RX11 yX11_find wp_Low_find) := goodIn_app (goodIn_r _ [1, 2, 3, 4] rfl rfl) (goodIn_ca (goodIn_r _ [5, 6] rfl rfl) (goodIn_app (goodIn_cls hi_Low_control_X11 gw_X11) (goodIn_nil)))
set_option maxRecDepth 100000 in
theorem gd_Low_control_Device_inLink_99 : GoodIn wp_Low_control (wsV RX11 99 RX3 yX3_inLink wp_Device_inLink) := goodIn_app (goodIn_r _ [7, 8, 9, 10] rfl rfl) (goodIn_ca (goodIn_r _ [11, 12] rfl rfl) (goodIn_app (goodIn_cls hi_Low_control_X3 gw_X3) (goodIn_nil)))
set_option maxRecDepth 100000 in
theorem gd_Low_control_Device_mayControl_141 : GoodIn wp_Low_control (wsV RX11 141 RX3 yX3_mayControl wp_Device_mayControl) := goodIn_app (goodIn_r _ [13, 14, 15, 10] rfl rfl) (goodIn_ca (goodIn_r _ [16, 17, 18] rfl rfl) (goodIn_app (goodIn_cls hi_Low_control_X3 gw_X3) (goodIn_app (goodIn_cls hi_Low_control_X7 gw_X7) (goodIn_app (goodIn_cls hi_Low_control_X5 gw_X5) (goodIn_nil)))))
set_option maxRecDepth 100000 in
theorem gd_Low_control_Mail_addVersion_154 : GoodIn wp_Low_control (wsV RX11 154 RX7 yX7_addVersion wp_Mail_addVersion) := goodIn_app (goodIn_r _ [19, 20, 21, 22] rfl rfl) (goodIn_ca (goodIn_r _ [23, 24, 25, 26, 22, 27, 28, 29, 30, 31, 32, 33, 34, 35, 36, 37, 38, 39, 40, 41, 42, 43, 44, 45, 46, 47, 48, 49] rfl rfl) (goodIn_app (goodIn_cls hi_Low_control_X9 gw_X9) (goodIn_app (goodIn_cls hi_Low_control_X7 gw_X7) (goodIn_nil))))
set_option maxRecDepth 100000 in
theorem gd_Low_control_Mail_newControl_157 : GoodIn wp_Low_control (wsV RX11 157 RX7 yX7_newControl wp_Mail_newControl) := goodIn_app (goodIn_r _ [50, 25, 26, 22] rfl rfl) (goodIn_ca (goodIn_r _ [27, 28, 29, 30, 31, 32, 33, 34, 35, 36, 37, 38, 39, 40, 41, 42] rfl rfl) (goodIn_app (goodIn_cls hi_Low_control_X9 gw_X9) (goodIn_app (goodIn_cls hi_Low_control_X7 gw_X7) (goodIn_nil))))
set_option maxRecDepth 100000 in
theorem gd_Low_control_Row_putNumber_160 : GoodIn wp_Low_control (wsV RX11 160 RX9 yX9_putNumber wp_Row_putNumber) := goodIn_app (goodIn_r _ [51, 44, 45, 31] rfl rfl) (goodIn_ca (goodIn_r _ [46, 33, 38, 47] rfl rfl) (goodIn_app (goodIn_cls hi_Low_control_X9 gw_X9) (goodIn_nil)))
set_option maxRecDepth 100000 in
theorem gd_Low_control_Row_put_164 : GoodIn wp_Low_control (wsV RX11 164 RX9 yX9_put wp_Row_put) := goodIn_app (goodIn_r _ [52, 35, 36, 31] rfl rfl) (goodIn_ca (goodIn_r _ [37, 33, 38] rfl rfl) (goodIn_app (goodIn_cls hi_Low_control_X9 gw_X9) (goodIn_nil)))
set_option maxHeartbeats 4000000 in
set_option maxRecDepth 100000 in
theorem b_Low_control {p : Program} {l : Launch} {e : Env} {R : Room} {s : State} {m : MethodId} {args : Array Value} {below : List Frame} {meth : Method} {c : Code} {D : va_G} {K : Nat → ClassId} {A : Nat → Prop} {Q : State → Prop} {τ : Nat → Option Ty} {dom : List Nat} {zb zL : Nat} {zx : Nat → Int32} {zs : Nat → Nat} (hR : 3 ≤ R.frames ∧ 64 ≤ R.locals) (B : Bx p s m args c cX11_control 4 RX11 wp_Low_control D (tysA K) A) (Z : Sk τ dom) (hz : ZL zb zL zx zs A s s.heap) (h : Nat) (x1 : Int) (x2 : Int) (t_h : τ h = some (41, 0, 0)) (r_x1 : -2147483648 ≤ x1 ∧ x1 ≤ 2147483647) (r_x2 : -2147483648 ≤ x2 ∧ x2 ≤ 2147483647) (σ0 : Nat → va_E) (G0 : Good K τ σ0) (hend : ∀ (σ' : Nat → va_E) (z : Int) (lv : List (Nat × Value)) (pc : Nat), Good K τ σ' → Fr τ [(37, 0), (1, 9), (2, 9)] σ0 σ' → (0 ≤ z ∧ z ≤ 1) → decode cX11_control pc = .ok (.ireturn, 1) → V p l e R s m args below meth c 4 D A Q (0, 0) (fd dom σ') lv pc [.int (iI z)]) : V p l e R s m args below meth c 4 D A Q (0, 0) (fd dom σ0) [(0, .ref h), (1, .int (iI x1)), (2, .int (iI x2))] 0 [] := by
  have F0 : Fr τ [(37, 0), (1, 9), (2, 9)] σ0 σ0 := Fr.rf
  refine v_aload_n B dX11_control_0 rfl rfl ?_
  refine v_iload_n B dX11_control_1 rfl rfl ?_
  refine u_callVq B Z hz (n := 1) (As := [.int (iI x1)]) (rest := []) (c_Low_find l D K Z _ _ _ _ h x1 t_h ⟨by omega, by omega⟩ σ0 G0) gd_Low_control_Low_find_52 rfl rfl rfl (by decide +kernel) ⟨Nat.le_trans (by decide +kernel) hR.1, Nat.le_trans (by decide +kernel) hR.2⟩ t_h (cls_Low G0 t_h) rfl rfl rfl rfl (Nat.le_of_ble_eq_true rfl) dX11_control_2 ⟨Nat.zero_le _, Nat.zero_le _⟩ (fun v3 σ1 p2 => ?_)
  obtain ⟨rfl, q7⟩ := p2
  rcases q7 with rfl | ⟨a8, rfl, t9⟩
  · show V _ _ _ _ _ _ _ _ _ _ _ _ _ _ _ _ _ _ [.null]
    refine v_astore_nN B (lv' := [(3, .null), (0, .ref h), (1, .int (iI x1)), (2, .int (iI x2))]) dX11_control_5 rfl (by decide +kernel) rfl ?_
    refine v_aload_nN B dX11_control_6 rfl rfl ?_
    refine v_ifnullN B (tgt := 24) dX11_control_7 (by decide +kernel) ?_
    refine v_iconst B (v := iI 0) dX11_control_24 rfl ?_
    exact hend σ0 0 _ _ G0 F0 ⟨by omega, by omega⟩ dX11_control_25
  · show V _ _ _ _ _ _ _ _ _ _ _ _ _ _ _ _ _ _ [.ref a8]
    refine v_astore_n B (lv' := [(3, .ref a8), (0, .ref h), (1, .int (iI x1)), (2, .int (iI x2))]) dX11_control_5 rfl (by decide +kernel) rfl ?_
    refine v_aload_n B dX11_control_6 rfl rfl ?_
    refine v_ifnull B dX11_control_7 ?_
    refine v_aload_n B dX11_control_10 rfl rfl ?_
    refine u_callVi B Z hz (n := 0) (As := []) (rest := []) (c_Device_inLink l D K Z _ _ _ _ a8 t9 σ0 G0) gd_Low_control_Device_inLink_99 rfl rfl rfl (by decide +kernel) ⟨Nat.le_trans (by decide +kernel) hR.1, Nat.le_trans (by decide +kernel) hR.2⟩ t9 (cls_Device G0 t9) rfl rfl rfl rfl (Nat.le_of_ble_eq_true rfl) dX11_control_11 ⟨Nat.zero_le _, Nat.zero_le _⟩ (fun v12 σ10 p11 => ?_)
    obtain ⟨rfl, z16, e17, r18⟩ := p11
    subst e17
    refine u_if_eq B (tgt := 24) (by omega) dX11_control_14 (by decide +kernel) (fun c19 => ?_) (fun c19 => ?_)
    · refine v_iconst B (v := iI 0) dX11_control_24 rfl ?_
      exact hend σ0 0 _ _ G0 F0 ⟨by omega, by omega⟩ dX11_control_25
    · refine v_aload_n B dX11_control_17 rfl rfl ?_
      refine u_callVi B Z hz (n := 0) (As := []) (rest := []) (c_Device_mayControl l D K Z _ _ _ _ a8 t9 σ0 G0) gd_Low_control_Device_mayControl_141 rfl rfl rfl (by decide +kernel) ⟨Nat.le_trans (by decide +kernel) hR.1, Nat.le_trans (by decide +kernel) hR.2⟩ t9 (cls_Device G0 t9) rfl rfl rfl rfl (Nat.le_of_ble_eq_true rfl) dX11_control_18 ⟨Nat.zero_le _, Nat.zero_le _⟩ (fun v22 σ20 p21 => ?_)
      obtain ⟨rfl, z26, e27, r28⟩ := p21
      subst e27
      refine u_if_ne B (tgt := 26) (by omega) dX11_control_21 (by decide +kernel) (fun c29 => ?_) (fun c29 => ?_)
      · refine v_iload_n B dX11_control_26 rfl rfl ?_
        refine u_tsw B (tgtd := 108) (by omega) dX11_control_27 (by decide +kernel) ?_ ?_ (tsw_ok (by decide +kernel)) (by decide +kernel)
        · intro i30 o31 g32 o33 x34 t35
          match i30, o33, x34 with
          | 0, o33, x34 =>
            replace o33 : o31 = 25 := by simp at o33; omega
            obtain rfl : g32 = 52 := by omega
            refine v_aload_n B dX11_control_52 rfl rfl ?_
            obtain ⟨z36, yy37, z38, z39, z40, z41, a42, z43, yy44, a45, yy46, a47, a48, a49, a50, a51, a52, a53, a54, h55, r56, r57, r58, r59, r60, r61, t62, r63, r64, t65, r66, t67, t68, t69, t70, t71, t72, t73, t74⟩ : okDevice τ (σ0 a8) := G0 a8 _ t9
            refine u_getN B Z (C := RX3) (T := TX3) (N := 19) (ci := 3) hi_Low_control_X3 t9 h55 rfl 12 (by decide +kernel) (List.mem_of_getElem? (i := 5) rfl) rfl dX11_control_53 ?_
            obtain ⟨a75, z76, z77, a78, z79, z80, z81, a82, z83, z84, z85, a86, z87, a88, z89, a90, h91, t92, r93, r94, t95, r96, r97, r98, t99, r100, r101, r102, t103, r104, t105, r106, t107⟩ : okMail τ (σ0 a48) := G0 a48 _ t68
            refine u_getN B Z (C := RX7) (T := TX7) (N := 16) (ci := 7) hi_Low_control_X7 t68 h91 rfl 6 (by decide +kernel) (List.mem_of_getElem? (i := 6) rfl) rfl dX11_control_56 ?_
            refine u_if_eq B (tgt := 64) (by omega) dX11_control_59 (by decide +kernel) (fun c108 => ?_) (fun c108 => ?_)
            · refine v_aload_n B dX11_control_64 rfl rfl ?_
              refine u_getN B Z (C := RX3) (T := TX3) (N := 19) (ci := 3) hi_Low_control_X3 t9 h55 rfl 12 (by decide +kernel) (List.mem_of_getElem? (i := 5) rfl) rfl dX11_control_65 ?_
              refine u_callVv B Z hz (n := 0) (As := []) (rest := []) (c_Mail_addVersion l D K Z _ _ _ _ a48 t68 σ0 G0) gd_Low_control_Mail_addVersion_154 rfl rfl rfl (by decide +kernel) ⟨Nat.le_trans (by decide +kernel) hR.1, Nat.le_trans (by decide +kernel) hR.2⟩ t68 (cls_Mail G0 t68) rfl rfl rfl rfl (Nat.le_of_ble_eq_true rfl) dX11_control_68 ⟨Nat.zero_le _, Nat.zero_le _⟩ (fun σ109 p110 => ?_)
              obtain ⟨G112, F113⟩ := p110
              have F114 := F0.call F113 (by first | rfl | simp)
              have h115 := (F113 a8 _ t9 (by first | rfl | simp)).trans h55
              refine v_iconst B (v := iI 1) dX11_control_71 rfl ?_
              exact hend σ109 1 _ _ G112 F114 ⟨by omega, by omega⟩ dX11_control_72
            · refine v_iconst B (v := iI 0) dX11_control_62 rfl ?_
              exact hend σ0 0 _ _ G0 F0 ⟨by omega, by omega⟩ dX11_control_63
          | 1, o33, x34 =>
            replace o33 : o31 = 46 := by simp at o33; omega
            obtain rfl : g32 = 73 := by omega
            refine v_aload_n B dX11_control_73 rfl rfl ?_
            obtain ⟨z116, yy117, z118, z119, z120, z121, a122, z123, yy124, a125, yy126, a127, a128, a129, a130, a131, a132, a133, a134, h135, r136, r137, r138, r139, r140, r141, t142, r143, r144, t145, r146, t147, t148, t149, t150, t151, t152, t153, t154⟩ : okDevice τ (σ0 a8) := G0 a8 _ t9
            refine u_getN B Z (C := RX3) (T := TX3) (N := 19) (ci := 3) hi_Low_control_X3 t9 h135 rfl 12 (by decide +kernel) (List.mem_of_getElem? (i := 5) rfl) rfl dX11_control_74 ?_
            refine v_bipush B (v := iI 8) dX11_control_77 (by decide +kernel) ?_
            refine u_callVq B Z hz (n := 1) (As := [.int (iI 8)]) (rest := []) (c_Mail_newControl l D K Z _ _ _ _ a128 8 t148 ⟨by omega, by omega⟩ σ0 G0) gd_Low_control_Mail_newControl_157 rfl rfl rfl (by decide +kernel) ⟨Nat.le_trans (by decide +kernel) hR.1, Nat.le_trans (by decide +kernel) hR.2⟩ t148 (cls_Mail G0 t148) rfl rfl rfl rfl (Nat.le_of_ble_eq_true rfl) dX11_control_79 ⟨Nat.zero_le _, Nat.zero_le _⟩ (fun v157 σ155 p156 => ?_)
            obtain ⟨G158, F159, q161⟩ := p156
            have F160 := F0.call F159 (by first | rfl | simp)
            have h162 := (F159 a8 _ t9 (by first | rfl | simp)).trans h135
            obtain ⟨a163, rfl, t164⟩ := q161
            show V _ _ _ _ _ _ _ _ _ _ _ _ _ _ _ _ _ _ [.ref a163]
            refine v_aload_n B dX11_control_82 rfl rfl ?_
            refine u_getN B Z (C := RX3) (T := TX3) (N := 19) (ci := 3) hi_Low_control_X3 t9 h162 rfl 10 (by decide +kernel) (List.mem_of_getElem? (i := 2) rfl) rfl dX11_control_83 ?_
            refine v_bipush B (v := iI 8) dX11_control_86 (by decide +kernel) ?_
            refine u_callVv B Z hz (n := 2) (As := [.long (lI yy126), .int (iI 8)]) (rest := []) (c_Row_putNumber l D K Z _ _ _ _ a163 yy126 8 t164 ⟨by omega, by omega⟩ ⟨by omega, by omega⟩ σ155 G158) gd_Low_control_Row_putNumber_160 rfl rfl rfl (by decide +kernel) ⟨Nat.le_trans (by decide +kernel) hR.1, Nat.le_trans (by decide +kernel) hR.2⟩ t164 (cls_Row G158 t164) rfl rfl rfl rfl (Nat.le_of_ble_eq_true rfl) dX11_control_88 ⟨Nat.zero_le _, Nat.zero_le _⟩ (fun σ165 p166 => ?_)
            obtain ⟨G168, F169⟩ := p166
            have F170 := F160.call F169 (by first | rfl | simp)
            have h171 := (F169 a8 _ t9 (by first | rfl | simp)).trans h162
            refine v_iconst B (v := iI 1) dX11_control_91 rfl ?_
            exact hend σ165 1 _ _ G168 F170 ⟨by omega, by omega⟩ dX11_control_92
          | 2, o33, x34 =>
            replace o33 : o31 = 66 := by simp at o33; omega
            obtain rfl : g32 = 93 := by omega
            refine v_aload_n B dX11_control_93 rfl rfl ?_
            obtain ⟨z172, yy173, z174, z175, z176, z177, a178, z179, yy180, a181, yy182, a183, a184, a185, a186, a187, a188, a189, a190, h191, r192, r193, r194, r195, r196, r197, t198, r199, r200, t201, r202, t203, t204, t205, t206, t207, t208, t209, t210⟩ : okDevice τ (σ0 a8) := G0 a8 _ t9
            refine u_getN B Z (C := RX3) (T := TX3) (N := 19) (ci := 3) hi_Low_control_X3 t9 h191 rfl 12 (by decide +kernel) (List.mem_of_getElem? (i := 5) rfl) rfl dX11_control_94 ?_
            refine v_iconst B (v := iI 2) dX11_control_97 rfl ?_
            refine u_callVq B Z hz (n := 1) (As := [.int (iI 2)]) (rest := []) (c_Mail_newControl l D K Z _ _ _ _ a184 2 t204 ⟨by omega, by omega⟩ σ0 G0) gd_Low_control_Mail_newControl_157 rfl rfl rfl (by decide +kernel) ⟨Nat.le_trans (by decide +kernel) hR.1, Nat.le_trans (by decide +kernel) hR.2⟩ t204 (cls_Mail G0 t204) rfl rfl rfl rfl (Nat.le_of_ble_eq_true rfl) dX11_control_98 ⟨Nat.zero_le _, Nat.zero_le _⟩ (fun v213 σ211 p212 => ?_)
            obtain ⟨G214, F215, q217⟩ := p212
            have F216 := F0.call F215 (by first | rfl | simp)
            have h218 := (F215 a8 _ t9 (by first | rfl | simp)).trans h191
            obtain ⟨a219, rfl, t220⟩ := q217
            show V _ _ _ _ _ _ _ _ _ _ _ _ _ _ _ _ _ _ [.ref a219]
            refine v_bipush B (v := iI 19) dX11_control_101 (by decide +kernel) ?_
            refine u_callVv B Z hz (n := 1) (As := [.int (iI 19)]) (rest := []) (c_Row_put l D K Z _ _ _ _ a219 19 t220 ⟨by omega, by omega⟩ σ211 G214) gd_Low_control_Row_put_164 rfl rfl rfl (by decide +kernel) ⟨Nat.le_trans (by decide +kernel) hR.1, Nat.le_trans (by decide +kernel) hR.2⟩ t220 (cls_Row G214 t220) rfl rfl rfl rfl (Nat.le_of_ble_eq_true rfl) dX11_control_103 ⟨Nat.zero_le _, Nat.zero_le _⟩ (fun σ221 p222 => ?_)
            obtain ⟨G224, F225⟩ := p222
            have F226 := F216.call F225 (by first | rfl | simp)
            have h227 := (F225 a8 _ t9 (by first | rfl | simp)).trans h218
            refine v_iconst B (v := iI 1) dX11_control_106 rfl ?_
            exact hend σ221 1 _ _ G224 F226 ⟨by omega, by omega⟩ dX11_control_107
          | i30 + 3, o33, x34 => exact absurd (o33.symm.trans (Array.getElem?_eq_none (by simp))) (by simp)
        · intro x34
          refine v_iconst B (v := iI 0) dX11_control_108 rfl ?_
          exact hend σ0 0 _ _ G0 F0 ⟨by omega, by omega⟩ dX11_control_109
      · refine v_iconst B (v := iI 0) dX11_control_24 rfl ?_
        exact hend σ0 0 _ _ G0 F0 ⟨by omega, by omega⟩ dX11_control_25
set_option maxRecDepth 100000 in
theorem c_Low_control (l : Launch) (D : va_G) (K : Nat → ClassId) {τ : Nat → Option Ty} {dom : List Nat} (Z : Sk τ dom) (zb zL : Nat) (zx : Nat → Int32) (zs : Nat → Nat) (h : Nat) (x1 : Int) (x2 : Int) (t_h : τ h = some (41, 0, 0)) (r_x1 : -2147483648 ≤ x1 ∧ x1 ≤ 2147483647) (r_x2 : -2147483648 ≤ x2 ∧ x2 ≤ 2147483647) (σ0 : Nat → va_E) (G0 : Good K τ σ0) : MZ l yX11_control wp_Low_control ({ frames := 3, cells := 0, slots := 0, locals := 64 }) D (tysA K) [.ref h, .int (iI x1), .int (iI x2)] (fd dom σ0) zb zL zx zs (Qi D (fun r σ' => Good K τ σ' ∧ Fr τ [(37, 0), (1, 9), (2, 9)] σ0 σ' ∧ ∃ z : Int, r = iI z ∧ (0 ≤ z ∧ z ≤ 1)) (fun σ' => fd dom σ')) 0 0 := by
  refine mz_of (cc := cX11_control) (maxL := 4) (ret := (some .boolean)) (by decide +kernel) rfl (Nat.le_of_ble_eq_true rfl) ?_
  intro p e s m below meth c A B hr hlk _ hz
  exact b_Low_control ⟨Nat.le_refl _, Nat.le_refl _⟩ B Z hz h x1 x2 t_h r_x1 r_x2 σ0 G0 (fun σ' z lv pc G F hZ hd => v_zret B hr hlk (nar01 (by omega)) σ' ⟨G, F, z, rfl, hZ⟩ rfl (Nat.le_refl _) (Nat.le_refl _) hd)

def wp_Low_map : List Cond := .code yX11_map cX11_map 6 (some .boolean) :: (([.methodLink RX11 52 yX11_find, .instanceMethod yX11_find, .selects RX11 yX11_find yX11_find, .initialized RX11, .code yX11_find cX11_find 2 (some (.object "LowEnergy$Device")), .fieldLink RX11 9 "LowEnergy" "devices" "[LLowEnergy$Device;", .methodLink RX11 141 yX3_mayControl, .instanceMethod yX3_mayControl, .selects RX3 yX3_mayControl yX3_mayControl, .initialized RX3, .code yX3_mayControl cX3_mayControl 1 (some .boolean), .fieldLink RX3 33 "LowEnergy$Device" "mail" "LLowEnergy$Mail;", .fieldLink RX3 77 "LowEnergy$Device" "guard" "LLowEnergy$Guard;", .methodLink RX11 170 yX6_isProperMap, .static yX6_isProperMap, .initialized RX6, .code yX6_isProperMap cX6_isProperMap 2 (some .boolean), .methodLink RX6 25 yJ13_bitCount_95d88, .static yJ13_bitCount_95d88, .initialized RJ13, .code yJ13_bitCount_95d88 cJ13_bitCount_95d88 2 (some .int), .constantLong RJ13 314 (6148914691236517205), .constantLong RJ13 316 (3689348814741910323), .constantLong RJ13 318 (1085102592571150095), .constant RX11 123 (65535), .methodLink RX11 177 yX6_awaitMap, .instanceMethod yX6_awaitMap, .selects RX6 yX6_awaitMap yX6_awaitMap, .code yX6_awaitMap cX6_awaitMap 4 none, .fieldLink RX6 69 "LowEnergy$Link" "nextMap" "J", .fieldLink RX6 72 "LowEnergy$Link" "instant" "I", .fieldLink RX6 50 "LowEnergy$Link" "mapWaits" "Z", .methodLink RX11 157 yX7_newControl, .instanceMethod yX7_newControl, .selects RX7 yX7_newControl yX7_newControl, .initialized RX7, .code yX7_newControl cX7_newControl 3 (some (.object "LowEnergy$Row")), .methodLink RX7 62 yX9_clear, .instanceMethod yX9_clear, .selects RX9 yX9_clear yX9_clear, .initialized RX9, .code yX9_clear cX9_clear 1 none, .fieldLink RX9 21 "LowEnergy$Row" "size" "I", .methodLink RX7 71 yX9_put, .instanceMethod yX9_put, .selects RX9 yX9_put yX9_put, .code yX9_put cX9_put 2 none, .fieldLink RX9 15 "LowEnergy$Row" "bytes" "[I", .fieldLink RX7 33 "LowEnergy$Mail" "spare" "LLowEnergy$Row;", .fieldLink RX7 43 "LowEnergy$Mail" "controlCount" "I", .fieldLink RX7 20 "LowEnergy$Mail" "controls" "[LLowEnergy$Row;", .fieldLink RX7 39 "LowEnergy$Mail" "controlHead" "I", .methodLink RX11 160 yX9_putNumber, .instanceMethod yX9_putNumber, .selects RX9 yX9_putNumber yX9_putNumber, .code yX9_putNumber cX9_putNumber 5 none, .constantLong RX9 25 (255)] : List Cond) ++ (wsX110 ++ (wsX30 ++ (wsX70 ++ (wsX50 ++ (wsX60 ++ (wsX90 ++ ([]))))))))
theorem hi_Low_map_X11 : ∀ x ∈ u_ws RX11 TX11 5, x ∈ wp_Low_map := fun _ h => List.mem_cons_of_mem _ (List.mem_append_right _ (List.mem_append_left _ h))
theorem hi_Low_map_X3 : ∀ x ∈ u_ws RX3 TX3 19, x ∈ wp_Low_map := fun _ h => List.mem_cons_of_mem _ (List.mem_append_right _ (List.mem_append_right _ (List.mem_append_left _ h)))
theorem hi_Low_map_X7 : ∀ x ∈ u_ws RX7 TX7 16, x ∈ wp_Low_map := fun _ h => List.mem_cons_of_mem _ (List.mem_append_right _ (List.mem_append_right _ (List.mem_append_right _ (List.mem_append_left _ h))))
theorem hi_Low_map_X5 : ∀ x ∈ u_ws RX5 TX5 16, x ∈ wp_Low_map := fun _ h => List.mem_cons_of_mem _ (List.mem_append_right _ (List.mem_append_right _ (List.mem_append_right _ (List.mem_append_right _ (List.mem_append_left _ h)))))
theorem hi_Low_map_X6 : ∀ x ∈ u_ws RX6 TX6 20, x ∈ wp_Low_map := fun _ h => List.mem_cons_of_mem _ (List.mem_append_right _ (List.mem_append_right _ (List.mem_append_right _ (List.mem_append_right _ (List.mem_append_right _ (List.mem_append_left _ h))))))
theorem hi_Low_map_X9 : ∀ x ∈ u_ws RX9 TX9 2, x ∈ wp_Low_map := fun _ h => List.mem_cons_of_mem _ (List.mem_append_right _ (List.mem_append_right _ (List.mem_append_right _ (List.mem_append_right _ (List.mem_append_right _ (List.mem_append_right _ (List.mem_append_left _ h)))))))
set_option maxRecDepth 100000 in
theorem gd_Low_map_Low_find_52 : GoodIn wp_Low_map (wsV RX11 52 RX11 yX11_find wp_Low_find) := goodIn_app (goodIn_r _ [1, 2, 3, 4] rfl rfl) (goodIn_ca (goodIn_r _ [5, 6] rfl rfl) (goodIn_app (goodIn_cls hi_Low_map_X11 gw_X11) (goodIn_nil)))
set_option maxRecDepth 100000 in
theorem gd_Low_map_Device_mayControl_141 : GoodIn wp_Low_map (wsV RX11 141 RX3 yX3_mayControl wp_Device_mayControl) := goodIn_app (goodIn_r _ [7, 8, 9, 10] rfl rfl) (goodIn_ca (goodIn_r _ [11, 12, 13] rfl rfl) (goodIn_app (goodIn_cls hi_Low_map_X3 gw_X3) (goodIn_app (goodIn_cls hi_Low_map_X7 gw_X7) (goodIn_app (goodIn_cls hi_Low_map_X5 gw_X5) (goodIn_nil)))))
set_option maxRecDepth 100000 in
theorem gd_Low_map_Link_isProperMap_170 : GoodIn wp_Low_map (va_wsS RX11 170 yX6_isProperMap wp_Link_isProperMap) := goodIn_app (goodIn_r _ [14, 15, 16] rfl rfl) (goodIn_ca (goodIn_r _ [17, 18, 19, 20, 21, 22, 23, 24] rfl rfl) (goodIn_nil))
set_option maxRecDepth 100000 in
theorem gd_Low_map_Link_awaitMap_177 : GoodIn wp_Low_map (wsV RX11 177 RX6 yX6_awaitMap wp_Link_awaitMap) := goodIn_app (goodIn_r _ [26, 27, 28, 16] rfl rfl) (goodIn_ca (goodIn_r _ [29, 30, 31, 32] rfl rfl) (goodIn_app (goodIn_cls hi_Low_map_X6 gw_X6) (goodIn_nil)))
set_option maxRecDepth 100000 in
theorem gd_Low_map_Mail_newControl_157 : GoodIn wp_Low_map (wsV RX11 157 RX7 yX7_newControl wp_Mail_newControl) := goodIn_app (goodIn_r _ [33, 34, 35, 36] rfl rfl) (goodIn_ca (goodIn_r _ [37, 38, 39, 40, 41, 42, 43, 44, 45, 46, 47, 48, 49, 50, 51, 52] rfl rfl) (goodIn_app (goodIn_cls hi_Low_map_X9 gw_X9) (goodIn_app (goodIn_cls hi_Low_map_X7 gw_X7) (goodIn_nil))))
set_option maxRecDepth 100000 in
theorem gd_Low_map_Row_putNumber_160 : GoodIn wp_Low_map (wsV RX11 160 RX9 yX9_putNumber wp_Row_putNumber) := goodIn_app (goodIn_r _ [53, 54, 55, 41] rfl rfl) (goodIn_ca (goodIn_r _ [56, 43, 48, 57] rfl rfl) (goodIn_app (goodIn_cls hi_Low_map_X9 gw_X9) (goodIn_nil)))
set_option maxHeartbeats 4000000 in
set_option maxRecDepth 100000 in
theorem b_Low_map {p : Program} {l : Launch} {e : Env} {R : Room} {s : State} {m : MethodId} {args : Array Value} {below : List Frame} {meth : Method} {c : Code} {D : va_G} {K : Nat → ClassId} {A : Nat → Prop} {Q : State → Prop} {τ : Nat → Option Ty} {dom : List Nat} {zb zL : Nat} {zx : Nat → Int32} {zs : Nat → Nat} (hR : 2 ≤ R.frames ∧ 43 ≤ R.locals) (B : Bx p s m args c cX11_map 6 RX11 wp_Low_map D (tysA K) A) (Z : Sk τ dom) (hz : ZL zb zL zx zs A s s.heap) (h : Nat) (x1 : Int) (y2 : Int) (t_h : τ h = some (41, 0, 0)) (r_x1 : -2147483648 ≤ x1 ∧ x1 ≤ 2147483647) (r_y2 : InL y2) (σ0 : Nat → va_E) (G0 : Good K τ σ0) (hend : ∀ (σ' : Nat → va_E) (z : Int) (lv : List (Nat × Value)) (pc : Nat), Good K τ σ' → Fr τ [(36, 0), (37, 0), (1, 9), (2, 9)] σ0 σ' → (0 ≤ z ∧ z ≤ 1) → decode cX11_map pc = .ok (.ireturn, 1) → V p l e R s m args below meth c 6 D A Q (0, 0) (fd dom σ') lv pc [.int (iI z)]) : V p l e R s m args below meth c 6 D A Q (0, 0) (fd dom σ0) [(0, .ref h), (1, .int (iI x1)), (2, .long (lI y2))] 0 [] := by
  have F0 : Fr τ [(36, 0), (37, 0), (1, 9), (2, 9)] σ0 σ0 := Fr.rf
  refine v_aload_n B dX11_map_0 rfl rfl ?_
  refine v_iload_n B dX11_map_1 rfl rfl ?_
  refine u_callVq B Z hz (n := 1) (As := [.int (iI x1)]) (rest := []) (c_Low_find l D K Z _ _ _ _ h x1 t_h ⟨by omega, by omega⟩ σ0 G0) gd_Low_map_Low_find_52 rfl rfl rfl (by decide +kernel) ⟨Nat.le_trans (by decide +kernel) hR.1, Nat.le_trans (by decide +kernel) hR.2⟩ t_h (cls_Low G0 t_h) rfl rfl rfl rfl (Nat.le_of_ble_eq_true rfl) dX11_map_2 ⟨Nat.zero_le _, Nat.zero_le _⟩ (fun v3 σ1 p2 => ?_)
  obtain ⟨rfl, q7⟩ := p2
  rcases q7 with rfl | ⟨a8, rfl, t9⟩
  · show V _ _ _ _ _ _ _ _ _ _ _ _ _ _ _ _ _ _ [.null]
    refine v_astoreN B (lv' := [(4, .null), (0, .ref h), (1, .int (iI x1)), (2, .long (lI y2))]) dX11_map_5 (by decide +kernel) rfl ?_
    refine v_aloadN B dX11_map_7 rfl ?_
    refine v_ifnullN B (tgt := 47) dX11_map_9 (by decide +kernel) ?_
    refine v_iconst B (v := iI 0) dX11_map_47 rfl ?_
    exact hend σ0 0 _ _ G0 F0 ⟨by omega, by omega⟩ dX11_map_48
  · show V _ _ _ _ _ _ _ _ _ _ _ _ _ _ _ _ _ _ [.ref a8]
    refine v_astore B (lv' := [(4, .ref a8), (0, .ref h), (1, .int (iI x1)), (2, .long (lI y2))]) dX11_map_5 (by decide +kernel) rfl ?_
    refine v_aload B dX11_map_7 rfl ?_
    refine v_ifnull B dX11_map_9 ?_
    refine v_aload B dX11_map_12 rfl ?_
    obtain ⟨z10, yy11, z12, z13, z14, z15, a16, z17, yy18, a19, yy20, a21, a22, a23, a24, a25, a26, a27, a28, h29, r30, r31, r32, r33, r34, r35, t36, r37, r38, t39, r40, t41, t42, t43, t44, t45, t46, t47, t48⟩ : okDevice τ (σ0 a8) := G0 a8 _ t9
    refine u_getN B Z (C := RX3) (T := TX3) (N := 19) (ci := 3) hi_Low_map_X3 t9 h29 rfl 2 (by decide +kernel) (List.mem_of_getElem? (i := 65) rfl) rfl dX11_map_14 ?_
    refine v_iconst B (v := iI 4) dX11_map_17 rfl ?_
    refine u_icmp_ne B (tgt := 47) (by omega) (by omega) dX11_map_18 (by decide +kernel) (fun c49 => ?_) (fun c49 => ?_)
    · refine v_iconst B (v := iI 0) dX11_map_47 rfl ?_
      exact hend σ0 0 _ _ G0 F0 ⟨by omega, by omega⟩ dX11_map_48
    · refine v_aload B dX11_map_21 rfl ?_
      refine u_callVi B Z hz (n := 0) (As := []) (rest := []) (c_Device_mayControl l D K Z _ _ _ _ a8 t9 σ0 G0) gd_Low_map_Device_mayControl_141 rfl rfl rfl (by decide +kernel) ⟨Nat.le_trans (by decide +kernel) hR.1, Nat.le_trans (by decide +kernel) hR.2⟩ t9 (cls_Device G0 t9) rfl rfl rfl rfl (Nat.le_of_ble_eq_true rfl) dX11_map_23 ⟨Nat.zero_le _, Nat.zero_le _⟩ (fun v52 σ50 p51 => ?_)
      obtain ⟨rfl, z56, e57, r58⟩ := p51
      subst e57
      refine u_if_eq B (tgt := 47) (by omega) dX11_map_26 (by decide +kernel) (fun c59 => ?_) (fun c59 => ?_)
      · refine v_iconst B (v := iI 0) dX11_map_47 rfl ?_
        exact hend σ0 0 _ _ G0 F0 ⟨by omega, by omega⟩ dX11_map_48
      · refine v_aload B dX11_map_29 rfl ?_
        refine u_getN B Z (C := RX3) (T := TX3) (N := 19) (ci := 3) hi_Low_map_X3 t9 h29 rfl 11 (by decide +kernel) (List.mem_of_getElem? (i := 69) rfl) rfl dX11_map_31 ?_
        obtain ⟨z60, z61, z62, z63, z64, yy65, yy66, z67, z68, z69, z70, z71, z72, z73, z74, z75, z76, z77, z78, yy79, h80, r81, r82, r83, r84, r85, r86, r87, r88, r89, r90, r91, r92, r93, r94, r95, r96, r97, r98, r99, r100⟩ : okLink τ (σ0 a21) := G0 a21 _ t41
        refine u_getN B Z (C := RX6) (T := TX6) (N := 20) (ci := 6) hi_Low_map_X6 t41 h80 rfl 7 (by decide +kernel) (List.mem_of_getElem? (i := 7) rfl) rfl dX11_map_34 ?_
        refine u_if_ne B (tgt := 47) (by omega) dX11_map_37 (by decide +kernel) (fun c101 => ?_) (fun c101 => ?_)
        · refine v_iconst B (v := iI 0) dX11_map_47 rfl ?_
          exact hend σ0 0 _ _ G0 F0 ⟨by omega, by omega⟩ dX11_map_48
        · refine v_lload_n B dX11_map_40 rfl rfl ?_
          refine u_callSi B Z hz (n := 1) (As := [.long (lI y2)]) (rest := []) (c_Link_isProperMap l D K Z _ _ _ _ y2 ⟨by omega, by omega⟩ σ0 G0) gd_Low_map_Link_isProperMap_170 rfl rfl rfl (by decide +kernel) ⟨Nat.le_trans (by decide +kernel) hR.1, Nat.le_trans (by decide +kernel) hR.2⟩ rfl rfl (Nat.le_of_ble_eq_true rfl) dX11_map_41 ⟨Nat.zero_le _, Nat.zero_le _⟩ (fun v104 σ102 p103 => ?_)
          obtain ⟨rfl, z108, e109, r110⟩ := p103
          subst e109
          refine u_if_ne B (tgt := 49) (by omega) dX11_map_44 (by decide +kernel) (fun c111 => ?_) (fun c111 => ?_)
          · refine v_aload B dX11_map_49 rfl ?_
            refine u_getN B Z (C := RX3) (T := TX3) (N := 19) (ci := 3) hi_Low_map_X3 t9 h29 rfl 11 (by decide +kernel) (List.mem_of_getElem? (i := 69) rfl) rfl dX11_map_51 ?_
            refine v_lload_n B dX11_map_54 rfl rfl ?_
            refine v_aload B dX11_map_55 rfl ?_
            refine u_getN B Z (C := RX3) (T := TX3) (N := 19) (ci := 3) hi_Low_map_X3 t9 h29 rfl 11 (by decide +kernel) (List.mem_of_getElem? (i := 69) rfl) rfl dX11_map_57 ?_
            refine u_getN B Z (C := RX6) (T := TX6) (N := 20) (ci := 6) hi_Low_map_X6 t41 h80 rfl 10 (by decide +kernel) (List.mem_of_getElem? (i := 8) rfl) rfl dX11_map_60 ?_
            refine v_bipush B (v := iI 8) dX11_map_63 (by decide +kernel) ?_
            obtain ⟨z112, e113, r114⟩ := iI_any (iI z70 + iI 8)
            refine v_iadd B (v := iI z112) dX11_map_65 e113 ?_
            refine v_ldc B (v := iI 65535) (u_ci (List.mem_of_getElem? (i := 25) rfl) (by decide +kernel)) dX11_map_66 ?_
            obtain ⟨z115, e116, r117⟩ := iI_and z112 (c := 65535) (by decide) (by decide)
            refine v_iand B (v := iI z115) dX11_map_68 e116 ?_
            refine u_callVv B Z hz (n := 2) (As := [.long (lI y2), .int (iI z115)]) (rest := []) (c_Link_awaitMap l D K Z _ _ _ _ a21 y2 z115 t41 ⟨by omega, by omega⟩ ⟨by omega, by omega⟩ σ0 G0) gd_Low_map_Link_awaitMap_177 rfl rfl rfl (by decide +kernel) ⟨Nat.le_trans (by decide +kernel) hR.1, Nat.le_trans (by decide +kernel) hR.2⟩ t41 (cls_Link G0 t41) rfl rfl rfl rfl (Nat.le_of_ble_eq_true rfl) dX11_map_69 ⟨Nat.zero_le _, Nat.zero_le _⟩ (fun σ118 p119 => ?_)
            obtain ⟨G121, F122⟩ := p119
            have F123 := F0.call F122 (by first | rfl | simp)
            have h124 := (F122 a8 _ t9 (by first | rfl | simp)).trans h29
            refine v_aload B dX11_map_72 rfl ?_
            refine u_getN B Z (C := RX3) (T := TX3) (N := 19) (ci := 3) hi_Low_map_X3 t9 h124 rfl 12 (by decide +kernel) (List.mem_of_getElem? (i := 5) rfl) rfl dX11_map_74 ?_
            refine v_iconst B (v := iI 1) dX11_map_77 rfl ?_
            refine u_callVq B Z hz (n := 1) (As := [.int (iI 1)]) (rest := []) (c_Mail_newControl l D K Z _ _ _ _ a22 1 t42 ⟨by omega, by omega⟩ σ118 G121) gd_Low_map_Mail_newControl_157 rfl rfl rfl (by decide +kernel) ⟨Nat.le_trans (by decide +kernel) hR.1, Nat.le_trans (by decide +kernel) hR.2⟩ t42 (cls_Mail G121 t42) rfl rfl rfl rfl (Nat.le_of_ble_eq_true rfl) dX11_map_78 ⟨Nat.zero_le _, Nat.zero_le _⟩ (fun v127 σ125 p126 => ?_)
            obtain ⟨G128, F129, q131⟩ := p126
            have F130 := F123.call F129 (by first | rfl | simp)
            have h132 := (F129 a8 _ t9 (by first | rfl | simp)).trans h124
            obtain ⟨a133, rfl, t134⟩ := q131
            show V _ _ _ _ _ _ _ _ _ _ _ _ _ _ _ _ _ _ [.ref a133]
            refine v_astore B (lv' := [(5, .ref a133), (4, .ref a8), (0, .ref h), (1, .int (iI x1)), (2, .long (lI y2))]) dX11_map_81 (by decide +kernel) rfl ?_
            refine v_aload B dX11_map_83 rfl ?_
            refine v_lload_n B dX11_map_85 rfl rfl ?_
            refine v_iconst B (v := iI 5) dX11_map_86 rfl ?_
            refine u_callVv B Z hz (n := 2) (As := [.long (lI y2), .int (iI 5)]) (rest := []) (c_Row_putNumber l D K Z _ _ _ _ a133 y2 5 t134 ⟨by omega, by omega⟩ ⟨by omega, by omega⟩ σ125 G128) gd_Low_map_Row_putNumber_160 rfl rfl rfl (by decide +kernel) ⟨Nat.le_trans (by decide +kernel) hR.1, Nat.le_trans (by decide +kernel) hR.2⟩ t134 (cls_Row G128 t134) rfl rfl rfl rfl (Nat.le_of_ble_eq_true rfl) dX11_map_87 ⟨Nat.zero_le _, Nat.zero_le _⟩ (fun σ135 p136 => ?_)
            obtain ⟨G138, F139⟩ := p136
            have F140 := F130.call F139 (by first | rfl | simp)
            have h141 := (F139 a8 _ t9 (by first | rfl | simp)).trans h132
            refine v_aload B dX11_map_90 rfl ?_
            refine v_aload B dX11_map_92 rfl ?_
            refine u_getN B Z (C := RX3) (T := TX3) (N := 19) (ci := 3) hi_Low_map_X3 t9 h141 rfl 11 (by decide +kernel) (List.mem_of_getElem? (i := 69) rfl) rfl dX11_map_94 ?_
            obtain ⟨z142, z143, z144, z145, z146, yy147, yy148, z149, z150, z151, z152, z153, z154, z155, z156, z157, z158, z159, z160, yy161, h162, r163, r164, r165, r166, r167, r168, r169, r170, r171, r172, r173, r174, r175, r176, r177, r178, r179, r180, r181, r182⟩ : okLink τ (σ135 a21) := G138 a21 _ t41
            refine u_getN B Z (C := RX6) (T := TX6) (N := 20) (ci := 6) hi_Low_map_X6 t41 h162 rfl 8 (by decide +kernel) (List.mem_of_getElem? (i := 9) rfl) rfl dX11_map_97 ?_
            refine v_i2l B (v := lI z150) dX11_map_100 (lI_i (by omega)) ?_
            refine v_iconst B (v := iI 2) dX11_map_101 rfl ?_
            refine u_callVv B Z hz (n := 2) (As := [.long (lI z150), .int (iI 2)]) (rest := []) (c_Row_putNumber l D K Z _ _ _ _ a133 z150 2 t134 ⟨by omega, by omega⟩ ⟨by omega, by omega⟩ σ135 G138) gd_Low_map_Row_putNumber_160 rfl rfl rfl (by decide +kernel) ⟨Nat.le_trans (by decide +kernel) hR.1, Nat.le_trans (by decide +kernel) hR.2⟩ t134 (cls_Row G138 t134) rfl rfl rfl rfl (Nat.le_of_ble_eq_true rfl) dX11_map_102 ⟨Nat.zero_le _, Nat.zero_le _⟩ (fun σ183 p184 => ?_)
            obtain ⟨G186, F187⟩ := p184
            have F188 := F140.call F187 (by first | rfl | simp)
            have h189 := (F187 a8 _ t9 (by first | rfl | simp)).trans h141
            have h190 := (F187 a21 _ t41 (by first | rfl | simp)).trans h162
            refine v_iconst B (v := iI 1) dX11_map_105 rfl ?_
            exact hend σ183 1 _ _ G186 F188 ⟨by omega, by omega⟩ dX11_map_106
          · refine v_iconst B (v := iI 0) dX11_map_47 rfl ?_
            exact hend σ0 0 _ _ G0 F0 ⟨by omega, by omega⟩ dX11_map_48
set_option maxRecDepth 100000 in
theorem c_Low_map (l : Launch) (D : va_G) (K : Nat → ClassId) {τ : Nat → Option Ty} {dom : List Nat} (Z : Sk τ dom) (zb zL : Nat) (zx : Nat → Int32) (zs : Nat → Nat) (h : Nat) (x1 : Int) (y2 : Int) (t_h : τ h = some (41, 0, 0)) (r_x1 : -2147483648 ≤ x1 ∧ x1 ≤ 2147483647) (r_y2 : InL y2) (σ0 : Nat → va_E) (G0 : Good K τ σ0) : MZ l yX11_map wp_Low_map ({ frames := 2, cells := 0, slots := 0, locals := 43 }) D (tysA K) [.ref h, .int (iI x1), .long (lI y2)] (fd dom σ0) zb zL zx zs (Qi D (fun r σ' => Good K τ σ' ∧ Fr τ [(36, 0), (37, 0), (1, 9), (2, 9)] σ0 σ' ∧ ∃ z : Int, r = iI z ∧ (0 ≤ z ∧ z ≤ 1)) (fun σ' => fd dom σ')) 0 0 := by
  refine mz_of (cc := cX11_map) (maxL := 6) (ret := (some .boolean)) (by decide +kernel) rfl (Nat.le_of_ble_eq_true rfl) ?_
  intro p e s m below meth c A B hr hlk _ hz
  exact b_Low_map ⟨Nat.le_refl _, Nat.le_refl _⟩ B Z hz h x1 y2 t_h r_x1 r_y2 σ0 G0 (fun σ' z lv pc G F hZ hd => v_zret B hr hlk (nar01 (by omega)) σ' ⟨G, F, z, rfl, hZ⟩ rfl (Nat.le_refl _) (Nat.le_refl _) hd)

def wp_Low_encrypt : List Cond := .code yX11_encrypt cX11_encrypt 3 (some .boolean) :: (([.methodLink RX11 52 yX11_find, .instanceMethod yX11_find, .selects RX11 yX11_find yX11_find, .initialized RX11, .code yX11_find cX11_find 2 (some (.object "LowEnergy$Device")), .fieldLink RX11 9 "LowEnergy" "devices" "[LLowEnergy$Device;", .methodLink RX11 141 yX3_mayControl, .instanceMethod yX3_mayControl, .selects RX3 yX3_mayControl yX3_mayControl, .initialized RX3, .code yX3_mayControl cX3_mayControl 1 (some .boolean), .fieldLink RX3 33 "LowEnergy$Device" "mail" "LLowEnergy$Mail;", .fieldLink RX3 77 "LowEnergy$Device" "guard" "LLowEnergy$Guard;", .methodLink RX11 208 yX3_drawInto, .instanceMethod yX3_drawInto, .selects RX3 yX3_drawInto yX3_drawInto, .code yX3_drawInto cX3_drawInto 5 none, .methodLink RX3 89 yX3_draw, .instanceMethod yX3_draw, .selects RX3 yX3_draw yX3_draw, .code yX3_draw cX3_draw 1 (some .int), .fieldLink RX3 69 "LowEnergy$Device" "x" "I", .constant RX3 88 (1103515245), .methodLink RX11 157 yX7_newControl, .instanceMethod yX7_newControl, .selects RX7 yX7_newControl yX7_newControl, .initialized RX7, .code yX7_newControl cX7_newControl 3 (some (.object "LowEnergy$Row")), .methodLink RX7 62 yX9_clear, .instanceMethod yX9_clear, .selects RX9 yX9_clear yX9_clear, .initialized RX9, .code yX9_clear cX9_clear 1 none, .fieldLink RX9 21 "LowEnergy$Row" "size" "I", .methodLink RX7 71 yX9_put, .instanceMethod yX9_put, .selects RX9 yX9_put yX9_put, .code yX9_put cX9_put 2 none, .fieldLink RX9 15 "LowEnergy$Row" "bytes" "[I", .fieldLink RX7 33 "LowEnergy$Mail" "spare" "LLowEnergy$Row;", .fieldLink RX7 43 "LowEnergy$Mail" "controlCount" "I", .fieldLink RX7 20 "LowEnergy$Mail" "controls" "[LLowEnergy$Row;", .fieldLink RX7 39 "LowEnergy$Mail" "controlHead" "I", .methodLink RX11 215 yX5_putSessionParts, .instanceMethod yX5_putSessionParts, .selects RX5 yX5_putSessionParts yX5_putSessionParts, .initialized RX5, .code yX5_putSessionParts cX5_putSessionParts 4 none, .methodLink RX5 61 yX9_put, .fieldLink RX5 19 "LowEnergy$Guard" "iv" "[I", .fieldLink RX5 13 "LowEnergy$Guard" "diversifier" "[I"] : List Cond) ++ (wsX110 ++ (wsX30 ++ (wsX50 ++ (wsX70 ++ (wsX90 ++ ([])))))))
theorem hi_Low_encrypt_X11 : ∀ x ∈ u_ws RX11 TX11 5, x ∈ wp_Low_encrypt := fun _ h => List.mem_cons_of_mem _ (List.mem_append_right _ (List.mem_append_left _ h))
theorem hi_Low_encrypt_X3 : ∀ x ∈ u_ws RX3 TX3 19, x ∈ wp_Low_encrypt := fun _ h => List.mem_cons_of_mem _ (List.mem_append_right _ (List.mem_append_right _ (List.mem_append_left _ h)))
theorem hi_Low_encrypt_X5 : ∀ x ∈ u_ws RX5 TX5 16, x ∈ wp_Low_encrypt := fun _ h => List.mem_cons_of_mem _ (List.mem_append_right _ (List.mem_append_right _ (List.mem_append_right _ (List.mem_append_left _ h))))
theorem hi_Low_encrypt_X7 : ∀ x ∈ u_ws RX7 TX7 16, x ∈ wp_Low_encrypt := fun _ h => List.mem_cons_of_mem _ (List.mem_append_right _ (List.mem_append_right _ (List.mem_append_right _ (List.mem_append_right _ (List.mem_append_left _ h)))))
theorem hi_Low_encrypt_X9 : ∀ x ∈ u_ws RX9 TX9 2, x ∈ wp_Low_encrypt := fun _ h => List.mem_cons_of_mem _ (List.mem_append_right _ (List.mem_append_right _ (List.mem_append_right _ (List.mem_append_right _ (List.mem_append_right _ (List.mem_append_left _ h))))))
set_option maxRecDepth 100000 in
theorem gd_Low_encrypt_Low_find_52 : GoodIn wp_Low_encrypt (wsV RX11 52 RX11 yX11_find wp_Low_find) := goodIn_app (goodIn_r _ [1, 2, 3, 4] rfl rfl) (goodIn_ca (goodIn_r _ [5, 6] rfl rfl) (goodIn_app (goodIn_cls hi_Low_encrypt_X11 gw_X11) (goodIn_nil)))
set_option maxRecDepth 100000 in
theorem gd_Low_encrypt_Device_mayControl_141 : GoodIn wp_Low_encrypt (wsV RX11 141 RX3 yX3_mayControl wp_Device_mayControl) := goodIn_app (goodIn_r _ [7, 8, 9, 10] rfl rfl) (goodIn_ca (goodIn_r _ [11, 12, 13] rfl rfl) (goodIn_app (goodIn_cls hi_Low_encrypt_X3 gw_X3) (goodIn_app (goodIn_cls hi_Low_encrypt_X7 gw_X7) (goodIn_app (goodIn_cls hi_Low_encrypt_X5 gw_X5) (goodIn_nil)))))
set_option maxRecDepth 100000 in
theorem gd_Low_encrypt_drawIntoP_208 : GoodIn wp_Low_encrypt (wsV RX11 208 RX3 yX3_drawInto wp_drawIntoP) := goodIn_app (goodIn_r _ [14, 15, 16, 10] rfl rfl) (goodIn_ca (goodIn_r _ [17, 18, 19, 20, 10, 21, 22, 23] rfl rfl) (goodIn_app (goodIn_cls hi_Low_encrypt_X3 gw_X3) (goodIn_nil)))
set_option maxRecDepth 100000 in
theorem gd_Low_encrypt_Mail_newControl_157 : GoodIn wp_Low_encrypt (wsV RX11 157 RX7 yX7_newControl wp_Mail_newControl) := goodIn_app (goodIn_r _ [24, 25, 26, 27] rfl rfl) (goodIn_ca (goodIn_r _ [28, 29, 30, 31, 32, 33, 34, 35, 36, 37, 38, 39, 40, 41, 42, 43] rfl rfl) (goodIn_app (goodIn_cls hi_Low_encrypt_X9 gw_X9) (goodIn_app (goodIn_cls hi_Low_encrypt_X7 gw_X7) (goodIn_nil))))
set_option maxRecDepth 100000 in
theorem gd_Low_encrypt_Guard_putSessionParts_215 : GoodIn wp_Low_encrypt (wsV RX11 215 RX5 yX5_putSessionParts wp_Guard_putSessionParts) := goodIn_app (goodIn_r _ [44, 45, 46, 47] rfl rfl) (goodIn_ca (goodIn_r _ [48, 49, 36, 37, 32, 38, 34, 39, 50, 51] rfl rfl) (goodIn_app (goodIn_cls hi_Low_encrypt_X9 gw_X9) (goodIn_app (goodIn_cls hi_Low_encrypt_X5 gw_X5) (goodIn_nil))))
set_option maxHeartbeats 4000000 in
set_option maxRecDepth 100000 in
theorem b_Low_encrypt {p : Program} {l : Launch} {e : Env} {R : Room} {s : State} {m : MethodId} {args : Array Value} {below : List Frame} {meth : Method} {c : Code} {D : va_G} {K : Nat → ClassId} {A : Nat → Prop} {Q : State → Prop} {τ : Nat → Option Ty} {dom : List Nat} {zb zL : Nat} {zx : Nat → Int32} {zs : Nat → Nat} (hR : 2 ≤ R.frames ∧ 44 ≤ R.locals) (B : Bx p s m args c cX11_encrypt 3 RX11 wp_Low_encrypt D (tysA K) A) (Z : Sk τ dom) (hz : ZL zb zL zx zs A s s.heap) (h : Nat) (x1 : Int) (t_h : τ h = some (41, 0, 0)) (r_x1 : -2147483648 ≤ x1 ∧ x1 ≤ 2147483647) (σ0 : Nat → va_E) (G0 : Good K τ σ0) (hend : ∀ (σ' : Nat → va_E) (z : Int) (lv : List (Nat × Value)) (pc : Nat), Good K τ σ' → Fr τ [(35, 0), (33, 0), (3, 41), (3, 43), (37, 0), (1, 9), (2, 9)] σ0 σ' → (0 ≤ z ∧ z ≤ 1) → decode cX11_encrypt pc = .ok (.ireturn, 1) → V p l e R s m args below meth c 3 D A Q (0, 0) (fd dom σ') lv pc [.int (iI z)]) : V p l e R s m args below meth c 3 D A Q (0, 0) (fd dom σ0) [(0, .ref h), (1, .int (iI x1))] 0 [] := by
  have F0 : Fr τ [(35, 0), (33, 0), (3, 41), (3, 43), (37, 0), (1, 9), (2, 9)] σ0 σ0 := Fr.rf
  refine v_aload_n B dX11_encrypt_0 rfl rfl ?_
  refine v_iload_n B dX11_encrypt_1 rfl rfl ?_
  refine u_callVq B Z hz (n := 1) (As := [.int (iI x1)]) (rest := []) (c_Low_find l D K Z _ _ _ _ h x1 t_h ⟨by omega, by omega⟩ σ0 G0) gd_Low_encrypt_Low_find_52 rfl rfl rfl (by decide +kernel) ⟨Nat.le_trans (by decide +kernel) hR.1, Nat.le_trans (by decide +kernel) hR.2⟩ t_h (cls_Low G0 t_h) rfl rfl rfl rfl (Nat.le_of_ble_eq_true rfl) dX11_encrypt_2 ⟨Nat.zero_le _, Nat.zero_le _⟩ (fun v3 σ1 p2 => ?_)
  obtain ⟨rfl, q7⟩ := p2
  rcases q7 with rfl | ⟨a8, rfl, t9⟩
  · show V _ _ _ _ _ _ _ _ _ _ _ _ _ _ _ _ _ _ [.null]
    refine v_astore_nN B (lv' := [(2, .null), (0, .ref h), (1, .int (iI x1))]) dX11_encrypt_5 rfl (by decide +kernel) rfl ?_
    refine v_aload_nN B dX11_encrypt_6 rfl rfl ?_
    refine v_ifnullN B (tgt := 45) dX11_encrypt_7 (by decide +kernel) ?_
    refine v_iconst B (v := iI 0) dX11_encrypt_45 rfl ?_
    exact hend σ0 0 _ _ G0 F0 ⟨by omega, by omega⟩ dX11_encrypt_46
  · show V _ _ _ _ _ _ _ _ _ _ _ _ _ _ _ _ _ _ [.ref a8]
    refine v_astore_n B (lv' := [(2, .ref a8), (0, .ref h), (1, .int (iI x1))]) dX11_encrypt_5 rfl (by decide +kernel) rfl ?_
    refine v_aload_n B dX11_encrypt_6 rfl rfl ?_
    refine v_ifnull B dX11_encrypt_7 ?_
    refine v_aload_n B dX11_encrypt_10 rfl rfl ?_
    obtain ⟨z10, yy11, z12, z13, z14, z15, a16, z17, yy18, a19, yy20, a21, a22, a23, a24, a25, a26, a27, a28, h29, r30, r31, r32, r33, r34, r35, t36, r37, r38, t39, r40, t41, t42, t43, t44, t45, t46, t47, t48⟩ : okDevice τ (σ0 a8) := G0 a8 _ t9
    refine u_getN B Z (C := RX3) (T := TX3) (N := 19) (ci := 3) hi_Low_encrypt_X3 t9 h29 rfl 2 (by decide +kernel) (List.mem_of_getElem? (i := 65) rfl) rfl dX11_encrypt_11 ?_
    refine v_iconst B (v := iI 4) dX11_encrypt_14 rfl ?_
    refine u_icmp_ne B (tgt := 45) (by omega) (by omega) dX11_encrypt_15 (by decide +kernel) (fun c49 => ?_) (fun c49 => ?_)
    · refine v_iconst B (v := iI 0) dX11_encrypt_45 rfl ?_
      exact hend σ0 0 _ _ G0 F0 ⟨by omega, by omega⟩ dX11_encrypt_46
    · refine v_aload_n B dX11_encrypt_18 rfl rfl ?_
      refine u_getN B Z (C := RX3) (T := TX3) (N := 19) (ci := 3) hi_Low_encrypt_X3 t9 h29 rfl 13 (by decide +kernel) (List.mem_of_getElem? (i := 10) rfl) rfl dX11_encrypt_19 ?_
      obtain ⟨a50, a51, z52, a53, a54, a55, z56, z57, z58, z59, z60, z61, z62, z63, a64, a65, h66, t67, t68, r69, t70, t71, t72, r73, r74, r75, r76, r77, r78, r79, r80, t81, t82⟩ : okGuard τ (σ0 a23) := G0 a23 _ t43
      refine u_getN B Z (C := RX5) (T := TX5) (N := 16) (ci := 5) hi_Low_encrypt_X5 t43 h66 rfl 2 (by decide +kernel) (List.mem_of_getElem? (i := 11) rfl) rfl dX11_encrypt_22 ?_
      refine u_if_eq B (tgt := 45) (by omega) dX11_encrypt_25 (by decide +kernel) (fun c83 => ?_) (fun c83 => ?_)
      · refine v_iconst B (v := iI 0) dX11_encrypt_45 rfl ?_
        exact hend σ0 0 _ _ G0 F0 ⟨by omega, by omega⟩ dX11_encrypt_46
      · refine v_aload_n B dX11_encrypt_28 rfl rfl ?_
        refine u_getN B Z (C := RX3) (T := TX3) (N := 19) (ci := 3) hi_Low_encrypt_X3 t9 h29 rfl 13 (by decide +kernel) (List.mem_of_getElem? (i := 10) rfl) rfl dX11_encrypt_29 ?_
        refine u_getN B Z (C := RX5) (T := TX5) (N := 16) (ci := 5) hi_Low_encrypt_X5 t43 h66 rfl 9 (by decide +kernel) (List.mem_of_getElem? (i := 12) rfl) rfl dX11_encrypt_32 ?_
        refine u_if_ne B (tgt := 45) (by omega) dX11_encrypt_35 (by decide +kernel) (fun c84 => ?_) (fun c84 => ?_)
        · refine v_iconst B (v := iI 0) dX11_encrypt_45 rfl ?_
          exact hend σ0 0 _ _ G0 F0 ⟨by omega, by omega⟩ dX11_encrypt_46
        · refine v_aload_n B dX11_encrypt_38 rfl rfl ?_
          refine u_callVi B Z hz (n := 0) (As := []) (rest := []) (c_Device_mayControl l D K Z _ _ _ _ a8 t9 σ0 G0) gd_Low_encrypt_Device_mayControl_141 rfl rfl rfl (by decide +kernel) ⟨Nat.le_trans (by decide +kernel) hR.1, Nat.le_trans (by decide +kernel) hR.2⟩ t9 (cls_Device G0 t9) rfl rfl rfl rfl (Nat.le_of_ble_eq_true rfl) dX11_encrypt_39 ⟨Nat.zero_le _, Nat.zero_le _⟩ (fun v87 σ85 p86 => ?_)
          obtain ⟨rfl, z91, e92, r93⟩ := p86
          subst e92
          refine u_if_ne B (tgt := 47) (by omega) dX11_encrypt_42 (by decide +kernel) (fun c94 => ?_) (fun c94 => ?_)
          · refine v_aload_n B dX11_encrypt_47 rfl rfl ?_
            refine u_getN B Z (C := RX3) (T := TX3) (N := 19) (ci := 3) hi_Low_encrypt_X3 t9 h29 rfl 13 (by decide +kernel) (List.mem_of_getElem? (i := 10) rfl) rfl dX11_encrypt_48 ?_
            refine v_iconst B (v := iI 1) dX11_encrypt_51 rfl ?_
            refine u_putN B Z (C := RX5) (T := TX5) (N := 16) (ci := 5) hi_Low_encrypt_X5 t43 h66 rfl 8 (by decide +kernel) tyX5 tyX5_ok nmX5 (List.mem_of_getElem? (i := 13) rfl) rfl (ty := .boolean) (tyX5_ok 8 (by decide +kernel)) (nar01 (by omega)) (fit01 (by omega)) (Nat.le_of_ble_eq_true rfl) (fs' := [.ref a50, .ref a51, .int (iI z52), .ref a53, .ref a54, .ref a55, .int (iI z56), .int (iI z57), .int (iI 1), .int (iI z59), .int (iI z60), .int (iI z61), .int (iI z62), .int (iI z63), .ref a64, .ref a65]) rfl dX11_encrypt_52 (fun σ95 h96 n97 => ?_)
            have G98 := G0.put t43 (⟨a50, a51, z52, a53, a54, a55, z56, z57, 1, z59, z60, z61, z62, z63, a64, a65, h96, t67, t68, ⟨by omega, by omega⟩, t70, t71, t72, ⟨by omega, by omega⟩, ⟨by omega, by omega⟩, ⟨by omega, by omega⟩, ⟨by omega, by omega⟩, ⟨by omega, by omega⟩, ⟨by omega, by omega⟩, ⟨by omega, by omega⟩, ⟨by omega, by omega⟩, t81, t82⟩ : Ok K τ (35, 0, 0) (σ95 a23)) n97
            have F99 := F0.put t43 (by simp) n97
            have h100 := (n97 a8 (ne_ty t9 t43 (by simp))).trans h29
            refine v_aload_n B dX11_encrypt_55 rfl rfl ?_
            refine u_getN B Z (C := RX3) (T := TX3) (N := 19) (ci := 3) hi_Low_encrypt_X3 t9 h100 rfl 13 (by decide +kernel) (List.mem_of_getElem? (i := 10) rfl) rfl dX11_encrypt_56 ?_
            refine v_iconst B (v := iI 1) dX11_encrypt_59 rfl ?_
            refine u_putN B Z (C := RX5) (T := TX5) (N := 16) (ci := 5) hi_Low_encrypt_X5 t43 h96 rfl 7 (by decide +kernel) tyX5 tyX5_ok nmX5 (List.mem_of_getElem? (i := 14) rfl) rfl (ty := .boolean) (tyX5_ok 7 (by decide +kernel)) (nar01 (by omega)) (fit01 (by omega)) (Nat.le_of_ble_eq_true rfl) (fs' := [.ref a50, .ref a51, .int (iI z52), .ref a53, .ref a54, .ref a55, .int (iI z56), .int (iI 1), .int (iI 1), .int (iI z59), .int (iI z60), .int (iI z61), .int (iI z62), .int (iI z63), .ref a64, .ref a65]) rfl dX11_encrypt_60 (fun σ101 h102 n103 => ?_)
            have G104 := G98.put t43 (⟨a50, a51, z52, a53, a54, a55, z56, 1, 1, z59, z60, z61, z62, z63, a64, a65, h102, t67, t68, ⟨by omega, by omega⟩, t70, t71, t72, ⟨by omega, by omega⟩, ⟨by omega, by omega⟩, ⟨by omega, by omega⟩, ⟨by omega, by omega⟩, ⟨by omega, by omega⟩, ⟨by omega, by omega⟩, ⟨by omega, by omega⟩, ⟨by omega, by omega⟩, t81, t82⟩ : Ok K τ (35, 0, 0) (σ101 a23)) n103
            have F105 := F99.put t43 (by simp) n103
            have h106 := (n103 a8 (ne_ty t9 t43 (by simp))).trans h100
            refine v_aload_n B dX11_encrypt_63 rfl rfl ?_
            refine u_getN B Z (C := RX3) (T := TX3) (N := 19) (ci := 3) hi_Low_encrypt_X3 t9 h106 rfl 13 (by decide +kernel) (List.mem_of_getElem? (i := 10) rfl) rfl dX11_encrypt_64 ?_
            refine v_iconst B (v := iI 0) dX11_encrypt_67 rfl ?_
            refine u_putN B Z (C := RX5) (T := TX5) (N := 16) (ci := 5) hi_Low_encrypt_X5 t43 h102 rfl 6 (by decide +kernel) tyX5 tyX5_ok nmX5 (List.mem_of_getElem? (i := 15) rfl) rfl (ty := .boolean) (tyX5_ok 6 (by decide +kernel)) (nar01 (by omega)) (fit01 (by omega)) (Nat.le_of_ble_eq_true rfl) (fs' := [.ref a50, .ref a51, .int (iI z52), .ref a53, .ref a54, .ref a55, .int (iI 0), .int (iI 1), .int (iI 1), .int (iI z59), .int (iI z60), .int (iI z61), .int (iI z62), .int (iI z63), .ref a64, .ref a65]) rfl dX11_encrypt_68 (fun σ107 h108 n109 => ?_)
            have G110 := G104.put t43 (⟨a50, a51, z52, a53, a54, a55, 0, 1, 1, z59, z60, z61, z62, z63, a64, a65, h108, t67, t68, ⟨by omega, by omega⟩, t70, t71, t72, ⟨by omega, by omega⟩, ⟨by omega, by omega⟩, ⟨by omega, by omega⟩, ⟨by omega, by omega⟩, ⟨by omega, by omega⟩, ⟨by omega, by omega⟩, ⟨by omega, by omega⟩, ⟨by omega, by omega⟩, t81, t82⟩ : Ok K τ (35, 0, 0) (σ107 a23)) n109
            have F111 := F105.put t43 (by simp) n109
            have h112 := (n109 a8 (ne_ty t9 t43 (by simp))).trans h106
            refine v_aload_n B dX11_encrypt_71 rfl rfl ?_
            refine v_aload_n B dX11_encrypt_72 rfl rfl ?_
            refine u_getN B Z (C := RX3) (T := TX3) (N := 19) (ci := 3) hi_Low_encrypt_X3 t9 h112 rfl 13 (by decide +kernel) (List.mem_of_getElem? (i := 10) rfl) rfl dX11_encrypt_73 ?_
            refine u_getN B Z (C := RX5) (T := TX5) (N := 16) (ci := 5) hi_Low_encrypt_X5 t43 h108 rfl 3 (by decide +kernel) (List.mem_of_getElem? (i := 16) rfl) rfl dX11_encrypt_76 ?_
            refine v_iconst B (v := iI 0) dX11_encrypt_79 rfl ?_
            refine v_bipush B (v := iI 8) dX11_encrypt_80 (by decide +kernel) ?_
            refine u_callVv B Z hz (n := 3) (As := [.ref a53, .int (iI 0), .int (iI 8)]) (rest := []) (c_drawIntoP l D K Z _ _ _ _ a8 a53 0 8 t9 t70 ⟨by omega, by omega⟩ ⟨by omega, by omega⟩ σ107 G110) gd_Low_encrypt_drawIntoP_208 rfl rfl rfl (by decide +kernel) ⟨Nat.le_trans (by decide +kernel) hR.1, Nat.le_trans (by decide +kernel) hR.2⟩ t9 (cls_Device G110 t9) rfl rfl rfl rfl (Nat.le_of_ble_eq_true rfl) dX11_encrypt_82 ⟨Nat.zero_le _, Nat.zero_le _⟩ (fun σ113 p114 => ?_)
            obtain ⟨G116, F117⟩ := p114
            have F118 := F111.call F117 (by first | rfl | simp)
            have h119 := (F117 a23 _ t43 (by first | rfl | simp)).trans h108
            refine v_aload_n B dX11_encrypt_85 rfl rfl ?_
            refine v_aload_n B dX11_encrypt_86 rfl rfl ?_
            obtain ⟨z120, yy121, z122, z123, z124, z125, a126, z127, yy128, a129, yy130, a131, a132, a133, a134, a135, a136, a137, a138, h139, r140, r141, r142, r143, r144, r145, t146, r147, r148, t149, r150, t151, t152, t153, t154, t155, t156, t157, t158⟩ : okDevice τ (σ113 a8) := G116 a8 _ t9
            refine u_getN B Z (C := RX3) (T := TX3) (N := 19) (ci := 3) hi_Low_encrypt_X3 t9 h139 rfl 13 (by decide +kernel) (List.mem_of_getElem? (i := 10) rfl) rfl dX11_encrypt_87 ?_
            obtain ⟨a159, a160, z161, a162, a163, a164, z165, z166, z167, z168, z169, z170, z171, z172, a173, a174, h175, t176, t177, r178, t179, t180, t181, r182, r183, r184, r185, r186, r187, r188, r189, t190, t191⟩ : okGuard τ (σ113 a133) := G116 a133 _ t153
            refine u_getN B Z (C := RX5) (T := TX5) (N := 16) (ci := 5) hi_Low_encrypt_X5 t153 h175 rfl 5 (by decide +kernel) (List.mem_of_getElem? (i := 17) rfl) rfl dX11_encrypt_90 ?_
            refine v_iconst B (v := iI 0) dX11_encrypt_93 rfl ?_
            refine v_iconst B (v := iI 4) dX11_encrypt_94 rfl ?_
            refine u_callVv B Z hz (n := 3) (As := [.ref a164, .int (iI 0), .int (iI 4)]) (rest := []) (c_drawIntoP l D K Z _ _ _ _ a8 a164 0 4 t9 t181 ⟨by omega, by omega⟩ ⟨by omega, by omega⟩ σ113 G116) gd_Low_encrypt_drawIntoP_208 rfl rfl rfl (by decide +kernel) ⟨Nat.le_trans (by decide +kernel) hR.1, Nat.le_trans (by decide +kernel) hR.2⟩ t9 (cls_Device G116 t9) rfl rfl rfl rfl (Nat.le_of_ble_eq_true rfl) dX11_encrypt_95 ⟨Nat.zero_le _, Nat.zero_le _⟩ (fun σ192 p193 => ?_)
            obtain ⟨G195, F196⟩ := p193
            have F197 := F118.call F196 (by first | rfl | simp)
            have h198 := (F196 a23 _ t43 (by first | rfl | simp)).trans h119
            have h199 := (F196 a133 _ t153 (by first | rfl | simp)).trans h175
            refine v_aload_n B dX11_encrypt_98 rfl rfl ?_
            obtain ⟨z200, yy201, z202, z203, z204, z205, a206, z207, yy208, a209, yy210, a211, a212, a213, a214, a215, a216, a217, a218, h219, r220, r221, r222, r223, r224, r225, t226, r227, r228, t229, r230, t231, t232, t233, t234, t235, t236, t237, t238⟩ : okDevice τ (σ192 a8) := G195 a8 _ t9
            refine u_getN B Z (C := RX3) (T := TX3) (N := 19) (ci := 3) hi_Low_encrypt_X3 t9 h219 rfl 13 (by decide +kernel) (List.mem_of_getElem? (i := 10) rfl) rfl dX11_encrypt_99 ?_
            refine v_aload_n B dX11_encrypt_102 rfl rfl ?_
            refine u_getN B Z (C := RX3) (T := TX3) (N := 19) (ci := 3) hi_Low_encrypt_X3 t9 h219 rfl 12 (by decide +kernel) (List.mem_of_getElem? (i := 5) rfl) rfl dX11_encrypt_103 ?_
            refine v_iconst B (v := iI 3) dX11_encrypt_106 rfl ?_
            refine u_callVq B Z hz (n := 1) (As := [.int (iI 3)]) (rest := [.ref a213]) (c_Mail_newControl l D K Z _ _ _ _ a212 3 t232 ⟨by omega, by omega⟩ σ192 G195) gd_Low_encrypt_Mail_newControl_157 rfl rfl rfl (by decide +kernel) ⟨Nat.le_trans (by decide +kernel) hR.1, Nat.le_trans (by decide +kernel) hR.2⟩ t232 (cls_Mail G195 t232) rfl rfl rfl rfl (Nat.le_of_ble_eq_true rfl) dX11_encrypt_107 ⟨Nat.zero_le _, Nat.zero_le _⟩ (fun v241 σ239 p240 => ?_)
            obtain ⟨G242, F243, q245⟩ := p240
            have F244 := F197.call F243 (by first | rfl | simp)
            have h246 := (F243 a23 _ t43 (by first | rfl | simp)).trans h198
            have h247 := (F243 a133 _ t153 (by first | rfl | simp)).trans h199
            have h248 := (F243 a8 _ t9 (by first | rfl | simp)).trans h219
            obtain ⟨a249, rfl, t250⟩ := q245
            show V _ _ _ _ _ _ _ _ _ _ _ _ _ _ _ _ _ _ [.ref a249, .ref a213]
            refine v_iconst B (v := iI 0) dX11_encrypt_110 rfl ?_
            refine u_callVv B Z hz (n := 2) (As := [.ref a249, .int (iI 0)]) (rest := []) (c_Guard_putSessionParts l D K Z _ _ _ _ a213 a249 0 t233 t250 ⟨by omega, by omega⟩ σ239 G242) gd_Low_encrypt_Guard_putSessionParts_215 rfl rfl rfl (by decide +kernel) ⟨Nat.le_trans (by decide +kernel) hR.1, Nat.le_trans (by decide +kernel) hR.2⟩ t233 (cls_Guard G242 t233) rfl rfl rfl rfl (Nat.le_of_ble_eq_true rfl) dX11_encrypt_111 ⟨Nat.zero_le _, Nat.zero_le _⟩ (fun σ251 p252 => ?_)
            obtain ⟨G254, F255⟩ := p252
            have F256 := F244.call F255 (by first | rfl | simp)
            have h257 := (F255 a23 _ t43 (by first | rfl | simp)).trans h246
            have h258 := (F255 a133 _ t153 (by first | rfl | simp)).trans h247
            have h259 := (F255 a8 _ t9 (by first | rfl | simp)).trans h248
            refine v_iconst B (v := iI 1) dX11_encrypt_114 rfl ?_
            exact hend σ251 1 _ _ G254 F256 ⟨by omega, by omega⟩ dX11_encrypt_115
          · refine v_iconst B (v := iI 0) dX11_encrypt_45 rfl ?_
            exact hend σ0 0 _ _ G0 F0 ⟨by omega, by omega⟩ dX11_encrypt_46
set_option maxRecDepth 100000 in
theorem c_Low_encrypt (l : Launch) (D : va_G) (K : Nat → ClassId) {τ : Nat → Option Ty} {dom : List Nat} (Z : Sk τ dom) (zb zL : Nat) (zx : Nat → Int32) (zs : Nat → Nat) (h : Nat) (x1 : Int) (t_h : τ h = some (41, 0, 0)) (r_x1 : -2147483648 ≤ x1 ∧ x1 ≤ 2147483647) (σ0 : Nat → va_E) (G0 : Good K τ σ0) : MZ l yX11_encrypt wp_Low_encrypt ({ frames := 2, cells := 0, slots := 0, locals := 44 }) D (tysA K) [.ref h, .int (iI x1)] (fd dom σ0) zb zL zx zs (Qi D (fun r σ' => Good K τ σ' ∧ Fr τ [(35, 0), (33, 0), (3, 41), (3, 43), (37, 0), (1, 9), (2, 9)] σ0 σ' ∧ ∃ z : Int, r = iI z ∧ (0 ≤ z ∧ z ≤ 1)) (fun σ' => fd dom σ')) 0 0 := by
  refine mz_of (cc := cX11_encrypt) (maxL := 3) (ret := (some .boolean)) (by decide +kernel) rfl (Nat.le_of_ble_eq_true rfl) ?_
  intro p e s m below meth c A B hr hlk _ hz
  exact b_Low_encrypt ⟨Nat.le_refl _, Nat.le_refl _⟩ B Z hz h x1 t_h r_x1 σ0 G0 (fun σ' z lv pc G F hZ hd => v_zret B hr hlk (nar01 (by omega)) σ' ⟨G, F, z, rfl, hZ⟩ rfl (Nat.le_refl _) (Nat.le_refl _) hd)

def wp_Low_pair : List Cond := .code yX11_pair cX11_pair 4 (some .boolean) :: (([.methodLink RX11 52 yX11_find, .instanceMethod yX11_find, .selects RX11 yX11_find yX11_find, .initialized RX11, .code yX11_find cX11_find 2 (some (.object "LowEnergy$Device")), .fieldLink RX11 9 "LowEnergy" "devices" "[LLowEnergy$Device;", .methodLink RX11 222 yX7_isFull, .instanceMethod yX7_isFull, .selects RX7 yX7_isFull yX7_isFull, .initialized RX7, .code yX7_isFull cX7_isFull 1 (some .boolean), .fieldLink RX7 53 "LowEnergy$Mail" "messageCount" "I", .constant RX11 110 (999999), .methodLink RX11 78 yX9_clear, .instanceMethod yX9_clear, .selects RX9 yX9_clear yX9_clear, .initialized RX9, .code yX9_clear cX9_clear 1 none, .fieldLink RX9 21 "LowEnergy$Row" "size" "I", .methodLink RX11 228 yX8_start, .instanceMethod yX8_start, .selects RX8 yX8_start yX8_start, .initialized RX8, .code yX8_start cX8_start 3 none, .methodLink RX8 35 yX8_putOffer, .static yX8_putOffer, .code yX8_putOffer cX8_putOffer 2 none, .methodLink RX8 96 yX9_put, .instanceMethod yX9_put, .selects RX9 yX9_put yX9_put, .code yX9_put cX9_put 2 none, .fieldLink RX9 15 "LowEnergy$Row" "bytes" "[I", .methodLink RX8 39 yX8_keepOffer, .instanceMethod yX8_keepOffer, .selects RX8 yX8_keepOffer yX8_keepOffer, .code yX8_keepOffer cX8_keepOffer 4 none, .fieldLink RX8 19 "LowEnergy$Pairing" "bothMessages" "[I", .methodLink RX8 55 yX9_at, .instanceMethod yX9_at, .selects RX9 yX9_at yX9_at, .code yX9_at cX9_at 2 (some .int), .methodLink RX8 43 yX8_useKey, .instanceMethod yX8_useKey, .selects RX8 yX8_useKey yX8_useKey, .code yX8_useKey cX8_useKey 3 none, .fieldLink RX8 15 "LowEnergy$Pairing" "temporaryKey" "[I", .fieldLink RX8 47 "LowEnergy$Pairing" "step" "I", .methodLink RX11 232 yX7_post, .instanceMethod yX7_post, .selects RX7 yX7_post yX7_post, .code yX7_post cX7_post 4 none, .methodLink RX7 84 yX7_isFull, .fieldLink RX7 24 "LowEnergy$Mail" "messages" "[LLowEnergy$Row;", .fieldLink RX7 50 "LowEnergy$Mail" "messageHead" "I", .methodLink RX7 62 yX9_clear, .methodLink RX7 78 yX9_putNumber, .instanceMethod yX9_putNumber, .selects RX9 yX9_putNumber yX9_putNumber, .code yX9_putNumber cX9_putNumber 5 none, .constantLong RX9 25 (255), .methodLink RX7 91 yX9_putPart, .instanceMethod yX9_putPart, .selects RX9 yX9_putPart yX9_putPart, .code yX9_putPart cX9_putPart 6 none, .methodLink RX9 9 Lib.Math.max.name, .static Lib.Math.max.name, .initialized "java/lang/Math", .code Lib.Math.max.name Lib.Math.max.code 2 (some .int)] : List Cond) ++ (wsX110 ++ (wsX30 ++ (wsX80 ++ (wsX70 ++ (wsX90 ++ ([])))))))
theorem hi_Low_pair_X11 : ∀ x ∈ u_ws RX11 TX11 5, x ∈ wp_Low_pair := fun _ h => List.mem_cons_of_mem _ (List.mem_append_right _ (List.mem_append_left _ h))
theorem hi_Low_pair_X3 : ∀ x ∈ u_ws RX3 TX3 19, x ∈ wp_Low_pair := fun _ h => List.mem_cons_of_mem _ (List.mem_append_right _ (List.mem_append_right _ (List.mem_append_left _ h)))
theorem hi_Low_pair_X8 : ∀ x ∈ u_ws RX8 TX8 8, x ∈ wp_Low_pair := fun _ h => List.mem_cons_of_mem _ (List.mem_append_right _ (List.mem_append_right _ (List.mem_append_right _ (List.mem_append_left _ h))))
theorem hi_Low_pair_X7 : ∀ x ∈ u_ws RX7 TX7 16, x ∈ wp_Low_pair := fun _ h => List.mem_cons_of_mem _ (List.mem_append_right _ (List.mem_append_right _ (List.mem_append_right _ (List.mem_append_right _ (List.mem_append_left _ h)))))
theorem hi_Low_pair_X9 : ∀ x ∈ u_ws RX9 TX9 2, x ∈ wp_Low_pair := fun _ h => List.mem_cons_of_mem _ (List.mem_append_right _ (List.mem_append_right _ (List.mem_append_right _ (List.mem_append_right _ (List.mem_append_right _ (List.mem_append_left _ h))))))
set_option maxRecDepth 100000 in
theorem gd_Low_pair_Low_find_52 : GoodIn wp_Low_pair (wsV RX11 52 RX11 yX11_find wp_Low_find) := goodIn_app (goodIn_r _ [1, 2, 3, 4] rfl rfl) (goodIn_ca (goodIn_r _ [5, 6] rfl rfl) (goodIn_app (goodIn_cls hi_Low_pair_X11 gw_X11) (goodIn_nil)))
set_option maxRecDepth 100000 in
theorem gd_Low_pair_Mail_isFull_222 : GoodIn wp_Low_pair (wsV RX11 222 RX7 yX7_isFull wp_Mail_isFull) := goodIn_app (goodIn_r _ [7, 8, 9, 10] rfl rfl) (goodIn_ca (goodIn_r _ [11, 12] rfl rfl) (goodIn_app (goodIn_cls hi_Low_pair_X7 gw_X7) (goodIn_nil)))
set_option maxRecDepth 100000 in
theorem gd_Low_pair_Row_clear_78 : GoodIn wp_Low_pair (wsV RX11 78 RX9 yX9_clear wp_Row_clear) := goodIn_app (goodIn_r _ [14, 15, 16, 17] rfl rfl) (goodIn_ca (goodIn_r _ [18, 19] rfl rfl) (goodIn_app (goodIn_cls hi_Low_pair_X9 gw_X9) (goodIn_nil)))
set_option maxRecDepth 100000 in
theorem gd_Low_pair_Pairing_start_228 : GoodIn wp_Low_pair (wsV RX11 228 RX8 yX8_start wp_Pairing_start) := goodIn_app (goodIn_r _ [20, 21, 22, 23] rfl rfl) (goodIn_ca (goodIn_r _ [24, 25, 26, 23, 27, 28, 29, 30, 17, 31, 19, 32, 33, 34, 35, 36, 37, 38, 39, 40, 41, 42, 43, 44, 45, 46, 47] rfl rfl) (goodIn_app (goodIn_cls hi_Low_pair_X9 gw_X9) (goodIn_app (goodIn_cls hi_Low_pair_X8 gw_X8) (goodIn_nil))))
set_option maxRecDepth 100000 in
theorem gd_Low_pair_Mail_post_232 : GoodIn wp_Low_pair (wsV RX11 232 RX7 yX7_post wp_Mail_post) := goodIn_app (goodIn_r _ [48, 49, 50, 10] rfl rfl) (goodIn_ca (goodIn_r _ [51, 52, 8, 9, 10, 11, 12, 53, 54, 55, 15, 16, 17, 18, 19, 56, 57, 58, 59, 32, 60, 61, 62, 63, 64, 65, 66, 67, 68] rfl rfl) (goodIn_app (goodIn_cls hi_Low_pair_X7 gw_X7) (goodIn_app (goodIn_cls hi_Low_pair_X9 gw_X9) (goodIn_nil))))
set_option maxHeartbeats 4000000 in
set_option maxRecDepth 100000 in
theorem b_Low_pair {p : Program} {l : Launch} {e : Env} {R : Room} {s : State} {m : MethodId} {args : Array Value} {below : List Frame} {meth : Method} {c : Code} {D : va_G} {K : Nat → ClassId} {A : Nat → Prop} {Q : State → Prop} {τ : Nat → Option Ty} {dom : List Nat} {zb zL : Nat} {zx : Nat → Int32} {zs : Nat → Nat} (hR : 3 ≤ R.frames ∧ 66 ≤ R.locals) (B : Bx p s m args c cX11_pair 4 RX11 wp_Low_pair D (tysA K) A) (Z : Sk τ dom) (hz : ZL zb zL zx zs A s s.heap) (h : Nat) (x1 : Int) (x2 : Int) (t_h : τ h = some (41, 0, 0)) (r_x1 : -2147483648 ≤ x1 ∧ x1 ≤ 2147483647) (r_x2 : -2147483648 ≤ x2 ∧ x2 ≤ 2147483647) (σ0 : Nat → va_E) (G0 : Good K τ σ0) (hend : ∀ (σ' : Nat → va_E) (z : Int) (lv : List (Nat × Value)) (pc : Nat), Good K τ σ' → Fr τ [(1, 8), (2, 8), (2, 33), (3, 46), (38, 0), (1, 10), (2, 10), (37, 0)] σ0 σ' → (0 ≤ z ∧ z ≤ 1) → decode cX11_pair pc = .ok (.ireturn, 1) → V p l e R s m args below meth c 4 D A Q (0, 0) (fd dom σ') lv pc [.int (iI z)]) : V p l e R s m args below meth c 4 D A Q (0, 0) (fd dom σ0) [(0, .ref h), (1, .int (iI x1)), (2, .int (iI x2))] 0 [] := by
  have F0 : Fr τ [(1, 8), (2, 8), (2, 33), (3, 46), (38, 0), (1, 10), (2, 10), (37, 0)] σ0 σ0 := Fr.rf
  refine v_aload_n B dX11_pair_0 rfl rfl ?_
  refine v_iload_n B dX11_pair_1 rfl rfl ?_
  refine u_callVq B Z hz (n := 1) (As := [.int (iI x1)]) (rest := []) (c_Low_find l D K Z _ _ _ _ h x1 t_h ⟨by omega, by omega⟩ σ0 G0) gd_Low_pair_Low_find_52 rfl rfl rfl (by decide +kernel) ⟨Nat.le_trans (by decide +kernel) hR.1, Nat.le_trans (by decide +kernel) hR.2⟩ t_h (cls_Low G0 t_h) rfl rfl rfl rfl (Nat.le_of_ble_eq_true rfl) dX11_pair_2 ⟨Nat.zero_le _, Nat.zero_le _⟩ (fun v3 σ1 p2 => ?_)
  obtain ⟨rfl, q7⟩ := p2
  rcases q7 with rfl | ⟨a8, rfl, t9⟩
  · show V _ _ _ _ _ _ _ _ _ _ _ _ _ _ _ _ _ _ [.null]
    refine v_astore_nN B (lv' := [(3, .null), (0, .ref h), (1, .int (iI x1)), (2, .int (iI x2))]) dX11_pair_5 rfl (by decide +kernel) rfl ?_
    refine v_aload_nN B dX11_pair_6 rfl rfl ?_
    refine v_ifnullN B (tgt := 48) dX11_pair_7 (by decide +kernel) ?_
    refine v_iconst B (v := iI 0) dX11_pair_48 rfl ?_
    exact hend σ0 0 _ _ G0 F0 ⟨by omega, by omega⟩ dX11_pair_49
  · show V _ _ _ _ _ _ _ _ _ _ _ _ _ _ _ _ _ _ [.ref a8]
    refine v_astore_n B (lv' := [(3, .ref a8), (0, .ref h), (1, .int (iI x1)), (2, .int (iI x2))]) dX11_pair_5 rfl (by decide +kernel) rfl ?_
    refine v_aload_n B dX11_pair_6 rfl rfl ?_
    refine v_ifnull B dX11_pair_7 ?_
    refine v_aload_n B dX11_pair_10 rfl rfl ?_
    obtain ⟨z10, yy11, z12, z13, z14, z15, a16, z17, yy18, a19, yy20, a21, a22, a23, a24, a25, a26, a27, a28, h29, r30, r31, r32, r33, r34, r35, t36, r37, r38, t39, r40, t41, t42, t43, t44, t45, t46, t47, t48⟩ : okDevice τ (σ0 a8) := G0 a8 _ t9
    refine u_getN B Z (C := RX3) (T := TX3) (N := 19) (ci := 3) hi_Low_pair_X3 t9 h29 rfl 2 (by decide +kernel) (List.mem_of_getElem? (i := 65) rfl) rfl dX11_pair_11 ?_
    refine v_iconst B (v := iI 4) dX11_pair_14 rfl ?_
    refine u_icmp_ne B (tgt := 48) (by omega) (by omega) dX11_pair_15 (by decide +kernel) (fun c49 => ?_) (fun c49 => ?_)
    · refine v_iconst B (v := iI 0) dX11_pair_48 rfl ?_
      exact hend σ0 0 _ _ G0 F0 ⟨by omega, by omega⟩ dX11_pair_49
    · refine v_aload_n B dX11_pair_18 rfl rfl ?_
      refine u_getN B Z (C := RX3) (T := TX3) (N := 19) (ci := 3) hi_Low_pair_X3 t9 h29 rfl 14 (by decide +kernel) (List.mem_of_getElem? (i := 0) rfl) rfl dX11_pair_19 ?_
      obtain ⟨a50, z51, z52, a53, a54, a55, a56, a57, h58, t59, r60, r61, t62, t63, t64, t65, t66⟩ : okPairing τ (σ0 a24) := G0 a24 _ t44
      refine u_getN B Z (C := RX8) (T := TX8) (N := 8) (ci := 8) hi_Low_pair_X8 t44 h58 rfl 2 (by decide +kernel) (List.mem_of_getElem? (i := 18) rfl) rfl dX11_pair_22 ?_
      refine u_if_ne B (tgt := 48) (by omega) dX11_pair_25 (by decide +kernel) (fun c67 => ?_) (fun c67 => ?_)
      · refine v_iconst B (v := iI 0) dX11_pair_48 rfl ?_
        exact hend σ0 0 _ _ G0 F0 ⟨by omega, by omega⟩ dX11_pair_49
      · refine v_aload_n B dX11_pair_28 rfl rfl ?_
        refine u_getN B Z (C := RX3) (T := TX3) (N := 19) (ci := 3) hi_Low_pair_X3 t9 h29 rfl 12 (by decide +kernel) (List.mem_of_getElem? (i := 5) rfl) rfl dX11_pair_29 ?_
        refine u_callVi B Z hz (n := 0) (As := []) (rest := []) (c_Mail_isFull l D K Z _ _ _ _ a22 t42 σ0 G0) gd_Low_pair_Mail_isFull_222 rfl rfl rfl (by decide +kernel) ⟨Nat.le_trans (by decide +kernel) hR.1, Nat.le_trans (by decide +kernel) hR.2⟩ t42 (cls_Mail G0 t42) rfl rfl rfl rfl (Nat.le_of_ble_eq_true rfl) dX11_pair_32 ⟨Nat.zero_le _, Nat.zero_le _⟩ (fun v70 σ68 p69 => ?_)
        obtain ⟨rfl, z74, e75, r76, fl77⟩ := p69
        subst e75
        obtain ⟨a78, z79, z80, a81, z82, z83, z84, a85, z86, z87, z88, a89, z90, a91, z92, a93, h94, t95, r96, r97, t98, r99, r100, r101, t102, r103, r104, r105, t106, r107, t108, r109, t110⟩ : okMail τ (σ0 a22) := G0 a22 _ t42
        have r111 : z74 = 0 → z87 ≤ 7 := fun q => (fl77 q).use h94 (j := 9) rfl (by omega)
        refine u_if_ne B (tgt := 48) (by omega) dX11_pair_35 (by decide +kernel) (fun c112 => ?_) (fun c112 => ?_)
        · refine v_iconst B (v := iI 0) dX11_pair_48 rfl ?_
          exact hend σ0 0 _ _ G0 F0 ⟨by omega, by omega⟩ dX11_pair_49
        · refine v_iload_n B dX11_pair_38 rfl rfl ?_
          refine u_if_lt B (tgt := 48) (by omega) dX11_pair_39 (by decide +kernel) (fun c113 => ?_) (fun c113 => ?_)
          · refine v_iconst B (v := iI 0) dX11_pair_48 rfl ?_
            exact hend σ0 0 _ _ G0 F0 ⟨by omega, by omega⟩ dX11_pair_49
          · refine v_iload_n B dX11_pair_42 rfl rfl ?_
            refine v_ldc B (v := iI 999999) (u_ci (List.mem_of_getElem? (i := 13) rfl) (by decide +kernel)) dX11_pair_43 ?_
            refine u_icmp_le B (tgt := 50) (by omega) (by omega) dX11_pair_45 (by decide +kernel) (fun c114 => ?_) (fun c114 => ?_)
            · refine v_aload_n B dX11_pair_50 rfl rfl ?_
              refine u_getN B Z (C := RX3) (T := TX3) (N := 19) (ci := 3) hi_Low_pair_X3 t9 h29 rfl 18 (by decide +kernel) (List.mem_of_getElem? (i := 19) rfl) rfl dX11_pair_51 ?_
              refine u_callVv B Z hz (n := 0) (As := []) (rest := []) (c_Row_clear l D K Z _ _ _ _ a28 t48 σ0 G0) gd_Low_pair_Row_clear_78 rfl rfl rfl (by decide +kernel) ⟨Nat.le_trans (by decide +kernel) hR.1, Nat.le_trans (by decide +kernel) hR.2⟩ t48 (cls_Row G0 t48) rfl rfl rfl rfl (Nat.le_of_ble_eq_true rfl) dX11_pair_54 ⟨Nat.zero_le _, Nat.zero_le _⟩ (fun σ115 p116 => ?_)
              obtain ⟨G118, F119⟩ := p116
              have F120 := F0.call F119 (by first | rfl | simp)
              have h121 := (F119 a8 _ t9 (by first | rfl | simp)).trans h29
              have h122 := (F119 a24 _ t44 (by first | rfl | simp)).trans h58
              have h123 := (F119 a22 _ t42 (by first | rfl | simp)).trans h94
              refine v_aload_n B dX11_pair_57 rfl rfl ?_
              refine u_getN B Z (C := RX3) (T := TX3) (N := 19) (ci := 3) hi_Low_pair_X3 t9 h121 rfl 14 (by decide +kernel) (List.mem_of_getElem? (i := 0) rfl) rfl dX11_pair_58 ?_
              refine v_iload_n B dX11_pair_61 rfl rfl ?_
              refine v_aload_n B dX11_pair_62 rfl rfl ?_
              refine u_getN B Z (C := RX3) (T := TX3) (N := 19) (ci := 3) hi_Low_pair_X3 t9 h121 rfl 18 (by decide +kernel) (List.mem_of_getElem? (i := 19) rfl) rfl dX11_pair_63 ?_
              refine u_callVv B Z hz (n := 2) (As := [.int (iI x2), .ref a28]) (rest := []) (c_Pairing_start l D K Z _ _ _ _ a24 x2 a28 t44 ⟨by omega, by omega⟩ t48 σ115 G118) gd_Low_pair_Pairing_start_228 rfl rfl rfl (by decide +kernel) ⟨Nat.le_trans (by decide +kernel) hR.1, Nat.le_trans (by decide +kernel) hR.2⟩ t44 (cls_Pairing G118 t44) rfl rfl rfl rfl (Nat.le_of_ble_eq_true rfl) dX11_pair_66 ⟨Nat.zero_le _, Nat.zero_le _⟩ (fun σ124 p125 => ?_)
              obtain ⟨G127, F128⟩ := p125
              have F129 := F120.call F128 (by first | rfl | simp)
              have h130 := (F128 a8 _ t9 (by first | rfl | simp)).trans h121
              have h131 := (F128 a22 _ t42 (by first | rfl | simp)).trans h123
              refine v_aload_n B dX11_pair_69 rfl rfl ?_
              refine u_getN B Z (C := RX3) (T := TX3) (N := 19) (ci := 3) hi_Low_pair_X3 t9 h130 rfl 12 (by decide +kernel) (List.mem_of_getElem? (i := 5) rfl) rfl dX11_pair_70 ?_
              refine v_bipush B (v := iI 6) dX11_pair_73 (by decide +kernel) ?_
              refine v_aload_n B dX11_pair_75 rfl rfl ?_
              refine u_getN B Z (C := RX3) (T := TX3) (N := 19) (ci := 3) hi_Low_pair_X3 t9 h130 rfl 18 (by decide +kernel) (List.mem_of_getElem? (i := 19) rfl) rfl dX11_pair_76 ?_
              refine u_callVv B Z hz (n := 2) (As := [.int (iI 6), .ref a28]) (rest := []) (c_Mail_post l D K Z _ _ _ _ a22 6 a28 t42 ⟨by omega, by omega⟩ t48 σ124 G127) gd_Low_pair_Mail_post_232 rfl rfl rfl (by decide +kernel) ⟨Nat.le_trans (by decide +kernel) hR.1, Nat.le_trans (by decide +kernel) hR.2⟩ t42 (cls_Mail G127 t42) rfl rfl rfl rfl (Nat.le_of_ble_eq_true rfl) dX11_pair_79 ⟨Nat.zero_le _, Nat.zero_le _⟩ (fun σ132 p133 => ?_)
              obtain ⟨G135, F136⟩ := p133
              have F137 := F129.call F136 (by first | rfl | simp)
              have h138 := (F136 a8 _ t9 (by first | rfl | simp)).trans h130
              refine v_iconst B (v := iI 1) dX11_pair_82 rfl ?_
              exact hend σ132 1 _ _ G135 F137 ⟨by omega, by omega⟩ dX11_pair_83
            · refine v_iconst B (v := iI 0) dX11_pair_48 rfl ?_
              exact hend σ0 0 _ _ G0 F0 ⟨by omega, by omega⟩ dX11_pair_49
set_option maxRecDepth 100000 in
theorem c_Low_pair (l : Launch) (D : va_G) (K : Nat → ClassId) {τ : Nat → Option Ty} {dom : List Nat} (Z : Sk τ dom) (zb zL : Nat) (zx : Nat → Int32) (zs : Nat → Nat) (h : Nat) (x1 : Int) (x2 : Int) (t_h : τ h = some (41, 0, 0)) (r_x1 : -2147483648 ≤ x1 ∧ x1 ≤ 2147483647) (r_x2 : -2147483648 ≤ x2 ∧ x2 ≤ 2147483647) (σ0 : Nat → va_E) (G0 : Good K τ σ0) : MZ l yX11_pair wp_Low_pair ({ frames := 3, cells := 0, slots := 0, locals := 66 }) D (tysA K) [.ref h, .int (iI x1), .int (iI x2)] (fd dom σ0) zb zL zx zs (Qi D (fun r σ' => Good K τ σ' ∧ Fr τ [(1, 8), (2, 8), (2, 33), (3, 46), (38, 0), (1, 10), (2, 10), (37, 0)] σ0 σ' ∧ ∃ z : Int, r = iI z ∧ (0 ≤ z ∧ z ≤ 1)) (fun σ' => fd dom σ')) 0 0 := by
  refine mz_of (cc := cX11_pair) (maxL := 4) (ret := (some .boolean)) (by decide +kernel) rfl (Nat.le_of_ble_eq_true rfl) ?_
  intro p e s m below meth c A B hr hlk _ hz
  exact b_Low_pair ⟨Nat.le_refl _, Nat.le_refl _⟩ B Z hz h x1 x2 t_h r_x1 r_x2 σ0 G0 (fun σ' z lv pc G F hZ hd => v_zret B hr hlk (nar01 (by omega)) σ' ⟨G, F, z, rfl, hZ⟩ rfl (Nat.le_refl _) (Nat.le_refl _) hd)

def wp_Low_job : List Cond := .code yX11_job cX11_job 7 (some .boolean) :: (([.methodLink RX11 78 yX9_clear, .instanceMethod yX9_clear, .selects RX9 yX9_clear yX9_clear, .initialized RX9, .code yX9_clear cX9_clear 1 none, .fieldLink RX9 21 "LowEnergy$Row" "size" "I", .methodLink RX11 251 yX2_firstHandle, .instanceMethod yX2_firstHandle, .selects RX2 yX2_firstHandle yX2_firstHandle, .initialized RX2, .code yX2_firstHandle cX2_firstHandle 1 (some .int), .fieldLink RX2 24 "LowEnergy$Client" "a" "I", .fieldLink RX2 9 "LowEnergy$Client" "kind" "I", .methodLink RX11 255 yX2_ask, .instanceMethod yX2_ask, .selects RX2 yX2_ask yX2_ask, .code yX2_ask cX2_ask 4 none, .methodLink RX2 70 yX9_at, .instanceMethod yX9_at, .selects RX9 yX9_at yX9_at, .code yX9_at cX9_at 2 (some .int), .fieldLink RX9 15 "LowEnergy$Row" "bytes" "[I", .fieldLink RX2 30 "LowEnergy$Client" "askedOp" "I", .methodLink RX2 40 yX9_put, .instanceMethod yX9_put, .selects RX9 yX9_put yX9_put, .code yX9_put cX9_put 2 none, .methodLink RX2 48 yX9_putNumber, .instanceMethod yX9_putNumber, .selects RX9 yX9_putNumber yX9_putNumber, .code yX9_putNumber cX9_putNumber 5 none, .constantLong RX9 25 (255), .fieldLink RX2 20 "LowEnergy$Client" "bytes" "LLowEnergy$Row;", .methodLink RX2 52 yX2_putRange, .instanceMethod yX2_putRange, .selects RX2 yX2_putRange yX2_putRange, .code yX2_putRange cX2_putRange 5 none, .methodLink RX2 74 yX2_lastHandle, .instanceMethod yX2_lastHandle, .selects RX2 yX2_lastHandle yX2_lastHandle, .code yX2_lastHandle cX2_lastHandle 1 (some .int), .fieldLink RX2 27 "LowEnergy$Client" "b" "I", .constant RX2 39 (65535), .methodLink RX2 62 yX2_askToWrite, .instanceMethod yX2_askToWrite, .selects RX2 yX2_askToWrite yX2_askToWrite, .code yX2_askToWrite cX2_askToWrite 3 none, .fieldLink RX2 33 "LowEnergy$Client" "done" "I", .methodLink RX2 66 yX9_putPart, .instanceMethod yX9_putPart, .selects RX9 yX9_putPart yX9_putPart, .code yX9_putPart cX9_putPart 6 none, .methodLink RX9 9 Lib.Math.max.name, .static Lib.Math.max.name, .initialized "java/lang/Math", .code Lib.Math.max.name Lib.Math.max.code 2 (some .int), .methodLink RX2 78 Lib.Math.min.name, .static Lib.Math.min.name, .code Lib.Math.min.name Lib.Math.min.code 2 (some .int), .methodLink RX11 232 yX7_post, .instanceMethod yX7_post, .selects RX7 yX7_post yX7_post, .initialized RX7, .code yX7_post cX7_post 4 none, .methodLink RX7 84 yX7_isFull, .instanceMethod yX7_isFull, .selects RX7 yX7_isFull yX7_isFull, .code yX7_isFull cX7_isFull 1 (some .boolean), .fieldLink RX7 53 "LowEnergy$Mail" "messageCount" "I", .fieldLink RX7 24 "LowEnergy$Mail" "messages" "[LLowEnergy$Row;", .fieldLink RX7 50 "LowEnergy$Mail" "messageHead" "I", .methodLink RX7 62 yX9_clear, .methodLink RX7 78 yX9_putNumber, .methodLink RX7 91 yX9_putPart, .methodLink RX11 244 yX2_begin, .instanceMethod yX2_begin, .selects RX2 yX2_begin yX2_begin, .code yX2_begin cX2_begin 4 none, .methodLink RX2 36 yX9_clear, .fieldLink RX11 27 "LowEnergy" "tape" "LLowEnergy$Row;", .methodLink RX11 74 yX9_become, .instanceMethod yX9_become, .selects RX9 yX9_become yX9_become, .code yX9_become cX9_become 2 none, .methodLink RX9 27 yX9_putPart, .methodLink RX11 52 yX11_find, .instanceMethod yX11_find, .selects RX11 yX11_find yX11_find, .initialized RX11, .code yX11_find cX11_find 2 (some (.object "LowEnergy$Device")), .fieldLink RX11 9 "LowEnergy" "devices" "[LLowEnergy$Device;", .methodLink RX11 99 yX3_inLink, .instanceMethod yX3_inLink, .selects RX3 yX3_inLink yX3_inLink, .initialized RX3, .code yX3_inLink cX3_inLink 1 (some .boolean), .fieldLink RX3 93 "LowEnergy$Device" "state" "I", .methodLink RX11 222 yX7_isFull, .constant RX11 123 (65535)] : List Cond) ++ (wsX30 ++ (wsX90 ++ (wsX20 ++ (wsX100 ++ (wsX70 ++ (wsX110 ++ ([]))))))))
theorem hi_Low_job_X3 : ∀ x ∈ u_ws RX3 TX3 19, x ∈ wp_Low_job := fun _ h => List.mem_cons_of_mem _ (List.mem_append_right _ (List.mem_append_left _ h))
theorem hi_Low_job_X9 : ∀ x ∈ u_ws RX9 TX9 2, x ∈ wp_Low_job := fun _ h => List.mem_cons_of_mem _ (List.mem_append_right _ (List.mem_append_right _ (List.mem_append_left _ h)))
theorem hi_Low_job_X2 : ∀ x ∈ u_ws RX2 TX2 6, x ∈ wp_Low_job := fun _ h => List.mem_cons_of_mem _ (List.mem_append_right _ (List.mem_append_right _ (List.mem_append_right _ (List.mem_append_left _ h))))
theorem hi_Low_job_X10 : ∀ x ∈ u_ws RX10 TX10 10, x ∈ wp_Low_job := fun _ h => List.mem_cons_of_mem _ (List.mem_append_right _ (List.mem_append_right _ (List.mem_append_right _ (List.mem_append_right _ (List.mem_append_left _ h)))))
theorem hi_Low_job_X7 : ∀ x ∈ u_ws RX7 TX7 16, x ∈ wp_Low_job := fun _ h => List.mem_cons_of_mem _ (List.mem_append_right _ (List.mem_append_right _ (List.mem_append_right _ (List.mem_append_right _ (List.mem_append_right _ (List.mem_append_left _ h))))))
theorem hi_Low_job_X11 : ∀ x ∈ u_ws RX11 TX11 5, x ∈ wp_Low_job := fun _ h => List.mem_cons_of_mem _ (List.mem_append_right _ (List.mem_append_right _ (List.mem_append_right _ (List.mem_append_right _ (List.mem_append_right _ (List.mem_append_right _ (List.mem_append_left _ h)))))))
set_option maxRecDepth 100000 in
theorem gd_Low_job_Row_clear_78 : GoodIn wp_Low_job (wsV RX11 78 RX9 yX9_clear wp_Row_clear) := goodIn_app (goodIn_r _ [1, 2, 3, 4] rfl rfl) (goodIn_ca (goodIn_r _ [5, 6] rfl rfl) (goodIn_app (goodIn_cls hi_Low_job_X9 gw_X9) (goodIn_nil)))
set_option maxRecDepth 100000 in
theorem gd_Low_job_Client_firstHandle_251 : GoodIn wp_Low_job (wsV RX11 251 RX2 yX2_firstHandle wp_Client_firstHandle) := goodIn_app (goodIn_r _ [7, 8, 9, 10] rfl rfl) (goodIn_ca (goodIn_r _ [11, 12, 13] rfl rfl) (goodIn_app (goodIn_cls hi_Low_job_X2 gw_X2) (goodIn_nil)))
set_option maxRecDepth 100000 in
theorem gd_Low_job_Client_ask_255 : GoodIn wp_Low_job (wsV RX11 255 RX2 yX2_ask wp_Client_ask) := goodIn_app (goodIn_r _ [14, 15, 16, 10] rfl rfl) (goodIn_ca (goodIn_r _ [17, 18, 19, 20, 4, 21, 6, 22, 23, 24, 25, 26, 27, 12, 28, 29, 30, 31, 32, 33, 13, 34, 35, 36, 10, 37, 38, 39, 40, 41, 42, 43, 44, 45, 46, 47, 48, 49, 50, 51, 52, 53, 54, 55, 56, 57, 58, 59] rfl rfl) (goodIn_app (goodIn_cls hi_Low_job_X9 gw_X9) (goodIn_app (goodIn_cls hi_Low_job_X2 gw_X2) (goodIn_app (goodIn_cls hi_Low_job_X10 gw_X10) (goodIn_nil)))))
set_option maxRecDepth 100000 in
theorem gd_Low_job_Mail_post_232 : GoodIn wp_Low_job (wsV RX11 232 RX7 yX7_post wp_Mail_post) := goodIn_app (goodIn_r _ [60, 61, 62, 63] rfl rfl) (goodIn_ca (goodIn_r _ [64, 65, 66, 67, 63, 68, 69, 70, 71, 72, 2, 3, 4, 5, 6, 73, 29, 30, 31, 22, 32, 74, 50, 51, 52, 53, 54, 55, 56] rfl rfl) (goodIn_app (goodIn_cls hi_Low_job_X7 gw_X7) (goodIn_app (goodIn_cls hi_Low_job_X9 gw_X9) (goodIn_nil))))
set_option maxRecDepth 100000 in
theorem gd_Low_job_Client_begin_244 : GoodIn wp_Low_job (wsV RX11 244 RX2 yX2_begin wp_Client_begin) := goodIn_app (goodIn_r _ [75, 76, 77, 10] rfl rfl) (goodIn_ca (goodIn_r _ [78, 13, 12, 42, 23, 48, 33, 79, 2, 3, 4, 5, 6] rfl rfl) (goodIn_app (goodIn_cls hi_Low_job_X2 gw_X2) (goodIn_app (goodIn_cls hi_Low_job_X9 gw_X9) (goodIn_nil))))
set_option maxRecDepth 100000 in
theorem gd_Low_job_Row_become_74 : GoodIn wp_Low_job (wsV RX11 74 RX9 yX9_become wp_Row_become) := goodIn_app (goodIn_r _ [81, 82, 83, 4] rfl rfl) (goodIn_ca (goodIn_r _ [84, 6, 85, 50, 51, 4, 52, 22, 53, 54, 55, 56] rfl rfl) (goodIn_app (goodIn_cls hi_Low_job_X9 gw_X9) (goodIn_nil)))
set_option maxRecDepth 100000 in
theorem gd_Low_job_Low_find_52 : GoodIn wp_Low_job (wsV RX11 52 RX11 yX11_find wp_Low_find) := goodIn_app (goodIn_r _ [86, 87, 88, 89] rfl rfl) (goodIn_ca (goodIn_r _ [90, 91] rfl rfl) (goodIn_app (goodIn_cls hi_Low_job_X11 gw_X11) (goodIn_nil)))
set_option maxRecDepth 100000 in
theorem gd_Low_job_Device_inLink_99 : GoodIn wp_Low_job (wsV RX11 99 RX3 yX3_inLink wp_Device_inLink) := goodIn_app (goodIn_r _ [92, 93, 94, 95] rfl rfl) (goodIn_ca (goodIn_r _ [96, 97] rfl rfl) (goodIn_app (goodIn_cls hi_Low_job_X3 gw_X3) (goodIn_nil)))
set_option maxRecDepth 100000 in
theorem gd_Low_job_Mail_isFull_222 : GoodIn wp_Low_job (wsV RX11 222 RX7 yX7_isFull wp_Mail_isFull) := goodIn_app (goodIn_r _ [98, 66, 67, 63] rfl rfl) (goodIn_ca (goodIn_r _ [68, 69] rfl rfl) (goodIn_app (goodIn_cls hi_Low_job_X7 gw_X7) (goodIn_nil)))
set_option maxHeartbeats 4000000 in
set_option maxRecDepth 100000 in
theorem b_Low_job {p : Program} {l : Launch} {e : Env} {R : Room} {s : State} {m : MethodId} {args : Array Value} {below : List Frame} {meth : Method} {c : Code} {D : va_G} {K : Nat → ClassId} {A : Nat → Prop} {Q : State → Prop} {τ : Nat → Option Ty} {dom : List Nat} {zb zL : Nat} {zx : Nat → Int32} {zs : Nat → Nat} (hR : 4 ≤ R.frames ∧ 83 ≤ R.locals) (B : Bx p s m args c cX11_job 7 RX11 wp_Low_job D (tysA K) A) (Z : Sk τ dom) (hz : ZL zb zL zx zs A s s.heap) (h : Nat) (x1 : Int) (x2 : Int) (x3 : Int) (x4 : Int) (t_h : τ h = some (41, 0, 0)) (r_x1 : -2147483648 ≤ x1 ∧ x1 ≤ 2147483647) (r_x2 : -2147483648 ≤ x2 ∧ x2 ≤ 2147483647) (r_x3 : -2147483648 ≤ x3 ∧ x3 ≤ 2147483647) (r_x4 : -2147483648 ≤ x4 ∧ x4 ≤ 2147483647) (σ0 : Nat → va_E) (G0 : Good K τ σ0) (hend : ∀ (σ' : Nat → va_E) (z : Int) (lv : List (Nat × Value)) (pc : Nat), Good K τ σ' → Fr τ [(32, 0), (1, 15), (2, 15), (1, 1), (1, 8), (2, 8), (1, 10), (2, 10), (37, 0)] σ0 σ' → (0 ≤ z ∧ z ≤ 1) → decode cX11_job pc = .ok (.ireturn, 1) → V p l e R s m args below meth c 7 D A Q (0, 0) (fd dom σ') lv pc [.int (iI z)]) : V p l e R s m args below meth c 7 D A Q (0, 0) (fd dom σ0) [(0, .ref h), (1, .int (iI x1)), (2, .int (iI x2)), (3, .int (iI x3)), (4, .int (iI x4))] 0 [] := by
  have F0 : Fr τ [(32, 0), (1, 15), (2, 15), (1, 1), (1, 8), (2, 8), (1, 10), (2, 10), (37, 0)] σ0 σ0 := Fr.rf
  have J155 : ∀ (σ_155 : Nat → va_E) (a155_5 : Nat), Good K τ σ_155 → Fr τ [(32, 0), (1, 15), (2, 15), (1, 1), (1, 8), (2, 8), (1, 10), (2, 10), (37, 0)] σ0 σ_155 → (τ a155_5 = some (33, 0, 0)) → V p l e R s m args below meth c 7 D A Q (0, 0) (fd dom σ_155) [(5, .ref a155_5)] 155 [] := by
    intro σ_155 a155_5 G_155 F_155 t155_5
    refine v_aload B dX11_job_155 rfl ?_
    obtain ⟨z1, yy2, z3, z4, z5, z6, a7, z8, yy9, a10, yy11, a12, a13, a14, a15, a16, a17, a18, a19, h20, r21, r22, r23, r24, r25, r26, t27, r28, r29, t30, r31, t32, t33, t34, t35, t36, t37, t38, t39⟩ : okDevice τ (σ_155 a155_5) := G_155 a155_5 _ t155_5
    refine u_getN B Z (C := RX3) (T := TX3) (N := 19) (ci := 3) hi_Low_job_X3 t155_5 h20 rfl 18 (by decide +kernel) (List.mem_of_getElem? (i := 19) rfl) rfl dX11_job_157 ?_
    refine u_callVv B Z hz (n := 0) (As := []) (rest := []) (c_Row_clear l D K Z _ _ _ _ a19 t39 σ_155 G_155) gd_Low_job_Row_clear_78 rfl rfl rfl (by decide +kernel) ⟨Nat.le_trans (by decide +kernel) hR.1, Nat.le_trans (by decide +kernel) hR.2⟩ t39 (cls_Row G_155 t39) rfl rfl rfl rfl (Nat.le_of_ble_eq_true rfl) dX11_job_160 ⟨Nat.zero_le _, Nat.zero_le _⟩ (fun σ40 p41 => ?_)
    obtain ⟨G43, F44⟩ := p41
    have F45 := F_155.call F44 (by first | rfl | simp)
    have h46 := (F44 a155_5 _ t155_5 (by first | rfl | simp)).trans h20
    refine v_aload B dX11_job_163 rfl ?_
    refine u_getN B Z (C := RX3) (T := TX3) (N := 19) (ci := 3) hi_Low_job_X3 t155_5 h46 rfl 16 (by decide +kernel) (List.mem_of_getElem? (i := 20) rfl) rfl dX11_job_165 ?_
    refine v_aload B dX11_job_168 rfl ?_
    refine u_getN B Z (C := RX3) (T := TX3) (N := 19) (ci := 3) hi_Low_job_X3 t155_5 h46 rfl 16 (by decide +kernel) (List.mem_of_getElem? (i := 20) rfl) rfl dX11_job_170 ?_
    refine u_callVi B Z hz (n := 0) (As := []) (rest := [.ref a17]) (c_Client_firstHandle l D K Z _ _ _ _ a17 t37 σ40 G43) gd_Low_job_Client_firstHandle_251 rfl rfl rfl (by decide +kernel) ⟨Nat.le_trans (by decide +kernel) hR.1, Nat.le_trans (by decide +kernel) hR.2⟩ t37 (cls_Client G43 t37) rfl rfl rfl rfl (Nat.le_of_ble_eq_true rfl) dX11_job_173 ⟨Nat.zero_le _, Nat.zero_le _⟩ (fun v49 σ47 p48 => ?_)
    obtain ⟨rfl, z53, e54, r55⟩ := p48
    subst e54
    refine v_aload B dX11_job_176 rfl ?_
    refine u_getN B Z (C := RX3) (T := TX3) (N := 19) (ci := 3) hi_Low_job_X3 t155_5 h46 rfl 15 (by decide +kernel) (List.mem_of_getElem? (i := 3) rfl) rfl dX11_job_178 ?_
    refine v_aload B dX11_job_181 rfl ?_
    refine u_getN B Z (C := RX3) (T := TX3) (N := 19) (ci := 3) hi_Low_job_X3 t155_5 h46 rfl 18 (by decide +kernel) (List.mem_of_getElem? (i := 19) rfl) rfl dX11_job_183 ?_
    refine u_callVv B Z hz (n := 3) (As := [.int (iI z53), .ref a16, .ref a19]) (rest := []) (c_Client_ask l D K Z _ _ _ _ a17 z53 a16 a19 t37 ⟨by omega, by omega⟩ t36 t39 σ40 G43) gd_Low_job_Client_ask_255 rfl rfl rfl (by decide +kernel) ⟨Nat.le_trans (by decide +kernel) hR.1, Nat.le_trans (by decide +kernel) hR.2⟩ t37 (cls_Client G43 t37) rfl rfl rfl rfl (Nat.le_of_ble_eq_true rfl) dX11_job_186 ⟨Nat.zero_le _, Nat.zero_le _⟩ (fun σ56 p57 => ?_)
    obtain ⟨G59, F60⟩ := p57
    have F61 := F45.call F60 (by first | rfl | simp)
    have h62 := (F60 a155_5 _ t155_5 (by first | rfl | simp)).trans h46
    refine v_aload B dX11_job_189 rfl ?_
    refine u_getN B Z (C := RX3) (T := TX3) (N := 19) (ci := 3) hi_Low_job_X3 t155_5 h62 rfl 12 (by decide +kernel) (List.mem_of_getElem? (i := 5) rfl) rfl dX11_job_191 ?_
    refine v_iconst B (v := iI 4) dX11_job_194 rfl ?_
    refine v_aload B dX11_job_195 rfl ?_
    refine u_getN B Z (C := RX3) (T := TX3) (N := 19) (ci := 3) hi_Low_job_X3 t155_5 h62 rfl 18 (by decide +kernel) (List.mem_of_getElem? (i := 19) rfl) rfl dX11_job_197 ?_
    refine u_callVv B Z hz (n := 2) (As := [.int (iI 4), .ref a19]) (rest := []) (c_Mail_post l D K Z _ _ _ _ a13 4 a19 t33 ⟨by omega, by omega⟩ t39 σ56 G59) gd_Low_job_Mail_post_232 rfl rfl rfl (by decide +kernel) ⟨Nat.le_trans (by decide +kernel) hR.1, Nat.le_trans (by decide +kernel) hR.2⟩ t33 (cls_Mail G59 t33) rfl rfl rfl rfl (Nat.le_of_ble_eq_true rfl) dX11_job_200 ⟨Nat.zero_le _, Nat.zero_le _⟩ (fun σ63 p64 => ?_)
    obtain ⟨G66, F67⟩ := p64
    have F68 := F61.call F67 (by first | rfl | simp)
    have h69 := (F67 a155_5 _ t155_5 (by first | rfl | simp)).trans h62
    refine v_iconst B (v := iI 1) dX11_job_203 rfl ?_
    exact hend σ63 1 _ _ G66 F68 ⟨by omega, by omega⟩ dX11_job_204
  have J116 : ∀ (a116_5 : Nat) (z116_6 : Int), (0 ≤ x2 ∧ x2 ≤ 6) → (0 ≤ x3 ∧ x3 ≤ 65535) → (0 ≤ x4 ∧ x4 ≤ 65535) → (τ a116_5 = some (33, 0, 0)) → (0 ≤ z116_6 ∧ z116_6 ≤ 1) → V p l e R s m args below meth c 7 D A Q (0, 0) (fd dom σ0) [(0, .ref h), (2, .int (iI x2)), (3, .int (iI x3)), (4, .int (iI x4)), (5, .ref a116_5), (6, .int (iI z116_6))] 116 [] := by
    intro a116_5 z116_6 r116_2 r116_3 r116_4 t116_5 r116_6
    refine v_aload B dX11_job_116 rfl ?_
    obtain ⟨z70, yy71, z72, z73, z74, z75, a76, z77, yy78, a79, yy80, a81, a82, a83, a84, a85, a86, a87, a88, h89, r90, r91, r92, r93, r94, r95, t96, r97, r98, t99, r100, t101, t102, t103, t104, t105, t106, t107, t108⟩ : okDevice τ (σ0 a116_5) := G0 a116_5 _ t116_5
    refine u_getN B Z (C := RX3) (T := TX3) (N := 19) (ci := 3) hi_Low_job_X3 t116_5 h89 rfl 16 (by decide +kernel) (List.mem_of_getElem? (i := 20) rfl) rfl dX11_job_118 ?_
    refine v_iload_n B dX11_job_121 rfl rfl ?_
    refine v_iload_n B dX11_job_122 rfl rfl ?_
    refine v_iload B dX11_job_123 rfl ?_
    refine u_callVv B Z hz (n := 3) (As := [.int (iI x2), .int (iI x3), .int (iI x4)]) (rest := []) (c_Client_begin l D K Z _ _ _ _ a86 x2 x3 x4 t106 ⟨by omega, by omega⟩ ⟨by omega, by omega⟩ ⟨by omega, by omega⟩ σ0 G0) gd_Low_job_Client_begin_244 rfl rfl rfl (by decide +kernel) ⟨Nat.le_trans (by decide +kernel) hR.1, Nat.le_trans (by decide +kernel) hR.2⟩ t106 (cls_Client G0 t106) rfl rfl rfl rfl (Nat.le_of_ble_eq_true rfl) dX11_job_125 ⟨Nat.zero_le _, Nat.zero_le _⟩ (fun σ109 p110 => ?_)
    obtain ⟨G112, F113⟩ := p110
    have F114 := F0.call F113 (by first | rfl | simp)
    have h115 := (F113 a116_5 _ t116_5 (by first | rfl | simp)).trans h89
    refine v_iload B dX11_job_128 rfl ?_
    refine u_if_eq B (tgt := 155) (by omega) dX11_job_130 (by decide +kernel) (fun c116 => ?_) (fun c116 => ?_)
    · refine v_lv [4] rfl ?_
      exact J155 σ109 a116_5 G112 F114 t116_5
    · refine v_aload B dX11_job_133 rfl ?_
      refine u_getN B Z (C := RX3) (T := TX3) (N := 19) (ci := 3) hi_Low_job_X3 t116_5 h115 rfl 16 (by decide +kernel) (List.mem_of_getElem? (i := 20) rfl) rfl dX11_job_135 ?_
      obtain ⟨z117, z118, z119, z120, z121, a122, h123, r124, r125, r126, r127, r128, t129⟩ : okClient τ (σ109 a86) := G112 a86 _ t106
      refine u_getN B Z (C := RX2) (T := TX2) (N := 6) (ci := 2) hi_Low_job_X2 t106 h123 rfl 5 (by decide +kernel) (List.mem_of_getElem? (i := 22) rfl) rfl dX11_job_138 ?_
      refine v_aload_n B dX11_job_141 rfl rfl ?_
      obtain ⟨a130, a131, a132, a133, z134, h135, t136, t137, t138, t139, r140⟩ : okLow τ (σ109 h) := G112 h _ t_h
      refine u_get B Z (C := RX11) (T := TX11) (N := 5) (ci := 11) hi_Low_job_X11 t_h h135 rfl 2 (by decide +kernel) (List.mem_of_getElem? (i := 80) rfl) rfl dX11_job_142 ?_
      refine u_callVv B Z hz (n := 1) (As := [.ref a132]) (rest := []) (c_Row_become l D K Z _ _ _ _ a122 a132 t129 t138 σ109 G112) gd_Low_job_Row_become_74 rfl rfl rfl (by decide +kernel) ⟨Nat.le_trans (by decide +kernel) hR.1, Nat.le_trans (by decide +kernel) hR.2⟩ t129 (cls_Row G112 t129) rfl rfl rfl rfl (Nat.le_of_ble_eq_true rfl) dX11_job_145 ⟨Nat.zero_le _, Nat.zero_le _⟩ (fun σ141 p142 => ?_)
      obtain ⟨G144, F145⟩ := p142
      have F146 := F114.call F145 (by first | rfl | simp)
      have h147 := (F145 a116_5 _ t116_5 (by first | rfl | simp)).trans h115
      have h148 := (F145 a86 _ t106 (by first | rfl | simp)).trans h123
      have h149 := (F145 h _ t_h (by first | rfl | simp)).trans h135
      refine v_aload_n B dX11_job_148 rfl rfl ?_
      refine u_get B Z (C := RX11) (T := TX11) (N := 5) (ci := 11) hi_Low_job_X11 t_h h149 rfl 2 (by decide +kernel) (List.mem_of_getElem? (i := 80) rfl) rfl dX11_job_149 ?_
      refine u_callVv B Z hz (n := 0) (As := []) (rest := []) (c_Row_clear l D K Z _ _ _ _ a132 t138 σ141 G144) gd_Low_job_Row_clear_78 rfl rfl rfl (by decide +kernel) ⟨Nat.le_trans (by decide +kernel) hR.1, Nat.le_trans (by decide +kernel) hR.2⟩ t138 (cls_Row G144 t138) rfl rfl rfl rfl (Nat.le_of_ble_eq_true rfl) dX11_job_152 ⟨Nat.zero_le _, Nat.zero_le _⟩ (fun σ150 p151 => ?_)
      obtain ⟨G153, F154⟩ := p151
      have F155 := F146.call F154 (by first | rfl | simp)
      have h156 := (F154 a116_5 _ t116_5 (by first | rfl | simp)).trans h147
      have h157 := (F154 a86 _ t106 (by first | rfl | simp)).trans h148
      have h158 := (F154 h _ t_h (by first | rfl | simp)).trans h149
      refine v_lv [4] rfl ?_
      exact J155 σ150 a116_5 G153 F155 t116_5
  have J95 : ∀ (a95_5 : Nat) (z95_s0 : Int), (0 ≤ x2 ∧ x2 ≤ 6) → (0 ≤ x3 ∧ x3 ≤ 65535) → (0 ≤ x4 ∧ x4 ≤ 65535) → (τ a95_5 = some (33, 0, 0)) → (0 ≤ z95_s0 ∧ z95_s0 ≤ 1) → V p l e R s m args below meth c 7 D A Q (0, 0) (fd dom σ0) [(0, .ref h), (2, .int (iI x2)), (3, .int (iI x3)), (4, .int (iI x4)), (5, .ref a95_5)] 95 [.int (iI z95_s0)] := by
    intro a95_5 z95_s0 r95_2 r95_3 r95_4 t95_5 r95_s0
    refine v_istore B (lv' := [(6, .int (iI z95_s0)), (0, .ref h), (2, .int (iI x2)), (3, .int (iI x3)), (4, .int (iI x4)), (5, .ref a95_5)]) dX11_job_95 (by decide +kernel) rfl ?_
    refine v_iload B dX11_job_97 rfl ?_
    refine u_if_eq B (tgt := 116) (by omega) dX11_job_99 (by decide +kernel) (fun c159 => ?_) (fun c159 => ?_)
    · refine v_lv [1, 2, 3, 4, 5, 0] rfl ?_
      exact J116 a95_5 z95_s0 ⟨by omega, by omega⟩ ⟨by omega, by omega⟩ ⟨by omega, by omega⟩ t95_5 ⟨by omega, by omega⟩
    · refine v_aload_n B dX11_job_102 rfl rfl ?_
      obtain ⟨a160, a161, a162, a163, z164, h165, t166, t167, t168, t169, r170⟩ : okLow τ (σ0 h) := G0 h _ t_h
      refine u_get B Z (C := RX11) (T := TX11) (N := 5) (ci := 11) hi_Low_job_X11 t_h h165 rfl 2 (by decide +kernel) (List.mem_of_getElem? (i := 80) rfl) rfl dX11_job_103 ?_
      obtain ⟨b171, N172, n173, h174, t175, r176⟩ : okRow τ 1 (σ0 a162) := G0 a162 _ t168
      refine u_getN B Z (C := RX9) (T := TX9) (N := 2) (ci := 9) hi_Low_job_X9 t168 h174 rfl 1 (by decide +kernel) (List.mem_of_getElem? (i := 51) rfl) rfl dX11_job_106 ?_
      refine v_bipush B (v := iI 40) dX11_job_109 (by decide +kernel) ?_
      refine u_icmp_le B (tgt := 116) (by omega) (by omega) dX11_job_111 (by decide +kernel) (fun c177 => ?_) (fun c177 => ?_)
      · refine v_lv [1, 2, 3, 4, 5, 0] rfl ?_
        exact J116 a95_5 z95_s0 ⟨by omega, by omega⟩ ⟨by omega, by omega⟩ ⟨by omega, by omega⟩ t95_5 ⟨by omega, by omega⟩
      · refine v_iconst B (v := iI 0) dX11_job_114 rfl ?_
        exact hend σ0 0 _ _ G0 F0 ⟨by omega, by omega⟩ dX11_job_115
  have J90 : ∀ (a90_5 : Nat), (5 ≤ x2 ∧ x2 ≤ 6) → (0 ≤ x3 ∧ x3 ≤ 65535) → (0 ≤ x4 ∧ x4 ≤ 65535) → (τ a90_5 = some (33, 0, 0)) → V p l e R s m args below meth c 7 D A Q (0, 0) (fd dom σ0) [(0, .ref h), (2, .int (iI x2)), (3, .int (iI x3)), (4, .int (iI x4)), (5, .ref a90_5)] 90 [] := by
    intro a90_5 r90_2 r90_3 r90_4 t90_5
    refine v_iconst B (v := iI 1) dX11_job_90 rfl ?_
    refine v_goto B (tgt := 95) dX11_job_91 (by decide +kernel) ?_
    exact J95 a90_5 1 ⟨by omega, by omega⟩ ⟨by omega, by omega⟩ ⟨by omega, by omega⟩ t90_5 ⟨by omega, by omega⟩
  refine v_aload_n B dX11_job_0 rfl rfl ?_
  refine v_iload_n B dX11_job_1 rfl rfl ?_
  refine u_callVq B Z hz (n := 1) (As := [.int (iI x1)]) (rest := []) (c_Low_find l D K Z _ _ _ _ h x1 t_h ⟨by omega, by omega⟩ σ0 G0) gd_Low_job_Low_find_52 rfl rfl rfl (by decide +kernel) ⟨Nat.le_trans (by decide +kernel) hR.1, Nat.le_trans (by decide +kernel) hR.2⟩ t_h (cls_Low G0 t_h) rfl rfl rfl rfl (Nat.le_of_ble_eq_true rfl) dX11_job_2 ⟨Nat.zero_le _, Nat.zero_le _⟩ (fun v180 σ178 p179 => ?_)
  obtain ⟨rfl, q184⟩ := p179
  rcases q184 with rfl | ⟨a185, rfl, t186⟩
  · show V _ _ _ _ _ _ _ _ _ _ _ _ _ _ _ _ _ _ [.null]
    refine v_astoreN B (lv' := [(5, .null), (0, .ref h), (1, .int (iI x1)), (2, .int (iI x2)), (3, .int (iI x3)), (4, .int (iI x4))]) dX11_job_5 (by decide +kernel) rfl ?_
    refine v_aloadN B dX11_job_7 rfl ?_
    refine v_ifnullN B (tgt := 53) dX11_job_9 (by decide +kernel) ?_
    refine v_iconst B (v := iI 0) dX11_job_53 rfl ?_
    exact hend σ0 0 _ _ G0 F0 ⟨by omega, by omega⟩ dX11_job_54
  · show V _ _ _ _ _ _ _ _ _ _ _ _ _ _ _ _ _ _ [.ref a185]
    refine v_astore B (lv' := [(5, .ref a185), (0, .ref h), (1, .int (iI x1)), (2, .int (iI x2)), (3, .int (iI x3)), (4, .int (iI x4))]) dX11_job_5 (by decide +kernel) rfl ?_
    refine v_aload B dX11_job_7 rfl ?_
    refine v_ifnull B dX11_job_9 ?_
    refine v_aload B dX11_job_12 rfl ?_
    refine u_callVi B Z hz (n := 0) (As := []) (rest := []) (c_Device_inLink l D K Z _ _ _ _ a185 t186 σ0 G0) gd_Low_job_Device_inLink_99 rfl rfl rfl (by decide +kernel) ⟨Nat.le_trans (by decide +kernel) hR.1, Nat.le_trans (by decide +kernel) hR.2⟩ t186 (cls_Device G0 t186) rfl rfl rfl rfl (Nat.le_of_ble_eq_true rfl) dX11_job_14 ⟨Nat.zero_le _, Nat.zero_le _⟩ (fun v189 σ187 p188 => ?_)
    obtain ⟨rfl, z193, e194, r195⟩ := p188
    subst e194
    refine u_if_eq B (tgt := 53) (by omega) dX11_job_17 (by decide +kernel) (fun c196 => ?_) (fun c196 => ?_)
    · refine v_iconst B (v := iI 0) dX11_job_53 rfl ?_
      exact hend σ0 0 _ _ G0 F0 ⟨by omega, by omega⟩ dX11_job_54
    · refine v_aload B dX11_job_20 rfl ?_
      obtain ⟨z197, yy198, z199, z200, z201, z202, a203, z204, yy205, a206, yy207, a208, a209, a210, a211, a212, a213, a214, a215, h216, r217, r218, r219, r220, r221, r222, t223, r224, r225, t226, r227, t228, t229, t230, t231, t232, t233, t234, t235⟩ : okDevice τ (σ0 a185) := G0 a185 _ t186
      refine u_getN B Z (C := RX3) (T := TX3) (N := 19) (ci := 3) hi_Low_job_X3 t186 h216 rfl 16 (by decide +kernel) (List.mem_of_getElem? (i := 20) rfl) rfl dX11_job_22 ?_
      obtain ⟨z236, z237, z238, z239, z240, a241, h242, r243, r244, r245, r246, r247, t248⟩ : okClient τ (σ0 a213) := G0 a213 _ t233
      refine u_getN B Z (C := RX2) (T := TX2) (N := 6) (ci := 2) hi_Low_job_X2 t233 h242 rfl 0 (by decide +kernel) (List.mem_of_getElem? (i := 21) rfl) rfl dX11_job_25 ?_
      refine v_iconst B (v := iI (-1)) dX11_job_28 rfl ?_
      refine u_icmp_ne B (tgt := 53) (by omega) (by omega) dX11_job_29 (by decide +kernel) (fun c249 => ?_) (fun c249 => ?_)
      · refine v_iconst B (v := iI 0) dX11_job_53 rfl ?_
        exact hend σ0 0 _ _ G0 F0 ⟨by omega, by omega⟩ dX11_job_54
      · refine v_aload B dX11_job_32 rfl ?_
        refine u_getN B Z (C := RX3) (T := TX3) (N := 19) (ci := 3) hi_Low_job_X3 t186 h216 rfl 12 (by decide +kernel) (List.mem_of_getElem? (i := 5) rfl) rfl dX11_job_34 ?_
        refine u_callVi B Z hz (n := 0) (As := []) (rest := []) (c_Mail_isFull l D K Z _ _ _ _ a209 t229 σ0 G0) gd_Low_job_Mail_isFull_222 rfl rfl rfl (by decide +kernel) ⟨Nat.le_trans (by decide +kernel) hR.1, Nat.le_trans (by decide +kernel) hR.2⟩ t229 (cls_Mail G0 t229) rfl rfl rfl rfl (Nat.le_of_ble_eq_true rfl) dX11_job_37 ⟨Nat.zero_le _, Nat.zero_le _⟩ (fun v252 σ250 p251 => ?_)
        obtain ⟨rfl, z256, e257, r258, fl259⟩ := p251
        subst e257
        obtain ⟨a260, z261, z262, a263, z264, z265, z266, a267, z268, z269, z270, a271, z272, a273, z274, a275, h276, t277, r278, r279, t280, r281, r282, r283, t284, r285, r286, r287, t288, r289, t290, r291, t292⟩ : okMail τ (σ0 a209) := G0 a209 _ t229
        have r293 : z256 = 0 → z269 ≤ 7 := fun q => (fl259 q).use h276 (j := 9) rfl (by omega)
        refine u_if_ne B (tgt := 53) (by omega) dX11_job_40 (by decide +kernel) (fun c294 => ?_) (fun c294 => ?_)
        · refine v_iconst B (v := iI 0) dX11_job_53 rfl ?_
          exact hend σ0 0 _ _ G0 F0 ⟨by omega, by omega⟩ dX11_job_54
        · refine v_iload_n B dX11_job_43 rfl rfl ?_
          refine u_if_lt B (tgt := 53) (by omega) dX11_job_44 (by decide +kernel) (fun c295 => ?_) (fun c295 => ?_)
          · refine v_iconst B (v := iI 0) dX11_job_53 rfl ?_
            exact hend σ0 0 _ _ G0 F0 ⟨by omega, by omega⟩ dX11_job_54
          · refine v_iload_n B dX11_job_47 rfl rfl ?_
            refine v_bipush B (v := iI 6) dX11_job_48 (by decide +kernel) ?_
            refine u_icmp_le B (tgt := 55) (by omega) (by omega) dX11_job_50 (by decide +kernel) (fun c296 => ?_) (fun c296 => ?_)
            · refine v_iload_n B dX11_job_55 rfl rfl ?_
              refine u_if_lt B (tgt := 77) (by omega) dX11_job_56 (by decide +kernel) (fun c297 => ?_) (fun c297 => ?_)
              · refine v_iconst B (v := iI 0) dX11_job_77 rfl ?_
                exact hend σ0 0 _ _ G0 F0 ⟨by omega, by omega⟩ dX11_job_78
              · refine v_iload_n B dX11_job_59 rfl rfl ?_
                refine v_ldc B (v := iI 65535) (u_ci (List.mem_of_getElem? (i := 99) rfl) (by decide +kernel)) dX11_job_60 ?_
                refine u_icmp_gt B (tgt := 77) (by omega) (by omega) dX11_job_62 (by decide +kernel) (fun c298 => ?_) (fun c298 => ?_)
                · refine v_iconst B (v := iI 0) dX11_job_77 rfl ?_
                  exact hend σ0 0 _ _ G0 F0 ⟨by omega, by omega⟩ dX11_job_78
                · refine v_iload B dX11_job_65 rfl ?_
                  refine u_if_lt B (tgt := 77) (by omega) dX11_job_67 (by decide +kernel) (fun c299 => ?_) (fun c299 => ?_)
                  · refine v_iconst B (v := iI 0) dX11_job_77 rfl ?_
                    exact hend σ0 0 _ _ G0 F0 ⟨by omega, by omega⟩ dX11_job_78
                  · refine v_iload B dX11_job_70 rfl ?_
                    refine v_ldc B (v := iI 65535) (u_ci (List.mem_of_getElem? (i := 99) rfl) (by decide +kernel)) dX11_job_72 ?_
                    refine u_icmp_le B (tgt := 79) (by omega) (by omega) dX11_job_74 (by decide +kernel) (fun c300 => ?_) (fun c300 => ?_)
                    · refine v_iload_n B dX11_job_79 rfl rfl ?_
                      refine v_iconst B (v := iI 5) dX11_job_80 rfl ?_
                      refine u_icmp_eq B (tgt := 90) (by omega) (by omega) dX11_job_81 (by decide +kernel) (fun c301 => ?_) (fun c301 => ?_)
                      · refine v_lv [1, 3, 4, 5, 0] rfl ?_
                        exact J90 a185 ⟨by omega, by omega⟩ ⟨by omega, by omega⟩ ⟨by omega, by omega⟩ t186
                      · refine v_iload_n B dX11_job_84 rfl rfl ?_
                        refine v_bipush B (v := iI 6) dX11_job_85 (by decide +kernel) ?_
                        refine u_icmp_ne B (tgt := 94) (by omega) (by omega) dX11_job_87 (by decide +kernel) (fun c302 => ?_) (fun c302 => ?_)
                        · refine v_iconst B (v := iI 0) dX11_job_94 rfl ?_
                          refine v_lv [1, 3, 4, 5, 0] rfl ?_
                          exact J95 a185 0 ⟨by omega, by omega⟩ ⟨by omega, by omega⟩ ⟨by omega, by omega⟩ t186 ⟨by omega, by omega⟩
                        · refine v_lv [1, 3, 4, 5, 0] rfl ?_
                          exact J90 a185 ⟨by omega, by omega⟩ ⟨by omega, by omega⟩ ⟨by omega, by omega⟩ t186
                    · refine v_iconst B (v := iI 0) dX11_job_77 rfl ?_
                      exact hend σ0 0 _ _ G0 F0 ⟨by omega, by omega⟩ dX11_job_78
            · refine v_iconst B (v := iI 0) dX11_job_53 rfl ?_
              exact hend σ0 0 _ _ G0 F0 ⟨by omega, by omega⟩ dX11_job_54
set_option maxRecDepth 100000 in
theorem c_Low_job (l : Launch) (D : va_G) (K : Nat → ClassId) {τ : Nat → Option Ty} {dom : List Nat} (Z : Sk τ dom) (zb zL : Nat) (zx : Nat → Int32) (zs : Nat → Nat) (h : Nat) (x1 : Int) (x2 : Int) (x3 : Int) (x4 : Int) (t_h : τ h = some (41, 0, 0)) (r_x1 : -2147483648 ≤ x1 ∧ x1 ≤ 2147483647) (r_x2 : -2147483648 ≤ x2 ∧ x2 ≤ 2147483647) (r_x3 : -2147483648 ≤ x3 ∧ x3 ≤ 2147483647) (r_x4 : -2147483648 ≤ x4 ∧ x4 ≤ 2147483647) (σ0 : Nat → va_E) (G0 : Good K τ σ0) : MZ l yX11_job wp_Low_job ({ frames := 4, cells := 0, slots := 0, locals := 83 }) D (tysA K) [.ref h, .int (iI x1), .int (iI x2), .int (iI x3), .int (iI x4)] (fd dom σ0) zb zL zx zs (Qi D (fun r σ' => Good K τ σ' ∧ Fr τ [(32, 0), (1, 15), (2, 15), (1, 1), (1, 8), (2, 8), (1, 10), (2, 10), (37, 0)] σ0 σ' ∧ ∃ z : Int, r = iI z ∧ (0 ≤ z ∧ z ≤ 1)) (fun σ' => fd dom σ')) 0 0 := by
  refine mz_of (cc := cX11_job) (maxL := 7) (ret := (some .boolean)) (by decide +kernel) rfl (Nat.le_of_ble_eq_true rfl) ?_
  intro p e s m below meth c A B hr hlk _ hz
  exact b_Low_job ⟨Nat.le_refl _, Nat.le_refl _⟩ B Z hz h x1 x2 x3 x4 t_h r_x1 r_x2 r_x3 r_x4 σ0 G0 (fun σ' z lv pc G F hZ hd => v_zret B hr hlk (nar01 (by omega)) σ' ⟨G, F, z, rfl, hZ⟩ rfl (Nat.le_refl _) (Nat.le_refl _) hd)

def wp_Low_send : List Cond := .code yX11_send cX11_send 7 (some .boolean) :: (([.methodLink RX11 262 yX3_postValue, .instanceMethod yX3_postValue, .selects RX3 yX3_postValue yX3_postValue, .initialized RX3, .code yX3_postValue cX3_postValue 5 none, .fieldLink RX3 58 "LowEnergy$Device" "draft" "LLowEnergy$Row;", .methodLink RX3 120 yX9_clear, .instanceMethod yX9_clear, .selects RX9 yX9_clear yX9_clear, .initialized RX9, .code yX9_clear cX9_clear 1 none, .fieldLink RX9 21 "LowEnergy$Row" "size" "I", .methodLink RX3 173 yX9_put, .instanceMethod yX9_put, .selects RX9 yX9_put yX9_put, .code yX9_put cX9_put 2 none, .fieldLink RX9 15 "LowEnergy$Row" "bytes" "[I", .methodLink RX3 176 yX9_putNumber, .instanceMethod yX9_putNumber, .selects RX9 yX9_putNumber yX9_putNumber, .code yX9_putNumber cX9_putNumber 5 none, .constantLong RX9 25 (255), .methodLink RX3 126 yX9_putPart, .instanceMethod yX9_putPart, .selects RX9 yX9_putPart yX9_putPart, .code yX9_putPart cX9_putPart 6 none, .methodLink RX9 9 Lib.Math.max.name, .static Lib.Math.max.name, .initialized "java/lang/Math", .code Lib.Math.max.name Lib.Math.max.code 2 (some .int), .fieldLink RX3 33 "LowEnergy$Device" "mail" "LLowEnergy$Mail;", .methodLink RX3 180 yX7_post, .instanceMethod yX7_post, .selects RX7 yX7_post yX7_post, .initialized RX7, .code yX7_post cX7_post 4 none, .methodLink RX7 84 yX7_isFull, .instanceMethod yX7_isFull, .selects RX7 yX7_isFull yX7_isFull, .code yX7_isFull cX7_isFull 1 (some .boolean), .fieldLink RX7 53 "LowEnergy$Mail" "messageCount" "I", .fieldLink RX7 24 "LowEnergy$Mail" "messages" "[LLowEnergy$Row;", .fieldLink RX7 50 "LowEnergy$Mail" "messageHead" "I", .methodLink RX7 62 yX9_clear, .methodLink RX7 78 yX9_putNumber, .methodLink RX7 91 yX9_putPart, .methodLink RX11 52 yX11_find, .instanceMethod yX11_find, .selects RX11 yX11_find yX11_find, .initialized RX11, .code yX11_find cX11_find 2 (some (.object "LowEnergy$Device")), .fieldLink RX11 9 "LowEnergy" "devices" "[LLowEnergy$Device;", .methodLink RX11 99 yX3_inLink, .instanceMethod yX3_inLink, .selects RX3 yX3_inLink yX3_inLink, .code yX3_inLink cX3_inLink 1 (some .boolean), .fieldLink RX3 93 "LowEnergy$Device" "state" "I", .methodLink RX11 222 yX7_isFull, .methodLink RX11 134 yX10_valueOf, .instanceMethod yX10_valueOf, .selects RX10 yX10_valueOf yX10_valueOf, .initialized RX10, .code yX10_valueOf cX10_valueOf 2 (some (.object "LowEnergy$Row")), .fieldLink RX10 56 "LowEnergy$Server" "count" "I", .fieldLink RX10 20 "LowEnergy$Server" "values" "[LLowEnergy$Row;", .constant RX11 123 (65535), .fieldLink RX11 27 "LowEnergy" "tape" "LLowEnergy$Row;", .methodLink RX11 78 yX9_clear] : List Cond) ++ (wsX30 ++ (wsX90 ++ (wsX70 ++ (wsX100 ++ (wsX110 ++ ([])))))))
theorem hi_Low_send_X3 : ∀ x ∈ u_ws RX3 TX3 19, x ∈ wp_Low_send := fun _ h => List.mem_cons_of_mem _ (List.mem_append_right _ (List.mem_append_left _ h))
theorem hi_Low_send_X9 : ∀ x ∈ u_ws RX9 TX9 2, x ∈ wp_Low_send := fun _ h => List.mem_cons_of_mem _ (List.mem_append_right _ (List.mem_append_right _ (List.mem_append_left _ h)))
theorem hi_Low_send_X7 : ∀ x ∈ u_ws RX7 TX7 16, x ∈ wp_Low_send := fun _ h => List.mem_cons_of_mem _ (List.mem_append_right _ (List.mem_append_right _ (List.mem_append_right _ (List.mem_append_left _ h))))
theorem hi_Low_send_X10 : ∀ x ∈ u_ws RX10 TX10 10, x ∈ wp_Low_send := fun _ h => List.mem_cons_of_mem _ (List.mem_append_right _ (List.mem_append_right _ (List.mem_append_right _ (List.mem_append_right _ (List.mem_append_left _ h)))))
theorem hi_Low_send_X11 : ∀ x ∈ u_ws RX11 TX11 5, x ∈ wp_Low_send := fun _ h => List.mem_cons_of_mem _ (List.mem_append_right _ (List.mem_append_right _ (List.mem_append_right _ (List.mem_append_right _ (List.mem_append_right _ (List.mem_append_left _ h))))))
set_option maxRecDepth 100000 in
theorem gd_Low_send_Device_postValue_262 : GoodIn wp_Low_send (wsV RX11 262 RX3 yX3_postValue wp_Device_postValue) := goodIn_app (goodIn_r _ [1, 2, 3, 4] rfl rfl) (goodIn_ca (goodIn_r _ [5, 6, 7, 8, 9, 10, 11, 12, 13, 14, 15, 16, 17, 18, 19, 20, 21, 22, 23, 24, 25, 26, 27, 28, 29, 30, 31, 32, 33, 34, 35, 36, 37, 38, 39, 40, 41, 42, 43, 44, 45, 46] rfl rfl) (goodIn_app (goodIn_cls hi_Low_send_X3 gw_X3) (goodIn_app (goodIn_cls hi_Low_send_X9 gw_X9) (goodIn_app (goodIn_cls hi_Low_send_X7 gw_X7) (goodIn_nil)))))
set_option maxRecDepth 100000 in
theorem gd_Low_send_Low_find_52 : GoodIn wp_Low_send (wsV RX11 52 RX11 yX11_find wp_Low_find) := goodIn_app (goodIn_r _ [47, 48, 49, 50] rfl rfl) (goodIn_ca (goodIn_r _ [51, 52] rfl rfl) (goodIn_app (goodIn_cls hi_Low_send_X11 gw_X11) (goodIn_nil)))
set_option maxRecDepth 100000 in
theorem gd_Low_send_Device_inLink_99 : GoodIn wp_Low_send (wsV RX11 99 RX3 yX3_inLink wp_Device_inLink) := goodIn_app (goodIn_r _ [53, 54, 55, 4] rfl rfl) (goodIn_ca (goodIn_r _ [56, 57] rfl rfl) (goodIn_app (goodIn_cls hi_Low_send_X3 gw_X3) (goodIn_nil)))
set_option maxRecDepth 100000 in
theorem gd_Low_send_Mail_isFull_222 : GoodIn wp_Low_send (wsV RX11 222 RX7 yX7_isFull wp_Mail_isFull) := goodIn_app (goodIn_r _ [58, 38, 39, 35] rfl rfl) (goodIn_ca (goodIn_r _ [40, 41] rfl rfl) (goodIn_app (goodIn_cls hi_Low_send_X7 gw_X7) (goodIn_nil)))
set_option maxRecDepth 100000 in
theorem gd_Low_send_Server_valueOf_134 : GoodIn wp_Low_send (wsV RX11 134 RX10 yX10_valueOf wp_Server_valueOf) := goodIn_app (goodIn_r _ [59, 60, 61, 62] rfl rfl) (goodIn_ca (goodIn_r _ [63, 64, 65] rfl rfl) (goodIn_app (goodIn_cls hi_Low_send_X10 gw_X10) (goodIn_nil)))
set_option maxRecDepth 100000 in
theorem gd_Low_send_Row_clear_78 : GoodIn wp_Low_send (wsV RX11 78 RX9 yX9_clear wp_Row_clear) := goodIn_app (goodIn_r _ [68, 8, 9, 10] rfl rfl) (goodIn_ca (goodIn_r _ [11, 12] rfl rfl) (goodIn_app (goodIn_cls hi_Low_send_X9 gw_X9) (goodIn_nil)))
set_option maxHeartbeats 4000000 in
set_option maxRecDepth 100000 in
theorem b_Low_send {p : Program} {l : Launch} {e : Env} {R : Room} {s : State} {m : MethodId} {args : Array Value} {below : List Frame} {meth : Method} {c : Code} {D : va_G} {K : Nat → ClassId} {A : Nat → Prop} {Q : State → Prop} {τ : Nat → Option Ty} {dom : List Nat} {zb zL : Nat} {zx : Nat → Int32} {zs : Nat → Nat} (hR : 4 ≤ R.frames ∧ 85 ≤ R.locals) (B : Bx p s m args c cX11_send 7 RX11 wp_Low_send D (tysA K) A) (Z : Sk τ dom) (hz : ZL zb zL zx zs A s s.heap) (h : Nat) (x1 : Int) (x2 : Int) (x3 : Int) (t_h : τ h = some (41, 0, 0)) (r_x1 : -2147483648 ≤ x1 ∧ x1 ≤ 2147483647) (r_x2 : -2147483648 ≤ x2 ∧ x2 ≤ 2147483647) (r_x3 : -2147483648 ≤ x3 ∧ x3 ≤ 2147483647) (σ0 : Nat → va_E) (G0 : Good K τ σ0) (hend : ∀ (σ' : Nat → va_E) (z : Int) (lv : List (Nat × Value)) (pc : Nat), Good K τ σ' → Fr τ [(1, 8), (2, 8), (1, 10), (2, 10), (37, 0), (1, 1), (40, 0)] σ0 σ' → (0 ≤ z ∧ z ≤ 1) → decode cX11_send pc = .ok (.ireturn, 1) → V p l e R s m args below meth c 7 D A Q (0, 0) (fd dom σ') lv pc [.int (iI z)]) : V p l e R s m args below meth c 7 D A Q (0, 0) (fd dom σ0) [(0, .ref h), (1, .int (iI x1)), (2, .int (iI x2)), (3, .int (iI x3))] 0 [] := by
  have F0 : Fr τ [(1, 8), (2, 8), (1, 10), (2, 10), (37, 0), (1, 1), (40, 0)] σ0 σ0 := Fr.rf
  have J154 : ∀ (σ_154 : Nat → va_E) (a154_4 : Nat) (z154_5 : Int) (a154_6 : Nat) (z154_s0 : Int) (a154_s1 : Nat), Good K τ σ_154 → Fr τ [(1, 8), (2, 8), (1, 10), (2, 10), (37, 0), (1, 1), (40, 0)] σ0 σ_154 → (1 ≤ x2 ∧ x2 ≤ 2) → (τ a154_4 = some (33, 0, 0)) → (-2147483648 ≤ z154_5 ∧ z154_5 ≤ 2147483647) → (τ a154_6 = some (1, 13, 0)) → (27 ≤ z154_s0 ∧ z154_s0 ≤ 29) → (τ a154_s1 = some (33, 0, 0)) → V p l e R s m args below meth c 7 D A Q (0, 0) (fd dom σ_154) [(2, .int (iI x2)), (3, .int (iI x3)), (4, .ref a154_4), (5, .int (iI z154_5)), (6, .ref a154_6)] 154 [.int (iI z154_s0), .ref a154_s1] := by
    intro σ_154 a154_4 z154_5 a154_6 z154_s0 a154_s1 G_154 F_154 r154_2 t154_4 r154_5 t154_6 r154_s0 t154_s1
    refine v_iload_n B dX11_send_154 rfl rfl ?_
    refine v_aload B dX11_send_155 rfl ?_
    refine v_iload B dX11_send_157 rfl ?_
    refine u_callVv B Z hz (n := 4) (As := [.int (iI z154_s0), .int (iI x3), .ref a154_6, .int (iI z154_5)]) (rest := []) (c_Device_postValue l D K Z _ _ _ _ a154_s1 z154_s0 x3 a154_6 z154_5 t154_s1 ⟨by omega, by omega⟩ ⟨by omega, by omega⟩ t154_6 ⟨by omega, by omega⟩ σ_154 G_154) gd_Low_send_Device_postValue_262 rfl rfl rfl (by decide +kernel) ⟨Nat.le_trans (by decide +kernel) hR.1, Nat.le_trans (by decide +kernel) hR.2⟩ t154_s1 (cls_Device G_154 t154_s1) rfl rfl rfl rfl (Nat.le_of_ble_eq_true rfl) dX11_send_159 ⟨Nat.zero_le _, Nat.zero_le _⟩ (fun σ1 p2 => ?_)
    obtain ⟨G4, F5⟩ := p2
    have F6 := F_154.call F5 (by first | rfl | simp)
    refine v_iload_n B dX11_send_162 rfl rfl ?_
    refine v_iconst B (v := iI 2) dX11_send_163 rfl ?_
    refine u_icmp_ne B (tgt := 176) (by omega) (by omega) dX11_send_164 (by decide +kernel) (fun c7 => ?_) (fun c7 => ?_)
    · refine v_iconst B (v := iI 1) dX11_send_176 rfl ?_
      exact hend σ1 1 _ _ G4 F6 ⟨by omega, by omega⟩ dX11_send_177
    · refine v_aload B dX11_send_167 rfl ?_
      obtain ⟨z8, yy9, z10, z11, z12, z13, a14, z15, yy16, a17, yy18, a19, a20, a21, a22, a23, a24, a25, a26, h27, r28, r29, r30, r31, r32, r33, t34, r35, r36, t37, r38, t39, t40, t41, t42, t43, t44, t45, t46⟩ : okDevice τ (σ1 a154_4) := G4 a154_4 _ t154_4
      refine u_getN B Z (C := RX3) (T := TX3) (N := 19) (ci := 3) hi_Low_send_X3 t154_4 h27 rfl 15 (by decide +kernel) (List.mem_of_getElem? (i := 3) rfl) rfl dX11_send_169 ?_
      refine v_iconst B (v := iI 1) dX11_send_172 rfl ?_
      obtain ⟨a47, a48, a49, z50, z51, z52, a53, z54, z55, a56, h57, t58, t59, t60, r61, r62, r63, t64, r65, r66, t67⟩ : okServer τ (σ1 a23) := G4 a23 _ t43
      refine u_putN B Z (C := RX10) (T := TX10) (N := 10) (ci := 10) hi_Low_send_X10 t43 h57 rfl 8 (by decide +kernel) tyX10 tyX10_ok nmX10 (List.mem_of_getElem? (i := 24) rfl) rfl (ty := .boolean) (tyX10_ok 8 (by decide +kernel)) (nar01 (by omega)) (fit01 (by omega)) (Nat.le_of_ble_eq_true rfl) (fs' := [.ref a47, .ref a48, .ref a49, .int (iI z50), .int (iI z51), .int (iI z52), .ref a53, .int (iI z54), .int (iI 1), .ref a56]) rfl dX11_send_173 (fun σ68 h69 n70 => ?_)
      have G71 := G4.put t43 (⟨a47, a48, a49, z50, z51, z52, a53, z54, 1, a56, h69, t58, t59, t60, ⟨by omega, by omega⟩, ⟨by omega, by omega⟩, ⟨by omega, by omega⟩, t64, ⟨by omega, by omega⟩, ⟨by omega, by omega⟩, t67⟩ : Ok K τ (40, 0, 0) (σ68 a23)) n70
      have F72 := F6.put t43 (by simp) n70
      have h73 := (n70 a154_4 (ne_ty t154_4 t43 (by simp))).trans h27
      refine v_iconst B (v := iI 1) dX11_send_176 rfl ?_
      exact hend σ68 1 _ _ G71 F72 ⟨by omega, by omega⟩ dX11_send_177
  have J140 : ∀ (σ_140 : Nat → va_E) (a140_4 : Nat) (z140_5 : Int) (a140_6 : Nat), Good K τ σ_140 → Fr τ [(1, 8), (2, 8), (1, 10), (2, 10), (37, 0), (1, 1), (40, 0)] σ0 σ_140 → (1 ≤ x2 ∧ x2 ≤ 2) → (τ a140_4 = some (33, 0, 0)) → (-2147483648 ≤ z140_5 ∧ z140_5 ≤ 2147483647) → (τ a140_6 = some (1, 13, 0)) → V p l e R s m args below meth c 7 D A Q (0, 0) (fd dom σ_140) [(2, .int (iI x2)), (3, .int (iI x3)), (4, .ref a140_4), (5, .int (iI z140_5)), (6, .ref a140_6)] 140 [] := by
    intro σ_140 a140_4 z140_5 a140_6 G_140 F_140 r140_2 t140_4 r140_5 t140_6
    refine v_aload B dX11_send_140 rfl ?_
    refine v_iload_n B dX11_send_142 rfl rfl ?_
    refine v_iconst B (v := iI 1) dX11_send_143 rfl ?_
    refine u_icmp_ne B (tgt := 152) (by omega) (by omega) dX11_send_144 (by decide +kernel) (fun c74 => ?_) (fun c74 => ?_)
    · refine v_bipush B (v := iI 29) dX11_send_152 (by decide +kernel) ?_
      exact J154 σ_140 a140_4 z140_5 a140_6 29 a140_4 G_140 F_140 ⟨by omega, by omega⟩ t140_4 ⟨by omega, by omega⟩ t140_6 ⟨by omega, by omega⟩ t140_4
    · refine v_bipush B (v := iI 27) dX11_send_147 (by decide +kernel) ?_
      refine v_goto B (tgt := 154) dX11_send_149 (by decide +kernel) ?_
      exact J154 σ_140 a140_4 z140_5 a140_6 27 a140_4 G_140 F_140 ⟨by omega, by omega⟩ t140_4 ⟨by omega, by omega⟩ t140_6 ⟨by omega, by omega⟩ t140_4
  have J122 : ∀ (σ_122 : Nat → va_E) (a122_4 : Nat) (z122_5 : Int) (a122_6 : Nat), Good K τ σ_122 → Fr τ [(1, 8), (2, 8), (1, 10), (2, 10), (37, 0), (1, 1), (40, 0)] σ0 σ_122 → (1 ≤ x2 ∧ x2 ≤ 2) → (τ a122_4 = some (33, 0, 0)) → (-2147483648 ≤ z122_5 ∧ z122_5 ≤ 2147483647) → (τ a122_6 = some (1, 13, 0)) → V p l e R s m args below meth c 7 D A Q (0, 0) (fd dom σ_122) [(2, .int (iI x2)), (3, .int (iI x3)), (4, .ref a122_4), (5, .int (iI z122_5)), (6, .ref a122_6)] 122 [] := by
    intro σ_122 a122_4 z122_5 a122_6 G_122 F_122 r122_2 t122_4 r122_5 t122_6
    refine v_iload_n B dX11_send_122 rfl rfl ?_
    refine v_iconst B (v := iI 2) dX11_send_123 rfl ?_
    refine u_icmp_ne B (tgt := 140) (by omega) (by omega) dX11_send_124 (by decide +kernel) (fun c75 => ?_) (fun c75 => ?_)
    · exact J140 σ_122 a122_4 z122_5 a122_6 G_122 F_122 ⟨by omega, by omega⟩ t122_4 ⟨by omega, by omega⟩ t122_6
    · refine v_aload B dX11_send_127 rfl ?_
      obtain ⟨z76, yy77, z78, z79, z80, z81, a82, z83, yy84, a85, yy86, a87, a88, a89, a90, a91, a92, a93, a94, h95, r96, r97, r98, r99, r100, r101, t102, r103, r104, t105, r106, t107, t108, t109, t110, t111, t112, t113, t114⟩ : okDevice τ (σ_122 a122_4) := G_122 a122_4 _ t122_4
      refine u_getN B Z (C := RX3) (T := TX3) (N := 19) (ci := 3) hi_Low_send_X3 t122_4 h95 rfl 15 (by decide +kernel) (List.mem_of_getElem? (i := 3) rfl) rfl dX11_send_129 ?_
      obtain ⟨a115, a116, a117, z118, z119, z120, a121, z122, z123, a124, h125, t126, t127, t128, r129, r130, r131, t132, r133, r134, t135⟩ : okServer τ (σ_122 a91) := G_122 a91 _ t111
      refine u_getN B Z (C := RX10) (T := TX10) (N := 10) (ci := 10) hi_Low_send_X10 t111 h125 rfl 8 (by decide +kernel) (List.mem_of_getElem? (i := 24) rfl) rfl dX11_send_132 ?_
      refine u_if_eq B (tgt := 140) (by omega) dX11_send_135 (by decide +kernel) (fun c136 => ?_) (fun c136 => ?_)
      · exact J140 σ_122 a122_4 z122_5 a122_6 G_122 F_122 ⟨by omega, by omega⟩ t122_4 ⟨by omega, by omega⟩ t122_6
      · refine v_iconst B (v := iI 0) dX11_send_138 rfl ?_
        exact hend σ_122 0 _ _ G_122 F_122 ⟨by omega, by omega⟩ dX11_send_139
  refine v_aload_n B dX11_send_0 rfl rfl ?_
  refine v_iload_n B dX11_send_1 rfl rfl ?_
  refine u_callVq B Z hz (n := 1) (As := [.int (iI x1)]) (rest := []) (c_Low_find l D K Z _ _ _ _ h x1 t_h ⟨by omega, by omega⟩ σ0 G0) gd_Low_send_Low_find_52 rfl rfl rfl (by decide +kernel) ⟨Nat.le_trans (by decide +kernel) hR.1, Nat.le_trans (by decide +kernel) hR.2⟩ t_h (cls_Low G0 t_h) rfl rfl rfl rfl (Nat.le_of_ble_eq_true rfl) dX11_send_2 ⟨Nat.zero_le _, Nat.zero_le _⟩ (fun v139 σ137 p138 => ?_)
  obtain ⟨rfl, q143⟩ := p138
  rcases q143 with rfl | ⟨a144, rfl, t145⟩
  · show V _ _ _ _ _ _ _ _ _ _ _ _ _ _ _ _ _ _ [.null]
    refine v_astoreN B (lv' := [(4, .null), (0, .ref h), (1, .int (iI x1)), (2, .int (iI x2)), (3, .int (iI x3))]) dX11_send_5 (by decide +kernel) rfl ?_
    refine v_aloadN B dX11_send_7 rfl ?_
    refine v_ifnullN B (tgt := 31) dX11_send_9 (by decide +kernel) ?_
    refine v_iconst B (v := iI 0) dX11_send_31 rfl ?_
    exact hend σ0 0 _ _ G0 F0 ⟨by omega, by omega⟩ dX11_send_32
  · show V _ _ _ _ _ _ _ _ _ _ _ _ _ _ _ _ _ _ [.ref a144]
    refine v_astore B (lv' := [(4, .ref a144), (0, .ref h), (1, .int (iI x1)), (2, .int (iI x2)), (3, .int (iI x3))]) dX11_send_5 (by decide +kernel) rfl ?_
    refine v_aload B dX11_send_7 rfl ?_
    refine v_ifnull B dX11_send_9 ?_
    refine v_aload B dX11_send_12 rfl ?_
    refine u_callVi B Z hz (n := 0) (As := []) (rest := []) (c_Device_inLink l D K Z _ _ _ _ a144 t145 σ0 G0) gd_Low_send_Device_inLink_99 rfl rfl rfl (by decide +kernel) ⟨Nat.le_trans (by decide +kernel) hR.1, Nat.le_trans (by decide +kernel) hR.2⟩ t145 (cls_Device G0 t145) rfl rfl rfl rfl (Nat.le_of_ble_eq_true rfl) dX11_send_14 ⟨Nat.zero_le _, Nat.zero_le _⟩ (fun v148 σ146 p147 => ?_)
    obtain ⟨rfl, z152, e153, r154⟩ := p147
    subst e153
    refine u_if_eq B (tgt := 31) (by omega) dX11_send_17 (by decide +kernel) (fun c155 => ?_) (fun c155 => ?_)
    · refine v_iconst B (v := iI 0) dX11_send_31 rfl ?_
      exact hend σ0 0 _ _ G0 F0 ⟨by omega, by omega⟩ dX11_send_32
    · refine v_aload B dX11_send_20 rfl ?_
      obtain ⟨z156, yy157, z158, z159, z160, z161, a162, z163, yy164, a165, yy166, a167, a168, a169, a170, a171, a172, a173, a174, h175, r176, r177, r178, r179, r180, r181, t182, r183, r184, t185, r186, t187, t188, t189, t190, t191, t192, t193, t194⟩ : okDevice τ (σ0 a144) := G0 a144 _ t145
      refine u_getN B Z (C := RX3) (T := TX3) (N := 19) (ci := 3) hi_Low_send_X3 t145 h175 rfl 12 (by decide +kernel) (List.mem_of_getElem? (i := 5) rfl) rfl dX11_send_22 ?_
      refine u_callVi B Z hz (n := 0) (As := []) (rest := []) (c_Mail_isFull l D K Z _ _ _ _ a168 t188 σ0 G0) gd_Low_send_Mail_isFull_222 rfl rfl rfl (by decide +kernel) ⟨Nat.le_trans (by decide +kernel) hR.1, Nat.le_trans (by decide +kernel) hR.2⟩ t188 (cls_Mail G0 t188) rfl rfl rfl rfl (Nat.le_of_ble_eq_true rfl) dX11_send_25 ⟨Nat.zero_le _, Nat.zero_le _⟩ (fun v197 σ195 p196 => ?_)
      obtain ⟨rfl, z201, e202, r203, fl204⟩ := p196
      subst e202
      obtain ⟨a205, z206, z207, a208, z209, z210, z211, a212, z213, z214, z215, a216, z217, a218, z219, a220, h221, t222, r223, r224, t225, r226, r227, r228, t229, r230, r231, r232, t233, r234, t235, r236, t237⟩ : okMail τ (σ0 a168) := G0 a168 _ t188
      have r238 : z201 = 0 → z214 ≤ 7 := fun q => (fl204 q).use h221 (j := 9) rfl (by omega)
      refine u_if_eq B (tgt := 33) (by omega) dX11_send_28 (by decide +kernel) (fun c239 => ?_) (fun c239 => ?_)
      · refine v_aload B dX11_send_33 rfl ?_
        refine u_getN B Z (C := RX3) (T := TX3) (N := 19) (ci := 3) hi_Low_send_X3 t145 h175 rfl 15 (by decide +kernel) (List.mem_of_getElem? (i := 3) rfl) rfl dX11_send_35 ?_
        obtain ⟨a240, a241, a242, z243, z244, z245, a246, z247, z248, a249, h250, t251, t252, t253, r254, r255, r256, t257, r258, r259, t260⟩ : okServer τ (σ0 a171) := G0 a171 _ t191
        refine u_getN B Z (C := RX10) (T := TX10) (N := 10) (ci := 10) hi_Low_send_X10 t191 h250 rfl 5 (by decide +kernel) (List.mem_of_getElem? (i := 23) rfl) rfl dX11_send_38 ?_
        refine v_iconst B (v := iI 3) dX11_send_41 rfl ?_
        obtain ⟨z261, e262, r263⟩ := iI_any (iI z245 - iI 3)
        refine v_isub B (v := iI z261) dX11_send_42 e262 ?_
        refine v_istore B (lv' := [(5, .int (iI z261)), (4, .ref a144), (0, .ref h), (1, .int (iI x1)), (2, .int (iI x2)), (3, .int (iI x3))]) dX11_send_43 (by decide +kernel) rfl ?_
        refine v_iload_n B dX11_send_45 rfl rfl ?_
        refine u_if_ne B (tgt := 96) (by omega) dX11_send_46 (by decide +kernel) (fun c264 => ?_) (fun c264 => ?_)
        · refine v_aload B dX11_send_96 rfl ?_
          refine u_getN B Z (C := RX3) (T := TX3) (N := 19) (ci := 3) hi_Low_send_X3 t145 h175 rfl 15 (by decide +kernel) (List.mem_of_getElem? (i := 3) rfl) rfl dX11_send_98 ?_
          refine v_iload_n B dX11_send_101 rfl rfl ?_
          refine u_callVq B Z hz (n := 1) (As := [.int (iI x3)]) (rest := []) (c_Server_valueOf l D K Z _ _ _ _ a171 x3 t191 ⟨by omega, by omega⟩ σ0 G0) gd_Low_send_Server_valueOf_134 rfl rfl rfl (by decide +kernel) ⟨Nat.le_trans (by decide +kernel) hR.1, Nat.le_trans (by decide +kernel) hR.2⟩ t191 (cls_Server G0 t191) rfl rfl rfl rfl (Nat.le_of_ble_eq_true rfl) dX11_send_102 ⟨Nat.zero_le _, Nat.zero_le _⟩ (fun v267 σ265 p266 => ?_)
          obtain ⟨rfl, q271⟩ := p266
          rcases q271 with rfl | ⟨a272, rfl, t273⟩
          · show V _ _ _ _ _ _ _ _ _ _ _ _ _ _ _ _ _ _ [.null]
            refine v_astoreN B (lv' := [(6, .null), (5, .int (iI z261)), (4, .ref a144), (0, .ref h), (1, .int (iI x1)), (2, .int (iI x2)), (3, .int (iI x3))]) dX11_send_105 (by decide +kernel) rfl ?_
            refine v_aloadN B dX11_send_107 rfl ?_
            refine v_ifnullN B (tgt := 138) dX11_send_109 (by decide +kernel) ?_
            refine v_iconst B (v := iI 0) dX11_send_138 rfl ?_
            exact hend σ0 0 _ _ G0 F0 ⟨by omega, by omega⟩ dX11_send_139
          · show V _ _ _ _ _ _ _ _ _ _ _ _ _ _ _ _ _ _ [.ref a272]
            refine v_astore B (lv' := [(6, .ref a272), (5, .int (iI z261)), (4, .ref a144), (0, .ref h), (1, .int (iI x1)), (2, .int (iI x2)), (3, .int (iI x3))]) dX11_send_105 (by decide +kernel) rfl ?_
            refine v_aload B dX11_send_107 rfl ?_
            refine v_ifnull B dX11_send_109 ?_
            refine v_iload_n B dX11_send_112 rfl rfl ?_
            refine v_iconst B (v := iI 1) dX11_send_113 rfl ?_
            refine u_icmp_eq B (tgt := 122) (by omega) (by omega) dX11_send_114 (by decide +kernel) (fun c274 => ?_) (fun c274 => ?_)
            · refine v_lv [5, 6, 2, 1, 0] rfl ?_
              exact J122 σ0 a144 z261 a272 G0 F0 ⟨by omega, by omega⟩ t145 ⟨by omega, by omega⟩ t273
            · refine v_iload_n B dX11_send_117 rfl rfl ?_
              refine v_iconst B (v := iI 2) dX11_send_118 rfl ?_
              refine u_icmp_ne B (tgt := 138) (by omega) (by omega) dX11_send_119 (by decide +kernel) (fun c275 => ?_) (fun c275 => ?_)
              · refine v_iconst B (v := iI 0) dX11_send_138 rfl ?_
                exact hend σ0 0 _ _ G0 F0 ⟨by omega, by omega⟩ dX11_send_139
              · refine v_lv [5, 6, 2, 1, 0] rfl ?_
                exact J122 σ0 a144 z261 a272 G0 F0 ⟨by omega, by omega⟩ t145 ⟨by omega, by omega⟩ t273
        · refine v_iload_n B dX11_send_49 rfl rfl ?_
          refine u_if_lt B (tgt := 71) (by omega) dX11_send_50 (by decide +kernel) (fun c276 => ?_) (fun c276 => ?_)
          · refine v_iconst B (v := iI 0) dX11_send_71 rfl ?_
            exact hend σ0 0 _ _ G0 F0 ⟨by omega, by omega⟩ dX11_send_72
          · refine v_iload_n B dX11_send_53 rfl rfl ?_
            refine v_ldc B (v := iI 65535) (u_ci (List.mem_of_getElem? (i := 66) rfl) (by decide +kernel)) dX11_send_54 ?_
            refine u_icmp_gt B (tgt := 71) (by omega) (by omega) dX11_send_56 (by decide +kernel) (fun c277 => ?_) (fun c277 => ?_)
            · refine v_iconst B (v := iI 0) dX11_send_71 rfl ?_
              exact hend σ0 0 _ _ G0 F0 ⟨by omega, by omega⟩ dX11_send_72
            · refine v_aload_n B dX11_send_59 rfl rfl ?_
              obtain ⟨a278, a279, a280, a281, z282, h283, t284, t285, t286, t287, r288⟩ : okLow τ (σ0 h) := G0 h _ t_h
              refine u_get B Z (C := RX11) (T := TX11) (N := 5) (ci := 11) hi_Low_send_X11 t_h h283 rfl 2 (by decide +kernel) (List.mem_of_getElem? (i := 67) rfl) rfl dX11_send_60 ?_
              obtain ⟨b289, N290, n291, h292, t293, r294⟩ : okRow τ 1 (σ0 a280) := G0 a280 _ t286
              refine u_getN B Z (C := RX9) (T := TX9) (N := 2) (ci := 9) hi_Low_send_X9 t286 h292 rfl 1 (by decide +kernel) (List.mem_of_getElem? (i := 51) rfl) rfl dX11_send_63 ?_
              refine v_iload B dX11_send_66 rfl ?_
              refine u_icmp_le B (tgt := 73) (by omega) (by omega) dX11_send_68 (by decide +kernel) (fun c295 => ?_) (fun c295 => ?_)
              · refine v_aload B dX11_send_73 rfl ?_
                refine v_bipush B (v := iI 82) dX11_send_75 (by decide +kernel) ?_
                refine v_iload_n B dX11_send_77 rfl rfl ?_
                refine v_aload_n B dX11_send_78 rfl rfl ?_
                refine u_get B Z (C := RX11) (T := TX11) (N := 5) (ci := 11) hi_Low_send_X11 t_h h283 rfl 2 (by decide +kernel) (List.mem_of_getElem? (i := 67) rfl) rfl dX11_send_79 ?_
                refine v_iload B dX11_send_82 rfl ?_
                refine u_callVv B Z hz (n := 4) (As := [.int (iI 82), .int (iI x3), .ref a280, .int (iI z261)]) (rest := []) (c_Device_postValue l D K Z _ _ _ _ a144 82 x3 a280 z261 t145 ⟨by omega, by omega⟩ ⟨by omega, by omega⟩ t286 ⟨by omega, by omega⟩ σ0 G0) gd_Low_send_Device_postValue_262 rfl rfl rfl (by decide +kernel) ⟨Nat.le_trans (by decide +kernel) hR.1, Nat.le_trans (by decide +kernel) hR.2⟩ t145 (cls_Device G0 t145) rfl rfl rfl rfl (Nat.le_of_ble_eq_true rfl) dX11_send_84 ⟨Nat.zero_le _, Nat.zero_le _⟩ (fun σ296 p297 => ?_)
                obtain ⟨G299, F300⟩ := p297
                have F301 := F0.call F300 (by first | rfl | simp)
                have h302 := (F300 a144 _ t145 (by first | rfl | simp)).trans h175
                have h303 := (F300 a171 _ t191 (by first | rfl | simp)).trans h250
                have h304 := (F300 h _ t_h (by first | rfl | simp)).trans h283
                have h305 := (F300 a280 _ t286 (by first | rfl | simp)).trans h292
                refine v_aload_n B dX11_send_87 rfl rfl ?_
                refine u_get B Z (C := RX11) (T := TX11) (N := 5) (ci := 11) hi_Low_send_X11 t_h h304 rfl 2 (by decide +kernel) (List.mem_of_getElem? (i := 67) rfl) rfl dX11_send_88 ?_
                refine u_callVv B Z hz (n := 0) (As := []) (rest := []) (c_Row_clear l D K Z _ _ _ _ a280 t286 σ296 G299) gd_Low_send_Row_clear_78 rfl rfl rfl (by decide +kernel) ⟨Nat.le_trans (by decide +kernel) hR.1, Nat.le_trans (by decide +kernel) hR.2⟩ t286 (cls_Row G299 t286) rfl rfl rfl rfl (Nat.le_of_ble_eq_true rfl) dX11_send_91 ⟨Nat.zero_le _, Nat.zero_le _⟩ (fun σ306 p307 => ?_)
                obtain ⟨G309, F310⟩ := p307
                have F311 := F301.call F310 (by first | rfl | simp)
                have h312 := (F310 a144 _ t145 (by first | rfl | simp)).trans h302
                have h313 := (F310 a171 _ t191 (by first | rfl | simp)).trans h303
                have h314 := (F310 h _ t_h (by first | rfl | simp)).trans h304
                refine v_iconst B (v := iI 1) dX11_send_94 rfl ?_
                exact hend σ306 1 _ _ G309 F311 ⟨by omega, by omega⟩ dX11_send_95
              · refine v_iconst B (v := iI 0) dX11_send_71 rfl ?_
                exact hend σ0 0 _ _ G0 F0 ⟨by omega, by omega⟩ dX11_send_72
      · refine v_iconst B (v := iI 0) dX11_send_31 rfl ?_
        exact hend σ0 0 _ _ G0 F0 ⟨by omega, by omega⟩ dX11_send_32
set_option maxRecDepth 100000 in
theorem c_Low_send (l : Launch) (D : va_G) (K : Nat → ClassId) {τ : Nat → Option Ty} {dom : List Nat} (Z : Sk τ dom) (zb zL : Nat) (zx : Nat → Int32) (zs : Nat → Nat) (h : Nat) (x1 : Int) (x2 : Int) (x3 : Int) (t_h : τ h = some (41, 0, 0)) (r_x1 : -2147483648 ≤ x1 ∧ x1 ≤ 2147483647) (r_x2 : -2147483648 ≤ x2 ∧ x2 ≤ 2147483647) (r_x3 : -2147483648 ≤ x3 ∧ x3 ≤ 2147483647) (σ0 : Nat → va_E) (G0 : Good K τ σ0) : MZ l yX11_send wp_Low_send ({ frames := 4, cells := 0, slots := 0, locals := 85 }) D (tysA K) [.ref h, .int (iI x1), .int (iI x2), .int (iI x3)] (fd dom σ0) zb zL zx zs (Qi D (fun r σ' => Good K τ σ' ∧ Fr τ [(1, 8), (2, 8), (1, 10), (2, 10), (37, 0), (1, 1), (40, 0)] σ0 σ' ∧ ∃ z : Int, r = iI z ∧ (0 ≤ z ∧ z ≤ 1)) (fun σ' => fd dom σ')) 0 0 := by
  refine mz_of (cc := cX11_send) (maxL := 7) (ret := (some .boolean)) (by decide +kernel) rfl (Nat.le_of_ble_eq_true rfl) ?_
  intro p e s m below meth c A B hr hlk _ hz
  exact b_Low_send ⟨Nat.le_refl _, Nat.le_refl _⟩ B Z hz h x1 x2 x3 t_h r_x1 r_x2 r_x3 σ0 G0 (fun σ' z lv pc G F hZ hd => v_zret B hr hlk (nar01 (by omega)) σ' ⟨G, F, z, rfl, hZ⟩ rfl (Nat.le_refl _) (Nat.le_refl _) hd)

def wp_Low_take : List Cond := .code yX11_take cX11_take 3 (some .boolean) :: (([.methodLink RX11 52 yX11_find, .instanceMethod yX11_find, .selects RX11 yX11_find yX11_find, .initialized RX11, .code yX11_find cX11_find 2 (some (.object "LowEnergy$Device")), .fieldLink RX11 9 "LowEnergy" "devices" "[LLowEnergy$Device;", .methodLink RX11 273 yX4_dropFirst, .instanceMethod yX4_dropFirst, .selects RX4 yX4_dropFirst yX4_dropFirst, .initialized RX4, .code yX4_dropFirst cX4_dropFirst 1 (some .boolean), .fieldLink RX4 29 "LowEnergy$Diary" "count" "I", .fieldLink RX4 36 "LowEnergy$Diary" "head" "I"] : List Cond) ++ (wsX110 ++ (wsX30 ++ (wsX40 ++ ([])))))
theorem hi_Low_take_X11 : ∀ x ∈ u_ws RX11 TX11 5, x ∈ wp_Low_take := fun _ h => List.mem_cons_of_mem _ (List.mem_append_right _ (List.mem_append_left _ h))
theorem hi_Low_take_X3 : ∀ x ∈ u_ws RX3 TX3 19, x ∈ wp_Low_take := fun _ h => List.mem_cons_of_mem _ (List.mem_append_right _ (List.mem_append_right _ (List.mem_append_left _ h)))
theorem hi_Low_take_X4 : ∀ x ∈ u_ws RX4 TX4 6, x ∈ wp_Low_take := fun _ h => List.mem_cons_of_mem _ (List.mem_append_right _ (List.mem_append_right _ (List.mem_append_right _ (List.mem_append_left _ h))))
set_option maxRecDepth 100000 in
theorem gd_Low_take_Low_find_52 : GoodIn wp_Low_take (wsV RX11 52 RX11 yX11_find wp_Low_find) := goodIn_app (goodIn_r _ [1, 2, 3, 4] rfl rfl) (goodIn_ca (goodIn_r _ [5, 6] rfl rfl) (goodIn_app (goodIn_cls hi_Low_take_X11 gw_X11) (goodIn_nil)))
set_option maxRecDepth 100000 in
theorem gd_Low_take_Diary_dropFirst_273 : GoodIn wp_Low_take (wsV RX11 273 RX4 yX4_dropFirst wp_Diary_dropFirst) := goodIn_app (goodIn_r _ [7, 8, 9, 10] rfl rfl) (goodIn_ca (goodIn_r _ [11, 12, 13] rfl rfl) (goodIn_app (goodIn_cls hi_Low_take_X4 gw_X4) (goodIn_nil)))
set_option maxHeartbeats 4000000 in
set_option maxRecDepth 100000 in
theorem b_Low_take {p : Program} {l : Launch} {e : Env} {R : Room} {s : State} {m : MethodId} {args : Array Value} {below : List Frame} {meth : Method} {c : Code} {D : va_G} {K : Nat → ClassId} {A : Nat → Prop} {Q : State → Prop} {τ : Nat → Option Ty} {dom : List Nat} {zb zL : Nat} {zx : Nat → Int32} {zs : Nat → Nat} (hR : 1 ≤ R.frames ∧ 21 ≤ R.locals) (B : Bx p s m args c cX11_take 3 RX11 wp_Low_take D (tysA K) A) (Z : Sk τ dom) (hz : ZL zb zL zx zs A s s.heap) (h : Nat) (x1 : Int) (t_h : τ h = some (41, 0, 0)) (r_x1 : -2147483648 ≤ x1 ∧ x1 ≤ 2147483647) (σ0 : Nat → va_E) (G0 : Good K τ σ0) (hend : ∀ (σ' : Nat → va_E) (z : Int) (lv : List (Nat × Value)) (pc : Nat), Good K τ σ' → Fr τ [(34, 0)] σ0 σ' → (0 ≤ z ∧ z ≤ 1) → decode cX11_take pc = .ok (.ireturn, 1) → V p l e R s m args below meth c 3 D A Q (0, 0) (fd dom σ') lv pc [.int (iI z)]) : V p l e R s m args below meth c 3 D A Q (0, 0) (fd dom σ0) [(0, .ref h), (1, .int (iI x1))] 0 [] := by
  have F0 : Fr τ [(34, 0)] σ0 σ0 := Fr.rf
  refine v_aload_n B dX11_take_0 rfl rfl ?_
  refine v_iload_n B dX11_take_1 rfl rfl ?_
  refine u_callVq B Z hz (n := 1) (As := [.int (iI x1)]) (rest := []) (c_Low_find l D K Z _ _ _ _ h x1 t_h ⟨by omega, by omega⟩ σ0 G0) gd_Low_take_Low_find_52 rfl rfl rfl (by decide +kernel) ⟨Nat.le_trans (by decide +kernel) hR.1, Nat.le_trans (by decide +kernel) hR.2⟩ t_h (cls_Low G0 t_h) rfl rfl rfl rfl (Nat.le_of_ble_eq_true rfl) dX11_take_2 ⟨Nat.zero_le _, Nat.zero_le _⟩ (fun v3 σ1 p2 => ?_)
  obtain ⟨rfl, q7⟩ := p2
  rcases q7 with rfl | ⟨a8, rfl, t9⟩
  · show V _ _ _ _ _ _ _ _ _ _ _ _ _ _ _ _ _ _ [.null]
    refine v_astore_nN B (lv' := [(2, .null), (0, .ref h), (1, .int (iI x1))]) dX11_take_5 rfl (by decide +kernel) rfl ?_
    refine v_aload_nN B dX11_take_6 rfl rfl ?_
    refine v_ifnullN B (tgt := 24) dX11_take_7 (by decide +kernel) ?_
    refine v_iconst B (v := iI 0) dX11_take_24 rfl ?_
    exact hend σ0 0 _ _ G0 F0 ⟨by omega, by omega⟩ dX11_take_25
  · show V _ _ _ _ _ _ _ _ _ _ _ _ _ _ _ _ _ _ [.ref a8]
    refine v_astore_n B (lv' := [(2, .ref a8), (0, .ref h), (1, .int (iI x1))]) dX11_take_5 rfl (by decide +kernel) rfl ?_
    refine v_aload_n B dX11_take_6 rfl rfl ?_
    refine v_ifnull B dX11_take_7 ?_
    refine v_aload_n B dX11_take_10 rfl rfl ?_
    obtain ⟨z10, yy11, z12, z13, z14, z15, a16, z17, yy18, a19, yy20, a21, a22, a23, a24, a25, a26, a27, a28, h29, r30, r31, r32, r33, r34, r35, t36, r37, r38, t39, r40, t41, t42, t43, t44, t45, t46, t47, t48⟩ : okDevice τ (σ0 a8) := G0 a8 _ t9
    refine u_getN B Z (C := RX3) (T := TX3) (N := 19) (ci := 3) hi_Low_take_X3 t9 h29 rfl 17 (by decide +kernel) (List.mem_of_getElem? (i := 25) rfl) rfl dX11_take_11 ?_
    refine u_callVi B Z hz (n := 0) (As := []) (rest := []) (c_Diary_dropFirst l D K Z _ _ _ _ a27 t47 σ0 G0) gd_Low_take_Diary_dropFirst_273 rfl rfl rfl (by decide +kernel) ⟨Nat.le_trans (by decide +kernel) hR.1, Nat.le_trans (by decide +kernel) hR.2⟩ t47 (cls_Diary G0 t47) rfl rfl rfl rfl (Nat.le_of_ble_eq_true rfl) dX11_take_14 ⟨Nat.zero_le _, Nat.zero_le _⟩ (fun v51 σ49 p50 => ?_)
    obtain ⟨G52, F53, z55, e56, r57⟩ := p50
    subst e56
    have F54 := F0.call F53 (by first | rfl | simp)
    have h58 := (F53 a8 _ t9 (by first | rfl | simp)).trans h29
    refine u_if_eq B (tgt := 24) (by omega) dX11_take_17 (by decide +kernel) (fun c59 => ?_) (fun c59 => ?_)
    · refine v_iconst B (v := iI 0) dX11_take_24 rfl ?_
      exact hend σ49 0 _ _ G52 F54 ⟨by omega, by omega⟩ dX11_take_25
    · refine v_iconst B (v := iI 1) dX11_take_20 rfl ?_
      refine v_goto B (tgt := 25) dX11_take_21 (by decide +kernel) ?_
      exact hend σ49 1 _ _ G52 F54 ⟨by omega, by omega⟩ dX11_take_25
set_option maxRecDepth 100000 in
theorem c_Low_take (l : Launch) (D : va_G) (K : Nat → ClassId) {τ : Nat → Option Ty} {dom : List Nat} (Z : Sk τ dom) (zb zL : Nat) (zx : Nat → Int32) (zs : Nat → Nat) (h : Nat) (x1 : Int) (t_h : τ h = some (41, 0, 0)) (r_x1 : -2147483648 ≤ x1 ∧ x1 ≤ 2147483647) (σ0 : Nat → va_E) (G0 : Good K τ σ0) : MZ l yX11_take wp_Low_take ({ frames := 1, cells := 0, slots := 0, locals := 21 }) D (tysA K) [.ref h, .int (iI x1)] (fd dom σ0) zb zL zx zs (Qi D (fun r σ' => Good K τ σ' ∧ Fr τ [(34, 0)] σ0 σ' ∧ ∃ z : Int, r = iI z ∧ (0 ≤ z ∧ z ≤ 1)) (fun σ' => fd dom σ')) 0 0 := by
  refine mz_of (cc := cX11_take) (maxL := 3) (ret := (some .boolean)) (by decide +kernel) rfl (Nat.le_of_ble_eq_true rfl) ?_
  intro p e s m below meth c A B hr hlk _ hz
  exact b_Low_take ⟨Nat.le_refl _, Nat.le_refl _⟩ B Z hz h x1 t_h r_x1 σ0 G0 (fun σ' z lv pc G F hZ hd => v_zret B hr hlk (nar01 (by omega)) σ' ⟨G, F, z, rfl, hZ⟩ rfl (Nat.le_refl _) (Nat.le_refl _) hd)

def wp_Low_completion : List Cond := .code yX11_completion cX11_completion 4 (some .int) :: (([.methodLink RX11 52 yX11_find, .instanceMethod yX11_find, .selects RX11 yX11_find yX11_find, .initialized RX11, .code yX11_find cX11_find 2 (some (.object "LowEnergy$Device")), .fieldLink RX11 9 "LowEnergy" "devices" "[LLowEnergy$Device;", .methodLink RX11 295 yX4_figure, .instanceMethod yX4_figure, .selects RX4 yX4_figure yX4_figure, .initialized RX4, .code yX4_figure cX4_figure 2 (some .int), .fieldLink RX4 22 "LowEnergy$Diary" "rows" "[LLowEnergy$Row;", .fieldLink RX4 36 "LowEnergy$Diary" "head" "I", .methodLink RX4 53 yX9_at, .instanceMethod yX9_at, .selects RX9 yX9_at yX9_at, .initialized RX9, .code yX9_at cX9_at 2 (some .int), .fieldLink RX9 21 "LowEnergy$Row" "size" "I", .fieldLink RX9 15 "LowEnergy$Row" "bytes" "[I", .fieldLink RX4 29 "LowEnergy$Diary" "count" "I", .fieldLink RX4 17 "LowEnergy$Diary" "numbers" "[[I", .fieldLink RX4 11 "LowEnergy$Diary" "kinds" "[I"] : List Cond) ++ (wsX110 ++ (wsX30 ++ (wsX40 ++ (wsX90 ++ ([]))))))
theorem hi_Low_completion_X11 : ∀ x ∈ u_ws RX11 TX11 5, x ∈ wp_Low_completion := fun _ h => List.mem_cons_of_mem _ (List.mem_append_right _ (List.mem_append_left _ h))
theorem hi_Low_completion_X3 : ∀ x ∈ u_ws RX3 TX3 19, x ∈ wp_Low_completion := fun _ h => List.mem_cons_of_mem _ (List.mem_append_right _ (List.mem_append_right _ (List.mem_append_left _ h)))
theorem hi_Low_completion_X4 : ∀ x ∈ u_ws RX4 TX4 6, x ∈ wp_Low_completion := fun _ h => List.mem_cons_of_mem _ (List.mem_append_right _ (List.mem_append_right _ (List.mem_append_right _ (List.mem_append_left _ h))))
theorem hi_Low_completion_X9 : ∀ x ∈ u_ws RX9 TX9 2, x ∈ wp_Low_completion := fun _ h => List.mem_cons_of_mem _ (List.mem_append_right _ (List.mem_append_right _ (List.mem_append_right _ (List.mem_append_right _ (List.mem_append_left _ h)))))
set_option maxRecDepth 100000 in
theorem gd_Low_completion_Low_find_52 : GoodIn wp_Low_completion (wsV RX11 52 RX11 yX11_find wp_Low_find) := goodIn_app (goodIn_r _ [1, 2, 3, 4] rfl rfl) (goodIn_ca (goodIn_r _ [5, 6] rfl rfl) (goodIn_app (goodIn_cls hi_Low_completion_X11 gw_X11) (goodIn_nil)))
set_option maxRecDepth 100000 in
theorem gd_Low_completion_Diary_figure_295 : GoodIn wp_Low_completion (wsV RX11 295 RX4 yX4_figure wp_Diary_figure) := goodIn_app (goodIn_r _ [7, 8, 9, 10] rfl rfl) (goodIn_ca (goodIn_r _ [11, 12, 13, 14, 15, 16, 17, 18, 19, 20, 21, 22, 23] rfl rfl) (goodIn_app (goodIn_cls hi_Low_completion_X4 gw_X4) (goodIn_app (goodIn_cls hi_Low_completion_X9 gw_X9) (goodIn_nil))))
set_option maxHeartbeats 4000000 in
set_option maxRecDepth 100000 in
theorem b_Low_completion {p : Program} {l : Launch} {e : Env} {R : Room} {s : State} {m : MethodId} {args : Array Value} {below : List Frame} {meth : Method} {c : Code} {D : va_G} {K : Nat → ClassId} {A : Nat → Prop} {Q : State → Prop} {τ : Nat → Option Ty} {dom : List Nat} {zb zL : Nat} {zx : Nat → Int32} {zs : Nat → Nat} (hR : 2 ≤ R.frames ∧ 42 ≤ R.locals) (B : Bx p s m args c cX11_completion 4 RX11 wp_Low_completion D (tysA K) A) (Z : Sk τ dom) (hz : ZL zb zL zx zs A s s.heap) (h : Nat) (x1 : Int) (x2 : Int) (t_h : τ h = some (41, 0, 0)) (r_x1 : -2147483648 ≤ x1 ∧ x1 ≤ 2147483647) (r_x2 : -2147483648 ≤ x2 ∧ x2 ≤ 2147483647) (σ0 : Nat → va_E) (G0 : Good K τ σ0) (hend : ∀ (z : Int) (lv : List (Nat × Value)) (pc : Nat), (-2147483648 ≤ z ∧ z ≤ 2147483647) → decode cX11_completion pc = .ok (.ireturn, 1) → V p l e R s m args below meth c 4 D A Q (0, 0) (fd dom σ0) lv pc [.int (iI z)]) : V p l e R s m args below meth c 4 D A Q (0, 0) (fd dom σ0) [(0, .ref h), (1, .int (iI x1)), (2, .int (iI x2))] 0 [] := by
  have F0 : Fr τ [] σ0 σ0 := Fr.rf
  refine v_aload_n B dX11_completion_0 rfl rfl ?_
  refine v_iload_n B dX11_completion_1 rfl rfl ?_
  refine u_callVq B Z hz (n := 1) (As := [.int (iI x1)]) (rest := []) (c_Low_find l D K Z _ _ _ _ h x1 t_h ⟨by omega, by omega⟩ σ0 G0) gd_Low_completion_Low_find_52 rfl rfl rfl (by decide +kernel) ⟨Nat.le_trans (by decide +kernel) hR.1, Nat.le_trans (by decide +kernel) hR.2⟩ t_h (cls_Low G0 t_h) rfl rfl rfl rfl (Nat.le_of_ble_eq_true rfl) dX11_completion_2 ⟨Nat.zero_le _, Nat.zero_le _⟩ (fun v3 σ1 p2 => ?_)
  obtain ⟨rfl, q7⟩ := p2
  rcases q7 with rfl | ⟨a8, rfl, t9⟩
  · show V _ _ _ _ _ _ _ _ _ _ _ _ _ _ _ _ _ _ [.null]
    refine v_astore_nN B (lv' := [(3, .null), (0, .ref h), (1, .int (iI x1)), (2, .int (iI x2))]) dX11_completion_5 rfl (by decide +kernel) rfl ?_
    refine v_aload_nN B dX11_completion_6 rfl rfl ?_
    refine v_ifnonnullN B dX11_completion_7 ?_
    refine v_iconst B (v := iI (-1)) dX11_completion_10 rfl ?_
    refine v_goto B (tgt := 22) dX11_completion_11 (by decide +kernel) ?_
    exact hend (-1) _ _ ⟨by omega, by omega⟩ dX11_completion_22
  · show V _ _ _ _ _ _ _ _ _ _ _ _ _ _ _ _ _ _ [.ref a8]
    refine v_astore_n B (lv' := [(3, .ref a8), (0, .ref h), (1, .int (iI x1)), (2, .int (iI x2))]) dX11_completion_5 rfl (by decide +kernel) rfl ?_
    refine v_aload_n B dX11_completion_6 rfl rfl ?_
    refine v_ifnonnull B (tgt := 14) dX11_completion_7 (by decide +kernel) ?_
    refine v_aload_n B dX11_completion_14 rfl rfl ?_
    obtain ⟨z10, yy11, z12, z13, z14, z15, a16, z17, yy18, a19, yy20, a21, a22, a23, a24, a25, a26, a27, a28, h29, r30, r31, r32, r33, r34, r35, t36, r37, r38, t39, r40, t41, t42, t43, t44, t45, t46, t47, t48⟩ : okDevice τ (σ0 a8) := G0 a8 _ t9
    refine u_getN B Z (C := RX3) (T := TX3) (N := 19) (ci := 3) hi_Low_completion_X3 t9 h29 rfl 17 (by decide +kernel) (List.mem_of_getElem? (i := 25) rfl) rfl dX11_completion_15 ?_
    refine v_iload_n B dX11_completion_18 rfl rfl ?_
    refine u_callVi B Z hz (n := 1) (As := [.int (iI x2)]) (rest := []) (c_Diary_figure l D K Z _ _ _ _ a27 x2 t47 ⟨by omega, by omega⟩ σ0 G0) gd_Low_completion_Diary_figure_295 rfl rfl rfl (by decide +kernel) ⟨Nat.le_trans (by decide +kernel) hR.1, Nat.le_trans (by decide +kernel) hR.2⟩ t47 (cls_Diary G0 t47) rfl rfl rfl rfl (Nat.le_of_ble_eq_true rfl) dX11_completion_19 ⟨Nat.zero_le _, Nat.zero_le _⟩ (fun v51 σ49 p50 => ?_)
    obtain ⟨rfl, z55, e56, r57⟩ := p50
    subst e56
    exact hend z55 _ _ ⟨by omega, by omega⟩ dX11_completion_22
set_option maxRecDepth 100000 in
theorem c_Low_completion (l : Launch) (D : va_G) (K : Nat → ClassId) {τ : Nat → Option Ty} {dom : List Nat} (Z : Sk τ dom) (zb zL : Nat) (zx : Nat → Int32) (zs : Nat → Nat) (h : Nat) (x1 : Int) (x2 : Int) (t_h : τ h = some (41, 0, 0)) (r_x1 : -2147483648 ≤ x1 ∧ x1 ≤ 2147483647) (r_x2 : -2147483648 ≤ x2 ∧ x2 ≤ 2147483647) (σ0 : Nat → va_E) (G0 : Good K τ σ0) : MZ l yX11_completion wp_Low_completion ({ frames := 2, cells := 0, slots := 0, locals := 42 }) D (tysA K) [.ref h, .int (iI x1), .int (iI x2)] (fd dom σ0) zb zL zx zs (Qi D (fun r σ' => σ0 = σ' ∧ ∃ z : Int, r = iI z ∧ (-2147483648 ≤ z ∧ z ≤ 2147483647)) (fun σ' => fd dom σ')) 0 0 := by
  refine mz_of (cc := cX11_completion) (maxL := 4) (ret := (some .int)) (by decide +kernel) rfl (Nat.le_of_ble_eq_true rfl) ?_
  intro p e s m below meth c A B hr hlk _ hz
  exact b_Low_completion ⟨Nat.le_refl _, Nat.le_refl _⟩ B Z hz h x1 x2 t_h r_x1 r_x2 σ0 G0 (fun z lv pc hZ hd => v_iret B hr hlk σ0 ⟨rfl, z, rfl, hZ⟩ rfl (Nat.le_refl _) (Nat.le_refl _) hd)

def wp_Low_number : List Cond := .code yX11_number cX11_number 4 (some .long) :: (([.methodLink RX11 52 yX11_find, .instanceMethod yX11_find, .selects RX11 yX11_find yX11_find, .initialized RX11, .code yX11_find cX11_find 2 (some (.object "LowEnergy$Device")), .fieldLink RX11 9 "LowEnergy" "devices" "[LLowEnergy$Device;", .constantLong RX11 297 (-1), .methodLink RX11 99 yX3_inLink, .instanceMethod yX3_inLink, .selects RX3 yX3_inLink yX3_inLink, .initialized RX3, .code yX3_inLink cX3_inLink 1 (some .boolean), .fieldLink RX3 93 "LowEnergy$Device" "state" "I"] : List Cond) ++ (wsX110 ++ (wsX30 ++ (wsX60 ++ ([])))))
theorem hi_Low_number_X11 : ∀ x ∈ u_ws RX11 TX11 5, x ∈ wp_Low_number := fun _ h => List.mem_cons_of_mem _ (List.mem_append_right _ (List.mem_append_left _ h))
theorem hi_Low_number_X3 : ∀ x ∈ u_ws RX3 TX3 19, x ∈ wp_Low_number := fun _ h => List.mem_cons_of_mem _ (List.mem_append_right _ (List.mem_append_right _ (List.mem_append_left _ h)))
theorem hi_Low_number_X6 : ∀ x ∈ u_ws RX6 TX6 20, x ∈ wp_Low_number := fun _ h => List.mem_cons_of_mem _ (List.mem_append_right _ (List.mem_append_right _ (List.mem_append_right _ (List.mem_append_left _ h))))
set_option maxRecDepth 100000 in
theorem gd_Low_number_Low_find_52 : GoodIn wp_Low_number (wsV RX11 52 RX11 yX11_find wp_Low_find) := goodIn_app (goodIn_r _ [1, 2, 3, 4] rfl rfl) (goodIn_ca (goodIn_r _ [5, 6] rfl rfl) (goodIn_app (goodIn_cls hi_Low_number_X11 gw_X11) (goodIn_nil)))
set_option maxRecDepth 100000 in
theorem gd_Low_number_Device_inLink_99 : GoodIn wp_Low_number (wsV RX11 99 RX3 yX3_inLink wp_Device_inLink) := goodIn_app (goodIn_r _ [8, 9, 10, 11] rfl rfl) (goodIn_ca (goodIn_r _ [12, 13] rfl rfl) (goodIn_app (goodIn_cls hi_Low_number_X3 gw_X3) (goodIn_nil)))
set_option maxHeartbeats 4000000 in
set_option maxRecDepth 100000 in
theorem b_Low_number {p : Program} {l : Launch} {e : Env} {R : Room} {s : State} {m : MethodId} {args : Array Value} {below : List Frame} {meth : Method} {c : Code} {D : va_G} {K : Nat → ClassId} {A : Nat → Prop} {Q : State → Prop} {τ : Nat → Option Ty} {dom : List Nat} {zb zL : Nat} {zx : Nat → Int32} {zs : Nat → Nat} (hR : 1 ≤ R.frames ∧ 21 ≤ R.locals) (B : Bx p s m args c cX11_number 4 RX11 wp_Low_number D (tysA K) A) (Z : Sk τ dom) (hz : ZL zb zL zx zs A s s.heap) (h : Nat) (x1 : Int) (x2 : Int) (t_h : τ h = some (41, 0, 0)) (r_x1 : -2147483648 ≤ x1 ∧ x1 ≤ 2147483647) (r_x2 : -2147483648 ≤ x2 ∧ x2 ≤ 2147483647) (σ0 : Nat → va_E) (G0 : Good K τ σ0) (hend : ∀ (z : Int) (lv : List (Nat × Value)) (pc : Nat), (-9223372036854775808 ≤ z ∧ z ≤ 9223372036854775807) → decode cX11_number pc = .ok (.lreturn, 1) → V p l e R s m args below meth c 4 D A Q (0, 0) (fd dom σ0) lv pc [.long (lI z)]) : V p l e R s m args below meth c 4 D A Q (0, 0) (fd dom σ0) [(0, .ref h), (1, .int (iI x1)), (2, .int (iI x2))] 0 [] := by
  have F0 : Fr τ [] σ0 σ0 := Fr.rf
  refine v_aload_n B dX11_number_0 rfl rfl ?_
  refine v_iload_n B dX11_number_1 rfl rfl ?_
  refine u_callVq B Z hz (n := 1) (As := [.int (iI x1)]) (rest := []) (c_Low_find l D K Z _ _ _ _ h x1 t_h ⟨by omega, by omega⟩ σ0 G0) gd_Low_number_Low_find_52 rfl rfl rfl (by decide +kernel) ⟨Nat.le_trans (by decide +kernel) hR.1, Nat.le_trans (by decide +kernel) hR.2⟩ t_h (cls_Low G0 t_h) rfl rfl rfl rfl (Nat.le_of_ble_eq_true rfl) dX11_number_2 ⟨Nat.zero_le _, Nat.zero_le _⟩ (fun v3 σ1 p2 => ?_)
  obtain ⟨rfl, q7⟩ := p2
  rcases q7 with rfl | ⟨a8, rfl, t9⟩
  · show V _ _ _ _ _ _ _ _ _ _ _ _ _ _ _ _ _ _ [.null]
    refine v_astore_nN B (lv' := [(3, .null), (0, .ref h), (1, .int (iI x1)), (2, .int (iI x2))]) dX11_number_5 rfl (by decide +kernel) rfl ?_
    refine v_aload_nN B dX11_number_6 rfl rfl ?_
    refine v_ifnonnullN B dX11_number_7 ?_
    refine v_ldc2 B (v := lI (-1)) (u_cl (List.mem_of_getElem? (i := 7) rfl) (by decide +kernel)) dX11_number_10 ?_
    exact hend (-1) _ _ ⟨by omega, by omega⟩ dX11_number_13
  · show V _ _ _ _ _ _ _ _ _ _ _ _ _ _ _ _ _ _ [.ref a8]
    refine v_astore_n B (lv' := [(3, .ref a8), (0, .ref h), (1, .int (iI x1)), (2, .int (iI x2))]) dX11_number_5 rfl (by decide +kernel) rfl ?_
    refine v_aload_n B dX11_number_6 rfl rfl ?_
    refine v_ifnonnull B (tgt := 14) dX11_number_7 (by decide +kernel) ?_
    refine v_iload_n B dX11_number_14 rfl rfl ?_
    refine u_tsw B (tgtd := 69) (by omega) dX11_number_15 (by decide +kernel) ?_ ?_ (tsw_ok (by decide +kernel)) (by decide +kernel)
    · intro i10 o11 g12 o13 x14 t15
      match i10, o13, x14 with
      | 0, o13, x14 =>
        replace o13 : o11 = 25 := by simp at o13; omega
        obtain rfl : g12 = 40 := by omega
        refine v_aload_n B dX11_number_40 rfl rfl ?_
        refine u_callVi B Z hz (n := 0) (As := []) (rest := []) (c_Device_inLink l D K Z _ _ _ _ a8 t9 σ0 G0) gd_Low_number_Device_inLink_99 rfl rfl rfl (by decide +kernel) ⟨Nat.le_trans (by decide +kernel) hR.1, Nat.le_trans (by decide +kernel) hR.2⟩ t9 (cls_Device G0 t9) rfl rfl rfl rfl (Nat.le_of_ble_eq_true rfl) dX11_number_41 ⟨Nat.zero_le _, Nat.zero_le _⟩ (fun v18 σ16 p17 => ?_)
        obtain ⟨rfl, z22, e23, r24⟩ := p17
        subst e23
        refine u_if_eq B (tgt := 57) (by omega) dX11_number_44 (by decide +kernel) (fun c25 => ?_) (fun c25 => ?_)
        · refine v_lconst B (v := lI 0) dX11_number_57 (by decide +kernel) ?_
          exact hend 0 _ _ ⟨by omega, by omega⟩ dX11_number_58
        · refine v_aload_n B dX11_number_47 rfl rfl ?_
          obtain ⟨z26, yy27, z28, z29, z30, z31, a32, z33, yy34, a35, yy36, a37, a38, a39, a40, a41, a42, a43, a44, h45, r46, r47, r48, r49, r50, r51, t52, r53, r54, t55, r56, t57, t58, t59, t60, t61, t62, t63, t64⟩ : okDevice τ (σ0 a8) := G0 a8 _ t9
          refine u_getN B Z (C := RX3) (T := TX3) (N := 19) (ci := 3) hi_Low_number_X3 t9 h45 rfl 11 (by decide +kernel) (List.mem_of_getElem? (i := 69) rfl) rfl dX11_number_48 ?_
          obtain ⟨z65, z66, z67, z68, z69, yy70, yy71, z72, z73, z74, z75, z76, z77, z78, z79, z80, z81, z82, z83, yy84, h85, r86, r87, r88, r89, r90, r91, r92, r93, r94, r95, r96, r97, r98, r99, r100, r101, r102, r103, r104, r105⟩ : okLink τ (σ0 a37) := G0 a37 _ t57
          refine u_getN B Z (C := RX6) (T := TX6) (N := 20) (ci := 6) hi_Low_number_X6 t57 h85 rfl 5 (by decide +kernel) (List.mem_of_getElem? (i := 26) rfl) rfl dX11_number_51 ?_
          refine v_goto B (tgt := 58) dX11_number_54 (by decide +kernel) ?_
          exact hend yy70 _ _ ⟨by omega, by omega⟩ dX11_number_58
      | 1, o13, x14 =>
        replace o13 : o11 = 44 := by simp at o13; omega
        obtain rfl : g12 = 59 := by omega
        refine v_aload_n B dX11_number_59 rfl rfl ?_
        obtain ⟨z106, yy107, z108, z109, z110, z111, a112, z113, yy114, a115, yy116, a117, a118, a119, a120, a121, a122, a123, a124, h125, r126, r127, r128, r129, r130, r131, t132, r133, r134, t135, r136, t137, t138, t139, t140, t141, t142, t143, t144⟩ : okDevice τ (σ0 a8) := G0 a8 _ t9
        refine u_getN B Z (C := RX3) (T := TX3) (N := 19) (ci := 3) hi_Low_number_X3 t9 h125 rfl 8 (by decide +kernel) (List.mem_of_getElem? (i := 27) rfl) rfl dX11_number_60 ?_
        exact hend yy114 _ _ ⟨by omega, by omega⟩ dX11_number_63
      | 2, o13, x14 =>
        replace o13 : o11 = 49 := by simp at o13; omega
        obtain rfl : g12 = 64 := by omega
        refine v_aload_n B dX11_number_64 rfl rfl ?_
        obtain ⟨z145, yy146, z147, z148, z149, z150, a151, z152, yy153, a154, yy155, a156, a157, a158, a159, a160, a161, a162, a163, h164, r165, r166, r167, r168, r169, r170, t171, r172, r173, t174, r175, t176, t177, t178, t179, t180, t181, t182, t183⟩ : okDevice τ (σ0 a8) := G0 a8 _ t9
        refine u_getN B Z (C := RX3) (T := TX3) (N := 19) (ci := 3) hi_Low_number_X3 t9 h164 rfl 1 (by decide +kernel) (List.mem_of_getElem? (i := 28) rfl) rfl dX11_number_65 ?_
        exact hend yy146 _ _ ⟨by omega, by omega⟩ dX11_number_68
      | i10 + 3, o13, x14 => exact absurd (o13.symm.trans (Array.getElem?_eq_none (by simp))) (by simp)
    · intro x14
      refine v_ldc2 B (v := lI (-1)) (u_cl (List.mem_of_getElem? (i := 7) rfl) (by decide +kernel)) dX11_number_69 ?_
      exact hend (-1) _ _ ⟨by omega, by omega⟩ dX11_number_72
set_option maxRecDepth 100000 in
theorem c_Low_number (l : Launch) (D : va_G) (K : Nat → ClassId) {τ : Nat → Option Ty} {dom : List Nat} (Z : Sk τ dom) (zb zL : Nat) (zx : Nat → Int32) (zs : Nat → Nat) (h : Nat) (x1 : Int) (x2 : Int) (t_h : τ h = some (41, 0, 0)) (r_x1 : -2147483648 ≤ x1 ∧ x1 ≤ 2147483647) (r_x2 : -2147483648 ≤ x2 ∧ x2 ≤ 2147483647) (σ0 : Nat → va_E) (G0 : Good K τ σ0) : MZ l yX11_number wp_Low_number ({ frames := 1, cells := 0, slots := 0, locals := 21 }) D (tysA K) [.ref h, .int (iI x1), .int (iI x2)] (fd dom σ0) zb zL zx zs (Ql D (fun r σ' => σ0 = σ' ∧ ∃ z : Int, r = lI z ∧ (-9223372036854775808 ≤ z ∧ z ≤ 9223372036854775807)) (fun σ' => fd dom σ')) 0 0 := by
  refine mz_of (cc := cX11_number) (maxL := 4) (ret := (some .long)) (by decide +kernel) rfl (Nat.le_of_ble_eq_true rfl) ?_
  intro p e s m below meth c A B hr hlk _ hz
  exact b_Low_number ⟨Nat.le_refl _, Nat.le_refl _⟩ B Z hz h x1 x2 t_h r_x1 r_x2 σ0 G0 (fun z lv pc hZ hd => v_lret B hr hlk σ0 ⟨rfl, z, rfl, hZ⟩ rfl (Nat.le_refl _) (Nat.le_refl _) hd)

def wp_Low_byteOf : List Cond := .code yX11_byteOf cX11_byteOf 5 (some .int) :: (([.methodLink RX11 52 yX11_find, .instanceMethod yX11_find, .selects RX11 yX11_find yX11_find, .initialized RX11, .code yX11_find cX11_find 2 (some (.object "LowEnergy$Device")), .fieldLink RX11 9 "LowEnergy" "devices" "[LLowEnergy$Device;", .methodLink RX11 291 yX9_at, .instanceMethod yX9_at, .selects RX9 yX9_at yX9_at, .initialized RX9, .code yX9_at cX9_at 2 (some .int), .fieldLink RX9 21 "LowEnergy$Row" "size" "I", .fieldLink RX9 15 "LowEnergy$Row" "bytes" "[I", .methodLink RX11 314 yX11_byteAt, .static yX11_byteAt, .code yX11_byteAt cX11_byteAt 2 (some .int), .fieldLink RX11 27 "LowEnergy" "tape" "LLowEnergy$Row;"] : List Cond) ++ (wsX110 ++ (wsX30 ++ (wsX90 ++ (wsX50 ++ ([]))))))
theorem hi_Low_byteOf_X11 : ∀ x ∈ u_ws RX11 TX11 5, x ∈ wp_Low_byteOf := fun _ h => List.mem_cons_of_mem _ (List.mem_append_right _ (List.mem_append_left _ h))
theorem hi_Low_byteOf_X3 : ∀ x ∈ u_ws RX3 TX3 19, x ∈ wp_Low_byteOf := fun _ h => List.mem_cons_of_mem _ (List.mem_append_right _ (List.mem_append_right _ (List.mem_append_left _ h)))
theorem hi_Low_byteOf_X9 : ∀ x ∈ u_ws RX9 TX9 2, x ∈ wp_Low_byteOf := fun _ h => List.mem_cons_of_mem _ (List.mem_append_right _ (List.mem_append_right _ (List.mem_append_right _ (List.mem_append_left _ h))))
theorem hi_Low_byteOf_X5 : ∀ x ∈ u_ws RX5 TX5 16, x ∈ wp_Low_byteOf := fun _ h => List.mem_cons_of_mem _ (List.mem_append_right _ (List.mem_append_right _ (List.mem_append_right _ (List.mem_append_right _ (List.mem_append_left _ h)))))
set_option maxRecDepth 100000 in
theorem gd_Low_byteOf_Low_find_52 : GoodIn wp_Low_byteOf (wsV RX11 52 RX11 yX11_find wp_Low_find) := goodIn_app (goodIn_r _ [1, 2, 3, 4] rfl rfl) (goodIn_ca (goodIn_r _ [5, 6] rfl rfl) (goodIn_app (goodIn_cls hi_Low_byteOf_X11 gw_X11) (goodIn_nil)))
set_option maxRecDepth 100000 in
theorem gd_Low_byteOf_Row_at_291 : GoodIn wp_Low_byteOf (wsV RX11 291 RX9 yX9_at wp_Row_at) := goodIn_app (goodIn_r _ [7, 8, 9, 10] rfl rfl) (goodIn_ca (goodIn_r _ [11, 12, 13] rfl rfl) (goodIn_app (goodIn_cls hi_Low_byteOf_X9 gw_X9) (goodIn_nil)))
set_option maxRecDepth 100000 in
theorem gd_Low_byteOf_Low_byteAt_314 : GoodIn wp_Low_byteOf (va_wsS RX11 314 yX11_byteAt wp_Low_byteAt) := goodIn_app (goodIn_r _ [14, 15, 4] rfl rfl) (goodIn_ca (goodIn_r _ [16] rfl rfl) (goodIn_nil))
set_option maxHeartbeats 4000000 in
set_option maxRecDepth 100000 in
theorem b_Low_byteOf {p : Program} {l : Launch} {e : Env} {R : Room} {s : State} {m : MethodId} {args : Array Value} {below : List Frame} {meth : Method} {c : Code} {D : va_G} {K : Nat → ClassId} {A : Nat → Prop} {Q : State → Prop} {τ : Nat → Option Ty} {dom : List Nat} {zb zL : Nat} {zx : Nat → Int32} {zs : Nat → Nat} (hR : 1 ≤ R.frames ∧ 21 ≤ R.locals) (B : Bx p s m args c cX11_byteOf 5 RX11 wp_Low_byteOf D (tysA K) A) (Z : Sk τ dom) (hz : ZL zb zL zx zs A s s.heap) (h : Nat) (x1 : Int) (x2 : Int) (x3 : Int) (t_h : τ h = some (41, 0, 0)) (r_x1 : -2147483648 ≤ x1 ∧ x1 ≤ 2147483647) (r_x2 : -2147483648 ≤ x2 ∧ x2 ≤ 2147483647) (r_x3 : -2147483648 ≤ x3 ∧ x3 ≤ 2147483647) (σ0 : Nat → va_E) (G0 : Good K τ σ0) (hend : ∀ (z : Int) (lv : List (Nat × Value)) (pc : Nat), (-2147483648 ≤ z ∧ z ≤ 2147483647) → decode cX11_byteOf pc = .ok (.ireturn, 1) → V p l e R s m args below meth c 5 D A Q (0, 0) (fd dom σ0) lv pc [.int (iI z)]) : V p l e R s m args below meth c 5 D A Q (0, 0) (fd dom σ0) [(0, .ref h), (1, .int (iI x1)), (2, .int (iI x2)), (3, .int (iI x3))] 0 [] := by
  have F0 : Fr τ [] σ0 σ0 := Fr.rf
  refine v_aload_n B dX11_byteOf_0 rfl rfl ?_
  refine v_iload_n B dX11_byteOf_1 rfl rfl ?_
  refine u_callVq B Z hz (n := 1) (As := [.int (iI x1)]) (rest := []) (c_Low_find l D K Z _ _ _ _ h x1 t_h ⟨by omega, by omega⟩ σ0 G0) gd_Low_byteOf_Low_find_52 rfl rfl rfl (by decide +kernel) ⟨Nat.le_trans (by decide +kernel) hR.1, Nat.le_trans (by decide +kernel) hR.2⟩ t_h (cls_Low G0 t_h) rfl rfl rfl rfl (Nat.le_of_ble_eq_true rfl) dX11_byteOf_2 ⟨Nat.zero_le _, Nat.zero_le _⟩ (fun v3 σ1 p2 => ?_)
  obtain ⟨rfl, q7⟩ := p2
  rcases q7 with rfl | ⟨a8, rfl, t9⟩
  · show V _ _ _ _ _ _ _ _ _ _ _ _ _ _ _ _ _ _ [.null]
    refine v_astoreN B (lv' := [(4, .null), (0, .ref h), (1, .int (iI x1)), (2, .int (iI x2)), (3, .int (iI x3))]) dX11_byteOf_5 (by decide +kernel) rfl ?_
    refine v_aloadN B dX11_byteOf_7 rfl ?_
    refine v_ifnonnullN B dX11_byteOf_9 ?_
    refine v_iconst B (v := iI (-1)) dX11_byteOf_12 rfl ?_
    exact hend (-1) _ _ ⟨by omega, by omega⟩ dX11_byteOf_13
  · show V _ _ _ _ _ _ _ _ _ _ _ _ _ _ _ _ _ _ [.ref a8]
    refine v_astore B (lv' := [(4, .ref a8), (0, .ref h), (1, .int (iI x1)), (2, .int (iI x2)), (3, .int (iI x3))]) dX11_byteOf_5 (by decide +kernel) rfl ?_
    refine v_aload B dX11_byteOf_7 rfl ?_
    refine v_ifnonnull B (tgt := 14) dX11_byteOf_9 (by decide +kernel) ?_
    refine v_iload_n B dX11_byteOf_14 rfl rfl ?_
    refine u_tsw B (tgtd := 151) (by omega) dX11_byteOf_15 (by decide +kernel) ?_ ?_ (tsw_ok (by decide +kernel)) (by decide +kernel)
    · intro i10 o11 g12 o13 x14 t15
      match i10, o13, x14 with
      | 0, o13, x14 =>
        replace o13 : o11 = 33 := by simp at o13; omega
        obtain rfl : g12 = 48 := by omega
        refine v_aload B dX11_byteOf_48 rfl ?_
        obtain ⟨z16, yy17, z18, z19, z20, z21, a22, z23, yy24, a25, yy26, a27, a28, a29, a30, a31, a32, a33, a34, h35, r36, r37, r38, r39, r40, r41, t42, r43, r44, t45, r46, t47, t48, t49, t50, t51, t52, t53, t54⟩ : okDevice τ (σ0 a8) := G0 a8 _ t9
        refine u_getN B Z (C := RX3) (T := TX3) (N := 19) (ci := 3) hi_Low_byteOf_X3 t9 h35 rfl 9 (by decide +kernel) (List.mem_of_getElem? (i := 29) rfl) rfl dX11_byteOf_50 ?_
        refine v_iload_n B dX11_byteOf_53 rfl rfl ?_
        refine u_callVi B Z hz (n := 1) (As := [.int (iI x3)]) (rest := []) (c_Row_at l D K Z _ _ _ _ a25 x3 t45 ⟨by omega, by omega⟩ σ0 G0) gd_Low_byteOf_Row_at_291 rfl rfl rfl (by decide +kernel) ⟨Nat.le_trans (by decide +kernel) hR.1, Nat.le_trans (by decide +kernel) hR.2⟩ t45 (cls_Row G0 t45) rfl rfl rfl rfl (Nat.le_of_ble_eq_true rfl) dX11_byteOf_54 ⟨Nat.zero_le _, Nat.zero_le _⟩ (fun v57 σ55 p56 => ?_)
        obtain ⟨rfl, z61, e62, r63⟩ := p56
        subst e62
        exact hend z61 _ _ ⟨by omega, by omega⟩ dX11_byteOf_57
      | 1, o13, x14 =>
        replace o13 : o11 = 43 := by simp at o13; omega
        obtain rfl : g12 = 58 := by omega
        refine v_aload B dX11_byteOf_58 rfl ?_
        obtain ⟨z64, yy65, z66, z67, z68, z69, a70, z71, yy72, a73, yy74, a75, a76, a77, a78, a79, a80, a81, a82, h83, r84, r85, r86, r87, r88, r89, t90, r91, r92, t93, r94, t95, t96, t97, t98, t99, t100, t101, t102⟩ : okDevice τ (σ0 a8) := G0 a8 _ t9
        refine u_getN B Z (C := RX3) (T := TX3) (N := 19) (ci := 3) hi_Low_byteOf_X3 t9 h83 rfl 13 (by decide +kernel) (List.mem_of_getElem? (i := 10) rfl) rfl dX11_byteOf_60 ?_
        obtain ⟨a103, a104, z105, a106, a107, a108, z109, z110, z111, z112, z113, z114, z115, z116, a117, a118, h119, t120, t121, r122, t123, t124, t125, r126, r127, r128, r129, r130, r131, r132, r133, t134, t135⟩ : okGuard τ (σ0 a77) := G0 a77 _ t97
        refine u_getN B Z (C := RX5) (T := TX5) (N := 16) (ci := 5) hi_Low_byteOf_X5 t97 h119 rfl 2 (by decide +kernel) (List.mem_of_getElem? (i := 11) rfl) rfl dX11_byteOf_63 ?_
        refine u_if_eq B (tgt := 84) (by omega) dX11_byteOf_66 (by decide +kernel) (fun c136 => ?_) (fun c136 => ?_)
        · refine v_iconst B (v := iI (-1)) dX11_byteOf_84 rfl ?_
          exact hend (-1) _ _ ⟨by omega, by omega⟩ dX11_byteOf_85
        · refine v_aload B dX11_byteOf_69 rfl ?_
          refine u_getN B Z (C := RX3) (T := TX3) (N := 19) (ci := 3) hi_Low_byteOf_X3 t9 h83 rfl 13 (by decide +kernel) (List.mem_of_getElem? (i := 10) rfl) rfl dX11_byteOf_71 ?_
          refine u_getN B Z (C := RX5) (T := TX5) (N := 16) (ci := 5) hi_Low_byteOf_X5 t97 h119 rfl 1 (by decide +kernel) (List.mem_of_getElem? (i := 30) rfl) rfl dX11_byteOf_74 ?_
          refine v_iload_n B dX11_byteOf_77 rfl rfl ?_
          refine u_callSi B Z hz (n := 2) (As := [.ref a104, .int (iI x3)]) (rest := []) (c_Low_byteAt l D K Z _ _ _ _ a104 x3 t121 ⟨by omega, by omega⟩ σ0 G0) gd_Low_byteOf_Low_byteAt_314 rfl rfl rfl (by decide +kernel) ⟨Nat.le_trans (by decide +kernel) hR.1, Nat.le_trans (by decide +kernel) hR.2⟩ rfl rfl (Nat.le_of_ble_eq_true rfl) dX11_byteOf_78 ⟨Nat.zero_le _, Nat.zero_le _⟩ (fun v139 σ137 p138 => ?_)
          obtain ⟨rfl, z143, e144, r145⟩ := p138
          subst e144
          refine v_goto B (tgt := 85) dX11_byteOf_81 (by decide +kernel) ?_
          exact hend z143 _ _ ⟨by omega, by omega⟩ dX11_byteOf_85
      | 2, o13, x14 =>
        replace o13 : o11 = 71 := by simp at o13; omega
        obtain rfl : g12 = 86 := by omega
        refine v_aload B dX11_byteOf_86 rfl ?_
        obtain ⟨z146, yy147, z148, z149, z150, z151, a152, z153, yy154, a155, yy156, a157, a158, a159, a160, a161, a162, a163, a164, h165, r166, r167, r168, r169, r170, r171, t172, r173, r174, t175, r176, t177, t178, t179, t180, t181, t182, t183, t184⟩ : okDevice τ (σ0 a8) := G0 a8 _ t9
        refine u_getN B Z (C := RX3) (T := TX3) (N := 19) (ci := 3) hi_Low_byteOf_X3 t9 h165 rfl 13 (by decide +kernel) (List.mem_of_getElem? (i := 10) rfl) rfl dX11_byteOf_88 ?_
        obtain ⟨a185, a186, z187, a188, a189, a190, z191, z192, z193, z194, z195, z196, z197, z198, a199, a200, h201, t202, t203, r204, t205, t206, t207, r208, r209, r210, r211, r212, r213, r214, r215, t216, t217⟩ : okGuard τ (σ0 a159) := G0 a159 _ t179
        refine u_getN B Z (C := RX5) (T := TX5) (N := 16) (ci := 5) hi_Low_byteOf_X5 t179 h201 rfl 6 (by decide +kernel) (List.mem_of_getElem? (i := 15) rfl) rfl dX11_byteOf_91 ?_
        refine u_if_eq B (tgt := 112) (by omega) dX11_byteOf_94 (by decide +kernel) (fun c218 => ?_) (fun c218 => ?_)
        · refine v_iconst B (v := iI (-1)) dX11_byteOf_112 rfl ?_
          exact hend (-1) _ _ ⟨by omega, by omega⟩ dX11_byteOf_113
        · refine v_aload B dX11_byteOf_97 rfl ?_
          refine u_getN B Z (C := RX3) (T := TX3) (N := 19) (ci := 3) hi_Low_byteOf_X3 t9 h165 rfl 13 (by decide +kernel) (List.mem_of_getElem? (i := 10) rfl) rfl dX11_byteOf_99 ?_
          refine u_getN B Z (C := RX5) (T := TX5) (N := 16) (ci := 5) hi_Low_byteOf_X5 t179 h201 rfl 4 (by decide +kernel) (List.mem_of_getElem? (i := 31) rfl) rfl dX11_byteOf_102 ?_
          refine v_iload_n B dX11_byteOf_105 rfl rfl ?_
          refine u_callSi B Z hz (n := 2) (As := [.ref a189, .int (iI x3)]) (rest := []) (c_Low_byteAt l D K Z _ _ _ _ a189 x3 t206 ⟨by omega, by omega⟩ σ0 G0) gd_Low_byteOf_Low_byteAt_314 rfl rfl rfl (by decide +kernel) ⟨Nat.le_trans (by decide +kernel) hR.1, Nat.le_trans (by decide +kernel) hR.2⟩ rfl rfl (Nat.le_of_ble_eq_true rfl) dX11_byteOf_106 ⟨Nat.zero_le _, Nat.zero_le _⟩ (fun v221 σ219 p220 => ?_)
          obtain ⟨rfl, z225, e226, r227⟩ := p220
          subst e226
          refine v_goto B (tgt := 113) dX11_byteOf_109 (by decide +kernel) ?_
          exact hend z225 _ _ ⟨by omega, by omega⟩ dX11_byteOf_113
      | 3, o13, x14 =>
        replace o13 : o11 = 99 := by simp at o13; omega
        obtain rfl : g12 = 114 := by omega
        refine v_aload B dX11_byteOf_114 rfl ?_
        obtain ⟨z228, yy229, z230, z231, z232, z233, a234, z235, yy236, a237, yy238, a239, a240, a241, a242, a243, a244, a245, a246, h247, r248, r249, r250, r251, r252, r253, t254, r255, r256, t257, r258, t259, t260, t261, t262, t263, t264, t265, t266⟩ : okDevice τ (σ0 a8) := G0 a8 _ t9
        refine u_getN B Z (C := RX3) (T := TX3) (N := 19) (ci := 3) hi_Low_byteOf_X3 t9 h247 rfl 13 (by decide +kernel) (List.mem_of_getElem? (i := 10) rfl) rfl dX11_byteOf_116 ?_
        obtain ⟨a267, a268, z269, a270, a271, a272, z273, z274, z275, z276, z277, z278, z279, z280, a281, a282, h283, t284, t285, r286, t287, t288, t289, r290, r291, r292, r293, r294, r295, r296, r297, t298, t299⟩ : okGuard τ (σ0 a241) := G0 a241 _ t261
        refine u_getN B Z (C := RX5) (T := TX5) (N := 16) (ci := 5) hi_Low_byteOf_X5 t261 h283 rfl 6 (by decide +kernel) (List.mem_of_getElem? (i := 15) rfl) rfl dX11_byteOf_119 ?_
        refine u_if_eq B (tgt := 140) (by omega) dX11_byteOf_122 (by decide +kernel) (fun c300 => ?_) (fun c300 => ?_)
        · refine v_iconst B (v := iI (-1)) dX11_byteOf_140 rfl ?_
          exact hend (-1) _ _ ⟨by omega, by omega⟩ dX11_byteOf_141
        · refine v_aload B dX11_byteOf_125 rfl ?_
          refine u_getN B Z (C := RX3) (T := TX3) (N := 19) (ci := 3) hi_Low_byteOf_X3 t9 h247 rfl 13 (by decide +kernel) (List.mem_of_getElem? (i := 10) rfl) rfl dX11_byteOf_127 ?_
          refine u_getN B Z (C := RX5) (T := TX5) (N := 16) (ci := 5) hi_Low_byteOf_X5 t261 h283 rfl 5 (by decide +kernel) (List.mem_of_getElem? (i := 17) rfl) rfl dX11_byteOf_130 ?_
          refine v_iload_n B dX11_byteOf_133 rfl rfl ?_
          refine u_callSi B Z hz (n := 2) (As := [.ref a272, .int (iI x3)]) (rest := []) (c_Low_byteAt l D K Z _ _ _ _ a272 x3 t289 ⟨by omega, by omega⟩ σ0 G0) gd_Low_byteOf_Low_byteAt_314 rfl rfl rfl (by decide +kernel) ⟨Nat.le_trans (by decide +kernel) hR.1, Nat.le_trans (by decide +kernel) hR.2⟩ rfl rfl (Nat.le_of_ble_eq_true rfl) dX11_byteOf_134 ⟨Nat.zero_le _, Nat.zero_le _⟩ (fun v303 σ301 p302 => ?_)
          obtain ⟨rfl, z307, e308, r309⟩ := p302
          subst e308
          refine v_goto B (tgt := 141) dX11_byteOf_137 (by decide +kernel) ?_
          exact hend z307 _ _ ⟨by omega, by omega⟩ dX11_byteOf_141
      | 4, o13, x14 =>
        replace o13 : o11 = 127 := by simp at o13; omega
        obtain rfl : g12 = 142 := by omega
        refine v_aload_n B dX11_byteOf_142 rfl rfl ?_
        obtain ⟨a310, a311, a312, a313, z314, h315, t316, t317, t318, t319, r320⟩ : okLow τ (σ0 h) := G0 h _ t_h
        refine u_get B Z (C := RX11) (T := TX11) (N := 5) (ci := 11) hi_Low_byteOf_X11 t_h h315 rfl 2 (by decide +kernel) (List.mem_of_getElem? (i := 17) rfl) rfl dX11_byteOf_143 ?_
        refine v_iload_n B dX11_byteOf_146 rfl rfl ?_
        refine u_callVi B Z hz (n := 1) (As := [.int (iI x3)]) (rest := []) (c_Row_at l D K Z _ _ _ _ a312 x3 t318 ⟨by omega, by omega⟩ σ0 G0) gd_Low_byteOf_Row_at_291 rfl rfl rfl (by decide +kernel) ⟨Nat.le_trans (by decide +kernel) hR.1, Nat.le_trans (by decide +kernel) hR.2⟩ t318 (cls_Row G0 t318) rfl rfl rfl rfl (Nat.le_of_ble_eq_true rfl) dX11_byteOf_147 ⟨Nat.zero_le _, Nat.zero_le _⟩ (fun v323 σ321 p322 => ?_)
        obtain ⟨rfl, z327, e328, r329⟩ := p322
        subst e328
        exact hend z327 _ _ ⟨by omega, by omega⟩ dX11_byteOf_150
      | i10 + 5, o13, x14 => exact absurd (o13.symm.trans (Array.getElem?_eq_none (by simp))) (by simp)
    · intro x14
      refine v_iconst B (v := iI (-1)) dX11_byteOf_151 rfl ?_
      exact hend (-1) _ _ ⟨by omega, by omega⟩ dX11_byteOf_152
set_option maxRecDepth 100000 in
theorem c_Low_byteOf (l : Launch) (D : va_G) (K : Nat → ClassId) {τ : Nat → Option Ty} {dom : List Nat} (Z : Sk τ dom) (zb zL : Nat) (zx : Nat → Int32) (zs : Nat → Nat) (h : Nat) (x1 : Int) (x2 : Int) (x3 : Int) (t_h : τ h = some (41, 0, 0)) (r_x1 : -2147483648 ≤ x1 ∧ x1 ≤ 2147483647) (r_x2 : -2147483648 ≤ x2 ∧ x2 ≤ 2147483647) (r_x3 : -2147483648 ≤ x3 ∧ x3 ≤ 2147483647) (σ0 : Nat → va_E) (G0 : Good K τ σ0) : MZ l yX11_byteOf wp_Low_byteOf ({ frames := 1, cells := 0, slots := 0, locals := 21 }) D (tysA K) [.ref h, .int (iI x1), .int (iI x2), .int (iI x3)] (fd dom σ0) zb zL zx zs (Qi D (fun r σ' => σ0 = σ' ∧ ∃ z : Int, r = iI z ∧ (-2147483648 ≤ z ∧ z ≤ 2147483647)) (fun σ' => fd dom σ')) 0 0 := by
  refine mz_of (cc := cX11_byteOf) (maxL := 5) (ret := (some .int)) (by decide +kernel) rfl (Nat.le_of_ble_eq_true rfl) ?_
  intro p e s m below meth c A B hr hlk _ hz
  exact b_Low_byteOf ⟨Nat.le_refl _, Nat.le_refl _⟩ B Z hz h x1 x2 x3 t_h r_x1 r_x2 r_x3 σ0 G0 (fun z lv pc hZ hd => v_iret B hr hlk σ0 ⟨rfl, z, rfl, hZ⟩ rfl (Nat.le_refl _) (Nat.le_refl _) hd)

def wp_Low_device : List Cond := .code yX11_device cX11_device 4 (some .int) :: (([.fieldLink RX11 18 "LowEnergy" "sky" "LLowEnergy$Air;", .methodLink RX11 338 yX0_lossesOf, .instanceMethod yX0_lossesOf, .selects RX0 yX0_lossesOf yX0_lossesOf, .initialized RX0, .code yX0_lossesOf cX0_lossesOf 2 (some .int), .fieldLink RX0 29 "LowEnergy$Air" "losses" "[I", .methodLink RX11 341 yX11_flag, .static yX11_flag, .initialized RX11, .code yX11_flag cX11_flag 1 (some .int), .methodLink RX11 321 yX11_linkFigure, .instanceMethod yX11_linkFigure, .selects RX11 yX11_linkFigure yX11_linkFigure, .code yX11_linkFigure cX11_linkFigure 4 (some .int), .methodLink RX11 99 yX3_inLink, .instanceMethod yX3_inLink, .selects RX3 yX3_inLink yX3_inLink, .initialized RX3, .code yX3_inLink cX3_inLink 1 (some .boolean), .fieldLink RX3 93 "LowEnergy$Device" "state" "I", .fieldLink RX11 65 "LowEnergy" "now" "I", .methodLink RX11 325 yX11_talkFigure, .static yX11_talkFigure, .code yX11_talkFigure cX11_talkFigure 2 (some .int), .methodLink RX11 52 yX11_find, .instanceMethod yX11_find, .selects RX11 yX11_find yX11_find, .code yX11_find cX11_find 2 (some (.object "LowEnergy$Device")), .fieldLink RX11 9 "LowEnergy" "devices" "[LLowEnergy$Device;"] : List Cond) ++ (wsX30 ++ (wsX90 ++ (wsX100 ++ (wsX40 ++ (wsX110 ++ (wsX00 ++ (wsX60 ++ (wsX70 ++ (wsX50 ++ (wsX80 ++ (wsX20 ++ ([])))))))))))))
theorem hi_Low_device_X3 : ∀ x ∈ u_ws RX3 TX3 19, x ∈ wp_Low_device := fun _ h => List.mem_cons_of_mem _ (List.mem_append_right _ (List.mem_append_left _ h))
theorem hi_Low_device_X9 : ∀ x ∈ u_ws RX9 TX9 2, x ∈ wp_Low_device := fun _ h => List.mem_cons_of_mem _ (List.mem_append_right _ (List.mem_append_right _ (List.mem_append_left _ h)))
theorem hi_Low_device_X10 : ∀ x ∈ u_ws RX10 TX10 10, x ∈ wp_Low_device := fun _ h => List.mem_cons_of_mem _ (List.mem_append_right _ (List.mem_append_right _ (List.mem_append_right _ (List.mem_append_left _ h))))
theorem hi_Low_device_X4 : ∀ x ∈ u_ws RX4 TX4 6, x ∈ wp_Low_device := fun _ h => List.mem_cons_of_mem _ (List.mem_append_right _ (List.mem_append_right _ (List.mem_append_right _ (List.mem_append_right _ (List.mem_append_left _ h)))))
theorem hi_Low_device_X11 : ∀ x ∈ u_ws RX11 TX11 5, x ∈ wp_Low_device := fun _ h => List.mem_cons_of_mem _ (List.mem_append_right _ (List.mem_append_right _ (List.mem_append_right _ (List.mem_append_right _ (List.mem_append_right _ (List.mem_append_left _ h))))))
theorem hi_Low_device_X0 : ∀ x ∈ u_ws RX0 TX0 10, x ∈ wp_Low_device := fun _ h => List.mem_cons_of_mem _ (List.mem_append_right _ (List.mem_append_right _ (List.mem_append_right _ (List.mem_append_right _ (List.mem_append_right _ (List.mem_append_right _ (List.mem_append_left _ h)))))))
theorem hi_Low_device_X6 : ∀ x ∈ u_ws RX6 TX6 20, x ∈ wp_Low_device := fun _ h => List.mem_cons_of_mem _ (List.mem_append_right _ (List.mem_append_right _ (List.mem_append_right _ (List.mem_append_right _ (List.mem_append_right _ (List.mem_append_right _ (List.mem_append_right _ (List.mem_append_left _ h))))))))
theorem hi_Low_device_X7 : ∀ x ∈ u_ws RX7 TX7 16, x ∈ wp_Low_device := fun _ h => List.mem_cons_of_mem _ (List.mem_append_right _ (List.mem_append_right _ (List.mem_append_right _ (List.mem_append_right _ (List.mem_append_right _ (List.mem_append_right _ (List.mem_append_right _ (List.mem_append_right _ (List.mem_append_left _ h)))))))))
theorem hi_Low_device_X5 : ∀ x ∈ u_ws RX5 TX5 16, x ∈ wp_Low_device := fun _ h => List.mem_cons_of_mem _ (List.mem_append_right _ (List.mem_append_right _ (List.mem_append_right _ (List.mem_append_right _ (List.mem_append_right _ (List.mem_append_right _ (List.mem_append_right _ (List.mem_append_right _ (List.mem_append_right _ (List.mem_append_left _ h))))))))))
theorem hi_Low_device_X8 : ∀ x ∈ u_ws RX8 TX8 8, x ∈ wp_Low_device := fun _ h => List.mem_cons_of_mem _ (List.mem_append_right _ (List.mem_append_right _ (List.mem_append_right _ (List.mem_append_right _ (List.mem_append_right _ (List.mem_append_right _ (List.mem_append_right _ (List.mem_append_right _ (List.mem_append_right _ (List.mem_append_right _ (List.mem_append_left _ h)))))))))))
theorem hi_Low_device_X2 : ∀ x ∈ u_ws RX2 TX2 6, x ∈ wp_Low_device := fun _ h => List.mem_cons_of_mem _ (List.mem_append_right _ (List.mem_append_right _ (List.mem_append_right _ (List.mem_append_right _ (List.mem_append_right _ (List.mem_append_right _ (List.mem_append_right _ (List.mem_append_right _ (List.mem_append_right _ (List.mem_append_right _ (List.mem_append_right _ (List.mem_append_left _ h))))))))))))
set_option maxRecDepth 100000 in
theorem gd_Low_device_Air_lossesOf_338 : GoodIn wp_Low_device (wsV RX11 338 RX0 yX0_lossesOf wp_Air_lossesOf) := goodIn_app (goodIn_r _ [2, 3, 4, 5] rfl rfl) (goodIn_ca (goodIn_r _ [6, 7] rfl rfl) (goodIn_app (goodIn_cls hi_Low_device_X0 gw_X0) (goodIn_nil)))
set_option maxRecDepth 100000 in
theorem gd_Low_device_Low_flag_341 : GoodIn wp_Low_device (va_wsS RX11 341 yX11_flag wp_Low_flag) := goodIn_app (goodIn_r _ [8, 9, 10] rfl rfl) (goodIn_ca (goodIn_r _ [11] rfl rfl) (goodIn_nil))
set_option maxRecDepth 100000 in
theorem gd_Low_device_Low_linkFigure_321 : GoodIn wp_Low_device (wsV RX11 321 RX11 yX11_linkFigure wp_Low_linkFigure) := goodIn_app (goodIn_r _ [12, 13, 14, 10] rfl rfl) (goodIn_ca (goodIn_r _ [15, 16, 17, 18, 19, 20, 21, 22] rfl rfl) (goodIn_app (goodIn_cls hi_Low_device_X3 gw_X3) (goodIn_app (goodIn_cls hi_Low_device_X6 gw_X6) (goodIn_app (goodIn_cls hi_Low_device_X11 gw_X11) (goodIn_nil)))))
set_option maxRecDepth 100000 in
theorem gd_Low_device_Low_talkFigure_325 : GoodIn wp_Low_device (va_wsS RX11 325 yX11_talkFigure wp_Low_talkFigure) := goodIn_app (goodIn_r _ [23, 24, 10] rfl rfl) (goodIn_ca (goodIn_r _ [25, 8, 9, 10, 11] rfl rfl) (goodIn_app (goodIn_cls hi_Low_device_X3 gw_X3) (goodIn_app (goodIn_cls hi_Low_device_X7 gw_X7) (goodIn_app (goodIn_cls hi_Low_device_X9 gw_X9) (goodIn_app (goodIn_cls hi_Low_device_X5 gw_X5) (goodIn_app (goodIn_cls hi_Low_device_X10 gw_X10) (goodIn_app (goodIn_cls hi_Low_device_X8 gw_X8) (goodIn_app (goodIn_cls hi_Low_device_X2 gw_X2) (goodIn_nil)))))))))
set_option maxRecDepth 100000 in
theorem gd_Low_device_Low_find_52 : GoodIn wp_Low_device (wsV RX11 52 RX11 yX11_find wp_Low_find) := goodIn_app (goodIn_r _ [26, 27, 28, 10] rfl rfl) (goodIn_ca (goodIn_r _ [29, 30] rfl rfl) (goodIn_app (goodIn_cls hi_Low_device_X11 gw_X11) (goodIn_nil)))
set_option maxHeartbeats 4000000 in
set_option maxRecDepth 100000 in
theorem b_Low_device {p : Program} {l : Launch} {e : Env} {R : Room} {s : State} {m : MethodId} {args : Array Value} {below : List Frame} {meth : Method} {c : Code} {D : va_G} {K : Nat → ClassId} {A : Nat → Prop} {Q : State → Prop} {τ : Nat → Option Ty} {dom : List Nat} {zb zL : Nat} {zx : Nat → Int32} {zs : Nat → Nat} (hR : 2 ≤ R.frames ∧ 43 ≤ R.locals) (B : Bx p s m args c cX11_device 4 RX11 wp_Low_device D (tysA K) A) (Z : Sk τ dom) (hz : ZL zb zL zx zs A s s.heap) (h : Nat) (x1 : Int) (x2 : Int) (t_h : τ h = some (41, 0, 0)) (r_x1 : -2147483648 ≤ x1 ∧ x1 ≤ 2147483647) (r_x2 : -2147483648 ≤ x2 ∧ x2 ≤ 2147483647) (σ0 : Nat → va_E) (G0 : Good K τ σ0) (hend : ∀ (z : Int) (lv : List (Nat × Value)) (pc : Nat), (-2147483648 ≤ z ∧ z ≤ 2147483647) → decode cX11_device pc = .ok (.ireturn, 1) → V p l e R s m args below meth c 4 D A Q (0, 0) (fd dom σ0) lv pc [.int (iI z)]) : V p l e R s m args below meth c 4 D A Q (0, 0) (fd dom σ0) [(0, .ref h), (1, .int (iI x1)), (2, .int (iI x2))] 0 [] := by
  have F0 : Fr τ [] σ0 σ0 := Fr.rf
  have J54 : ∀ (a54_3 : Nat), (τ a54_3 = some (33, 0, 0)) → V p l e R s m args below meth c 4 D A Q (0, 0) (fd dom σ0) [(0, .ref h), (1, .int (iI x1)), (2, .int (iI x2)), (3, .ref a54_3)] 54 [] := by
    intro a54_3 t54_3
    refine v_iload_n B dX11_device_54 rfl rfl ?_
    refine u_tsw B (tgtd := 246) (by omega) dX11_device_55 (by decide +kernel) ?_ ?_ (tsw_ok (by decide +kernel)) (by decide +kernel)
    · intro i1 o2 g3 o4 x5 t6
      match i1, o4, x5 with
      | 0, o4, x5 =>
        replace o4 : o2 = 129 := by simp at o4; omega
        obtain rfl : g3 = 184 := by omega
        refine v_aload_n B dX11_device_184 rfl rfl ?_
        obtain ⟨z7, yy8, z9, z10, z11, z12, a13, z14, yy15, a16, yy17, a18, a19, a20, a21, a22, a23, a24, a25, h26, r27, r28, r29, r30, r31, r32, t33, r34, r35, t36, r37, t38, t39, t40, t41, t42, t43, t44, t45⟩ : okDevice τ (σ0 a54_3) := G0 a54_3 _ t54_3
        refine u_getN B Z (C := RX3) (T := TX3) (N := 19) (ci := 3) hi_Low_device_X3 t54_3 h26 rfl 2 (by decide +kernel) (List.mem_of_getElem? (i := 65) rfl) rfl dX11_device_185 ?_
        exact hend z9 _ _ ⟨by omega, by omega⟩ dX11_device_188
      | 1, o4, x5 =>
        replace o4 : o2 = 191 := by simp at o4; omega
        obtain rfl : g3 = 246 := by omega
        refine v_iconst B (v := iI (-1)) dX11_device_246 rfl ?_
        exact hend (-1) _ _ ⟨by omega, by omega⟩ dX11_device_247
      | 2, o4, x5 =>
        replace o4 : o2 = 191 := by simp at o4; omega
        obtain rfl : g3 = 246 := by omega
        refine v_iconst B (v := iI (-1)) dX11_device_246 rfl ?_
        exact hend (-1) _ _ ⟨by omega, by omega⟩ dX11_device_247
      | 3, o4, x5 =>
        replace o4 : o2 = 191 := by simp at o4; omega
        obtain rfl : g3 = 246 := by omega
        refine v_iconst B (v := iI (-1)) dX11_device_246 rfl ?_
        exact hend (-1) _ _ ⟨by omega, by omega⟩ dX11_device_247
      | 4, o4, x5 =>
        replace o4 : o2 = 191 := by simp at o4; omega
        obtain rfl : g3 = 246 := by omega
        refine v_iconst B (v := iI (-1)) dX11_device_246 rfl ?_
        exact hend (-1) _ _ ⟨by omega, by omega⟩ dX11_device_247
      | 5, o4, x5 =>
        replace o4 : o2 = 191 := by simp at o4; omega
        obtain rfl : g3 = 246 := by omega
        refine v_iconst B (v := iI (-1)) dX11_device_246 rfl ?_
        exact hend (-1) _ _ ⟨by omega, by omega⟩ dX11_device_247
      | 6, o4, x5 =>
        replace o4 : o2 = 191 := by simp at o4; omega
        obtain rfl : g3 = 246 := by omega
        refine v_iconst B (v := iI (-1)) dX11_device_246 rfl ?_
        exact hend (-1) _ _ ⟨by omega, by omega⟩ dX11_device_247
      | 7, o4, x5 =>
        replace o4 : o2 = 191 := by simp at o4; omega
        obtain rfl : g3 = 246 := by omega
        refine v_iconst B (v := iI (-1)) dX11_device_246 rfl ?_
        exact hend (-1) _ _ ⟨by omega, by omega⟩ dX11_device_247
      | 8, o4, x5 =>
        replace o4 : o2 = 191 := by simp at o4; omega
        obtain rfl : g3 = 246 := by omega
        refine v_iconst B (v := iI (-1)) dX11_device_246 rfl ?_
        exact hend (-1) _ _ ⟨by omega, by omega⟩ dX11_device_247
      | 9, o4, x5 =>
        replace o4 : o2 = 191 := by simp at o4; omega
        obtain rfl : g3 = 246 := by omega
        refine v_iconst B (v := iI (-1)) dX11_device_246 rfl ?_
        exact hend (-1) _ _ ⟨by omega, by omega⟩ dX11_device_247
      | 10, o4, x5 =>
        replace o4 : o2 = 191 := by simp at o4; omega
        obtain rfl : g3 = 246 := by omega
        refine v_iconst B (v := iI (-1)) dX11_device_246 rfl ?_
        exact hend (-1) _ _ ⟨by omega, by omega⟩ dX11_device_247
      | 11, o4, x5 =>
        replace o4 : o2 = 191 := by simp at o4; omega
        obtain rfl : g3 = 246 := by omega
        refine v_iconst B (v := iI (-1)) dX11_device_246 rfl ?_
        exact hend (-1) _ _ ⟨by omega, by omega⟩ dX11_device_247
      | 12, o4, x5 =>
        replace o4 : o2 = 191 := by simp at o4; omega
        obtain rfl : g3 = 246 := by omega
        refine v_iconst B (v := iI (-1)) dX11_device_246 rfl ?_
        exact hend (-1) _ _ ⟨by omega, by omega⟩ dX11_device_247
      | 13, o4, x5 =>
        replace o4 : o2 = 191 := by simp at o4; omega
        obtain rfl : g3 = 246 := by omega
        refine v_iconst B (v := iI (-1)) dX11_device_246 rfl ?_
        exact hend (-1) _ _ ⟨by omega, by omega⟩ dX11_device_247
      | 14, o4, x5 =>
        replace o4 : o2 = 191 := by simp at o4; omega
        obtain rfl : g3 = 246 := by omega
        refine v_iconst B (v := iI (-1)) dX11_device_246 rfl ?_
        exact hend (-1) _ _ ⟨by omega, by omega⟩ dX11_device_247
      | 15, o4, x5 =>
        replace o4 : o2 = 191 := by simp at o4; omega
        obtain rfl : g3 = 246 := by omega
        refine v_iconst B (v := iI (-1)) dX11_device_246 rfl ?_
        exact hend (-1) _ _ ⟨by omega, by omega⟩ dX11_device_247
      | 16, o4, x5 =>
        replace o4 : o2 = 191 := by simp at o4; omega
        obtain rfl : g3 = 246 := by omega
        refine v_iconst B (v := iI (-1)) dX11_device_246 rfl ?_
        exact hend (-1) _ _ ⟨by omega, by omega⟩ dX11_device_247
      | 17, o4, x5 =>
        replace o4 : o2 = 191 := by simp at o4; omega
        obtain rfl : g3 = 246 := by omega
        refine v_iconst B (v := iI (-1)) dX11_device_246 rfl ?_
        exact hend (-1) _ _ ⟨by omega, by omega⟩ dX11_device_247
      | 18, o4, x5 =>
        replace o4 : o2 = 191 := by simp at o4; omega
        obtain rfl : g3 = 246 := by omega
        refine v_iconst B (v := iI (-1)) dX11_device_246 rfl ?_
        exact hend (-1) _ _ ⟨by omega, by omega⟩ dX11_device_247
      | 19, o4, x5 =>
        replace o4 : o2 = 191 := by simp at o4; omega
        obtain rfl : g3 = 246 := by omega
        refine v_iconst B (v := iI (-1)) dX11_device_246 rfl ?_
        exact hend (-1) _ _ ⟨by omega, by omega⟩ dX11_device_247
      | 20, o4, x5 =>
        replace o4 : o2 = 191 := by simp at o4; omega
        obtain rfl : g3 = 246 := by omega
        refine v_iconst B (v := iI (-1)) dX11_device_246 rfl ?_
        exact hend (-1) _ _ ⟨by omega, by omega⟩ dX11_device_247
      | 21, o4, x5 =>
        replace o4 : o2 = 134 := by simp at o4; omega
        obtain rfl : g3 = 189 := by omega
        refine v_aload_n B dX11_device_189 rfl rfl ?_
        obtain ⟨z46, yy47, z48, z49, z50, z51, a52, z53, yy54, a55, yy56, a57, a58, a59, a60, a61, a62, a63, a64, h65, r66, r67, r68, r69, r70, r71, t72, r73, r74, t75, r76, t77, t78, t79, t80, t81, t82, t83, t84⟩ : okDevice τ (σ0 a54_3) := G0 a54_3 _ t54_3
        refine u_getN B Z (C := RX3) (T := TX3) (N := 19) (ci := 3) hi_Low_device_X3 t54_3 h65 rfl 7 (by decide +kernel) (List.mem_of_getElem? (i := 32) rfl) rfl dX11_device_190 ?_
        exact hend z53 _ _ ⟨by omega, by omega⟩ dX11_device_193
      | 22, o4, x5 =>
        replace o4 : o2 = 139 := by simp at o4; omega
        obtain rfl : g3 = 194 := by omega
        refine v_aload_n B dX11_device_194 rfl rfl ?_
        obtain ⟨z85, yy86, z87, z88, z89, z90, a91, z92, yy93, a94, yy95, a96, a97, a98, a99, a100, a101, a102, a103, h104, r105, r106, r107, r108, r109, r110, t111, r112, r113, t114, r115, t116, t117, t118, t119, t120, t121, t122, t123⟩ : okDevice τ (σ0 a54_3) := G0 a54_3 _ t54_3
        refine u_getN B Z (C := RX3) (T := TX3) (N := 19) (ci := 3) hi_Low_device_X3 t54_3 h104 rfl 9 (by decide +kernel) (List.mem_of_getElem? (i := 29) rfl) rfl dX11_device_195 ?_
        obtain ⟨b124, N125, n126, h127, t128, r129⟩ : okRow τ 7 (σ0 a94) := G0 a94 _ t114
        refine u_getN B Z (C := RX9) (T := TX9) (N := 2) (ci := 9) hi_Low_device_X9 t114 h127 rfl 1 (by decide +kernel) (List.mem_of_getElem? (i := 51) rfl) rfl dX11_device_198 ?_
        exact hend n126 _ _ ⟨by omega, by omega⟩ dX11_device_201
      | 23, o4, x5 =>
        replace o4 : o2 = 147 := by simp at o4; omega
        obtain rfl : g3 = 202 := by omega
        refine v_aload_n B dX11_device_202 rfl rfl ?_
        obtain ⟨z130, yy131, z132, z133, z134, z135, a136, z137, yy138, a139, yy140, a141, a142, a143, a144, a145, a146, a147, a148, h149, r150, r151, r152, r153, r154, r155, t156, r157, r158, t159, r160, t161, t162, t163, t164, t165, t166, t167, t168⟩ : okDevice τ (σ0 a54_3) := G0 a54_3 _ t54_3
        refine u_getN B Z (C := RX3) (T := TX3) (N := 19) (ci := 3) hi_Low_device_X3 t54_3 h149 rfl 15 (by decide +kernel) (List.mem_of_getElem? (i := 3) rfl) rfl dX11_device_203 ?_
        obtain ⟨a169, a170, a171, z172, z173, z174, a175, z176, z177, a178, h179, t180, t181, t182, r183, r184, r185, t186, r187, r188, t189⟩ : okServer τ (σ0 a145) := G0 a145 _ t165
        refine u_getN B Z (C := RX10) (T := TX10) (N := 10) (ci := 10) hi_Low_device_X10 t165 h179 rfl 3 (by decide +kernel) (List.mem_of_getElem? (i := 33) rfl) rfl dX11_device_206 ?_
        exact hend z172 _ _ ⟨by omega, by omega⟩ dX11_device_209
      | 24, o4, x5 =>
        replace o4 : o2 = 155 := by simp at o4; omega
        obtain rfl : g3 = 210 := by omega
        refine v_aload_n B dX11_device_210 rfl rfl ?_
        obtain ⟨z190, yy191, z192, z193, z194, z195, a196, z197, yy198, a199, yy200, a201, a202, a203, a204, a205, a206, a207, a208, h209, r210, r211, r212, r213, r214, r215, t216, r217, r218, t219, r220, t221, t222, t223, t224, t225, t226, t227, t228⟩ : okDevice τ (σ0 a54_3) := G0 a54_3 _ t54_3
        refine u_getN B Z (C := RX3) (T := TX3) (N := 19) (ci := 3) hi_Low_device_X3 t54_3 h209 rfl 17 (by decide +kernel) (List.mem_of_getElem? (i := 25) rfl) rfl dX11_device_211 ?_
        obtain ⟨a229, a230, a231, z232, z233, z234, h235, t236, t237, t238, r239, r240, r241⟩ : okDiary τ (σ0 a207) := G0 a207 _ t227
        refine u_getN B Z (C := RX4) (T := TX4) (N := 6) (ci := 4) hi_Low_device_X4 t227 h235 rfl 4 (by decide +kernel) (List.mem_of_getElem? (i := 34) rfl) rfl dX11_device_214 ?_
        exact hend z233 _ _ ⟨by omega, by omega⟩ dX11_device_217
      | 25, o4, x5 =>
        replace o4 : o2 = 163 := by simp at o4; omega
        obtain rfl : g3 = 218 := by omega
        refine v_aload_n B dX11_device_218 rfl rfl ?_
        obtain ⟨z242, yy243, z244, z245, z246, z247, a248, z249, yy250, a251, yy252, a253, a254, a255, a256, a257, a258, a259, a260, h261, r262, r263, r264, r265, r266, r267, t268, r269, r270, t271, r272, t273, t274, t275, t276, t277, t278, t279, t280⟩ : okDevice τ (σ0 a54_3) := G0 a54_3 _ t54_3
        refine u_getN B Z (C := RX3) (T := TX3) (N := 19) (ci := 3) hi_Low_device_X3 t54_3 h261 rfl 17 (by decide +kernel) (List.mem_of_getElem? (i := 25) rfl) rfl dX11_device_219 ?_
        obtain ⟨a281, a282, a283, z284, z285, z286, h287, t288, t289, t290, r291, r292, r293⟩ : okDiary τ (σ0 a259) := G0 a259 _ t279
        refine u_getN B Z (C := RX4) (T := TX4) (N := 6) (ci := 4) hi_Low_device_X4 t279 h287 rfl 5 (by decide +kernel) (List.mem_of_getElem? (i := 35) rfl) rfl dX11_device_222 ?_
        exact hend z286 _ _ ⟨by omega, by omega⟩ dX11_device_225
      | 26, o4, x5 =>
        replace o4 : o2 = 191 := by simp at o4; omega
        obtain rfl : g3 = 246 := by omega
        refine v_iconst B (v := iI (-1)) dX11_device_246 rfl ?_
        exact hend (-1) _ _ ⟨by omega, by omega⟩ dX11_device_247
      | 27, o4, x5 =>
        replace o4 : o2 = 171 := by simp at o4; omega
        obtain rfl : g3 = 226 := by omega
        refine v_aload_n B dX11_device_226 rfl rfl ?_
        obtain ⟨a294, a295, a296, a297, z298, h299, t300, t301, t302, t303, r304⟩ : okLow τ (σ0 h) := G0 h _ t_h
        refine u_get B Z (C := RX11) (T := TX11) (N := 5) (ci := 11) hi_Low_device_X11 t_h h299 rfl 1 (by decide +kernel) (List.mem_of_getElem? (i := 1) rfl) rfl dX11_device_227 ?_
        refine v_iload_n B dX11_device_230 rfl rfl ?_
        refine u_callVi B Z hz (n := 1) (As := [.int (iI x1)]) (rest := []) (c_Air_lossesOf l D K Z _ _ _ _ a295 x1 t301 ⟨by omega, by omega⟩ σ0 G0) gd_Low_device_Air_lossesOf_338 rfl rfl rfl (by decide +kernel) ⟨Nat.le_trans (by decide +kernel) hR.1, Nat.le_trans (by decide +kernel) hR.2⟩ t301 (cls_Air G0 t301) rfl rfl rfl rfl (Nat.le_of_ble_eq_true rfl) dX11_device_231 ⟨Nat.zero_le _, Nat.zero_le _⟩ (fun v307 σ305 p306 => ?_)
        obtain ⟨rfl, z311, e312, r313⟩ := p306
        subst e312
        exact hend z311 _ _ ⟨by omega, by omega⟩ dX11_device_234
      | 28, o4, x5 =>
        replace o4 : o2 = 180 := by simp at o4; omega
        obtain rfl : g3 = 235 := by omega
        refine v_aload_n B dX11_device_235 rfl rfl ?_
        obtain ⟨z314, yy315, z316, z317, z318, z319, a320, z321, yy322, a323, yy324, a325, a326, a327, a328, a329, a330, a331, a332, h333, r334, r335, r336, r337, r338, r339, t340, r341, r342, t343, r344, t345, t346, t347, t348, t349, t350, t351, t352⟩ : okDevice τ (σ0 a54_3) := G0 a54_3 _ t54_3
        refine u_getN B Z (C := RX3) (T := TX3) (N := 19) (ci := 3) hi_Low_device_X3 t54_3 h333 rfl 15 (by decide +kernel) (List.mem_of_getElem? (i := 3) rfl) rfl dX11_device_236 ?_
        obtain ⟨a353, a354, a355, z356, z357, z358, a359, z360, z361, a362, h363, t364, t365, t366, r367, r368, r369, t370, r371, r372, t373⟩ : okServer τ (σ0 a329) := G0 a329 _ t349
        refine u_getN B Z (C := RX10) (T := TX10) (N := 10) (ci := 10) hi_Low_device_X10 t349 h363 rfl 8 (by decide +kernel) (List.mem_of_getElem? (i := 24) rfl) rfl dX11_device_239 ?_
        refine u_callSi B Z hz (n := 1) (As := [.int (iI z361)]) (rest := []) (c_Low_flag l D K Z _ _ _ _ z361 ⟨by omega, by omega⟩ σ0 G0) gd_Low_device_Low_flag_341 rfl rfl rfl (by decide +kernel) ⟨Nat.le_trans (by decide +kernel) hR.1, Nat.le_trans (by decide +kernel) hR.2⟩ rfl rfl (Nat.le_of_ble_eq_true rfl) dX11_device_242 ⟨Nat.zero_le _, Nat.zero_le _⟩ (fun v376 σ374 p375 => ?_)
        obtain ⟨rfl, z380, e381, r382⟩ := p375
        subst e381
        exact hend z380 _ _ ⟨by omega, by omega⟩ dX11_device_245
      | i1 + 29, o4, x5 => exact absurd (o4.symm.trans (Array.getElem?_eq_none (by simp))) (by simp)
    · intro x5
      refine v_iconst B (v := iI (-1)) dX11_device_246 rfl ?_
      exact hend (-1) _ _ ⟨by omega, by omega⟩ dX11_device_247
  have J29 : ∀ (a29_3 : Nat), (1 ≤ x2 ∧ x2 ≤ 26) → (τ a29_3 = some (33, 0, 0)) → V p l e R s m args below meth c 4 D A Q (0, 0) (fd dom σ0) [(0, .ref h), (2, .int (iI x2)), (3, .ref a29_3)] 29 [] := by
    intro a29_3 r29_2 t29_3
    refine v_aload_n B dX11_device_29 rfl rfl ?_
    refine v_aload_n B dX11_device_30 rfl rfl ?_
    refine v_iload_n B dX11_device_31 rfl rfl ?_
    refine u_callVi B Z hz (n := 2) (As := [.ref a29_3, .int (iI x2)]) (rest := []) (c_Low_linkFigure l D K Z _ _ _ _ h a29_3 x2 t_h t29_3 ⟨by omega, by omega⟩ σ0 G0) gd_Low_device_Low_linkFigure_321 rfl rfl rfl (by decide +kernel) ⟨Nat.le_trans (by decide +kernel) hR.1, Nat.le_trans (by decide +kernel) hR.2⟩ t_h (cls_Low G0 t_h) rfl rfl rfl rfl (Nat.le_of_ble_eq_true rfl) dX11_device_32 ⟨Nat.zero_le _, Nat.zero_le _⟩ (fun v385 σ383 p384 => ?_)
    obtain ⟨rfl, z389, e390, r391⟩ := p384
    subst e390
    exact hend z389 _ _ ⟨by omega, by omega⟩ dX11_device_35
  have J23 : ∀ (a23_3 : Nat), (τ a23_3 = some (33, 0, 0)) → V p l e R s m args below meth c 4 D A Q (0, 0) (fd dom σ0) [(0, .ref h), (1, .int (iI x1)), (2, .int (iI x2)), (3, .ref a23_3)] 23 [] := by
    intro a23_3 t23_3
    refine v_iload_n B dX11_device_23 rfl rfl ?_
    refine v_bipush B (v := iI 26) dX11_device_24 (by decide +kernel) ?_
    refine u_icmp_ne B (tgt := 36) (by omega) (by omega) dX11_device_26 (by decide +kernel) (fun c392 => ?_) (fun c392 => ?_)
    · refine v_iload_n B dX11_device_36 rfl rfl ?_
      refine v_bipush B (v := iI 9) dX11_device_37 (by decide +kernel) ?_
      refine u_icmp_lt B (tgt := 54) (by omega) (by omega) dX11_device_39 (by decide +kernel) (fun c393 => ?_) (fun c393 => ?_)
      · exact J54 a23_3 t23_3
      · refine v_iload_n B dX11_device_42 rfl rfl ?_
        refine v_bipush B (v := iI 20) dX11_device_43 (by decide +kernel) ?_
        refine u_icmp_gt B (tgt := 54) (by omega) (by omega) dX11_device_45 (by decide +kernel) (fun c394 => ?_) (fun c394 => ?_)
        · exact J54 a23_3 t23_3
        · refine v_aload_n B dX11_device_48 rfl rfl ?_
          refine v_iload_n B dX11_device_49 rfl rfl ?_
          refine u_callSi B Z hz (n := 2) (As := [.ref a23_3, .int (iI x2)]) (rest := []) (c_Low_talkFigure l D K Z _ _ _ _ a23_3 x2 t23_3 ⟨by omega, by omega⟩ σ0 G0) gd_Low_device_Low_talkFigure_325 rfl rfl rfl (by decide +kernel) ⟨Nat.le_trans (by decide +kernel) hR.1, Nat.le_trans (by decide +kernel) hR.2⟩ rfl rfl (Nat.le_of_ble_eq_true rfl) dX11_device_50 ⟨Nat.zero_le _, Nat.zero_le _⟩ (fun v397 σ395 p396 => ?_)
          obtain ⟨rfl, z401, e402, r403⟩ := p396
          subst e402
          exact hend z401 _ _ ⟨by omega, by omega⟩ dX11_device_53
    · refine v_lv [0, 2, 3] rfl ?_
      exact J29 a23_3 ⟨by omega, by omega⟩ t23_3
  refine v_aload_n B dX11_device_0 rfl rfl ?_
  refine v_iload_n B dX11_device_1 rfl rfl ?_
  refine u_callVq B Z hz (n := 1) (As := [.int (iI x1)]) (rest := []) (c_Low_find l D K Z _ _ _ _ h x1 t_h ⟨by omega, by omega⟩ σ0 G0) gd_Low_device_Low_find_52 rfl rfl rfl (by decide +kernel) ⟨Nat.le_trans (by decide +kernel) hR.1, Nat.le_trans (by decide +kernel) hR.2⟩ t_h (cls_Low G0 t_h) rfl rfl rfl rfl (Nat.le_of_ble_eq_true rfl) dX11_device_2 ⟨Nat.zero_le _, Nat.zero_le _⟩ (fun v406 σ404 p405 => ?_)
  obtain ⟨rfl, q410⟩ := p405
  rcases q410 with rfl | ⟨a411, rfl, t412⟩
  · show V _ _ _ _ _ _ _ _ _ _ _ _ _ _ _ _ _ _ [.null]
    refine v_astore_nN B (lv' := [(3, .null), (0, .ref h), (1, .int (iI x1)), (2, .int (iI x2))]) dX11_device_5 rfl (by decide +kernel) rfl ?_
    refine v_aload_nN B dX11_device_6 rfl rfl ?_
    refine v_ifnonnullN B dX11_device_7 ?_
    refine v_iconst B (v := iI (-1)) dX11_device_10 rfl ?_
    exact hend (-1) _ _ ⟨by omega, by omega⟩ dX11_device_11
  · show V _ _ _ _ _ _ _ _ _ _ _ _ _ _ _ _ _ _ [.ref a411]
    refine v_astore_n B (lv' := [(3, .ref a411), (0, .ref h), (1, .int (iI x1)), (2, .int (iI x2))]) dX11_device_5 rfl (by decide +kernel) rfl ?_
    refine v_aload_n B dX11_device_6 rfl rfl ?_
    refine v_ifnonnull B (tgt := 12) dX11_device_7 (by decide +kernel) ?_
    refine v_iload_n B dX11_device_12 rfl rfl ?_
    refine v_iconst B (v := iI 1) dX11_device_13 rfl ?_
    refine u_icmp_lt B (tgt := 23) (by omega) (by omega) dX11_device_14 (by decide +kernel) (fun c413 => ?_) (fun c413 => ?_)
    · refine v_lv [1, 2, 3, 0] rfl ?_
      exact J23 a411 t412
    · refine v_iload_n B dX11_device_17 rfl rfl ?_
      refine v_bipush B (v := iI 8) dX11_device_18 (by decide +kernel) ?_
      refine u_icmp_le B (tgt := 29) (by omega) (by omega) dX11_device_20 (by decide +kernel) (fun c414 => ?_) (fun c414 => ?_)
      · refine v_lv [1, 3, 0] rfl ?_
        exact J29 a411 ⟨by omega, by omega⟩ t412
      · refine v_lv [1, 2, 3, 0] rfl ?_
        exact J23 a411 t412
set_option maxRecDepth 100000 in
theorem c_Low_device (l : Launch) (D : va_G) (K : Nat → ClassId) {τ : Nat → Option Ty} {dom : List Nat} (Z : Sk τ dom) (zb zL : Nat) (zx : Nat → Int32) (zs : Nat → Nat) (h : Nat) (x1 : Int) (x2 : Int) (t_h : τ h = some (41, 0, 0)) (r_x1 : -2147483648 ≤ x1 ∧ x1 ≤ 2147483647) (r_x2 : -2147483648 ≤ x2 ∧ x2 ≤ 2147483647) (σ0 : Nat → va_E) (G0 : Good K τ σ0) : MZ l yX11_device wp_Low_device ({ frames := 2, cells := 0, slots := 0, locals := 43 }) D (tysA K) [.ref h, .int (iI x1), .int (iI x2)] (fd dom σ0) zb zL zx zs (Qi D (fun r σ' => σ0 = σ' ∧ ∃ z : Int, r = iI z ∧ (-2147483648 ≤ z ∧ z ≤ 2147483647)) (fun σ' => fd dom σ')) 0 0 := by
  refine mz_of (cc := cX11_device) (maxL := 4) (ret := (some .int)) (by decide +kernel) rfl (Nat.le_of_ble_eq_true rfl) ?_
  intro p e s m below meth c A B hr hlk _ hz
  exact b_Low_device ⟨Nat.le_refl _, Nat.le_refl _⟩ B Z hz h x1 x2 t_h r_x1 r_x2 σ0 G0 (fun z lv pc hZ hd => v_iret B hr hlk σ0 ⟨rfl, z, rfl, hZ⟩ rfl (Nat.le_refl _) (Nat.le_refl _) hd)
