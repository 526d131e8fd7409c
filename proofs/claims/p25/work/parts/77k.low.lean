def wp_Low_find : List Cond := .code yX11_find cX11_find 2 (some (.object "LowEnergy$Device")) :: (([.fieldLink RX11 9 "LowEnergy" "devices" "[LLowEnergy$Device;"] : List Cond) ++ (wsX110 ++ ([])))
theorem hi_Low_find_X11 : ∀ x ∈ u_ws RX11 TX11 5, x ∈ wp_Low_find := fun _ h => List.mem_cons_of_mem _ (List.mem_append_right _ (List.mem_append_left _ h))
set_option maxHeartbeats 4000000 in
set_option maxRecDepth 100000 in
theorem b_Low_find {p : Program} {l : Launch} {e : Env} {R : Room} {s : State} {m : MethodId} {args : Array Value} {below : List Frame} {meth : Method} {c : Code} {D : va_G} {K : Nat → ClassId} {A : Nat → Prop} {Q : State → Prop} {τ : Nat → Option Ty} {dom : List Nat} {zb zL : Nat} {zx : Nat → Int32} {zs : Nat → Nat} (hR : 0 ≤ R.frames ∧ 0 ≤ R.locals) (B : Bx p s m args c cX11_find 2 RX11 wp_Low_find D (tysA K) A) (Z : Sk τ dom) (hz : ZL zb zL zx zs A s s.heap) (h : Nat) (x1 : Int) (t_h : τ h = some (41, 0, 0)) (r_x1 : -2147483648 ≤ x1 ∧ x1 ≤ 2147483647) (σ0 : Nat → va_E) (G0 : Good K τ σ0) (hend : ∀ (r : Option Nat) (lv : List (Nat × Value)) (pc : Nat), (r = none ∨ ∃ a, r = some a ∧ τ a = some (33, 0, 0)) → decode cX11_find pc = .ok (.areturn, 1) → V p l e R s m args below meth c 2 D A Q (0, 0) (fd dom σ0) lv pc [va_rf r]) : V p l e R s m args below meth c 2 D A Q (0, 0) (fd dom σ0) [(0, .ref h), (1, .int (iI x1))] 0 [] := by
  have F0 : Fr τ [] σ0 σ0 := Fr.rf
  have J9 : (0 ≤ x1 ∧ x1 ≤ 1) → V p l e R s m args below meth c 2 D A Q (0, 0) (fd dom σ0) [(0, .ref h), (1, .int (iI x1))] 9 [] := by
    intro r9_1
    refine v_aload_n B dX11_find_9 rfl rfl ?_
    obtain ⟨a1, a2, a3, a4, z5, h6, t7, t8, t9, t10, r11⟩ : okLow τ (σ0 h) := G0 h _ t_h
    refine u_get B Z (C := RX11) (T := TX11) (N := 5) (ci := 11) hi_Low_find_X11 t_h h6 rfl 0 (by decide +kernel) (List.mem_of_getElem? (i := 1) rfl) rfl dX11_find_10 ?_
    refine v_iload_n B dX11_find_13 rfl rfl ?_
    obtain ⟨f12, h13, e14⟩ : okDV K τ 2 (σ0 a1) := G0 a1 _ t7
    obtain ⟨a15, e16, t17⟩ := e14 (x1 : Int).toNat (by omega)
    refine u_aald B Z (t0 := 5) (v := .ref a15) t7 h13 rfl (by omega) (by rw [e16]; rfl) dX11_find_14 ?_
    refine v_goto B (tgt := 19) dX11_find_15 (by decide +kernel) ?_
    exact hend (some a15) _ _ (Or.inr ⟨_, rfl, t17⟩) dX11_find_19
  refine v_iload_n B dX11_find_0 rfl rfl ?_
  refine u_if_eq B (tgt := 9) (by omega) dX11_find_1 (by decide +kernel) (fun c18 => ?_) (fun c18 => ?_)
  · exact J9 ⟨by omega, by omega⟩
  · refine v_iload_n B dX11_find_4 rfl rfl ?_
    refine v_iconst B (v := iI 1) dX11_find_5 rfl ?_
    refine u_icmp_ne B (tgt := 18) (by omega) (by omega) dX11_find_6 (by decide +kernel) (fun c19 => ?_) (fun c19 => ?_)
    · refine v_null B dX11_find_18 ?_
      exact hend none _ _ (Or.inl rfl) dX11_find_19
    · exact J9 ⟨by omega, by omega⟩
set_option maxRecDepth 100000 in
theorem c_Low_find (l : Launch) (D : va_G) (K : Nat → ClassId) {τ : Nat → Option Ty} {dom : List Nat} (Z : Sk τ dom) (zb zL : Nat) (zx : Nat → Int32) (zs : Nat → Nat) (h : Nat) (x1 : Int) (t_h : τ h = some (41, 0, 0)) (r_x1 : -2147483648 ≤ x1 ∧ x1 ≤ 2147483647) (σ0 : Nat → va_E) (G0 : Good K τ σ0) : MZ l yX11_find wp_Low_find ({ frames := 0, cells := 0, slots := 0, locals := 0 }) D (tysA K) [.ref h, .int (iI x1)] (fd dom σ0) zb zL zx zs (Qq D (fun r σ' => σ0 = σ' ∧ (r = none ∨ ∃ a, r = some a ∧ τ a = some (33, 0, 0))) (fun σ' => fd dom σ')) 0 0 := by
  refine mz_of (cc := cX11_find) (maxL := 2) (ret := (some (.object "LowEnergy$Device"))) (by decide +kernel) rfl (Nat.le_of_ble_eq_true rfl) ?_
  intro p e s m below meth c A B hr hlk _ hz
  exact b_Low_find ⟨Nat.le_refl _, Nat.le_refl _⟩ B Z hz h x1 t_h r_x1 σ0 G0 (fun r lv pc hQ hd => v_aret B r hr hlk σ0 ⟨rfl, hQ⟩ rfl (Nat.le_refl _) (Nat.le_refl _) hd)

def wp_Low_flag : List Cond := .code yX11_flag cX11_flag 1 (some .int) :: (([] : List Cond) ++ ([]))
set_option maxHeartbeats 4000000 in
set_option maxRecDepth 100000 in
theorem b_Low_flag {p : Program} {l : Launch} {e : Env} {R : Room} {s : State} {m : MethodId} {args : Array Value} {below : List Frame} {meth : Method} {c : Code} {D : va_G} {K : Nat → ClassId} {A : Nat → Prop} {Q : State → Prop} {τ : Nat → Option Ty} {dom : List Nat} {zb zL : Nat} {zx : Nat → Int32} {zs : Nat → Nat} (hR : 0 ≤ R.frames ∧ 0 ≤ R.locals) (B : Bx p s m args c cX11_flag 1 RX11 wp_Low_flag D (tysA K) A) (Z : Sk τ dom) (hz : ZL zb zL zx zs A s s.heap) (x0 : Int) (r_x0 : 0 ≤ x0 ∧ x0 ≤ 1) (σ0 : Nat → va_E) (G0 : Good K τ σ0) (hend : ∀ (z : Int) (lv : List (Nat × Value)) (pc : Nat), (0 ≤ z ∧ z ≤ 1) → decode cX11_flag pc = .ok (.ireturn, 1) → V p l e R s m args below meth c 1 D A Q (0, 0) (fd dom σ0) lv pc [.int (iI z)]) : V p l e R s m args below meth c 1 D A Q (0, 0) (fd dom σ0) [(0, .int (iI x0))] 0 [] := by
  have F0 : Fr τ [] σ0 σ0 := Fr.rf
  refine v_iload_n B dX11_flag_0 rfl rfl ?_
  refine u_if_eq B (tgt := 8) (by omega) dX11_flag_1 (by decide +kernel) (fun c1 => ?_) (fun c1 => ?_)
  · refine v_iconst B (v := iI 0) dX11_flag_8 rfl ?_
    exact hend 0 _ _ ⟨by omega, by omega⟩ dX11_flag_9
  · refine v_iconst B (v := iI 1) dX11_flag_4 rfl ?_
    refine v_goto B (tgt := 9) dX11_flag_5 (by decide +kernel) ?_
    exact hend 1 _ _ ⟨by omega, by omega⟩ dX11_flag_9
set_option maxRecDepth 100000 in
theorem c_Low_flag (l : Launch) (D : va_G) (K : Nat → ClassId) {τ : Nat → Option Ty} {dom : List Nat} (Z : Sk τ dom) (zb zL : Nat) (zx : Nat → Int32) (zs : Nat → Nat) (x0 : Int) (r_x0 : 0 ≤ x0 ∧ x0 ≤ 1) (σ0 : Nat → va_E) (G0 : Good K τ σ0) : MZ l yX11_flag wp_Low_flag ({ frames := 0, cells := 0, slots := 0, locals := 0 }) D (tysA K) [.int (iI x0)] (fd dom σ0) zb zL zx zs (Qi D (fun r σ' => σ0 = σ' ∧ ∃ z : Int, r = iI z ∧ (0 ≤ z ∧ z ≤ 1)) (fun σ' => fd dom σ')) 0 0 := by
  refine mz_of (cc := cX11_flag) (maxL := 1) (ret := (some .int)) (by decide +kernel) rfl (Nat.le_of_ble_eq_true rfl) ?_
  intro p e s m below meth c A B hr hlk _ hz
  exact b_Low_flag ⟨Nat.le_refl _, Nat.le_refl _⟩ B Z hz x0 r_x0 σ0 G0 (fun z lv pc hZ hd => v_iret B hr hlk σ0 ⟨rfl, z, rfl, hZ⟩ rfl (Nat.le_refl _) (Nat.le_refl _) hd)

def wp_Low_byteAt : List Cond := .code yX11_byteAt cX11_byteAt 2 (some .int) :: (([] : List Cond) ++ ([]))
set_option maxHeartbeats 4000000 in
set_option maxRecDepth 100000 in
theorem b_Low_byteAt {p : Program} {l : Launch} {e : Env} {R : Room} {s : State} {m : MethodId} {args : Array Value} {below : List Frame} {meth : Method} {c : Code} {D : va_G} {K : Nat → ClassId} {A : Nat → Prop} {Q : State → Prop} {τ : Nat → Option Ty} {dom : List Nat} {zb zL : Nat} {zx : Nat → Int32} {zs : Nat → Nat} {π : Nat} {N : Nat} (hR : 0 ≤ R.frames ∧ 0 ≤ R.locals) (B : Bx p s m args c cX11_byteAt 2 RX11 wp_Low_byteAt D (tysA K) A) (Z : Sk τ dom) (hz : ZL zb zL zx zs A s s.heap) (g : Nat) (x1 : Int) (t_g : τ g = some (3, π, N)) (r_x1 : -2147483648 ≤ x1 ∧ x1 ≤ 2147483647) (σ0 : Nat → va_E) (G0 : Good K τ σ0) (hend : ∀ (z : Int) (lv : List (Nat × Value)) (pc : Nat), (-2147483648 ≤ z ∧ z ≤ 2147483647) → decode cX11_byteAt pc = .ok (.ireturn, 1) → V p l e R s m args below meth c 2 D A Q (0, 0) (fd dom σ0) lv pc [.int (iI z)]) : V p l e R s m args below meth c 2 D A Q (0, 0) (fd dom σ0) [(0, .ref g), (1, .int (iI x1))] 0 [] := by
  have F0 : Fr τ [] σ0 σ0 := Fr.rf
  refine v_iload_n B dX11_byteAt_0 rfl rfl ?_
  refine u_if_lt B (tgt := 16) (by omega) dX11_byteAt_1 (by decide +kernel) (fun c1 => ?_) (fun c1 => ?_)
  · refine v_iconst B (v := iI (-1)) dX11_byteAt_16 rfl ?_
    exact hend (-1) _ _ ⟨by omega, by omega⟩ dX11_byteAt_17
  · refine v_iload_n B dX11_byteAt_4 rfl rfl ?_
    refine v_aload_n B dX11_byteAt_5 rfl rfl ?_
    obtain ⟨f2, h3, r4⟩ : okP K N (σ0 g) := G0 g _ t_g
    refine u_alen B Z (t0 := 0) (v := ((N : Int))) t_g h3 rfl (by first | rfl | omega) dX11_byteAt_6 ?_
    refine u_icmp_ge B (tgt := 16) (by omega) (by omega) dX11_byteAt_7 (by decide +kernel) (fun c5 => ?_) (fun c5 => ?_)
    · refine v_iconst B (v := iI (-1)) dX11_byteAt_16 rfl ?_
      exact hend (-1) _ _ ⟨by omega, by omega⟩ dX11_byteAt_17
    · refine v_aload_n B dX11_byteAt_10 rfl rfl ?_
      refine v_iload_n B dX11_byteAt_11 rfl rfl ?_
      obtain ⟨z6, e7, r8⟩ := iI_any (f2 (x1 : Int).toNat)
      refine u_iald B Z (t0 := 0) t_g h3 rfl (by omega) e7 dX11_byteAt_12 ?_
      refine v_goto B (tgt := 17) dX11_byteAt_13 (by decide +kernel) ?_
      exact hend z6 _ _ ⟨by omega, by omega⟩ dX11_byteAt_17
set_option maxRecDepth 100000 in
theorem c_Low_byteAt (l : Launch) (D : va_G) (K : Nat → ClassId) {τ : Nat → Option Ty} {dom : List Nat} (Z : Sk τ dom) (zb zL : Nat) (zx : Nat → Int32) (zs : Nat → Nat) {π : Nat} {N : Nat} (g : Nat) (x1 : Int) (t_g : τ g = some (3, π, N)) (r_x1 : -2147483648 ≤ x1 ∧ x1 ≤ 2147483647) (σ0 : Nat → va_E) (G0 : Good K τ σ0) : MZ l yX11_byteAt wp_Low_byteAt ({ frames := 0, cells := 0, slots := 0, locals := 0 }) D (tysA K) [.ref g, .int (iI x1)] (fd dom σ0) zb zL zx zs (Qi D (fun r σ' => σ0 = σ' ∧ ∃ z : Int, r = iI z ∧ (-2147483648 ≤ z ∧ z ≤ 2147483647)) (fun σ' => fd dom σ')) 0 0 := by
  refine mz_of (cc := cX11_byteAt) (maxL := 2) (ret := (some .int)) (by decide +kernel) rfl (Nat.le_of_ble_eq_true rfl) ?_
  intro p e s m below meth c A B hr hlk _ hz
  exact b_Low_byteAt ⟨Nat.le_refl _, Nat.le_refl _⟩ B Z hz g x1 t_g r_x1 σ0 G0 (fun z lv pc hZ hd => v_iret B hr hlk σ0 ⟨rfl, z, rfl, hZ⟩ rfl (Nat.le_refl _) (Nat.le_refl _) hd)

def wp_Low_linkFigure : List Cond := .code yX11_linkFigure cX11_linkFigure 4 (some .int) :: (([.methodLink RX11 99 yX3_inLink, .instanceMethod yX3_inLink, .selects RX3 yX3_inLink yX3_inLink, .initialized RX3, .code yX3_inLink cX3_inLink 1 (some .boolean), .fieldLink RX3 93 "LowEnergy$Device" "state" "I", .fieldLink RX11 65 "LowEnergy" "now" "I"] : List Cond) ++ (wsX30 ++ (wsX60 ++ (wsX110 ++ ([])))))
theorem hi_Low_linkFigure_X3 : ∀ x ∈ u_ws RX3 TX3 19, x ∈ wp_Low_linkFigure := fun _ h => List.mem_cons_of_mem _ (List.mem_append_right _ (List.mem_append_left _ h))
theorem hi_Low_linkFigure_X6 : ∀ x ∈ u_ws RX6 TX6 20, x ∈ wp_Low_linkFigure := fun _ h => List.mem_cons_of_mem _ (List.mem_append_right _ (List.mem_append_right _ (List.mem_append_left _ h)))
theorem hi_Low_linkFigure_X11 : ∀ x ∈ u_ws RX11 TX11 5, x ∈ wp_Low_linkFigure := fun _ h => List.mem_cons_of_mem _ (List.mem_append_right _ (List.mem_append_right _ (List.mem_append_right _ (List.mem_append_left _ h))))
set_option maxRecDepth 100000 in
theorem gd_Low_linkFigure_Device_inLink_99 : GoodIn wp_Low_linkFigure (wsV RX11 99 RX3 yX3_inLink wp_Device_inLink) := goodIn_app (goodIn_r _ [1, 2, 3, 4] rfl rfl) (goodIn_ca (goodIn_r _ [5, 6] rfl rfl) (goodIn_app (goodIn_cls hi_Low_linkFigure_X3 gw_X3) (goodIn_nil)))
set_option maxHeartbeats 4000000 in
set_option maxRecDepth 100000 in
theorem b_Low_linkFigure {p : Program} {l : Launch} {e : Env} {R : Room} {s : State} {m : MethodId} {args : Array Value} {below : List Frame} {meth : Method} {c : Code} {D : va_G} {K : Nat → ClassId} {A : Nat → Prop} {Q : State → Prop} {τ : Nat → Option Ty} {dom : List Nat} {zb zL : Nat} {zx : Nat → Int32} {zs : Nat → Nat} (hR : 1 ≤ R.frames ∧ 20 ≤ R.locals) (B : Bx p s m args c cX11_linkFigure 4 RX11 wp_Low_linkFigure D (tysA K) A) (Z : Sk τ dom) (hz : ZL zb zL zx zs A s s.heap) (h : Nat) (d : Nat) (x2 : Int) (t_h : τ h = some (41, 0, 0)) (t_d : τ d = some (33, 0, 0)) (r_x2 : -2147483648 ≤ x2 ∧ x2 ≤ 2147483647) (σ0 : Nat → va_E) (G0 : Good K τ σ0) (hend : ∀ (z : Int) (lv : List (Nat × Value)) (pc : Nat), (-2147483648 ≤ z ∧ z ≤ 2147483647) → decode cX11_linkFigure pc = .ok (.ireturn, 1) → V p l e R s m args below meth c 4 D A Q (0, 0) (fd dom σ0) lv pc [.int (iI z)]) : V p l e R s m args below meth c 4 D A Q (0, 0) (fd dom σ0) [(0, .ref h), (1, .ref d), (2, .int (iI x2))] 0 [] := by
  have F0 : Fr τ [] σ0 σ0 := Fr.rf
  have J31 : V p l e R s m args below meth c 4 D A Q (0, 0) (fd dom σ0) [(2, .int (iI x2))] 31 [] := by
    refine v_iload_n B dX11_linkFigure_31 rfl rfl ?_
    refine v_iconst B (v := iI 2) dX11_linkFigure_32 rfl ?_
    refine u_icmp_ne B (tgt := 40) (by omega) (by omega) dX11_linkFigure_33 (by decide +kernel) (fun c1 => ?_) (fun c1 => ?_)
    · refine v_iconst B (v := iI 0) dX11_linkFigure_40 rfl ?_
      exact hend 0 _ _ ⟨by omega, by omega⟩ dX11_linkFigure_41
    · refine v_iconst B (v := iI (-1)) dX11_linkFigure_36 rfl ?_
      refine v_goto B (tgt := 41) dX11_linkFigure_37 (by decide +kernel) ?_
      exact hend (-1) _ _ ⟨by omega, by omega⟩ dX11_linkFigure_41
  refine v_aload_n B dX11_linkFigure_0 rfl rfl ?_
  refine u_callVi B Z hz (n := 0) (As := []) (rest := []) (c_Device_inLink l D K Z _ _ _ _ d t_d σ0 G0) gd_Low_linkFigure_Device_inLink_99 rfl rfl rfl (by decide +kernel) ⟨Nat.le_trans (by decide +kernel) hR.1, Nat.le_trans (by decide +kernel) hR.2⟩ t_d (cls_Device G0 t_d) rfl rfl rfl rfl (Nat.le_of_ble_eq_true rfl) dX11_linkFigure_1 ⟨Nat.zero_le _, Nat.zero_le _⟩ (fun v4 σ2 p3 => ?_)
  obtain ⟨rfl, z8, e9, r10⟩ := p3
  subst e9
  refine u_if_ne B (tgt := 42) (by omega) dX11_linkFigure_4 (by decide +kernel) (fun c11 => ?_) (fun c11 => ?_)
  · refine v_aload_n B dX11_linkFigure_42 rfl rfl ?_
    obtain ⟨z12, yy13, z14, z15, z16, z17, a18, z19, yy20, a21, yy22, a23, a24, a25, a26, a27, a28, a29, a30, h31, r32, r33, r34, r35, r36, r37, t38, r39, r40, t41, r42, t43, t44, t45, t46, t47, t48, t49, t50⟩ : okDevice τ (σ0 d) := G0 d _ t_d
    refine u_getN B Z (C := RX3) (T := TX3) (N := 19) (ci := 3) hi_Low_linkFigure_X3 t_d h31 rfl 11 (by decide +kernel) (List.mem_of_getElem? (i := 69) rfl) rfl dX11_linkFigure_43 ?_
    refine v_astore_n B (lv' := [(3, .ref a23), (0, .ref h), (1, .ref d), (2, .int (iI x2))]) dX11_linkFigure_46 rfl (by decide +kernel) rfl ?_
    refine v_iload_n B dX11_linkFigure_47 rfl rfl ?_
    refine u_tsw B (tgtd := 141) (by omega) dX11_linkFigure_48 (by decide +kernel) ?_ ?_ (tsw_ok (by decide +kernel)) (by decide +kernel)
    · intro i51 o52 g53 o54 x55 t56
      match i51, o54, x55 with
      | 0, o54, x55 =>
        replace o54 : o52 = 48 := by simp at o54; omega
        obtain rfl : g53 = 96 := by omega
        refine v_aload_n B dX11_linkFigure_96 rfl rfl ?_
        obtain ⟨z57, z58, z59, z60, z61, yy62, yy63, z64, z65, z66, z67, z68, z69, z70, z71, z72, z73, z74, z75, yy76, h77, r78, r79, r80, r81, r82, r83, r84, r85, r86, r87, r88, r89, r90, r91, r92, r93, r94, r95, r96, r97⟩ : okLink τ (σ0 a23) := G0 a23 _ t43
        refine u_getN B Z (C := RX6) (T := TX6) (N := 20) (ci := 6) hi_Low_linkFigure_X6 t43 h77 rfl 10 (by decide +kernel) (List.mem_of_getElem? (i := 8) rfl) rfl dX11_linkFigure_97 ?_
        exact hend z67 _ _ ⟨by omega, by omega⟩ dX11_linkFigure_100
      | 1, o54, x55 =>
        replace o54 : o52 = 53 := by simp at o54; omega
        obtain rfl : g53 = 101 := by omega
        refine v_aload_n B dX11_linkFigure_101 rfl rfl ?_
        obtain ⟨z98, z99, z100, z101, z102, yy103, yy104, z105, z106, z107, z108, z109, z110, z111, z112, z113, z114, z115, z116, yy117, h118, r119, r120, r121, r122, r123, r124, r125, r126, r127, r128, r129, r130, r131, r132, r133, r134, r135, r136, r137, r138⟩ : okLink τ (σ0 a23) := G0 a23 _ t43
        refine u_getN B Z (C := RX6) (T := TX6) (N := 20) (ci := 6) hi_Low_linkFigure_X6 t43 h118 rfl 12 (by decide +kernel) (List.mem_of_getElem? (i := 36) rfl) rfl dX11_linkFigure_102 ?_
        exact hend z110 _ _ ⟨by omega, by omega⟩ dX11_linkFigure_105
      | 2, o54, x55 =>
        replace o54 : o52 = 58 := by simp at o54; omega
        obtain rfl : g53 = 106 := by omega
        refine v_aload_n B dX11_linkFigure_106 rfl rfl ?_
        obtain ⟨z139, z140, z141, z142, z143, yy144, yy145, z146, z147, z148, z149, z150, z151, z152, z153, z154, z155, z156, z157, yy158, h159, r160, r161, r162, r163, r164, r165, r166, r167, r168, r169, r170, r171, r172, r173, r174, r175, r176, r177, r178, r179⟩ : okLink τ (σ0 a23) := G0 a23 _ t43
        refine u_getN B Z (C := RX6) (T := TX6) (N := 20) (ci := 6) hi_Low_linkFigure_X6 t43 h159 rfl 15 (by decide +kernel) (List.mem_of_getElem? (i := 37) rfl) rfl dX11_linkFigure_107 ?_
        exact hend z154 _ _ ⟨by omega, by omega⟩ dX11_linkFigure_110
      | 3, o54, x55 =>
        replace o54 : o52 = 63 := by simp at o54; omega
        obtain rfl : g53 = 111 := by omega
        refine v_aload_n B dX11_linkFigure_111 rfl rfl ?_
        obtain ⟨z180, z181, z182, z183, z184, yy185, yy186, z187, z188, z189, z190, z191, z192, z193, z194, z195, z196, z197, z198, yy199, h200, r201, r202, r203, r204, r205, r206, r207, r208, r209, r210, r211, r212, r213, r214, r215, r216, r217, r218, r219, r220⟩ : okLink τ (σ0 a23) := G0 a23 _ t43
        refine u_getN B Z (C := RX6) (T := TX6) (N := 20) (ci := 6) hi_Low_linkFigure_X6 t43 h200 rfl 16 (by decide +kernel) (List.mem_of_getElem? (i := 38) rfl) rfl dX11_linkFigure_112 ?_
        exact hend z196 _ _ ⟨by omega, by omega⟩ dX11_linkFigure_115
      | 4, o54, x55 =>
        replace o54 : o52 = 68 := by simp at o54; omega
        obtain rfl : g53 = 116 := by omega
        refine v_aload_n B dX11_linkFigure_116 rfl rfl ?_
        obtain ⟨z221, z222, z223, z224, z225, yy226, yy227, z228, z229, z230, z231, z232, z233, z234, z235, z236, z237, z238, z239, yy240, h241, r242, r243, r244, r245, r246, r247, r248, r249, r250, r251, r252, r253, r254, r255, r256, r257, r258, r259, r260, r261⟩ : okLink τ (σ0 a23) := G0 a23 _ t43
        refine u_getN B Z (C := RX6) (T := TX6) (N := 20) (ci := 6) hi_Low_linkFigure_X6 t43 h241 rfl 2 (by decide +kernel) (List.mem_of_getElem? (i := 39) rfl) rfl dX11_linkFigure_117 ?_
        exact hend z223 _ _ ⟨by omega, by omega⟩ dX11_linkFigure_120
      | 5, o54, x55 =>
        replace o54 : o52 = 73 := by simp at o54; omega
        obtain rfl : g53 = 121 := by omega
        refine v_aload_n B dX11_linkFigure_121 rfl rfl ?_
        obtain ⟨z262, z263, z264, z265, z266, yy267, yy268, z269, z270, z271, z272, z273, z274, z275, z276, z277, z278, z279, z280, yy281, h282, r283, r284, r285, r286, r287, r288, r289, r290, r291, r292, r293, r294, r295, r296, r297, r298, r299, r300, r301, r302⟩ : okLink τ (σ0 a23) := G0 a23 _ t43
        refine u_getN B Z (C := RX6) (T := TX6) (N := 20) (ci := 6) hi_Low_linkFigure_X6 t43 h282 rfl 4 (by decide +kernel) (List.mem_of_getElem? (i := 40) rfl) rfl dX11_linkFigure_122 ?_
        exact hend z266 _ _ ⟨by omega, by omega⟩ dX11_linkFigure_125
      | 6, o54, x55 =>
        replace o54 : o52 = 78 := by simp at o54; omega
        obtain rfl : g53 = 126 := by omega
        refine v_aload_n B dX11_linkFigure_126 rfl rfl ?_
        obtain ⟨z303, z304, z305, z306, z307, yy308, yy309, z310, z311, z312, z313, z314, z315, z316, z317, z318, z319, z320, z321, yy322, h323, r324, r325, r326, r327, r328, r329, r330, r331, r332, r333, r334, r335, r336, r337, r338, r339, r340, r341, r342, r343⟩ : okLink τ (σ0 a23) := G0 a23 _ t43
        refine u_getN B Z (C := RX6) (T := TX6) (N := 20) (ci := 6) hi_Low_linkFigure_X6 t43 h323 rfl 3 (by decide +kernel) (List.mem_of_getElem? (i := 41) rfl) rfl dX11_linkFigure_127 ?_
        exact hend z306 _ _ ⟨by omega, by omega⟩ dX11_linkFigure_130
      | 7, o54, x55 =>
        replace o54 : o52 = 83 := by simp at o54; omega
        obtain rfl : g53 = 131 := by omega
        refine v_aload_n B dX11_linkFigure_131 rfl rfl ?_
        obtain ⟨z344, z345, z346, z347, z348, yy349, yy350, z351, z352, z353, z354, z355, z356, z357, z358, z359, z360, z361, z362, yy363, h364, r365, r366, r367, r368, r369, r370, r371, r372, r373, r374, r375, r376, r377, r378, r379, r380, r381, r382, r383, r384⟩ : okLink τ (σ0 a23) := G0 a23 _ t43
        refine u_getN B Z (C := RX6) (T := TX6) (N := 20) (ci := 6) hi_Low_linkFigure_X6 t43 h364 rfl 9 (by decide +kernel) (List.mem_of_getElem? (i := 42) rfl) rfl dX11_linkFigure_132 ?_
        refine v_aload_n B dX11_linkFigure_135 rfl rfl ?_
        obtain ⟨a385, a386, a387, a388, z389, h390, t391, t392, t393, t394, r395⟩ : okLow τ (σ0 h) := G0 h _ t_h
        refine u_get B Z (C := RX11) (T := TX11) (N := 5) (ci := 11) hi_Low_linkFigure_X11 t_h h390 rfl 4 (by decide +kernel) (List.mem_of_getElem? (i := 7) rfl) rfl dX11_linkFigure_136 ?_
        obtain ⟨z396, e397, r398⟩ := iI_any (iI z353 - iI z389)
        refine v_isub B (v := iI z396) dX11_linkFigure_139 e397 ?_
        exact hend z396 _ _ ⟨by omega, by omega⟩ dX11_linkFigure_140
      | i51 + 8, o54, x55 => exact absurd (o54.symm.trans (Array.getElem?_eq_none (by simp))) (by simp)
    · intro x55
      refine v_aload_n B dX11_linkFigure_141 rfl rfl ?_
      obtain ⟨a399, a400, a401, a402, z403, h404, t405, t406, t407, t408, r409⟩ : okLow τ (σ0 h) := G0 h _ t_h
      refine u_get B Z (C := RX11) (T := TX11) (N := 5) (ci := 11) hi_Low_linkFigure_X11 t_h h404 rfl 4 (by decide +kernel) (List.mem_of_getElem? (i := 7) rfl) rfl dX11_linkFigure_142 ?_
      refine v_aload_n B dX11_linkFigure_145 rfl rfl ?_
      obtain ⟨z410, z411, z412, z413, z414, yy415, yy416, z417, z418, z419, z420, z421, z422, z423, z424, z425, z426, z427, z428, yy429, h430, r431, r432, r433, r434, r435, r436, r437, r438, r439, r440, r441, r442, r443, r444, r445, r446, r447, r448, r449, r450⟩ : okLink τ (σ0 a23) := G0 a23 _ t43
      refine u_getN B Z (C := RX6) (T := TX6) (N := 20) (ci := 6) hi_Low_linkFigure_X6 t43 h430 rfl 13 (by decide +kernel) (List.mem_of_getElem? (i := 43) rfl) rfl dX11_linkFigure_146 ?_
      obtain ⟨z451, e452, r453⟩ := iI_any (iI z403 - iI z423)
      refine v_isub B (v := iI z451) dX11_linkFigure_149 e452 ?_
      exact hend z451 _ _ ⟨by omega, by omega⟩ dX11_linkFigure_150
  · refine v_iload_n B dX11_linkFigure_7 rfl rfl ?_
    refine v_bipush B (v := iI 8) dX11_linkFigure_8 (by decide +kernel) ?_
    refine u_icmp_ne B (tgt := 31) (by omega) (by omega) dX11_linkFigure_10 (by decide +kernel) (fun c454 => ?_) (fun c454 => ?_)
    · refine v_lv [2] rfl ?_
      exact J31
    · refine v_aload_n B dX11_linkFigure_13 rfl rfl ?_
      obtain ⟨z455, yy456, z457, z458, z459, z460, a461, z462, yy463, a464, yy465, a466, a467, a468, a469, a470, a471, a472, a473, h474, r475, r476, r477, r478, r479, r480, t481, r482, r483, t484, r485, t486, t487, t488, t489, t490, t491, t492, t493⟩ : okDevice τ (σ0 d) := G0 d _ t_d
      refine u_getN B Z (C := RX3) (T := TX3) (N := 19) (ci := 3) hi_Low_linkFigure_X3 t_d h474 rfl 2 (by decide +kernel) (List.mem_of_getElem? (i := 65) rfl) rfl dX11_linkFigure_14 ?_
      refine v_iconst B (v := iI 1) dX11_linkFigure_17 rfl ?_
      refine u_icmp_ne B (tgt := 31) (by omega) (by omega) dX11_linkFigure_18 (by decide +kernel) (fun c494 => ?_) (fun c494 => ?_)
      · refine v_lv [2] rfl ?_
        exact J31
      · refine v_aload_n B dX11_linkFigure_21 rfl rfl ?_
        refine u_getN B Z (C := RX3) (T := TX3) (N := 19) (ci := 3) hi_Low_linkFigure_X3 t_d h474 rfl 5 (by decide +kernel) (List.mem_of_getElem? (i := 67) rfl) rfl dX11_linkFigure_22 ?_
        refine v_aload_n B dX11_linkFigure_25 rfl rfl ?_
        obtain ⟨a495, a496, a497, a498, z499, h500, t501, t502, t503, t504, r505⟩ : okLow τ (σ0 h) := G0 h _ t_h
        refine u_get B Z (C := RX11) (T := TX11) (N := 5) (ci := 11) hi_Low_linkFigure_X11 t_h h500 rfl 4 (by decide +kernel) (List.mem_of_getElem? (i := 7) rfl) rfl dX11_linkFigure_26 ?_
        obtain ⟨z506, e507, r508⟩ := iI_any (iI z460 - iI z499)
        refine v_isub B (v := iI z506) dX11_linkFigure_29 e507 ?_
        exact hend z506 _ _ ⟨by omega, by omega⟩ dX11_linkFigure_30
set_option maxRecDepth 100000 in
theorem c_Low_linkFigure (l : Launch) (D : va_G) (K : Nat → ClassId) {τ : Nat → Option Ty} {dom : List Nat} (Z : Sk τ dom) (zb zL : Nat) (zx : Nat → Int32) (zs : Nat → Nat) (h : Nat) (d : Nat) (x2 : Int) (t_h : τ h = some (41, 0, 0)) (t_d : τ d = some (33, 0, 0)) (r_x2 : -2147483648 ≤ x2 ∧ x2 ≤ 2147483647) (σ0 : Nat → va_E) (G0 : Good K τ σ0) : MZ l yX11_linkFigure wp_Low_linkFigure ({ frames := 1, cells := 0, slots := 0, locals := 20 }) D (tysA K) [.ref h, .ref d, .int (iI x2)] (fd dom σ0) zb zL zx zs (Qi D (fun r σ' => σ0 = σ' ∧ ∃ z : Int, r = iI z ∧ (-2147483648 ≤ z ∧ z ≤ 2147483647)) (fun σ' => fd dom σ')) 0 0 := by
  refine mz_of (cc := cX11_linkFigure) (maxL := 4) (ret := (some .int)) (by decide +kernel) rfl (Nat.le_of_ble_eq_true rfl) ?_
  intro p e s m below meth c A B hr hlk _ hz
  exact b_Low_linkFigure ⟨Nat.le_refl _, Nat.le_refl _⟩ B Z hz h d x2 t_h t_d r_x2 σ0 G0 (fun z lv pc hZ hd => v_iret B hr hlk σ0 ⟨rfl, z, rfl, hZ⟩ rfl (Nat.le_refl _) (Nat.le_refl _) hd)

def wp_Low_talkFigure : List Cond := .code yX11_talkFigure cX11_talkFigure 2 (some .int) :: (([.methodLink RX11 341 yX11_flag, .static yX11_flag, .initialized RX11, .code yX11_flag cX11_flag 1 (some .int)] : List Cond) ++ (wsX30 ++ (wsX70 ++ (wsX90 ++ (wsX50 ++ (wsX100 ++ (wsX80 ++ (wsX20 ++ ([])))))))))
theorem hi_Low_talkFigure_X3 : ∀ x ∈ u_ws RX3 TX3 19, x ∈ wp_Low_talkFigure := fun _ h => List.mem_cons_of_mem _ (List.mem_append_right _ (List.mem_append_left _ h))
theorem hi_Low_talkFigure_X7 : ∀ x ∈ u_ws RX7 TX7 16, x ∈ wp_Low_talkFigure := fun _ h => List.mem_cons_of_mem _ (List.mem_append_right _ (List.mem_append_right _ (List.mem_append_left _ h)))
theorem hi_Low_talkFigure_X9 : ∀ x ∈ u_ws RX9 TX9 2, x ∈ wp_Low_talkFigure := fun _ h => List.mem_cons_of_mem _ (List.mem_append_right _ (List.mem_append_right _ (List.mem_append_right _ (List.mem_append_left _ h))))
theorem hi_Low_talkFigure_X5 : ∀ x ∈ u_ws RX5 TX5 16, x ∈ wp_Low_talkFigure := fun _ h => List.mem_cons_of_mem _ (List.mem_append_right _ (List.mem_append_right _ (List.mem_append_right _ (List.mem_append_right _ (List.mem_append_left _ h)))))
theorem hi_Low_talkFigure_X10 : ∀ x ∈ u_ws RX10 TX10 10, x ∈ wp_Low_talkFigure := fun _ h => List.mem_cons_of_mem _ (List.mem_append_right _ (List.mem_append_right _ (List.mem_append_right _ (List.mem_append_right _ (List.mem_append_right _ (List.mem_append_left _ h))))))
theorem hi_Low_talkFigure_X8 : ∀ x ∈ u_ws RX8 TX8 8, x ∈ wp_Low_talkFigure := fun _ h => List.mem_cons_of_mem _ (List.mem_append_right _ (List.mem_append_right _ (List.mem_append_right _ (List.mem_append_right _ (List.mem_append_right _ (List.mem_append_right _ (List.mem_append_left _ h)))))))
theorem hi_Low_talkFigure_X2 : ∀ x ∈ u_ws RX2 TX2 6, x ∈ wp_Low_talkFigure := fun _ h => List.mem_cons_of_mem _ (List.mem_append_right _ (List.mem_append_right _ (List.mem_append_right _ (List.mem_append_right _ (List.mem_append_right _ (List.mem_append_right _ (List.mem_append_right _ (List.mem_append_left _ h))))))))
set_option maxRecDepth 100000 in
theorem gd_Low_talkFigure_Low_flag_341 : GoodIn wp_Low_talkFigure (va_wsS RX11 341 yX11_flag wp_Low_flag) := goodIn_app (goodIn_r _ [1, 2, 3] rfl rfl) (goodIn_ca (goodIn_r _ [4] rfl rfl) (goodIn_nil))
set_option maxHeartbeats 4000000 in
set_option maxRecDepth 100000 in
theorem b_Low_talkFigure {p : Program} {l : Launch} {e : Env} {R : Room} {s : State} {m : MethodId} {args : Array Value} {below : List Frame} {meth : Method} {c : Code} {D : va_G} {K : Nat → ClassId} {A : Nat → Prop} {Q : State → Prop} {τ : Nat → Option Ty} {dom : List Nat} {zb zL : Nat} {zx : Nat → Int32} {zs : Nat → Nat} (hR : 1 ≤ R.frames ∧ 20 ≤ R.locals) (B : Bx p s m args c cX11_talkFigure 2 RX11 wp_Low_talkFigure D (tysA K) A) (Z : Sk τ dom) (hz : ZL zb zL zx zs A s s.heap) (d : Nat) (x1 : Int) (t_d : τ d = some (33, 0, 0)) (r_x1 : -2147483648 ≤ x1 ∧ x1 ≤ 2147483647) (σ0 : Nat → va_E) (G0 : Good K τ σ0) (hend : ∀ (z : Int) (lv : List (Nat × Value)) (pc : Nat), (-2147483648 ≤ z ∧ z ≤ 2147483647) → decode cX11_talkFigure pc = .ok (.ireturn, 1) → V p l e R s m args below meth c 2 D A Q (0, 0) (fd dom σ0) lv pc [.int (iI z)]) : V p l e R s m args below meth c 2 D A Q (0, 0) (fd dom σ0) [(0, .ref d), (1, .int (iI x1))] 0 [] := by
  have F0 : Fr τ [] σ0 σ0 := Fr.rf
  refine v_iload_n B dX11_talkFigure_0 rfl rfl ?_
  refine u_tsw B (tgtd := 157) (by omega) dX11_talkFigure_1 (by decide +kernel) ?_ ?_ (tsw_ok (by decide +kernel)) (by decide +kernel)
  · intro i1 o2 g3 o4 x5 t6
    match i1, o4, x5 with
    | 0, o4, x5 =>
      replace o4 : o2 = 59 := by simp at o4; omega
      obtain rfl : g3 = 60 := by omega
      refine v_aload_n B dX11_talkFigure_60 rfl rfl ?_
      obtain ⟨z7, yy8, z9, z10, z11, z12, a13, z14, yy15, a16, yy17, a18, a19, a20, a21, a22, a23, a24, a25, h26, r27, r28, r29, r30, r31, r32, t33, r34, r35, t36, r37, t38, t39, t40, t41, t42, t43, t44, t45⟩ : okDevice τ (σ0 d) := G0 d _ t_d
      refine u_getN B Z (C := RX3) (T := TX3) (N := 19) (ci := 3) hi_Low_talkFigure_X3 t_d h26 rfl 12 (by decide +kernel) (List.mem_of_getElem? (i := 5) rfl) rfl dX11_talkFigure_61 ?_
      obtain ⟨a46, z47, z48, a49, z50, z51, z52, a53, z54, z55, z56, a57, z58, a59, z60, a61, h62, t63, r64, r65, t66, r67, r68, r69, t70, r71, r72, r73, t74, r75, t76, r77, t78⟩ : okMail τ (σ0 a19) := G0 a19 _ t39
      refine u_getN B Z (C := RX7) (T := TX7) (N := 16) (ci := 7) hi_Low_talkFigure_X7 t39 h62 rfl 5 (by decide +kernel) (List.mem_of_getElem? (i := 44) rfl) rfl dX11_talkFigure_64 ?_
      exact hend z51 _ _ ⟨by omega, by omega⟩ dX11_talkFigure_67
    | 1, o4, x5 =>
      replace o4 : o2 = 67 := by simp at o4; omega
      obtain rfl : g3 = 68 := by omega
      refine v_aload_n B dX11_talkFigure_68 rfl rfl ?_
      obtain ⟨z79, yy80, z81, z82, z83, z84, a85, z86, yy87, a88, yy89, a90, a91, a92, a93, a94, a95, a96, a97, h98, r99, r100, r101, r102, r103, r104, t105, r106, r107, t108, r109, t110, t111, t112, t113, t114, t115, t116, t117⟩ : okDevice τ (σ0 d) := G0 d _ t_d
      refine u_getN B Z (C := RX3) (T := TX3) (N := 19) (ci := 3) hi_Low_talkFigure_X3 t_d h98 rfl 12 (by decide +kernel) (List.mem_of_getElem? (i := 5) rfl) rfl dX11_talkFigure_69 ?_
      obtain ⟨a118, z119, z120, a121, z122, z123, z124, a125, z126, z127, z128, a129, z130, a131, z132, a133, h134, t135, r136, r137, t138, r139, r140, r141, t142, r143, r144, r145, t146, r147, t148, r149, t150⟩ : okMail τ (σ0 a91) := G0 a91 _ t111
      refine u_getN B Z (C := RX7) (T := TX7) (N := 16) (ci := 7) hi_Low_talkFigure_X7 t111 h134 rfl 9 (by decide +kernel) (List.mem_of_getElem? (i := 45) rfl) rfl dX11_talkFigure_72 ?_
      exact hend z127 _ _ ⟨by omega, by omega⟩ dX11_talkFigure_75
    | 2, o4, x5 =>
      replace o4 : o2 = 75 := by simp at o4; omega
      obtain rfl : g3 = 76 := by omega
      refine v_aload_n B dX11_talkFigure_76 rfl rfl ?_
      obtain ⟨z151, yy152, z153, z154, z155, z156, a157, z158, yy159, a160, yy161, a162, a163, a164, a165, a166, a167, a168, a169, h170, r171, r172, r173, r174, r175, r176, t177, r178, r179, t180, r181, t182, t183, t184, t185, t186, t187, t188, t189⟩ : okDevice τ (σ0 d) := G0 d _ t_d
      refine u_getN B Z (C := RX3) (T := TX3) (N := 19) (ci := 3) hi_Low_talkFigure_X3 t_d h170 rfl 12 (by decide +kernel) (List.mem_of_getElem? (i := 5) rfl) rfl dX11_talkFigure_77 ?_
      obtain ⟨a190, z191, z192, a193, z194, z195, z196, a197, z198, z199, z200, a201, z202, a203, z204, a205, h206, t207, r208, r209, t210, r211, r212, r213, t214, r215, r216, r217, t218, r219, t220, r221, t222⟩ : okMail τ (σ0 a163) := G0 a163 _ t183
      refine u_getN B Z (C := RX7) (T := TX7) (N := 16) (ci := 7) hi_Low_talkFigure_X7 t183 h206 rfl 1 (by decide +kernel) (List.mem_of_getElem? (i := 46) rfl) rfl dX11_talkFigure_80 ?_
      exact hend z191 _ _ ⟨by omega, by omega⟩ dX11_talkFigure_83
    | 3, o4, x5 =>
      replace o4 : o2 = 83 := by simp at o4; omega
      obtain rfl : g3 = 84 := by omega
      refine v_aload_n B dX11_talkFigure_84 rfl rfl ?_
      obtain ⟨z223, yy224, z225, z226, z227, z228, a229, z230, yy231, a232, yy233, a234, a235, a236, a237, a238, a239, a240, a241, h242, r243, r244, r245, r246, r247, r248, t249, r250, r251, t252, r253, t254, t255, t256, t257, t258, t259, t260, t261⟩ : okDevice τ (σ0 d) := G0 d _ t_d
      refine u_getN B Z (C := RX3) (T := TX3) (N := 19) (ci := 3) hi_Low_talkFigure_X3 t_d h242 rfl 12 (by decide +kernel) (List.mem_of_getElem? (i := 5) rfl) rfl dX11_talkFigure_85 ?_
      obtain ⟨a262, z263, z264, a265, z266, z267, z268, a269, z270, z271, z272, a273, z274, a275, z276, a277, h278, t279, r280, r281, t282, r283, r284, r285, t286, r287, r288, r289, t290, r291, t292, r293, t294⟩ : okMail τ (σ0 a235) := G0 a235 _ t255
      refine u_getN B Z (C := RX7) (T := TX7) (N := 16) (ci := 7) hi_Low_talkFigure_X7 t255 h278 rfl 0 (by decide +kernel) (List.mem_of_getElem? (i := 47) rfl) rfl dX11_talkFigure_88 ?_
      obtain ⟨b295, N296, n297, h298, t299, r300⟩ : okRow τ 2 (σ0 a262) := G0 a262 _ t279
      refine u_getN B Z (C := RX9) (T := TX9) (N := 2) (ci := 9) hi_Low_talkFigure_X9 t279 h298 rfl 1 (by decide +kernel) (List.mem_of_getElem? (i := 51) rfl) rfl dX11_talkFigure_91 ?_
      exact hend n297 _ _ ⟨by omega, by omega⟩ dX11_talkFigure_94
    | 4, o4, x5 =>
      replace o4 : o2 = 94 := by simp at o4; omega
      obtain rfl : g3 = 95 := by omega
      refine v_aload_n B dX11_talkFigure_95 rfl rfl ?_
      obtain ⟨z301, yy302, z303, z304, z305, z306, a307, z308, yy309, a310, yy311, a312, a313, a314, a315, a316, a317, a318, a319, h320, r321, r322, r323, r324, r325, r326, t327, r328, r329, t330, r331, t332, t333, t334, t335, t336, t337, t338, t339⟩ : okDevice τ (σ0 d) := G0 d _ t_d
      refine u_getN B Z (C := RX3) (T := TX3) (N := 19) (ci := 3) hi_Low_talkFigure_X3 t_d h320 rfl 13 (by decide +kernel) (List.mem_of_getElem? (i := 10) rfl) rfl dX11_talkFigure_96 ?_
      obtain ⟨a340, a341, z342, a343, a344, a345, z346, z347, z348, z349, z350, z351, z352, z353, a354, a355, h356, t357, t358, r359, t360, t361, t362, r363, r364, r365, r366, r367, r368, r369, r370, t371, t372⟩ : okGuard τ (σ0 a314) := G0 a314 _ t334
      refine u_getN B Z (C := RX5) (T := TX5) (N := 16) (ci := 5) hi_Low_talkFigure_X5 t334 h356 rfl 8 (by decide +kernel) (List.mem_of_getElem? (i := 13) rfl) rfl dX11_talkFigure_99 ?_
      refine u_callSi B Z hz (n := 1) (As := [.int (iI z348)]) (rest := []) (c_Low_flag l D K Z _ _ _ _ z348 ⟨by omega, by omega⟩ σ0 G0) gd_Low_talkFigure_Low_flag_341 rfl rfl rfl (by decide +kernel) ⟨Nat.le_trans (by decide +kernel) hR.1, Nat.le_trans (by decide +kernel) hR.2⟩ rfl rfl (Nat.le_of_ble_eq_true rfl) dX11_talkFigure_102 ⟨Nat.zero_le _, Nat.zero_le _⟩ (fun v375 σ373 p374 => ?_)
      obtain ⟨rfl, z379, e380, r381⟩ := p374
      subst e380
      exact hend z379 _ _ ⟨by omega, by omega⟩ dX11_talkFigure_105
    | 5, o4, x5 =>
      replace o4 : o2 = 105 := by simp at o4; omega
      obtain rfl : g3 = 106 := by omega
      refine v_aload_n B dX11_talkFigure_106 rfl rfl ?_
      obtain ⟨z382, yy383, z384, z385, z386, z387, a388, z389, yy390, a391, yy392, a393, a394, a395, a396, a397, a398, a399, a400, h401, r402, r403, r404, r405, r406, r407, t408, r409, r410, t411, r412, t413, t414, t415, t416, t417, t418, t419, t420⟩ : okDevice τ (σ0 d) := G0 d _ t_d
      refine u_getN B Z (C := RX3) (T := TX3) (N := 19) (ci := 3) hi_Low_talkFigure_X3 t_d h401 rfl 13 (by decide +kernel) (List.mem_of_getElem? (i := 10) rfl) rfl dX11_talkFigure_107 ?_
      obtain ⟨a421, a422, z423, a424, a425, a426, z427, z428, z429, z430, z431, z432, z433, z434, a435, a436, h437, t438, t439, r440, t441, t442, t443, r444, r445, r446, r447, r448, r449, r450, r451, t452, t453⟩ : okGuard τ (σ0 a395) := G0 a395 _ t415
      refine u_getN B Z (C := RX5) (T := TX5) (N := 16) (ci := 5) hi_Low_talkFigure_X5 t415 h437 rfl 9 (by decide +kernel) (List.mem_of_getElem? (i := 12) rfl) rfl dX11_talkFigure_110 ?_
      refine u_callSi B Z hz (n := 1) (As := [.int (iI z430)]) (rest := []) (c_Low_flag l D K Z _ _ _ _ z430 ⟨by omega, by omega⟩ σ0 G0) gd_Low_talkFigure_Low_flag_341 rfl rfl rfl (by decide +kernel) ⟨Nat.le_trans (by decide +kernel) hR.1, Nat.le_trans (by decide +kernel) hR.2⟩ rfl rfl (Nat.le_of_ble_eq_true rfl) dX11_talkFigure_113 ⟨Nat.zero_le _, Nat.zero_le _⟩ (fun v456 σ454 p455 => ?_)
      obtain ⟨rfl, z460, e461, r462⟩ := p455
      subst e461
      exact hend z460 _ _ ⟨by omega, by omega⟩ dX11_talkFigure_116
    | 6, o4, x5 =>
      replace o4 : o2 = 116 := by simp at o4; omega
      obtain rfl : g3 = 117 := by omega
      refine v_aload_n B dX11_talkFigure_117 rfl rfl ?_
      obtain ⟨z463, yy464, z465, z466, z467, z468, a469, z470, yy471, a472, yy473, a474, a475, a476, a477, a478, a479, a480, a481, h482, r483, r484, r485, r486, r487, r488, t489, r490, r491, t492, r493, t494, t495, t496, t497, t498, t499, t500, t501⟩ : okDevice τ (σ0 d) := G0 d _ t_d
      refine u_getN B Z (C := RX3) (T := TX3) (N := 19) (ci := 3) hi_Low_talkFigure_X3 t_d h482 rfl 13 (by decide +kernel) (List.mem_of_getElem? (i := 10) rfl) rfl dX11_talkFigure_118 ?_
      obtain ⟨a502, a503, z504, a505, a506, a507, z508, z509, z510, z511, z512, z513, z514, z515, a516, a517, h518, t519, t520, r521, t522, t523, t524, r525, r526, r527, r528, r529, r530, r531, r532, t533, t534⟩ : okGuard τ (σ0 a476) := G0 a476 _ t496
      refine u_getN B Z (C := RX5) (T := TX5) (N := 16) (ci := 5) hi_Low_talkFigure_X5 t496 h518 rfl 12 (by decide +kernel) (List.mem_of_getElem? (i := 48) rfl) rfl dX11_talkFigure_121 ?_
      exact hend z514 _ _ ⟨by omega, by omega⟩ dX11_talkFigure_124
    | 7, o4, x5 =>
      replace o4 : o2 = 124 := by simp at o4; omega
      obtain rfl : g3 = 125 := by omega
      refine v_aload_n B dX11_talkFigure_125 rfl rfl ?_
      obtain ⟨z535, yy536, z537, z538, z539, z540, a541, z542, yy543, a544, yy545, a546, a547, a548, a549, a550, a551, a552, a553, h554, r555, r556, r557, r558, r559, r560, t561, r562, r563, t564, r565, t566, t567, t568, t569, t570, t571, t572, t573⟩ : okDevice τ (σ0 d) := G0 d _ t_d
      refine u_getN B Z (C := RX3) (T := TX3) (N := 19) (ci := 3) hi_Low_talkFigure_X3 t_d h554 rfl 13 (by decide +kernel) (List.mem_of_getElem? (i := 10) rfl) rfl dX11_talkFigure_126 ?_
      obtain ⟨a574, a575, z576, a577, a578, a579, z580, z581, z582, z583, z584, z585, z586, z587, a588, a589, h590, t591, t592, r593, t594, t595, t596, r597, r598, r599, r600, r601, r602, r603, r604, t605, t606⟩ : okGuard τ (σ0 a548) := G0 a548 _ t568
      refine u_getN B Z (C := RX5) (T := TX5) (N := 16) (ci := 5) hi_Low_talkFigure_X5 t568 h590 rfl 13 (by decide +kernel) (List.mem_of_getElem? (i := 49) rfl) rfl dX11_talkFigure_129 ?_
      exact hend z587 _ _ ⟨by omega, by omega⟩ dX11_talkFigure_132
    | 8, o4, x5 =>
      replace o4 : o2 = 132 := by simp at o4; omega
      obtain rfl : g3 = 133 := by omega
      refine v_aload_n B dX11_talkFigure_133 rfl rfl ?_
      obtain ⟨z607, yy608, z609, z610, z611, z612, a613, z614, yy615, a616, yy617, a618, a619, a620, a621, a622, a623, a624, a625, h626, r627, r628, r629, r630, r631, r632, t633, r634, r635, t636, r637, t638, t639, t640, t641, t642, t643, t644, t645⟩ : okDevice τ (σ0 d) := G0 d _ t_d
      refine u_getN B Z (C := RX3) (T := TX3) (N := 19) (ci := 3) hi_Low_talkFigure_X3 t_d h626 rfl 15 (by decide +kernel) (List.mem_of_getElem? (i := 3) rfl) rfl dX11_talkFigure_134 ?_
      obtain ⟨a646, a647, a648, z649, z650, z651, a652, z653, z654, a655, h656, t657, t658, t659, r660, r661, r662, t663, r664, r665, t666⟩ : okServer τ (σ0 a622) := G0 a622 _ t642
      refine u_getN B Z (C := RX10) (T := TX10) (N := 10) (ci := 10) hi_Low_talkFigure_X10 t642 h656 rfl 5 (by decide +kernel) (List.mem_of_getElem? (i := 23) rfl) rfl dX11_talkFigure_137 ?_
      exact hend z651 _ _ ⟨by omega, by omega⟩ dX11_talkFigure_140
    | 9, o4, x5 =>
      replace o4 : o2 = 140 := by simp at o4; omega
      obtain rfl : g3 = 141 := by omega
      refine v_aload_n B dX11_talkFigure_141 rfl rfl ?_
      obtain ⟨z667, yy668, z669, z670, z671, z672, a673, z674, yy675, a676, yy677, a678, a679, a680, a681, a682, a683, a684, a685, h686, r687, r688, r689, r690, r691, r692, t693, r694, r695, t696, r697, t698, t699, t700, t701, t702, t703, t704, t705⟩ : okDevice τ (σ0 d) := G0 d _ t_d
      refine u_getN B Z (C := RX3) (T := TX3) (N := 19) (ci := 3) hi_Low_talkFigure_X3 t_d h686 rfl 14 (by decide +kernel) (List.mem_of_getElem? (i := 0) rfl) rfl dX11_talkFigure_142 ?_
      obtain ⟨a706, z707, z708, a709, a710, a711, a712, a713, h714, t715, r716, r717, t718, t719, t720, t721, t722⟩ : okPairing τ (σ0 a681) := G0 a681 _ t701
      refine u_getN B Z (C := RX8) (T := TX8) (N := 8) (ci := 8) hi_Low_talkFigure_X8 t701 h714 rfl 2 (by decide +kernel) (List.mem_of_getElem? (i := 18) rfl) rfl dX11_talkFigure_145 ?_
      exact hend z708 _ _ ⟨by omega, by omega⟩ dX11_talkFigure_148
    | 10, o4, x5 =>
      replace o4 : o2 = 148 := by simp at o4; omega
      obtain rfl : g3 = 149 := by omega
      refine v_aload_n B dX11_talkFigure_149 rfl rfl ?_
      obtain ⟨z723, yy724, z725, z726, z727, z728, a729, z730, yy731, a732, yy733, a734, a735, a736, a737, a738, a739, a740, a741, h742, r743, r744, r745, r746, r747, r748, t749, r750, r751, t752, r753, t754, t755, t756, t757, t758, t759, t760, t761⟩ : okDevice τ (σ0 d) := G0 d _ t_d
      refine u_getN B Z (C := RX3) (T := TX3) (N := 19) (ci := 3) hi_Low_talkFigure_X3 t_d h742 rfl 16 (by decide +kernel) (List.mem_of_getElem? (i := 20) rfl) rfl dX11_talkFigure_150 ?_
      obtain ⟨z762, z763, z764, z765, z766, a767, h768, r769, r770, r771, r772, r773, t774⟩ : okClient τ (σ0 a739) := G0 a739 _ t759
      refine u_getN B Z (C := RX2) (T := TX2) (N := 6) (ci := 2) hi_Low_talkFigure_X2 t759 h768 rfl 0 (by decide +kernel) (List.mem_of_getElem? (i := 21) rfl) rfl dX11_talkFigure_153 ?_
      exact hend z762 _ _ ⟨by omega, by omega⟩ dX11_talkFigure_156
    | i1 + 11, o4, x5 => exact absurd (o4.symm.trans (Array.getElem?_eq_none (by simp))) (by simp)
  · intro x5
    refine v_aload_n B dX11_talkFigure_157 rfl rfl ?_
    obtain ⟨z775, yy776, z777, z778, z779, z780, a781, z782, yy783, a784, yy785, a786, a787, a788, a789, a790, a791, a792, a793, h794, r795, r796, r797, r798, r799, r800, t801, r802, r803, t804, r805, t806, t807, t808, t809, t810, t811, t812, t813⟩ : okDevice τ (σ0 d) := G0 d _ t_d
    refine u_getN B Z (C := RX3) (T := TX3) (N := 19) (ci := 3) hi_Low_talkFigure_X3 t_d h794 rfl 15 (by decide +kernel) (List.mem_of_getElem? (i := 3) rfl) rfl dX11_talkFigure_158 ?_
    obtain ⟨a814, a815, a816, z817, z818, z819, a820, z821, z822, a823, h824, t825, t826, t827, r828, r829, r830, t831, r832, r833, t834⟩ : okServer τ (σ0 a790) := G0 a790 _ t810
    refine u_getN B Z (C := RX10) (T := TX10) (N := 10) (ci := 10) hi_Low_talkFigure_X10 t810 h824 rfl 7 (by decide +kernel) (List.mem_of_getElem? (i := 50) rfl) rfl dX11_talkFigure_161 ?_
    exact hend z821 _ _ ⟨by omega, by omega⟩ dX11_talkFigure_164
set_option maxRecDepth 100000 in
theorem c_Low_talkFigure (l : Launch) (D : va_G) (K : Nat → ClassId) {τ : Nat → Option Ty} {dom : List Nat} (Z : Sk τ dom) (zb zL : Nat) (zx : Nat → Int32) (zs : Nat → Nat) (d : Nat) (x1 : Int) (t_d : τ d = some (33, 0, 0)) (r_x1 : -2147483648 ≤ x1 ∧ x1 ≤ 2147483647) (σ0 : Nat → va_E) (G0 : Good K τ σ0) : MZ l yX11_talkFigure wp_Low_talkFigure ({ frames := 1, cells := 0, slots := 0, locals := 20 }) D (tysA K) [.ref d, .int (iI x1)] (fd dom σ0) zb zL zx zs (Qi D (fun r σ' => σ0 = σ' ∧ ∃ z : Int, r = iI z ∧ (-2147483648 ≤ z ∧ z ≤ 2147483647)) (fun σ' => fd dom σ')) 0 0 := by
  refine mz_of (cc := cX11_talkFigure) (maxL := 2) (ret := (some .int)) (by decide +kernel) rfl (Nat.le_of_ble_eq_true rfl) ?_
  intro p e s m below meth c A B hr hlk _ hz
  exact b_Low_talkFigure ⟨Nat.le_refl _, Nat.le_refl _⟩ B Z hz d x1 t_d r_x1 σ0 G0 (fun z lv pc hZ hd => v_iret B hr hlk σ0 ⟨rfl, z, rfl, hZ⟩ rfl (Nat.le_refl _) (Nat.le_refl _) hd)

def wp_Low_controlSize : List Cond := .code yX11_controlSize cX11_controlSize 1 (some .int) :: (([] : List Cond) ++ ([]))
set_option maxHeartbeats 4000000 in
set_option maxRecDepth 100000 in
theorem b_Low_controlSize {p : Program} {l : Launch} {e : Env} {R : Room} {s : State} {m : MethodId} {args : Array Value} {below : List Frame} {meth : Method} {c : Code} {D : va_G} {K : Nat → ClassId} {A : Nat → Prop} {Q : State → Prop} {τ : Nat → Option Ty} {dom : List Nat} {zb zL : Nat} {zx : Nat → Int32} {zs : Nat → Nat} (hR : 0 ≤ R.frames ∧ 0 ≤ R.locals) (B : Bx p s m args c cX11_controlSize 1 RX11 wp_Low_controlSize D (tysA K) A) (Z : Sk τ dom) (hz : ZL zb zL zx zs A s s.heap) (x0 : Int) (r_x0 : -2147483648 ≤ x0 ∧ x0 ≤ 2147483647) (σ0 : Nat → va_E) (G0 : Good K τ σ0) (hend : ∀ (z : Int) (lv : List (Nat × Value)) (pc : Nat), (-1 ≤ z ∧ z ≤ 13) → decode cX11_controlSize pc = .ok (.ireturn, 1) → V p l e R s m args below meth c 1 D A Q (0, 0) (fd dom σ0) lv pc [.int (iI z)]) : V p l e R s m args below meth c 1 D A Q (0, 0) (fd dom σ0) [(0, .int (iI x0))] 0 [] := by
  have F0 : Fr τ [] σ0 σ0 := Fr.rf
  refine v_iload_n B dX11_controlSize_0 rfl rfl ?_
  refine u_tsw B (tgtd := 96) (by omega) dX11_controlSize_1 (by decide +kernel) ?_ ?_ (tsw_ok (by decide +kernel)) (by decide +kernel)
  · intro i1 o2 g3 o4 x5 t6
    match i1, o4, x5 with
    | 0, o4, x5 =>
      replace o4 : o2 = 67 := by simp at o4; omega
      obtain rfl : g3 = 68 := by omega
      refine v_bipush B (v := iI 8) dX11_controlSize_68 (by decide +kernel) ?_
      exact hend 8 _ _ ⟨by omega, by omega⟩ dX11_controlSize_70
    | 1, o4, x5 =>
      replace o4 : o2 = 70 := by simp at o4; omega
      obtain rfl : g3 = 71 := by omega
      refine v_iconst B (v := iI 2) dX11_controlSize_71 rfl ?_
      exact hend 2 _ _ ⟨by omega, by omega⟩ dX11_controlSize_72
    | 2, o4, x5 =>
      replace o4 : o2 = 72 := by simp at o4; omega
      obtain rfl : g3 = 73 := by omega
      refine v_bipush B (v := iI 13) dX11_controlSize_73 (by decide +kernel) ?_
      exact hend 13 _ _ ⟨by omega, by omega⟩ dX11_controlSize_75
    | 3, o4, x5 =>
      replace o4 : o2 = 75 := by simp at o4; omega
      obtain rfl : g3 = 76 := by omega
      refine v_bipush B (v := iI 13) dX11_controlSize_76 (by decide +kernel) ?_
      exact hend 13 _ _ ⟨by omega, by omega⟩ dX11_controlSize_78
    | 4, o4, x5 =>
      replace o4 : o2 = 78 := by simp at o4; omega
      obtain rfl : g3 = 79 := by omega
      refine v_iconst B (v := iI 1) dX11_controlSize_79 rfl ?_
      exact hend 1 _ _ ⟨by omega, by omega⟩ dX11_controlSize_80
    | 5, o4, x5 =>
      replace o4 : o2 = 80 := by simp at o4; omega
      obtain rfl : g3 = 81 := by omega
      refine v_iconst B (v := iI 1) dX11_controlSize_81 rfl ?_
      exact hend 1 _ _ ⟨by omega, by omega⟩ dX11_controlSize_82
    | 6, o4, x5 =>
      replace o4 : o2 = 82 := by simp at o4; omega
      obtain rfl : g3 = 83 := by omega
      refine v_iconst B (v := iI 2) dX11_controlSize_83 rfl ?_
      exact hend 2 _ _ ⟨by omega, by omega⟩ dX11_controlSize_84
    | 7, o4, x5 =>
      replace o4 : o2 = 84 := by simp at o4; omega
      obtain rfl : g3 = 85 := by omega
      refine v_bipush B (v := iI 9) dX11_controlSize_85 (by decide +kernel) ?_
      exact hend 9 _ _ ⟨by omega, by omega⟩ dX11_controlSize_87
    | 8, o4, x5 =>
      replace o4 : o2 = 87 := by simp at o4; omega
      obtain rfl : g3 = 88 := by omega
      refine v_bipush B (v := iI 9) dX11_controlSize_88 (by decide +kernel) ?_
      exact hend 9 _ _ ⟨by omega, by omega⟩ dX11_controlSize_90
    | 9, o4, x5 =>
      replace o4 : o2 = 95 := by simp at o4; omega
      obtain rfl : g3 = 96 := by omega
      refine v_iconst B (v := iI (-1)) dX11_controlSize_96 rfl ?_
      exact hend (-1) _ _ ⟨by omega, by omega⟩ dX11_controlSize_97
    | 10, o4, x5 =>
      replace o4 : o2 = 95 := by simp at o4; omega
      obtain rfl : g3 = 96 := by omega
      refine v_iconst B (v := iI (-1)) dX11_controlSize_96 rfl ?_
      exact hend (-1) _ _ ⟨by omega, by omega⟩ dX11_controlSize_97
    | 11, o4, x5 =>
      replace o4 : o2 = 90 := by simp at o4; omega
      obtain rfl : g3 = 91 := by omega
      refine v_bipush B (v := iI 6) dX11_controlSize_91 (by decide +kernel) ?_
      exact hend 6 _ _ ⟨by omega, by omega⟩ dX11_controlSize_93
    | 12, o4, x5 =>
      replace o4 : o2 = 93 := by simp at o4; omega
      obtain rfl : g3 = 94 := by omega
      refine v_iconst B (v := iI 2) dX11_controlSize_94 rfl ?_
      exact hend 2 _ _ ⟨by omega, by omega⟩ dX11_controlSize_95
    | i1 + 13, o4, x5 => exact absurd (o4.symm.trans (Array.getElem?_eq_none (by simp))) (by simp)
  · intro x5
    refine v_iconst B (v := iI (-1)) dX11_controlSize_96 rfl ?_
    exact hend (-1) _ _ ⟨by omega, by omega⟩ dX11_controlSize_97
set_option maxRecDepth 100000 in
theorem c_Low_controlSize (l : Launch) (D : va_G) (K : Nat → ClassId) {τ : Nat → Option Ty} {dom : List Nat} (Z : Sk τ dom) (zb zL : Nat) (zx : Nat → Int32) (zs : Nat → Nat) (x0 : Int) (r_x0 : -2147483648 ≤ x0 ∧ x0 ≤ 2147483647) (σ0 : Nat → va_E) (G0 : Good K τ σ0) : MZ l yX11_controlSize wp_Low_controlSize ({ frames := 0, cells := 0, slots := 0, locals := 0 }) D (tysA K) [.int (iI x0)] (fd dom σ0) zb zL zx zs (Qi D (fun r σ' => σ0 = σ' ∧ ∃ z : Int, r = iI z ∧ (-1 ≤ z ∧ z ≤ 13)) (fun σ' => fd dom σ')) 0 0 := by
  refine mz_of (cc := cX11_controlSize) (maxL := 1) (ret := (some .int)) (by decide +kernel) rfl (Nat.le_of_ble_eq_true rfl) ?_
  intro p e s m below meth c A B hr hlk _ hz
  exact b_Low_controlSize ⟨Nat.le_refl _, Nat.le_refl _⟩ B Z hz x0 r_x0 σ0 G0 (fun z lv pc hZ hd => v_iret B hr hlk σ0 ⟨rfl, z, rfl, hZ⟩ rfl (Nat.le_refl _) (Nat.le_refl _) hd)

def wp_Low_isForRole : List Cond := .code yX11_isForRole cX11_isForRole 2 (some .boolean) :: (([] : List Cond) ++ ([]))
set_option maxHeartbeats 4000000 in
set_option maxRecDepth 100000 in
theorem b_Low_isForRole {p : Program} {l : Launch} {e : Env} {R : Room} {s : State} {m : MethodId} {args : Array Value} {below : List Frame} {meth : Method} {c : Code} {D : va_G} {K : Nat → ClassId} {A : Nat → Prop} {Q : State → Prop} {τ : Nat → Option Ty} {dom : List Nat} {zb zL : Nat} {zx : Nat → Int32} {zs : Nat → Nat} (hR : 0 ≤ R.frames ∧ 0 ≤ R.locals) (B : Bx p s m args c cX11_isForRole 2 RX11 wp_Low_isForRole D (tysA K) A) (Z : Sk τ dom) (hz : ZL zb zL zx zs A s s.heap) (x0 : Int) (x1 : Int) (r_x0 : -2147483648 ≤ x0 ∧ x0 ≤ 2147483647) (r_x1 : 0 ≤ x1 ∧ x1 ≤ 1) (σ0 : Nat → va_E) (G0 : Good K τ σ0) (hend : ∀ (z : Int) (lv : List (Nat × Value)) (pc : Nat), (0 ≤ z ∧ z ≤ 1) → decode cX11_isForRole pc = .ok (.ireturn, 1) → V p l e R s m args below meth c 2 D A Q (0, 0) (fd dom σ0) lv pc [.int (iI z)]) : V p l e R s m args below meth c 2 D A Q (0, 0) (fd dom σ0) [(0, .int (iI x0)), (1, .int (iI x1))] 0 [] := by
  have F0 : Fr τ [] σ0 σ0 := Fr.rf
  refine v_iload_n B dX11_isForRole_0 rfl rfl ?_
  refine u_if_eq B (tgt := 20) (by omega) dX11_isForRole_1 (by decide +kernel) (fun c1 => ?_) (fun c1 => ?_)
  · refine v_iload_n B dX11_isForRole_20 rfl rfl ?_
    refine v_iconst B (v := iI 4) dX11_isForRole_21 rfl ?_
    refine u_icmp_eq B (tgt := 40) (by omega) (by omega) dX11_isForRole_22 (by decide +kernel) (fun c2 => ?_) (fun c2 => ?_)
    · refine v_iconst B (v := iI 0) dX11_isForRole_40 rfl ?_
      exact hend 0 _ _ ⟨by omega, by omega⟩ dX11_isForRole_41
    · refine v_iload_n B dX11_isForRole_25 rfl rfl ?_
      refine v_iconst B (v := iI 5) dX11_isForRole_26 rfl ?_
      refine u_icmp_eq B (tgt := 40) (by omega) (by omega) dX11_isForRole_27 (by decide +kernel) (fun c3 => ?_) (fun c3 => ?_)
      · refine v_iconst B (v := iI 0) dX11_isForRole_40 rfl ?_
        exact hend 0 _ _ ⟨by omega, by omega⟩ dX11_isForRole_41
      · refine v_iload_n B dX11_isForRole_30 rfl rfl ?_
        refine v_bipush B (v := iI 13) dX11_isForRole_31 (by decide +kernel) ?_
        refine u_icmp_eq B (tgt := 40) (by omega) (by omega) dX11_isForRole_33 (by decide +kernel) (fun c4 => ?_) (fun c4 => ?_)
        · refine v_iconst B (v := iI 0) dX11_isForRole_40 rfl ?_
          exact hend 0 _ _ ⟨by omega, by omega⟩ dX11_isForRole_41
        · refine v_iconst B (v := iI 1) dX11_isForRole_36 rfl ?_
          refine v_goto B (tgt := 41) dX11_isForRole_37 (by decide +kernel) ?_
          exact hend 1 _ _ ⟨by omega, by omega⟩ dX11_isForRole_41
  · refine v_iload_n B dX11_isForRole_4 rfl rfl ?_
    refine v_iconst B (v := iI 1) dX11_isForRole_5 rfl ?_
    refine u_icmp_eq B (tgt := 18) (by omega) (by omega) dX11_isForRole_6 (by decide +kernel) (fun c5 => ?_) (fun c5 => ?_)
    · refine v_iconst B (v := iI 0) dX11_isForRole_18 rfl ?_
      exact hend 0 _ _ ⟨by omega, by omega⟩ dX11_isForRole_19
    · refine v_iload_n B dX11_isForRole_9 rfl rfl ?_
      refine v_iconst B (v := iI 3) dX11_isForRole_10 rfl ?_
      refine u_icmp_eq B (tgt := 18) (by omega) (by omega) dX11_isForRole_11 (by decide +kernel) (fun c6 => ?_) (fun c6 => ?_)
      · refine v_iconst B (v := iI 0) dX11_isForRole_18 rfl ?_
        exact hend 0 _ _ ⟨by omega, by omega⟩ dX11_isForRole_19
      · refine v_iconst B (v := iI 1) dX11_isForRole_14 rfl ?_
        refine v_goto B (tgt := 19) dX11_isForRole_15 (by decide +kernel) ?_
        exact hend 1 _ _ ⟨by omega, by omega⟩ dX11_isForRole_19
set_option maxRecDepth 100000 in
theorem c_Low_isForRole (l : Launch) (D : va_G) (K : Nat → ClassId) {τ : Nat → Option Ty} {dom : List Nat} (Z : Sk τ dom) (zb zL : Nat) (zx : Nat → Int32) (zs : Nat → Nat) (x0 : Int) (x1 : Int) (r_x0 : -2147483648 ≤ x0 ∧ x0 ≤ 2147483647) (r_x1 : 0 ≤ x1 ∧ x1 ≤ 1) (σ0 : Nat → va_E) (G0 : Good K τ σ0) : MZ l yX11_isForRole wp_Low_isForRole ({ frames := 0, cells := 0, slots := 0, locals := 0 }) D (tysA K) [.int (iI x0), .int (iI x1)] (fd dom σ0) zb zL zx zs (Qi D (fun r σ' => σ0 = σ' ∧ ∃ z : Int, r = iI z ∧ (0 ≤ z ∧ z ≤ 1)) (fun σ' => fd dom σ')) 0 0 := by
  refine mz_of (cc := cX11_isForRole) (maxL := 2) (ret := (some .boolean)) (by decide +kernel) rfl (Nat.le_of_ble_eq_true rfl) ?_
  intro p e s m below meth c A B hr hlk _ hz
  exact b_Low_isForRole ⟨Nat.le_refl _, Nat.le_refl _⟩ B Z hz x0 x1 r_x0 r_x1 σ0 G0 (fun z lv pc hZ hd => v_zret B hr hlk (nar01 (by omega)) σ0 ⟨rfl, z, rfl, hZ⟩ rfl (Nat.le_refl _) (Nat.le_refl _) hd)

def wp_Low_obeyLinkControl : List Cond := .code yX11_obeyLinkControl cX11_obeyLinkControl 3 none :: (([.methodLink RX11 449 yX9_numberAt, .instanceMethod yX9_numberAt, .selects RX9 yX9_numberAt yX9_numberAt, .initialized RX9, .code yX9_numberAt cX9_numberAt 7 (some .long), .fieldLink RX9 21 "LowEnergy$Row" "size" "I", .fieldLink RX9 15 "LowEnergy$Row" "bytes" "[I", .methodLink RX11 576 yX9_two, .instanceMethod yX9_two, .selects RX9 yX9_two yX9_two, .code yX9_two cX9_two 2 (some .int), .methodLink RX11 579 yX6_hearMap, .instanceMethod yX6_hearMap, .selects RX6 yX6_hearMap yX6_hearMap, .initialized RX6, .code yX6_hearMap cX6_hearMap 5 none, .methodLink RX6 76 yX6_giveReason, .instanceMethod yX6_giveReason, .selects RX6 yX6_giveReason yX6_giveReason, .code yX6_giveReason cX6_giveReason 2 none, .fieldLink RX6 15 "LowEnergy$Link" "reason" "I", .fieldLink RX6 54 "LowEnergy$Link" "event" "I", .constant RX6 75 (65535), .methodLink RX6 21 yX6_isProperMap, .static yX6_isProperMap, .code yX6_isProperMap cX6_isProperMap 2 (some .boolean), .methodLink RX6 25 yJ13_bitCount_95d88, .static yJ13_bitCount_95d88, .initialized RJ13, .code yJ13_bitCount_95d88 cJ13_bitCount_95d88 2 (some .int), .constantLong RJ13 314 (6148914691236517205), .constantLong RJ13 316 (3689348814741910323), .constantLong RJ13 318 (1085102592571150095), .fieldLink RX6 50 "LowEnergy$Link" "mapWaits" "Z", .methodLink RX6 80 yX6_awaitMap, .instanceMethod yX6_awaitMap, .selects RX6 yX6_awaitMap yX6_awaitMap, .code yX6_awaitMap cX6_awaitMap 4 none, .fieldLink RX6 69 "LowEnergy$Link" "nextMap" "J", .fieldLink RX6 72 "LowEnergy$Link" "instant" "I", .methodLink RX11 291 yX9_at, .instanceMethod yX9_at, .selects RX9 yX9_at yX9_at, .code yX9_at cX9_at 2 (some .int), .methodLink RX11 582 yX4_note, .instanceMethod yX4_note, .selects RX4 yX4_note yX4_note, .initialized RX4, .code yX4_note cX4_note 6 none, .fieldLink RX4 29 "LowEnergy$Diary" "count" "I", .fieldLink RX4 36 "LowEnergy$Diary" "head" "I", .fieldLink RX4 11 "LowEnergy$Diary" "kinds" "[I", .fieldLink RX4 17 "LowEnergy$Diary" "numbers" "[[I", .fieldLink RX4 22 "LowEnergy$Diary" "rows" "[LLowEnergy$Row;", .methodLink RX4 39 yX9_clear, .instanceMethod yX9_clear, .selects RX9 yX9_clear yX9_clear, .code yX9_clear cX9_clear 1 none, .fieldLink RX4 33 "LowEnergy$Diary" "lost" "I", .methodLink RX11 157 yX7_newControl, .instanceMethod yX7_newControl, .selects RX7 yX7_newControl yX7_newControl, .initialized RX7, .code yX7_newControl cX7_newControl 3 (some (.object "LowEnergy$Row")), .methodLink RX7 62 yX9_clear, .methodLink RX7 71 yX9_put, .instanceMethod yX9_put, .selects RX9 yX9_put yX9_put, .code yX9_put cX9_put 2 none, .fieldLink RX7 33 "LowEnergy$Mail" "spare" "LLowEnergy$Row;", .fieldLink RX7 43 "LowEnergy$Mail" "controlCount" "I", .fieldLink RX7 20 "LowEnergy$Mail" "controls" "[LLowEnergy$Row;", .fieldLink RX7 39 "LowEnergy$Mail" "controlHead" "I", .methodLink RX11 160 yX9_putNumber, .instanceMethod yX9_putNumber, .selects RX9 yX9_putNumber yX9_putNumber, .code yX9_putNumber cX9_putNumber 5 none, .constantLong RX9 25 (255), .methodLink RX11 586 yX4_noteBytes, .instanceMethod yX4_noteBytes, .selects RX4 yX4_noteBytes yX4_noteBytes, .code yX4_noteBytes cX4_noteBytes 8 none, .methodLink RX4 42 yX4_note, .methodLink RX4 46 yX9_putPart, .instanceMethod yX9_putPart, .selects RX9 yX9_putPart yX9_putPart, .code yX9_putPart cX9_putPart 6 none, .methodLink RX9 9 Lib.Math.max.name, .static Lib.Math.max.name, .initialized "java/lang/Math", .code Lib.Math.max.name Lib.Math.max.code 2 (some .int), .methodLink RX11 154 yX7_addVersion, .instanceMethod yX7_addVersion, .selects RX7 yX7_addVersion yX7_addVersion, .code yX7_addVersion cX7_addVersion 2 none, .methodLink RX7 74 yX7_newControl, .methodLink RX7 78 yX9_putNumber, .constantLong RX7 82 (258), .fieldLink RX7 46 "LowEnergy$Mail" "versionSent" "Z"] : List Cond) ++ (wsX30 ++ (wsX90 ++ (wsX60 ++ (wsX40 ++ (wsX70 ++ ([])))))))
theorem hi_Low_obeyLinkControl_X3 : ∀ x ∈ u_ws RX3 TX3 19, x ∈ wp_Low_obeyLinkControl := fun _ h => List.mem_cons_of_mem _ (List.mem_append_right _ (List.mem_append_left _ h))
theorem hi_Low_obeyLinkControl_X9 : ∀ x ∈ u_ws RX9 TX9 2, x ∈ wp_Low_obeyLinkControl := fun _ h => List.mem_cons_of_mem _ (List.mem_append_right _ (List.mem_append_right _ (List.mem_append_left _ h)))
theorem hi_Low_obeyLinkControl_X6 : ∀ x ∈ u_ws RX6 TX6 20, x ∈ wp_Low_obeyLinkControl := fun _ h => List.mem_cons_of_mem _ (List.mem_append_right _ (List.mem_append_right _ (List.mem_append_right _ (List.mem_append_left _ h))))
theorem hi_Low_obeyLinkControl_X4 : ∀ x ∈ u_ws RX4 TX4 6, x ∈ wp_Low_obeyLinkControl := fun _ h => List.mem_cons_of_mem _ (List.mem_append_right _ (List.mem_append_right _ (List.mem_append_right _ (List.mem_append_right _ (List.mem_append_left _ h)))))
theorem hi_Low_obeyLinkControl_X7 : ∀ x ∈ u_ws RX7 TX7 16, x ∈ wp_Low_obeyLinkControl := fun _ h => List.mem_cons_of_mem _ (List.mem_append_right _ (List.mem_append_right _ (List.mem_append_right _ (List.mem_append_right _ (List.mem_append_right _ (List.mem_append_left _ h))))))
set_option maxRecDepth 100000 in
theorem gd_Low_obeyLinkControl_Row_numberAt_449 : GoodIn wp_Low_obeyLinkControl (wsV RX11 449 RX9 yX9_numberAt wp_Row_numberAt) := goodIn_app (goodIn_r _ [1, 2, 3, 4] rfl rfl) (goodIn_ca (goodIn_r _ [5, 6, 7] rfl rfl) (goodIn_app (goodIn_cls hi_Low_obeyLinkControl_X9 gw_X9) (goodIn_nil)))
set_option maxRecDepth 100000 in
theorem gd_Low_obeyLinkControl_Row_two_576 : GoodIn wp_Low_obeyLinkControl (wsV RX11 576 RX9 yX9_two wp_Row_two) := goodIn_app (goodIn_r _ [8, 9, 10, 4] rfl rfl) (goodIn_ca (goodIn_r _ [11, 6, 7] rfl rfl) (goodIn_app (goodIn_cls hi_Low_obeyLinkControl_X9 gw_X9) (goodIn_nil)))
set_option maxRecDepth 100000 in
theorem gd_Low_obeyLinkControl_Link_hearMap_579 : GoodIn wp_Low_obeyLinkControl (wsV RX11 579 RX6 yX6_hearMap wp_Link_hearMap) := goodIn_app (goodIn_r _ [12, 13, 14, 15] rfl rfl) (goodIn_ca (goodIn_r _ [16, 17, 18, 19, 15, 20, 21, 22, 23, 24, 25, 26, 27, 28, 29, 30, 31, 32, 33, 34, 35, 36, 37, 38, 39, 40] rfl rfl) (goodIn_app (goodIn_cls hi_Low_obeyLinkControl_X6 gw_X6) (goodIn_nil)))
set_option maxRecDepth 100000 in
theorem gd_Low_obeyLinkControl_Row_at_291 : GoodIn wp_Low_obeyLinkControl (wsV RX11 291 RX9 yX9_at wp_Row_at) := goodIn_app (goodIn_r _ [41, 42, 43, 4] rfl rfl) (goodIn_ca (goodIn_r _ [44, 6, 7] rfl rfl) (goodIn_app (goodIn_cls hi_Low_obeyLinkControl_X9 gw_X9) (goodIn_nil)))
set_option maxRecDepth 100000 in
theorem gd_Low_obeyLinkControl_Diary_note_582 : GoodIn wp_Low_obeyLinkControl (wsV RX11 582 RX4 yX4_note wp_Diary_note) := goodIn_app (goodIn_r _ [45, 46, 47, 48] rfl rfl) (goodIn_ca (goodIn_r _ [49, 50, 51, 52, 53, 54, 55, 56, 57, 4, 58, 6, 59] rfl rfl) (goodIn_app (goodIn_cls hi_Low_obeyLinkControl_X4 gw_X4) (goodIn_app (goodIn_cls hi_Low_obeyLinkControl_X9 gw_X9) (goodIn_nil))))
set_option maxRecDepth 100000 in
theorem gd_Low_obeyLinkControl_Mail_newControl_157 : GoodIn wp_Low_obeyLinkControl (wsV RX11 157 RX7 yX7_newControl wp_Mail_newControl) := goodIn_app (goodIn_r _ [60, 61, 62, 63] rfl rfl) (goodIn_ca (goodIn_r _ [64, 65, 56, 57, 4, 58, 6, 66, 67, 68, 69, 7, 70, 71, 72, 73] rfl rfl) (goodIn_app (goodIn_cls hi_Low_obeyLinkControl_X9 gw_X9) (goodIn_app (goodIn_cls hi_Low_obeyLinkControl_X7 gw_X7) (goodIn_nil))))
set_option maxRecDepth 100000 in
theorem gd_Low_obeyLinkControl_Row_putNumber_160 : GoodIn wp_Low_obeyLinkControl (wsV RX11 160 RX9 yX9_putNumber wp_Row_putNumber) := goodIn_app (goodIn_r _ [74, 75, 76, 4] rfl rfl) (goodIn_ca (goodIn_r _ [77, 6, 7, 78] rfl rfl) (goodIn_app (goodIn_cls hi_Low_obeyLinkControl_X9 gw_X9) (goodIn_nil)))
set_option maxRecDepth 100000 in
theorem gd_Low_obeyLinkControl_Diary_noteBytes_586 : GoodIn wp_Low_obeyLinkControl (wsV RX11 586 RX4 yX4_noteBytes wp_Diary_noteBytes) := goodIn_app (goodIn_r _ [79, 80, 81, 48] rfl rfl) (goodIn_ca (goodIn_r _ [82, 50, 59, 54, 51, 83, 46, 47, 48, 49, 52, 53, 55, 56, 57, 4, 58, 6, 84, 85, 86, 87, 7, 88, 89, 90, 91] rfl rfl) (goodIn_app (goodIn_cls hi_Low_obeyLinkControl_X4 gw_X4) (goodIn_app (goodIn_cls hi_Low_obeyLinkControl_X9 gw_X9) (goodIn_nil))))
set_option maxRecDepth 100000 in
theorem gd_Low_obeyLinkControl_Mail_addVersion_154 : GoodIn wp_Low_obeyLinkControl (wsV RX11 154 RX7 yX7_addVersion wp_Mail_addVersion) := goodIn_app (goodIn_r _ [92, 93, 94, 63] rfl rfl) (goodIn_ca (goodIn_r _ [95, 96, 61, 62, 63, 64, 65, 56, 57, 4, 58, 6, 66, 67, 68, 69, 7, 70, 71, 72, 73, 97, 75, 76, 77, 78, 98, 99] rfl rfl) (goodIn_app (goodIn_cls hi_Low_obeyLinkControl_X9 gw_X9) (goodIn_app (goodIn_cls hi_Low_obeyLinkControl_X7 gw_X7) (goodIn_nil))))
set_option maxHeartbeats 4000000 in
set_option maxRecDepth 100000 in
theorem b_Low_obeyLinkControl {p : Program} {l : Launch} {e : Env} {R : Room} {s : State} {m : MethodId} {args : Array Value} {below : List Frame} {meth : Method} {c : Code} {D : va_G} {K : Nat → ClassId} {A : Nat → Prop} {Q : State → Prop} {τ : Nat → Option Ty} {dom : List Nat} {zb zL : Nat} {zx : Nat → Int32} {zs : Nat → Nat} (hR : 3 ≤ R.frames ∧ 72 ≤ R.locals) (B : Bx p s m args c cX11_obeyLinkControl 3 RX11 wp_Low_obeyLinkControl D (tysA K) A) (Z : Sk τ dom) (hz : ZL zb zL zx zs A s s.heap) (d : Nat) (x1 : Int) (g : Nat) (t_d : τ d = some (33, 0, 0)) (r_x1 : -2147483648 ≤ x1 ∧ x1 ≤ 2147483647) (t_g : τ g = some (1, 5, 0)) (σ0 : Nat → va_E) (G0 : Good K τ σ0) (hend : ∀ (σ' : Nat → va_E) (lv : List (Nat × Value)) (pc : Nat), Good K τ σ' → Fr τ [(36, 0), (3, 23), (3, 22), (1, 16), (34, 0), (37, 0), (1, 9), (2, 9), (2, 16)] σ0 σ' → decode cX11_obeyLinkControl pc = .ok (.return_, 1) → V p l e R s m args below meth c 3 D A Q (0, 0) (fd dom σ') lv pc []) : V p l e R s m args below meth c 3 D A Q (0, 0) (fd dom σ0) [(0, .ref d), (1, .int (iI x1)), (2, .ref g)] 0 [] := by
  have F0 : Fr τ [(36, 0), (3, 23), (3, 22), (1, 16), (34, 0), (37, 0), (1, 9), (2, 9), (2, 16)] σ0 σ0 := Fr.rf
  refine v_iload_n B dX11_obeyLinkControl_0 rfl rfl ?_
  refine u_tsw B (tgtd := 214) (by omega) dX11_obeyLinkControl_1 (by decide +kernel) ?_ ?_ (tsw_ok (by decide +kernel)) (by decide +kernel)
  · intro i1 o2 g3 o4 x5 t6
    match i1, o4, x5 with
    | 0, o4, x5 =>
      replace o4 : o2 = 63 := by simp at o4; omega
      obtain rfl : g3 = 64 := by omega
      refine v_aload_n B dX11_obeyLinkControl_64 rfl rfl ?_
      obtain ⟨z7, yy8, z9, z10, z11, z12, a13, z14, yy15, a16, yy17, a18, a19, a20, a21, a22, a23, a24, a25, h26, r27, r28, r29, r30, r31, r32, t33, r34, r35, t36, r37, t38, t39, t40, t41, t42, t43, t44, t45⟩ : okDevice τ (σ0 d) := G0 d _ t_d
      refine u_getN B Z (C := RX3) (T := TX3) (N := 19) (ci := 3) hi_Low_obeyLinkControl_X3 t_d h26 rfl 11 (by decide +kernel) (List.mem_of_getElem? (i := 69) rfl) rfl dX11_obeyLinkControl_65 ?_
      refine v_aload_n B dX11_obeyLinkControl_68 rfl rfl ?_
      refine v_iconst B (v := iI 1) dX11_obeyLinkControl_69 rfl ?_
      refine v_iconst B (v := iI 5) dX11_obeyLinkControl_70 rfl ?_
      refine u_callVl B Z hz (n := 2) (As := [.int (iI 1), .int (iI 5)]) (rest := [.ref a18]) (c_Row_numberAt l D K Z _ _ _ _ g 1 5 t_g ⟨by omega, by omega⟩ ⟨by omega, by omega⟩ σ0 G0) gd_Low_obeyLinkControl_Row_numberAt_449 rfl rfl rfl (by decide +kernel) ⟨Nat.le_trans (by decide +kernel) hR.1, Nat.le_trans (by decide +kernel) hR.2⟩ t_g (cls_Row G0 t_g) rfl rfl rfl rfl (Nat.le_of_ble_eq_true rfl) dX11_obeyLinkControl_71 ⟨Nat.zero_le _, Nat.zero_le _⟩ (fun v48 σ46 p47 => ?_)
      obtain ⟨rfl, yy52, e53, r54⟩ := p47
      subst e53
      refine v_aload_n B dX11_obeyLinkControl_74 rfl rfl ?_
      refine v_bipush B (v := iI 6) dX11_obeyLinkControl_75 (by decide +kernel) ?_
      refine u_callVi B Z hz (n := 1) (As := [.int (iI 6)]) (rest := [.long (lI yy52), .ref a18]) (c_Row_two l D K Z _ _ _ _ g 6 t_g ⟨by omega, by omega⟩ σ0 G0) gd_Low_obeyLinkControl_Row_two_576 rfl rfl rfl (by decide +kernel) ⟨Nat.le_trans (by decide +kernel) hR.1, Nat.le_trans (by decide +kernel) hR.2⟩ t_g (cls_Row G0 t_g) rfl rfl rfl rfl (Nat.le_of_ble_eq_true rfl) dX11_obeyLinkControl_77 ⟨Nat.zero_le _, Nat.zero_le _⟩ (fun v57 σ55 p56 => ?_)
      obtain ⟨rfl, z61, e62, r63⟩ := p56
      subst e62
      refine u_callVv B Z hz (n := 2) (As := [.long (lI yy52), .int (iI z61)]) (rest := []) (c_Link_hearMap l D K Z _ _ _ _ a18 yy52 z61 t38 ⟨by omega, by omega⟩ ⟨by omega, by omega⟩ σ0 G0) gd_Low_obeyLinkControl_Link_hearMap_579 rfl rfl rfl (by decide +kernel) ⟨Nat.le_trans (by decide +kernel) hR.1, Nat.le_trans (by decide +kernel) hR.2⟩ t38 (cls_Link G0 t38) rfl rfl rfl rfl (Nat.le_of_ble_eq_true rfl) dX11_obeyLinkControl_80 ⟨Nat.zero_le _, Nat.zero_le _⟩ (fun σ64 p65 => ?_)
      obtain ⟨G67, F68⟩ := p65
      have F69 := F0.call F68 (by first | rfl | simp)
      have h70 := (F68 d _ t_d (by first | rfl | simp)).trans h26
      refine v_goto B (tgt := 214) dX11_obeyLinkControl_83 (by decide +kernel) ?_
      exact hend σ64 _ _ G67 F69 dX11_obeyLinkControl_214
    | 1, o4, x5 =>
      replace o4 : o2 = 85 := by simp at o4; omega
      obtain rfl : g3 = 86 := by omega
      refine v_aload_n B dX11_obeyLinkControl_86 rfl rfl ?_
      obtain ⟨z71, yy72, z73, z74, z75, z76, a77, z78, yy79, a80, yy81, a82, a83, a84, a85, a86, a87, a88, a89, h90, r91, r92, r93, r94, r95, r96, t97, r98, r99, t100, r101, t102, t103, t104, t105, t106, t107, t108, t109⟩ : okDevice τ (σ0 d) := G0 d _ t_d
      refine u_getN B Z (C := RX3) (T := TX3) (N := 19) (ci := 3) hi_Low_obeyLinkControl_X3 t_d h90 rfl 11 (by decide +kernel) (List.mem_of_getElem? (i := 69) rfl) rfl dX11_obeyLinkControl_87 ?_
      obtain ⟨z110, z111, z112, z113, z114, yy115, yy116, z117, z118, z119, z120, z121, z122, z123, z124, z125, z126, z127, z128, yy129, h130, r131, r132, r133, r134, r135, r136, r137, r138, r139, r140, r141, r142, r143, r144, r145, r146, r147, r148, r149, r150⟩ : okLink τ (σ0 a82) := G0 a82 _ t102
      refine u_getN B Z (C := RX6) (T := TX6) (N := 20) (ci := 6) hi_Low_obeyLinkControl_X6 t102 h130 rfl 18 (by decide +kernel) (List.mem_of_getElem? (i := 58) rfl) rfl dX11_obeyLinkControl_90 ?_
      refine v_iconst B (v := iI (-1)) dX11_obeyLinkControl_93 rfl ?_
      refine u_icmp_ne B (tgt := 214) (by omega) (by omega) dX11_obeyLinkControl_94 (by decide +kernel) (fun c151 => ?_) (fun c151 => ?_)
      · exact hend σ0 _ _ G0 F0 dX11_obeyLinkControl_214
      · refine v_aload_n B dX11_obeyLinkControl_97 rfl rfl ?_
        refine u_getN B Z (C := RX3) (T := TX3) (N := 19) (ci := 3) hi_Low_obeyLinkControl_X3 t_d h90 rfl 11 (by decide +kernel) (List.mem_of_getElem? (i := 69) rfl) rfl dX11_obeyLinkControl_98 ?_
        refine v_aload_n B dX11_obeyLinkControl_101 rfl rfl ?_
        refine v_iconst B (v := iI 1) dX11_obeyLinkControl_102 rfl ?_
        refine u_callVi B Z hz (n := 1) (As := [.int (iI 1)]) (rest := [.ref a82]) (c_Row_at l D K Z _ _ _ _ g 1 t_g ⟨by omega, by omega⟩ σ0 G0) gd_Low_obeyLinkControl_Row_at_291 rfl rfl rfl (by decide +kernel) ⟨Nat.le_trans (by decide +kernel) hR.1, Nat.le_trans (by decide +kernel) hR.2⟩ t_g (cls_Row G0 t_g) rfl rfl rfl rfl (Nat.le_of_ble_eq_true rfl) dX11_obeyLinkControl_103 ⟨Nat.zero_le _, Nat.zero_le _⟩ (fun v154 σ152 p153 => ?_)
        obtain ⟨rfl, z158, e159, r160⟩ := p153
        subst e159
        refine u_putN B Z (C := RX6) (T := TX6) (N := 20) (ci := 6) hi_Low_obeyLinkControl_X6 t102 h130 rfl 18 (by decide +kernel) tyX6 tyX6_ok nmX6 (List.mem_of_getElem? (i := 58) rfl) rfl (ty := .int) (tyX6_ok 18 (by decide +kernel)) rfl rfl (Nat.le_of_ble_eq_true rfl) (fs' := [.int (iI z110), .int (iI z111), .int (iI z112), .int (iI z113), .int (iI z114), .long (lI yy115), .long (lI yy116), .int (iI z117), .int (iI z118), .int (iI z119), .int (iI z120), .int (iI z121), .int (iI z122), .int (iI z123), .int (iI z124), .int (iI z125), .int (iI z126), .int (iI z127), .int (iI z158), .long (lI yy129)]) rfl dX11_obeyLinkControl_106 (fun σ161 h162 n163 => ?_)
        have G164 := G0.put t102 (⟨z110, z111, z112, z113, z114, yy115, yy116, z117, z118, z119, z120, z121, z122, z123, z124, z125, z126, z127, z158, yy129, h162, ⟨by omega, by omega⟩, ⟨by omega, by omega⟩, ⟨by omega, by omega⟩, ⟨by omega, by omega⟩, ⟨by omega, by omega⟩, ⟨by omega, by omega⟩, ⟨by omega, by omega⟩, ⟨by omega, by omega⟩, ⟨by omega, by omega⟩, ⟨by omega, by omega⟩, ⟨by omega, by omega⟩, ⟨by omega, by omega⟩, ⟨by omega, by omega⟩, ⟨by omega, by omega⟩, ⟨by omega, by omega⟩, ⟨by omega, by omega⟩, ⟨by omega, by omega⟩, ⟨by omega, by omega⟩, ⟨by omega, by omega⟩, ⟨by omega, by omega⟩⟩ : Ok K τ (36, 0, 0) (σ161 a82)) n163
        have F165 := F0.put t102 (by simp) n163
        have h166 := (n163 d (ne_ty t_d t102 (by simp))).trans h90
        refine v_goto B (tgt := 214) dX11_obeyLinkControl_109 (by decide +kernel) ?_
        exact hend σ161 _ _ G164 F165 dX11_obeyLinkControl_214
    | 2, o4, x5 =>
      replace o4 : o2 = 213 := by simp at o4; omega
      obtain rfl : g3 = 214 := by omega
      exact hend σ0 _ _ G0 F0 dX11_obeyLinkControl_214
    | 3, o4, x5 =>
      replace o4 : o2 = 213 := by simp at o4; omega
      obtain rfl : g3 = 214 := by omega
      exact hend σ0 _ _ G0 F0 dX11_obeyLinkControl_214
    | 4, o4, x5 =>
      replace o4 : o2 = 213 := by simp at o4; omega
      obtain rfl : g3 = 214 := by omega
      exact hend σ0 _ _ G0 F0 dX11_obeyLinkControl_214
    | 5, o4, x5 =>
      replace o4 : o2 = 213 := by simp at o4; omega
      obtain rfl : g3 = 214 := by omega
      exact hend σ0 _ _ G0 F0 dX11_obeyLinkControl_214
    | 6, o4, x5 =>
      replace o4 : o2 = 111 := by simp at o4; omega
      obtain rfl : g3 = 112 := by omega
      refine v_aload_n B dX11_obeyLinkControl_112 rfl rfl ?_
      obtain ⟨z167, yy168, z169, z170, z171, z172, a173, z174, yy175, a176, yy177, a178, a179, a180, a181, a182, a183, a184, a185, h186, r187, r188, r189, r190, r191, r192, t193, r194, r195, t196, r197, t198, t199, t200, t201, t202, t203, t204, t205⟩ : okDevice τ (σ0 d) := G0 d _ t_d
      refine u_getN B Z (C := RX3) (T := TX3) (N := 19) (ci := 3) hi_Low_obeyLinkControl_X3 t_d h186 rfl 17 (by decide +kernel) (List.mem_of_getElem? (i := 25) rfl) rfl dX11_obeyLinkControl_113 ?_
      refine v_bipush B (v := iI 19) dX11_obeyLinkControl_116 (by decide +kernel) ?_
      refine v_aload_n B dX11_obeyLinkControl_118 rfl rfl ?_
      refine v_iconst B (v := iI 1) dX11_obeyLinkControl_119 rfl ?_
      refine u_callVi B Z hz (n := 1) (As := [.int (iI 1)]) (rest := [.int (iI 19), .ref a184]) (c_Row_at l D K Z _ _ _ _ g 1 t_g ⟨by omega, by omega⟩ σ0 G0) gd_Low_obeyLinkControl_Row_at_291 rfl rfl rfl (by decide +kernel) ⟨Nat.le_trans (by decide +kernel) hR.1, Nat.le_trans (by decide +kernel) hR.2⟩ t_g (cls_Row G0 t_g) rfl rfl rfl rfl (Nat.le_of_ble_eq_true rfl) dX11_obeyLinkControl_120 ⟨Nat.zero_le _, Nat.zero_le _⟩ (fun v208 σ206 p207 => ?_)
      obtain ⟨rfl, z212, e213, r214⟩ := p207
      subst e213
      refine v_iconst B (v := iI 0) dX11_obeyLinkControl_123 rfl ?_
      refine v_iconst B (v := iI 0) dX11_obeyLinkControl_124 rfl ?_
      refine u_callVv B Z hz (n := 4) (As := [.int (iI 19), .int (iI z212), .int (iI 0), .int (iI 0)]) (rest := []) (c_Diary_note l D K Z _ _ _ _ a184 19 z212 0 0 t204 ⟨by omega, by omega⟩ ⟨by omega, by omega⟩ ⟨by omega, by omega⟩ ⟨by omega, by omega⟩ σ0 G0) gd_Low_obeyLinkControl_Diary_note_582 rfl rfl rfl (by decide +kernel) ⟨Nat.le_trans (by decide +kernel) hR.1, Nat.le_trans (by decide +kernel) hR.2⟩ t204 (cls_Diary G0 t204) rfl rfl rfl rfl (Nat.le_of_ble_eq_true rfl) dX11_obeyLinkControl_125 ⟨Nat.zero_le _, Nat.zero_le _⟩ (fun σ215 p216 => ?_)
      obtain ⟨G218, F219⟩ := p216
      have F220 := F0.call F219 (by first | rfl | simp)
      have h221 := (F219 d _ t_d (by first | rfl | simp)).trans h186
      refine v_goto B (tgt := 214) dX11_obeyLinkControl_128 (by decide +kernel) ?_
      exact hend σ215 _ _ G218 F220 dX11_obeyLinkControl_214
    | 7, o4, x5 =>
      replace o4 : o2 = 130 := by simp at o4; omega
      obtain rfl : g3 = 131 := by omega
      refine v_aload_n B dX11_obeyLinkControl_131 rfl rfl ?_
      obtain ⟨z222, yy223, z224, z225, z226, z227, a228, z229, yy230, a231, yy232, a233, a234, a235, a236, a237, a238, a239, a240, h241, r242, r243, r244, r245, r246, r247, t248, r249, r250, t251, r252, t253, t254, t255, t256, t257, t258, t259, t260⟩ : okDevice τ (σ0 d) := G0 d _ t_d
      refine u_getN B Z (C := RX3) (T := TX3) (N := 19) (ci := 3) hi_Low_obeyLinkControl_X3 t_d h241 rfl 12 (by decide +kernel) (List.mem_of_getElem? (i := 5) rfl) rfl dX11_obeyLinkControl_132 ?_
      refine v_bipush B (v := iI 9) dX11_obeyLinkControl_135 (by decide +kernel) ?_
      refine u_callVq B Z hz (n := 1) (As := [.int (iI 9)]) (rest := []) (c_Mail_newControl l D K Z _ _ _ _ a234 9 t254 ⟨by omega, by omega⟩ σ0 G0) gd_Low_obeyLinkControl_Mail_newControl_157 rfl rfl rfl (by decide +kernel) ⟨Nat.le_trans (by decide +kernel) hR.1, Nat.le_trans (by decide +kernel) hR.2⟩ t254 (cls_Mail G0 t254) rfl rfl rfl rfl (Nat.le_of_ble_eq_true rfl) dX11_obeyLinkControl_137 ⟨Nat.zero_le _, Nat.zero_le _⟩ (fun v263 σ261 p262 => ?_)
      obtain ⟨G264, F265, q267⟩ := p262
      have F266 := F0.call F265 (by first | rfl | simp)
      have h268 := (F265 d _ t_d (by first | rfl | simp)).trans h241
      obtain ⟨a269, rfl, t270⟩ := q267
      show V _ _ _ _ _ _ _ _ _ _ _ _ _ _ _ _ _ _ [.ref a269]
      refine v_aload_n B dX11_obeyLinkControl_140 rfl rfl ?_
      refine u_getN B Z (C := RX3) (T := TX3) (N := 19) (ci := 3) hi_Low_obeyLinkControl_X3 t_d h268 rfl 10 (by decide +kernel) (List.mem_of_getElem? (i := 2) rfl) rfl dX11_obeyLinkControl_141 ?_
      refine v_bipush B (v := iI 8) dX11_obeyLinkControl_144 (by decide +kernel) ?_
      refine u_callVv B Z hz (n := 2) (As := [.long (lI yy232), .int (iI 8)]) (rest := []) (c_Row_putNumber l D K Z _ _ _ _ a269 yy232 8 t270 ⟨by omega, by omega⟩ ⟨by omega, by omega⟩ σ261 G264) gd_Low_obeyLinkControl_Row_putNumber_160 rfl rfl rfl (by decide +kernel) ⟨Nat.le_trans (by decide +kernel) hR.1, Nat.le_trans (by decide +kernel) hR.2⟩ t270 (cls_Row G264 t270) rfl rfl rfl rfl (Nat.le_of_ble_eq_true rfl) dX11_obeyLinkControl_146 ⟨Nat.zero_le _, Nat.zero_le _⟩ (fun σ271 p272 => ?_)
      obtain ⟨G274, F275⟩ := p272
      have F276 := F266.call F275 (by first | rfl | simp)
      have h277 := (F275 d _ t_d (by first | rfl | simp)).trans h268
      refine v_goto B (tgt := 214) dX11_obeyLinkControl_149 (by decide +kernel) ?_
      exact hend σ271 _ _ G274 F276 dX11_obeyLinkControl_214
    | 8, o4, x5 =>
      replace o4 : o2 = 151 := by simp at o4; omega
      obtain rfl : g3 = 152 := by omega
      refine v_aload_n B dX11_obeyLinkControl_152 rfl rfl ?_
      obtain ⟨z278, yy279, z280, z281, z282, z283, a284, z285, yy286, a287, yy288, a289, a290, a291, a292, a293, a294, a295, a296, h297, r298, r299, r300, r301, r302, r303, t304, r305, r306, t307, r308, t309, t310, t311, t312, t313, t314, t315, t316⟩ : okDevice τ (σ0 d) := G0 d _ t_d
      refine u_getN B Z (C := RX3) (T := TX3) (N := 19) (ci := 3) hi_Low_obeyLinkControl_X3 t_d h297 rfl 17 (by decide +kernel) (List.mem_of_getElem? (i := 25) rfl) rfl dX11_obeyLinkControl_153 ?_
      refine v_bipush B (v := iI 15) dX11_obeyLinkControl_156 (by decide +kernel) ?_
      refine v_iconst B (v := iI 0) dX11_obeyLinkControl_158 rfl ?_
      refine v_iconst B (v := iI 0) dX11_obeyLinkControl_159 rfl ?_
      refine v_aload_n B dX11_obeyLinkControl_160 rfl rfl ?_
      refine v_iconst B (v := iI 1) dX11_obeyLinkControl_161 rfl ?_
      refine v_bipush B (v := iI 8) dX11_obeyLinkControl_162 (by decide +kernel) ?_
      refine u_callVv B Z hz (n := 6) (As := [.int (iI 15), .int (iI 0), .int (iI 0), .ref g, .int (iI 1), .int (iI 8)]) (rest := []) (c_Diary_noteBytes l D K Z _ _ _ _ a295 15 0 0 g 1 8 t315 ⟨by omega, by omega⟩ ⟨by omega, by omega⟩ ⟨by omega, by omega⟩ t_g ⟨by omega, by omega⟩ ⟨by omega, by omega⟩ σ0 G0) gd_Low_obeyLinkControl_Diary_noteBytes_586 rfl rfl rfl (by decide +kernel) ⟨Nat.le_trans (by decide +kernel) hR.1, Nat.le_trans (by decide +kernel) hR.2⟩ t315 (cls_Diary G0 t315) rfl rfl rfl rfl (Nat.le_of_ble_eq_true rfl) dX11_obeyLinkControl_164 ⟨Nat.zero_le _, Nat.zero_le _⟩ (fun σ317 p318 => ?_)
      obtain ⟨G320, F321⟩ := p318
      have F322 := F0.call F321 (by first | rfl | simp)
      have h323 := (F321 d _ t_d (by first | rfl | simp)).trans h297
      refine v_goto B (tgt := 214) dX11_obeyLinkControl_167 (by decide +kernel) ?_
      exact hend σ317 _ _ G320 F322 dX11_obeyLinkControl_214
    | 9, o4, x5 =>
      replace o4 : o2 = 213 := by simp at o4; omega
      obtain rfl : g3 = 214 := by omega
      exact hend σ0 _ _ G0 F0 dX11_obeyLinkControl_214
    | 10, o4, x5 =>
      replace o4 : o2 = 213 := by simp at o4; omega
      obtain rfl : g3 = 214 := by omega
      exact hend σ0 _ _ G0 F0 dX11_obeyLinkControl_214
    | 11, o4, x5 =>
      replace o4 : o2 = 169 := by simp at o4; omega
      obtain rfl : g3 = 170 := by omega
      refine v_aload_n B dX11_obeyLinkControl_170 rfl rfl ?_
      obtain ⟨z324, yy325, z326, z327, z328, z329, a330, z331, yy332, a333, yy334, a335, a336, a337, a338, a339, a340, a341, a342, h343, r344, r345, r346, r347, r348, r349, t350, r351, r352, t353, r354, t355, t356, t357, t358, t359, t360, t361, t362⟩ : okDevice τ (σ0 d) := G0 d _ t_d
      refine u_getN B Z (C := RX3) (T := TX3) (N := 19) (ci := 3) hi_Low_obeyLinkControl_X3 t_d h343 rfl 17 (by decide +kernel) (List.mem_of_getElem? (i := 25) rfl) rfl dX11_obeyLinkControl_171 ?_
      refine v_bipush B (v := iI 14) dX11_obeyLinkControl_174 (by decide +kernel) ?_
      refine v_aload_n B dX11_obeyLinkControl_176 rfl rfl ?_
      refine v_iconst B (v := iI 1) dX11_obeyLinkControl_177 rfl ?_
      refine u_callVi B Z hz (n := 1) (As := [.int (iI 1)]) (rest := [.int (iI 14), .ref a341]) (c_Row_at l D K Z _ _ _ _ g 1 t_g ⟨by omega, by omega⟩ σ0 G0) gd_Low_obeyLinkControl_Row_at_291 rfl rfl rfl (by decide +kernel) ⟨Nat.le_trans (by decide +kernel) hR.1, Nat.le_trans (by decide +kernel) hR.2⟩ t_g (cls_Row G0 t_g) rfl rfl rfl rfl (Nat.le_of_ble_eq_true rfl) dX11_obeyLinkControl_178 ⟨Nat.zero_le _, Nat.zero_le _⟩ (fun v365 σ363 p364 => ?_)
      obtain ⟨rfl, z369, e370, r371⟩ := p364
      subst e370
      refine v_aload_n B dX11_obeyLinkControl_181 rfl rfl ?_
      refine v_iconst B (v := iI 2) dX11_obeyLinkControl_182 rfl ?_
      refine u_callVi B Z hz (n := 1) (As := [.int (iI 2)]) (rest := [.int (iI z369), .int (iI 14), .ref a341]) (c_Row_two l D K Z _ _ _ _ g 2 t_g ⟨by omega, by omega⟩ σ0 G0) gd_Low_obeyLinkControl_Row_two_576 rfl rfl rfl (by decide +kernel) ⟨Nat.le_trans (by decide +kernel) hR.1, Nat.le_trans (by decide +kernel) hR.2⟩ t_g (cls_Row G0 t_g) rfl rfl rfl rfl (Nat.le_of_ble_eq_true rfl) dX11_obeyLinkControl_183 ⟨Nat.zero_le _, Nat.zero_le _⟩ (fun v374 σ372 p373 => ?_)
      obtain ⟨rfl, z378, e379, r380⟩ := p373
      subst e379
      refine v_aload_n B dX11_obeyLinkControl_186 rfl rfl ?_
      refine v_iconst B (v := iI 4) dX11_obeyLinkControl_187 rfl ?_
      refine u_callVi B Z hz (n := 1) (As := [.int (iI 4)]) (rest := [.int (iI z378), .int (iI z369), .int (iI 14), .ref a341]) (c_Row_two l D K Z _ _ _ _ g 4 t_g ⟨by omega, by omega⟩ σ0 G0) gd_Low_obeyLinkControl_Row_two_576 rfl rfl rfl (by decide +kernel) ⟨Nat.le_trans (by decide +kernel) hR.1, Nat.le_trans (by decide +kernel) hR.2⟩ t_g (cls_Row G0 t_g) rfl rfl rfl rfl (Nat.le_of_ble_eq_true rfl) dX11_obeyLinkControl_188 ⟨Nat.zero_le _, Nat.zero_le _⟩ (fun v383 σ381 p382 => ?_)
      obtain ⟨rfl, z387, e388, r389⟩ := p382
      subst e388
      refine u_callVv B Z hz (n := 4) (As := [.int (iI 14), .int (iI z369), .int (iI z378), .int (iI z387)]) (rest := []) (c_Diary_note l D K Z _ _ _ _ a341 14 z369 z378 z387 t361 ⟨by omega, by omega⟩ ⟨by omega, by omega⟩ ⟨by omega, by omega⟩ ⟨by omega, by omega⟩ σ0 G0) gd_Low_obeyLinkControl_Diary_note_582 rfl rfl rfl (by decide +kernel) ⟨Nat.le_trans (by decide +kernel) hR.1, Nat.le_trans (by decide +kernel) hR.2⟩ t361 (cls_Diary G0 t361) rfl rfl rfl rfl (Nat.le_of_ble_eq_true rfl) dX11_obeyLinkControl_191 ⟨Nat.zero_le _, Nat.zero_le _⟩ (fun σ390 p391 => ?_)
      obtain ⟨G393, F394⟩ := p391
      have F395 := F0.call F394 (by first | rfl | simp)
      have h396 := (F394 d _ t_d (by first | rfl | simp)).trans h343
      refine v_aload_n B dX11_obeyLinkControl_194 rfl rfl ?_
      refine u_getN B Z (C := RX3) (T := TX3) (N := 19) (ci := 3) hi_Low_obeyLinkControl_X3 t_d h396 rfl 12 (by decide +kernel) (List.mem_of_getElem? (i := 5) rfl) rfl dX11_obeyLinkControl_195 ?_
      obtain ⟨a397, z398, z399, a400, z401, z402, z403, a404, z405, z406, z407, a408, z409, a410, z411, a412, h413, t414, r415, r416, t417, r418, r419, r420, t421, r422, r423, r424, t425, r426, t427, r428, t429⟩ : okMail τ (σ390 a336) := G393 a336 _ t356
      refine u_getN B Z (C := RX7) (T := TX7) (N := 16) (ci := 7) hi_Low_obeyLinkControl_X7 t356 h413 rfl 6 (by decide +kernel) (List.mem_of_getElem? (i := 6) rfl) rfl dX11_obeyLinkControl_198 ?_
      refine u_if_ne B (tgt := 214) (by omega) dX11_obeyLinkControl_201 (by decide +kernel) (fun c430 => ?_) (fun c430 => ?_)
      · exact hend σ390 _ _ G393 F395 dX11_obeyLinkControl_214
      · refine v_aload_n B dX11_obeyLinkControl_204 rfl rfl ?_
        refine u_getN B Z (C := RX3) (T := TX3) (N := 19) (ci := 3) hi_Low_obeyLinkControl_X3 t_d h396 rfl 12 (by decide +kernel) (List.mem_of_getElem? (i := 5) rfl) rfl dX11_obeyLinkControl_205 ?_
        refine u_callVv B Z hz (n := 0) (As := []) (rest := []) (c_Mail_addVersion l D K Z _ _ _ _ a336 t356 σ390 G393) gd_Low_obeyLinkControl_Mail_addVersion_154 rfl rfl rfl (by decide +kernel) ⟨Nat.le_trans (by decide +kernel) hR.1, Nat.le_trans (by decide +kernel) hR.2⟩ t356 (cls_Mail G393 t356) rfl rfl rfl rfl (Nat.le_of_ble_eq_true rfl) dX11_obeyLinkControl_208 ⟨Nat.zero_le _, Nat.zero_le _⟩ (fun σ431 p432 => ?_)
        obtain ⟨G434, F435⟩ := p432
        have F436 := F395.call F435 (by first | rfl | simp)
        have h437 := (F435 d _ t_d (by first | rfl | simp)).trans h396
        refine v_goto B (tgt := 214) dX11_obeyLinkControl_211 (by decide +kernel) ?_
        exact hend σ431 _ _ G434 F436 dX11_obeyLinkControl_214
    | i1 + 12, o4, x5 => exact absurd (o4.symm.trans (Array.getElem?_eq_none (by simp))) (by simp)
  · intro x5
    exact hend σ0 _ _ G0 F0 dX11_obeyLinkControl_214
set_option maxRecDepth 100000 in
theorem c_Low_obeyLinkControl (l : Launch) (D : va_G) (K : Nat → ClassId) {τ : Nat → Option Ty} {dom : List Nat} (Z : Sk τ dom) (zb zL : Nat) (zx : Nat → Int32) (zs : Nat → Nat) (d : Nat) (x1 : Int) (g : Nat) (t_d : τ d = some (33, 0, 0)) (r_x1 : -2147483648 ≤ x1 ∧ x1 ≤ 2147483647) (t_g : τ g = some (1, 5, 0)) (σ0 : Nat → va_E) (G0 : Good K τ σ0) : MZ l yX11_obeyLinkControl wp_Low_obeyLinkControl ({ frames := 3, cells := 0, slots := 0, locals := 72 }) D (tysA K) [.ref d, .int (iI x1), .ref g] (fd dom σ0) zb zL zx zs (Qv D (fun σ' => Good K τ σ' ∧ Fr τ [(36, 0), (3, 23), (3, 22), (1, 16), (34, 0), (37, 0), (1, 9), (2, 9), (2, 16)] σ0 σ') (fun σ' => fd dom σ')) 0 0 := by
  refine mz_of (cc := cX11_obeyLinkControl) (maxL := 3) (ret := none) (by decide +kernel) rfl (Nat.le_of_ble_eq_true rfl) ?_
  intro p e s m below meth c A B hr hlk _ hz
  exact b_Low_obeyLinkControl ⟨Nat.le_refl _, Nat.le_refl _⟩ B Z hz d x1 g t_d r_x1 t_g σ0 G0 (fun σ' lv pc G F hd => v_vret B hr hlk σ' ⟨G, F⟩ rfl (Nat.le_refl _) (Nat.le_refl _) hd)

def wp_Low_answerSessionRequest : List Cond := .code yX11_answerSessionRequest cX11_answerSessionRequest 2 none :: (([.methodLink RX11 593 yX5_takeSessionParts, .instanceMethod yX5_takeSessionParts, .selects RX5 yX5_takeSessionParts yX5_takeSessionParts, .initialized RX5, .code yX5_takeSessionParts cX5_takeSessionParts 4 none, .methodLink RX5 67 yX9_at, .instanceMethod yX9_at, .selects RX9 yX9_at yX9_at, .initialized RX9, .code yX9_at cX9_at 2 (some .int), .fieldLink RX9 21 "LowEnergy$Row" "size" "I", .fieldLink RX9 15 "LowEnergy$Row" "bytes" "[I", .fieldLink RX5 19 "LowEnergy$Guard" "iv" "[I", .fieldLink RX5 13 "LowEnergy$Guard" "diversifier" "[I", .methodLink RX11 208 yX3_drawInto, .instanceMethod yX3_drawInto, .selects RX3 yX3_drawInto yX3_drawInto, .initialized RX3, .code yX3_drawInto cX3_drawInto 5 none, .methodLink RX3 89 yX3_draw, .instanceMethod yX3_draw, .selects RX3 yX3_draw yX3_draw, .code yX3_draw cX3_draw 1 (some .int), .fieldLink RX3 69 "LowEnergy$Device" "x" "I", .constant RX3 88 (1103515245), .methodLink RX11 157 yX7_newControl, .instanceMethod yX7_newControl, .selects RX7 yX7_newControl yX7_newControl, .initialized RX7, .code yX7_newControl cX7_newControl 3 (some (.object "LowEnergy$Row")), .methodLink RX7 62 yX9_clear, .instanceMethod yX9_clear, .selects RX9 yX9_clear yX9_clear, .code yX9_clear cX9_clear 1 none, .methodLink RX7 71 yX9_put, .instanceMethod yX9_put, .selects RX9 yX9_put yX9_put, .code yX9_put cX9_put 2 none, .fieldLink RX7 33 "LowEnergy$Mail" "spare" "LLowEnergy$Row;", .fieldLink RX7 43 "LowEnergy$Mail" "controlCount" "I", .fieldLink RX7 20 "LowEnergy$Mail" "controls" "[LLowEnergy$Row;", .fieldLink RX7 39 "LowEnergy$Mail" "controlHead" "I", .methodLink RX11 215 yX5_putSessionParts, .instanceMethod yX5_putSessionParts, .selects RX5 yX5_putSessionParts yX5_putSessionParts, .code yX5_putSessionParts cX5_putSessionParts 4 none, .methodLink RX5 61 yX9_put, .methodLink RX11 596 yX5_makeSession, .instanceMethod yX5_makeSession, .selects RX5 yX5_makeSession yX5_makeSession, .code yX5_makeSession cX5_makeSession 2 none, .fieldLink RX5 28 "LowEnergy$Guard" "cipher" "LLowEnergy$Cipher;", .fieldLink RX5 7 "LowEnergy$Guard" "key" "[I", .methodLink RX5 71 yX1_loadKey, .instanceMethod yX1_loadKey, .selects RX1 yX1_loadKey yX1_loadKey, .initialized RX1, .code yX1_loadKey cX1_loadKey 6 none, .fieldLink RX1 9 "LowEnergy$Cipher" "roundKeys" "[I", .fieldLink RX1 16 "LowEnergy$Cipher" "SBOX" "[I", .fieldLink RX5 16 "LowEnergy$Guard" "session" "[I", .methodLink RX5 77 yX1_encipher, .instanceMethod yX1_encipher, .selects RX1 yX1_encipher yX1_encipher, .code yX1_encipher cX1_encipher 7 none, .fieldLink RX1 13 "LowEnergy$Cipher" "moved" "[I", .fieldLink RX5 32 "LowEnergy$Guard" "hasSession" "Z", .methodLink RX11 164 yX9_put] : List Cond) ++ (wsX30 ++ (wsX50 ++ (wsX90 ++ (wsX70 ++ (wsX10 ++ ([])))))))
theorem hi_Low_answerSessionRequest_X3 : ∀ x ∈ u_ws RX3 TX3 19, x ∈ wp_Low_answerSessionRequest := fun _ h => List.mem_cons_of_mem _ (List.mem_append_right _ (List.mem_append_left _ h))
theorem hi_Low_answerSessionRequest_X5 : ∀ x ∈ u_ws RX5 TX5 16, x ∈ wp_Low_answerSessionRequest := fun _ h => List.mem_cons_of_mem _ (List.mem_append_right _ (List.mem_append_right _ (List.mem_append_left _ h)))
theorem hi_Low_answerSessionRequest_X9 : ∀ x ∈ u_ws RX9 TX9 2, x ∈ wp_Low_answerSessionRequest := fun _ h => List.mem_cons_of_mem _ (List.mem_append_right _ (List.mem_append_right _ (List.mem_append_right _ (List.mem_append_left _ h))))
theorem hi_Low_answerSessionRequest_X7 : ∀ x ∈ u_ws RX7 TX7 16, x ∈ wp_Low_answerSessionRequest := fun _ h => List.mem_cons_of_mem _ (List.mem_append_right _ (List.mem_append_right _ (List.mem_append_right _ (List.mem_append_right _ (List.mem_append_left _ h)))))
theorem hi_Low_answerSessionRequest_X1 : ∀ x ∈ u_ws RX1 TX1 2, x ∈ wp_Low_answerSessionRequest := fun _ h => List.mem_cons_of_mem _ (List.mem_append_right _ (List.mem_append_right _ (List.mem_append_right _ (List.mem_append_right _ (List.mem_append_right _ (List.mem_append_left _ h))))))
set_option maxRecDepth 100000 in
theorem gd_Low_answerSessionRequest_Guard_takeSessionParts_593 : GoodIn wp_Low_answerSessionRequest (wsV RX11 593 RX5 yX5_takeSessionParts wp_Guard_takeSessionParts) := goodIn_app (goodIn_r _ [1, 2, 3, 4] rfl rfl) (goodIn_ca (goodIn_r _ [5, 6, 7, 8, 9, 10, 11, 12, 13, 14] rfl rfl) (goodIn_app (goodIn_cls hi_Low_answerSessionRequest_X9 gw_X9) (goodIn_app (goodIn_cls hi_Low_answerSessionRequest_X5 gw_X5) (goodIn_nil))))
set_option maxRecDepth 100000 in
theorem gd_Low_answerSessionRequest_drawIntoP_208 : GoodIn wp_Low_answerSessionRequest (wsV RX11 208 RX3 yX3_drawInto wp_drawIntoP) := goodIn_app (goodIn_r _ [15, 16, 17, 18] rfl rfl) (goodIn_ca (goodIn_r _ [19, 20, 21, 22, 18, 23, 24, 25] rfl rfl) (goodIn_app (goodIn_cls hi_Low_answerSessionRequest_X3 gw_X3) (goodIn_nil)))
set_option maxRecDepth 100000 in
theorem gd_Low_answerSessionRequest_Mail_newControl_157 : GoodIn wp_Low_answerSessionRequest (wsV RX11 157 RX7 yX7_newControl wp_Mail_newControl) := goodIn_app (goodIn_r _ [26, 27, 28, 29] rfl rfl) (goodIn_ca (goodIn_r _ [30, 31, 32, 33, 9, 34, 11, 35, 36, 37, 38, 12, 39, 40, 41, 42] rfl rfl) (goodIn_app (goodIn_cls hi_Low_answerSessionRequest_X9 gw_X9) (goodIn_app (goodIn_cls hi_Low_answerSessionRequest_X7 gw_X7) (goodIn_nil))))
set_option maxRecDepth 100000 in
theorem gd_Low_answerSessionRequest_Guard_putSessionParts_215 : GoodIn wp_Low_answerSessionRequest (wsV RX11 215 RX5 yX5_putSessionParts wp_Guard_putSessionParts) := goodIn_app (goodIn_r _ [43, 44, 45, 4] rfl rfl) (goodIn_ca (goodIn_r _ [46, 47, 36, 37, 9, 38, 11, 12, 13, 14] rfl rfl) (goodIn_app (goodIn_cls hi_Low_answerSessionRequest_X9 gw_X9) (goodIn_app (goodIn_cls hi_Low_answerSessionRequest_X5 gw_X5) (goodIn_nil))))
set_option maxRecDepth 100000 in
theorem gd_Low_answerSessionRequest_Guard_makeSession_596 : GoodIn wp_Low_answerSessionRequest (wsV RX11 596 RX5 yX5_makeSession wp_Guard_makeSession) := goodIn_app (goodIn_r _ [48, 49, 50, 4] rfl rfl) (goodIn_ca (goodIn_r _ [51, 52, 53, 54, 55, 56, 57, 58, 59, 60, 61, 62, 63, 64, 65, 66, 67, 14] rfl rfl) (goodIn_app (goodIn_cls hi_Low_answerSessionRequest_X5 gw_X5) (goodIn_app (goodIn_cls hi_Low_answerSessionRequest_X1 gw_X1) (goodIn_nil))))
set_option maxRecDepth 100000 in
theorem gd_Low_answerSessionRequest_Row_put_164 : GoodIn wp_Low_answerSessionRequest (wsV RX11 164 RX9 yX9_put wp_Row_put) := goodIn_app (goodIn_r _ [68, 36, 37, 9] rfl rfl) (goodIn_ca (goodIn_r _ [38, 11, 12] rfl rfl) (goodIn_app (goodIn_cls hi_Low_answerSessionRequest_X9 gw_X9) (goodIn_nil)))
set_option maxHeartbeats 4000000 in
set_option maxRecDepth 100000 in
theorem b_Low_answerSessionRequest {p : Program} {l : Launch} {e : Env} {R : Room} {s : State} {m : MethodId} {args : Array Value} {below : List Frame} {meth : Method} {c : Code} {D : va_G} {K : Nat → ClassId} {A : Nat → Prop} {Q : State → Prop} {τ : Nat → Option Ty} {dom : List Nat} {zb zL : Nat} {zx : Nat → Int32} {zs : Nat → Nat} (hR : 2 ≤ R.frames ∧ 47 ≤ R.locals) (B : Bx p s m args c cX11_answerSessionRequest 2 RX11 wp_Low_answerSessionRequest D (tysA K) A) (Z : Sk τ dom) (hz : ZL zb zL zx zs A s s.heap) (d : Nat) (g : Nat) (t_d : τ d = some (33, 0, 0)) (t_g : τ g = some (1, 5, 0)) (σ0 : Nat → va_E) (G0 : Good K τ σ0) (hend : ∀ (σ' : Nat → va_E) (lv : List (Nat × Value)) (pc : Nat), Good K τ σ' → Fr τ [(35, 0), (3, 41), (3, 43), (33, 0), (37, 0), (1, 9), (2, 9), (3, 42), (2, 31), (2, 32)] σ0 σ' → decode cX11_answerSessionRequest pc = .ok (.return_, 1) → V p l e R s m args below meth c 2 D A Q (0, 0) (fd dom σ') lv pc []) : V p l e R s m args below meth c 2 D A Q (0, 0) (fd dom σ0) [(0, .ref d), (1, .ref g)] 0 [] := by
  have F0 : Fr τ [(35, 0), (3, 41), (3, 43), (33, 0), (37, 0), (1, 9), (2, 9), (3, 42), (2, 31), (2, 32)] σ0 σ0 := Fr.rf
  refine v_aload_n B dX11_answerSessionRequest_0 rfl rfl ?_
  obtain ⟨z1, yy2, z3, z4, z5, z6, a7, z8, yy9, a10, yy11, a12, a13, a14, a15, a16, a17, a18, a19, h20, r21, r22, r23, r24, r25, r26, t27, r28, r29, t30, r31, t32, t33, t34, t35, t36, t37, t38, t39⟩ : okDevice τ (σ0 d) := G0 d _ t_d
  refine u_getN B Z (C := RX3) (T := TX3) (N := 19) (ci := 3) hi_Low_answerSessionRequest_X3 t_d h20 rfl 13 (by decide +kernel) (List.mem_of_getElem? (i := 10) rfl) rfl dX11_answerSessionRequest_1 ?_
  obtain ⟨a40, a41, z42, a43, a44, a45, z46, z47, z48, z49, z50, z51, z52, z53, a54, a55, h56, t57, t58, r59, t60, t61, t62, r63, r64, r65, r66, r67, r68, r69, r70, t71, t72⟩ : okGuard τ (σ0 a14) := G0 a14 _ t34
  refine u_getN B Z (C := RX5) (T := TX5) (N := 16) (ci := 5) hi_Low_answerSessionRequest_X5 t34 h56 rfl 2 (by decide +kernel) (List.mem_of_getElem? (i := 11) rfl) rfl dX11_answerSessionRequest_4 ?_
  refine u_if_ne B (tgt := 25) (by omega) dX11_answerSessionRequest_7 (by decide +kernel) (fun c73 => ?_) (fun c73 => ?_)
  · refine v_aload_n B dX11_answerSessionRequest_25 rfl rfl ?_
    refine u_getN B Z (C := RX3) (T := TX3) (N := 19) (ci := 3) hi_Low_answerSessionRequest_X3 t_d h20 rfl 13 (by decide +kernel) (List.mem_of_getElem? (i := 10) rfl) rfl dX11_answerSessionRequest_26 ?_
    refine v_iconst B (v := iI 1) dX11_answerSessionRequest_29 rfl ?_
    refine u_putN B Z (C := RX5) (T := TX5) (N := 16) (ci := 5) hi_Low_answerSessionRequest_X5 t34 h56 rfl 8 (by decide +kernel) tyX5 tyX5_ok nmX5 (List.mem_of_getElem? (i := 13) rfl) rfl (ty := .boolean) (tyX5_ok 8 (by decide +kernel)) (nar01 (by omega)) (fit01 (by omega)) (Nat.le_of_ble_eq_true rfl) (fs' := [.ref a40, .ref a41, .int (iI z42), .ref a43, .ref a44, .ref a45, .int (iI z46), .int (iI z47), .int (iI 1), .int (iI z49), .int (iI z50), .int (iI z51), .int (iI z52), .int (iI z53), .ref a54, .ref a55]) rfl dX11_answerSessionRequest_30 (fun σ74 h75 n76 => ?_)
    have G77 := G0.put t34 (⟨a40, a41, z42, a43, a44, a45, z46, z47, 1, z49, z50, z51, z52, z53, a54, a55, h75, t57, t58, ⟨by omega, by omega⟩, t60, t61, t62, ⟨by omega, by omega⟩, ⟨by omega, by omega⟩, ⟨by omega, by omega⟩, ⟨by omega, by omega⟩, ⟨by omega, by omega⟩, ⟨by omega, by omega⟩, ⟨by omega, by omega⟩, ⟨by omega, by omega⟩, t71, t72⟩ : Ok K τ (35, 0, 0) (σ74 a14)) n76
    have F78 := F0.put t34 (by simp) n76
    have h79 := (n76 d (ne_ty t_d t34 (by simp))).trans h20
    refine v_aload_n B dX11_answerSessionRequest_33 rfl rfl ?_
    refine u_getN B Z (C := RX3) (T := TX3) (N := 19) (ci := 3) hi_Low_answerSessionRequest_X3 t_d h79 rfl 13 (by decide +kernel) (List.mem_of_getElem? (i := 10) rfl) rfl dX11_answerSessionRequest_34 ?_
    refine v_aload_n B dX11_answerSessionRequest_37 rfl rfl ?_
    refine v_iconst B (v := iI 0) dX11_answerSessionRequest_38 rfl ?_
    refine u_callVv B Z hz (n := 2) (As := [.ref g, .int (iI 0)]) (rest := []) (c_Guard_takeSessionParts l D K Z _ _ _ _ a14 g 0 t34 t_g ⟨by omega, by omega⟩ σ74 G77) gd_Low_answerSessionRequest_Guard_takeSessionParts_593 rfl rfl rfl (by decide +kernel) ⟨Nat.le_trans (by decide +kernel) hR.1, Nat.le_trans (by decide +kernel) hR.2⟩ t34 (cls_Guard G77 t34) rfl rfl rfl rfl (Nat.le_of_ble_eq_true rfl) dX11_answerSessionRequest_39 ⟨Nat.zero_le _, Nat.zero_le _⟩ (fun σ80 p81 => ?_)
    obtain ⟨G83, F84⟩ := p81
    have F85 := F78.call F84 (by first | rfl | simp)
    have h86 := (F84 d _ t_d (by first | rfl | simp)).trans h79
    have h87 := (F84 a14 _ t34 (by first | rfl | simp)).trans h75
    refine v_aload_n B dX11_answerSessionRequest_42 rfl rfl ?_
    refine v_aload_n B dX11_answerSessionRequest_43 rfl rfl ?_
    refine u_getN B Z (C := RX3) (T := TX3) (N := 19) (ci := 3) hi_Low_answerSessionRequest_X3 t_d h86 rfl 13 (by decide +kernel) (List.mem_of_getElem? (i := 10) rfl) rfl dX11_answerSessionRequest_44 ?_
    refine u_getN B Z (C := RX5) (T := TX5) (N := 16) (ci := 5) hi_Low_answerSessionRequest_X5 t34 h87 rfl 3 (by decide +kernel) (List.mem_of_getElem? (i := 16) rfl) rfl dX11_answerSessionRequest_47 ?_
    refine v_bipush B (v := iI 8) dX11_answerSessionRequest_50 (by decide +kernel) ?_
    refine v_bipush B (v := iI 8) dX11_answerSessionRequest_52 (by decide +kernel) ?_
    refine u_callVv B Z hz (n := 3) (As := [.ref a43, .int (iI 8), .int (iI 8)]) (rest := []) (c_drawIntoP l D K Z _ _ _ _ d a43 8 8 t_d t60 ⟨by omega, by omega⟩ ⟨by omega, by omega⟩ σ80 G83) gd_Low_answerSessionRequest_drawIntoP_208 rfl rfl rfl (by decide +kernel) ⟨Nat.le_trans (by decide +kernel) hR.1, Nat.le_trans (by decide +kernel) hR.2⟩ t_d (cls_Device G83 t_d) rfl rfl rfl rfl (Nat.le_of_ble_eq_true rfl) dX11_answerSessionRequest_54 ⟨Nat.zero_le _, Nat.zero_le _⟩ (fun σ88 p89 => ?_)
    obtain ⟨G91, F92⟩ := p89
    have F93 := F85.call F92 (by first | rfl | simp)
    have h94 := (F92 a14 _ t34 (by first | rfl | simp)).trans h87
    refine v_aload_n B dX11_answerSessionRequest_57 rfl rfl ?_
    refine v_aload_n B dX11_answerSessionRequest_58 rfl rfl ?_
    obtain ⟨z95, yy96, z97, z98, z99, z100, a101, z102, yy103, a104, yy105, a106, a107, a108, a109, a110, a111, a112, a113, h114, r115, r116, r117, r118, r119, r120, t121, r122, r123, t124, r125, t126, t127, t128, t129, t130, t131, t132, t133⟩ : okDevice τ (σ88 d) := G91 d _ t_d
    refine u_getN B Z (C := RX3) (T := TX3) (N := 19) (ci := 3) hi_Low_answerSessionRequest_X3 t_d h114 rfl 13 (by decide +kernel) (List.mem_of_getElem? (i := 10) rfl) rfl dX11_answerSessionRequest_59 ?_
    obtain ⟨a134, a135, z136, a137, a138, a139, z140, z141, z142, z143, z144, z145, z146, z147, a148, a149, h150, t151, t152, r153, t154, t155, t156, r157, r158, r159, r160, r161, r162, r163, r164, t165, t166⟩ : okGuard τ (σ88 a108) := G91 a108 _ t128
    refine u_getN B Z (C := RX5) (T := TX5) (N := 16) (ci := 5) hi_Low_answerSessionRequest_X5 t128 h150 rfl 5 (by decide +kernel) (List.mem_of_getElem? (i := 17) rfl) rfl dX11_answerSessionRequest_62 ?_
    refine v_iconst B (v := iI 4) dX11_answerSessionRequest_65 rfl ?_
    refine v_iconst B (v := iI 4) dX11_answerSessionRequest_66 rfl ?_
    refine u_callVv B Z hz (n := 3) (As := [.ref a139, .int (iI 4), .int (iI 4)]) (rest := []) (c_drawIntoP l D K Z _ _ _ _ d a139 4 4 t_d t156 ⟨by omega, by omega⟩ ⟨by omega, by omega⟩ σ88 G91) gd_Low_answerSessionRequest_drawIntoP_208 rfl rfl rfl (by decide +kernel) ⟨Nat.le_trans (by decide +kernel) hR.1, Nat.le_trans (by decide +kernel) hR.2⟩ t_d (cls_Device G91 t_d) rfl rfl rfl rfl (Nat.le_of_ble_eq_true rfl) dX11_answerSessionRequest_67 ⟨Nat.zero_le _, Nat.zero_le _⟩ (fun σ167 p168 => ?_)
    obtain ⟨G170, F171⟩ := p168
    have F172 := F93.call F171 (by first | rfl | simp)
    have h173 := (F171 a14 _ t34 (by first | rfl | simp)).trans h94
    have h174 := (F171 a108 _ t128 (by first | rfl | simp)).trans h150
    refine v_aload_n B dX11_answerSessionRequest_70 rfl rfl ?_
    obtain ⟨z175, yy176, z177, z178, z179, z180, a181, z182, yy183, a184, yy185, a186, a187, a188, a189, a190, a191, a192, a193, h194, r195, r196, r197, r198, r199, r200, t201, r202, r203, t204, r205, t206, t207, t208, t209, t210, t211, t212, t213⟩ : okDevice τ (σ167 d) := G170 d _ t_d
    refine u_getN B Z (C := RX3) (T := TX3) (N := 19) (ci := 3) hi_Low_answerSessionRequest_X3 t_d h194 rfl 13 (by decide +kernel) (List.mem_of_getElem? (i := 10) rfl) rfl dX11_answerSessionRequest_71 ?_
    refine v_aload_n B dX11_answerSessionRequest_74 rfl rfl ?_
    refine u_getN B Z (C := RX3) (T := TX3) (N := 19) (ci := 3) hi_Low_answerSessionRequest_X3 t_d h194 rfl 12 (by decide +kernel) (List.mem_of_getElem? (i := 5) rfl) rfl dX11_answerSessionRequest_75 ?_
    refine v_iconst B (v := iI 4) dX11_answerSessionRequest_78 rfl ?_
    refine u_callVq B Z hz (n := 1) (As := [.int (iI 4)]) (rest := [.ref a188]) (c_Mail_newControl l D K Z _ _ _ _ a187 4 t207 ⟨by omega, by omega⟩ σ167 G170) gd_Low_answerSessionRequest_Mail_newControl_157 rfl rfl rfl (by decide +kernel) ⟨Nat.le_trans (by decide +kernel) hR.1, Nat.le_trans (by decide +kernel) hR.2⟩ t207 (cls_Mail G170 t207) rfl rfl rfl rfl (Nat.le_of_ble_eq_true rfl) dX11_answerSessionRequest_79 ⟨Nat.zero_le _, Nat.zero_le _⟩ (fun v216 σ214 p215 => ?_)
    obtain ⟨G217, F218, q220⟩ := p215
    have F219 := F172.call F218 (by first | rfl | simp)
    have h221 := (F218 a14 _ t34 (by first | rfl | simp)).trans h173
    have h222 := (F218 a108 _ t128 (by first | rfl | simp)).trans h174
    have h223 := (F218 d _ t_d (by first | rfl | simp)).trans h194
    obtain ⟨a224, rfl, t225⟩ := q220
    show V _ _ _ _ _ _ _ _ _ _ _ _ _ _ _ _ _ _ [.ref a224, .ref a188]
    refine v_iconst B (v := iI 1) dX11_answerSessionRequest_82 rfl ?_
    refine u_callVv B Z hz (n := 2) (As := [.ref a224, .int (iI 1)]) (rest := []) (c_Guard_putSessionParts l D K Z _ _ _ _ a188 a224 1 t208 t225 ⟨by omega, by omega⟩ σ214 G217) gd_Low_answerSessionRequest_Guard_putSessionParts_215 rfl rfl rfl (by decide +kernel) ⟨Nat.le_trans (by decide +kernel) hR.1, Nat.le_trans (by decide +kernel) hR.2⟩ t208 (cls_Guard G217 t208) rfl rfl rfl rfl (Nat.le_of_ble_eq_true rfl) dX11_answerSessionRequest_83 ⟨Nat.zero_le _, Nat.zero_le _⟩ (fun σ226 p227 => ?_)
    obtain ⟨G229, F230⟩ := p227
    have F231 := F219.call F230 (by first | rfl | simp)
    have h232 := (F230 a14 _ t34 (by first | rfl | simp)).trans h221
    have h233 := (F230 a108 _ t128 (by first | rfl | simp)).trans h222
    have h234 := (F230 d _ t_d (by first | rfl | simp)).trans h223
    refine v_aload_n B dX11_answerSessionRequest_86 rfl rfl ?_
    refine u_getN B Z (C := RX3) (T := TX3) (N := 19) (ci := 3) hi_Low_answerSessionRequest_X3 t_d h234 rfl 12 (by decide +kernel) (List.mem_of_getElem? (i := 5) rfl) rfl dX11_answerSessionRequest_87 ?_
    refine v_iconst B (v := iI 5) dX11_answerSessionRequest_90 rfl ?_
    refine u_callVq B Z hz (n := 1) (As := [.int (iI 5)]) (rest := []) (c_Mail_newControl l D K Z _ _ _ _ a187 5 t207 ⟨by omega, by omega⟩ σ226 G229) gd_Low_answerSessionRequest_Mail_newControl_157 rfl rfl rfl (by decide +kernel) ⟨Nat.le_trans (by decide +kernel) hR.1, Nat.le_trans (by decide +kernel) hR.2⟩ t207 (cls_Mail G229 t207) rfl rfl rfl rfl (Nat.le_of_ble_eq_true rfl) dX11_answerSessionRequest_91 ⟨Nat.zero_le _, Nat.zero_le _⟩ (fun v237 σ235 p236 => ?_)
    obtain ⟨G238, F239, q241⟩ := p236
    have F240 := F231.call F239 (by first | rfl | simp)
    have h242 := (F239 a14 _ t34 (by first | rfl | simp)).trans h232
    have h243 := (F239 a108 _ t128 (by first | rfl | simp)).trans h233
    have h244 := (F239 d _ t_d (by first | rfl | simp)).trans h234
    obtain ⟨a245, rfl, t246⟩ := q241
    show V _ _ _ _ _ _ _ _ _ _ _ _ _ _ _ _ _ _ [.ref a245]
    refine v_pop B dX11_answerSessionRequest_94 rfl ?_
    refine v_aload_n B dX11_answerSessionRequest_95 rfl rfl ?_
    refine u_getN B Z (C := RX3) (T := TX3) (N := 19) (ci := 3) hi_Low_answerSessionRequest_X3 t_d h244 rfl 13 (by decide +kernel) (List.mem_of_getElem? (i := 10) rfl) rfl dX11_answerSessionRequest_96 ?_
    refine u_callVv B Z hz (n := 0) (As := []) (rest := []) (c_Guard_makeSession l D K Z _ _ _ _ a188 t208 σ235 G238) gd_Low_answerSessionRequest_Guard_makeSession_596 rfl rfl rfl (by decide +kernel) ⟨Nat.le_trans (by decide +kernel) hR.1, Nat.le_trans (by decide +kernel) hR.2⟩ t208 (cls_Guard G238 t208) rfl rfl rfl rfl (Nat.le_of_ble_eq_true rfl) dX11_answerSessionRequest_99 ⟨Nat.zero_le _, Nat.zero_le _⟩ (fun σ247 p248 => ?_)
    obtain ⟨G250, F251⟩ := p248
    have F252 := F240.call F251 (by first | rfl | simp)
    have h253 := (F251 d _ t_d (by first | rfl | simp)).trans h244
    exact hend σ247 _ _ G250 F252 dX11_answerSessionRequest_102
  · refine v_aload_n B dX11_answerSessionRequest_10 rfl rfl ?_
    refine u_getN B Z (C := RX3) (T := TX3) (N := 19) (ci := 3) hi_Low_answerSessionRequest_X3 t_d h20 rfl 12 (by decide +kernel) (List.mem_of_getElem? (i := 5) rfl) rfl dX11_answerSessionRequest_11 ?_
    refine v_bipush B (v := iI 13) dX11_answerSessionRequest_14 (by decide +kernel) ?_
    refine u_callVq B Z hz (n := 1) (As := [.int (iI 13)]) (rest := []) (c_Mail_newControl l D K Z _ _ _ _ a13 13 t33 ⟨by omega, by omega⟩ σ0 G0) gd_Low_answerSessionRequest_Mail_newControl_157 rfl rfl rfl (by decide +kernel) ⟨Nat.le_trans (by decide +kernel) hR.1, Nat.le_trans (by decide +kernel) hR.2⟩ t33 (cls_Mail G0 t33) rfl rfl rfl rfl (Nat.le_of_ble_eq_true rfl) dX11_answerSessionRequest_16 ⟨Nat.zero_le _, Nat.zero_le _⟩ (fun v256 σ254 p255 => ?_)
    obtain ⟨G257, F258, q260⟩ := p255
    have F259 := F0.call F258 (by first | rfl | simp)
    have h261 := (F258 d _ t_d (by first | rfl | simp)).trans h20
    have h262 := (F258 a14 _ t34 (by first | rfl | simp)).trans h56
    obtain ⟨a263, rfl, t264⟩ := q260
    show V _ _ _ _ _ _ _ _ _ _ _ _ _ _ _ _ _ _ [.ref a263]
    refine v_bipush B (v := iI 6) dX11_answerSessionRequest_19 (by decide +kernel) ?_
    refine u_callVv B Z hz (n := 1) (As := [.int (iI 6)]) (rest := []) (c_Row_put l D K Z _ _ _ _ a263 6 t264 ⟨by omega, by omega⟩ σ254 G257) gd_Low_answerSessionRequest_Row_put_164 rfl rfl rfl (by decide +kernel) ⟨Nat.le_trans (by decide +kernel) hR.1, Nat.le_trans (by decide +kernel) hR.2⟩ t264 (cls_Row G257 t264) rfl rfl rfl rfl (Nat.le_of_ble_eq_true rfl) dX11_answerSessionRequest_21 ⟨Nat.zero_le _, Nat.zero_le _⟩ (fun σ265 p266 => ?_)
    obtain ⟨G268, F269⟩ := p266
    have F270 := F259.call F269 (by first | rfl | simp)
    have h271 := (F269 d _ t_d (by first | rfl | simp)).trans h261
    have h272 := (F269 a14 _ t34 (by first | rfl | simp)).trans h262
    exact hend σ265 _ _ G268 F270 dX11_answerSessionRequest_24
set_option maxRecDepth 100000 in
theorem c_Low_answerSessionRequest (l : Launch) (D : va_G) (K : Nat → ClassId) {τ : Nat → Option Ty} {dom : List Nat} (Z : Sk τ dom) (zb zL : Nat) (zx : Nat → Int32) (zs : Nat → Nat) (d : Nat) (g : Nat) (t_d : τ d = some (33, 0, 0)) (t_g : τ g = some (1, 5, 0)) (σ0 : Nat → va_E) (G0 : Good K τ σ0) : MZ l yX11_answerSessionRequest wp_Low_answerSessionRequest ({ frames := 2, cells := 0, slots := 0, locals := 47 }) D (tysA K) [.ref d, .ref g] (fd dom σ0) zb zL zx zs (Qv D (fun σ' => Good K τ σ' ∧ Fr τ [(35, 0), (3, 41), (3, 43), (33, 0), (37, 0), (1, 9), (2, 9), (3, 42), (2, 31), (2, 32)] σ0 σ') (fun σ' => fd dom σ')) 0 0 := by
  refine mz_of (cc := cX11_answerSessionRequest) (maxL := 2) (ret := none) (by decide +kernel) rfl (Nat.le_of_ble_eq_true rfl) ?_
  intro p e s m below meth c A B hr hlk _ hz
  exact b_Low_answerSessionRequest ⟨Nat.le_refl _, Nat.le_refl _⟩ B Z hz d g t_d t_g σ0 G0 (fun σ' lv pc G F hd => v_vret B hr hlk σ' ⟨G, F⟩ rfl (Nat.le_refl _) (Nat.le_refl _) hd)

def wp_Low_obeyCipherControl : List Cond := .code yX11_obeyCipherControl cX11_obeyCipherControl 4 none :: (([.methodLink RX11 582 yX4_note, .instanceMethod yX4_note, .selects RX4 yX4_note yX4_note, .initialized RX4, .code yX4_note cX4_note 6 none, .fieldLink RX4 29 "LowEnergy$Diary" "count" "I", .fieldLink RX4 36 "LowEnergy$Diary" "head" "I", .fieldLink RX4 11 "LowEnergy$Diary" "kinds" "[I", .fieldLink RX4 17 "LowEnergy$Diary" "numbers" "[[I", .fieldLink RX4 22 "LowEnergy$Diary" "rows" "[LLowEnergy$Row;", .methodLink RX4 39 yX9_clear, .instanceMethod yX9_clear, .selects RX9 yX9_clear yX9_clear, .initialized RX9, .code yX9_clear cX9_clear 1 none, .fieldLink RX9 21 "LowEnergy$Row" "size" "I", .fieldLink RX4 33 "LowEnergy$Diary" "lost" "I", .methodLink RX11 590 yX11_answerSessionRequest, .static yX11_answerSessionRequest, .initialized RX11, .code yX11_answerSessionRequest cX11_answerSessionRequest 2 none, .methodLink RX11 593 yX5_takeSessionParts, .instanceMethod yX5_takeSessionParts, .selects RX5 yX5_takeSessionParts yX5_takeSessionParts, .initialized RX5, .code yX5_takeSessionParts cX5_takeSessionParts 4 none, .methodLink RX5 67 yX9_at, .instanceMethod yX9_at, .selects RX9 yX9_at yX9_at, .code yX9_at cX9_at 2 (some .int), .fieldLink RX9 15 "LowEnergy$Row" "bytes" "[I", .fieldLink RX5 19 "LowEnergy$Guard" "iv" "[I", .fieldLink RX5 13 "LowEnergy$Guard" "diversifier" "[I", .methodLink RX11 208 yX3_drawInto, .instanceMethod yX3_drawInto, .selects RX3 yX3_drawInto yX3_drawInto, .initialized RX3, .code yX3_drawInto cX3_drawInto 5 none, .methodLink RX3 89 yX3_draw, .instanceMethod yX3_draw, .selects RX3 yX3_draw yX3_draw, .code yX3_draw cX3_draw 1 (some .int), .fieldLink RX3 69 "LowEnergy$Device" "x" "I", .constant RX3 88 (1103515245), .methodLink RX11 157 yX7_newControl, .instanceMethod yX7_newControl, .selects RX7 yX7_newControl yX7_newControl, .initialized RX7, .code yX7_newControl cX7_newControl 3 (some (.object "LowEnergy$Row")), .methodLink RX7 62 yX9_clear, .methodLink RX7 71 yX9_put, .instanceMethod yX9_put, .selects RX9 yX9_put yX9_put, .code yX9_put cX9_put 2 none, .fieldLink RX7 33 "LowEnergy$Mail" "spare" "LLowEnergy$Row;", .fieldLink RX7 43 "LowEnergy$Mail" "controlCount" "I", .fieldLink RX7 20 "LowEnergy$Mail" "controls" "[LLowEnergy$Row;", .fieldLink RX7 39 "LowEnergy$Mail" "controlHead" "I", .methodLink RX11 215 yX5_putSessionParts, .instanceMethod yX5_putSessionParts, .selects RX5 yX5_putSessionParts yX5_putSessionParts, .code yX5_putSessionParts cX5_putSessionParts 4 none, .methodLink RX5 61 yX9_put, .methodLink RX11 596 yX5_makeSession, .instanceMethod yX5_makeSession, .selects RX5 yX5_makeSession yX5_makeSession, .code yX5_makeSession cX5_makeSession 2 none, .fieldLink RX5 28 "LowEnergy$Guard" "cipher" "LLowEnergy$Cipher;", .fieldLink RX5 7 "LowEnergy$Guard" "key" "[I", .methodLink RX5 71 yX1_loadKey, .instanceMethod yX1_loadKey, .selects RX1 yX1_loadKey yX1_loadKey, .initialized RX1, .code yX1_loadKey cX1_loadKey 6 none, .fieldLink RX1 9 "LowEnergy$Cipher" "roundKeys" "[I", .fieldLink RX1 16 "LowEnergy$Cipher" "SBOX" "[I", .fieldLink RX5 16 "LowEnergy$Guard" "session" "[I", .methodLink RX5 77 yX1_encipher, .instanceMethod yX1_encipher, .selects RX1 yX1_encipher yX1_encipher, .code yX1_encipher cX1_encipher 7 none, .fieldLink RX1 13 "LowEnergy$Cipher" "moved" "[I", .fieldLink RX5 32 "LowEnergy$Guard" "hasSession" "Z", .methodLink RX11 164 yX9_put, .methodLink RX11 599 yX5_beginSending, .instanceMethod yX5_beginSending, .selects RX5 yX5_beginSending yX5_beginSending, .code yX5_beginSending cX5_beginSending 1 none, .fieldLink RX5 45 "LowEnergy$Guard" "sends" "Z", .fieldLink RX5 51 "LowEnergy$Guard" "sent" "I", .methodLink RX11 602 yX5_beginComing, .instanceMethod yX5_beginComing, .selects RX5 yX5_beginComing yX5_beginComing, .code yX5_beginComing cX5_beginComing 1 none, .fieldLink RX5 48 "LowEnergy$Guard" "comes" "Z", .fieldLink RX5 55 "LowEnergy$Guard" "opened" "I", .methodLink RX11 291 yX9_at] : List Cond) ++ (wsX50 ++ (wsX30 ++ (wsX40 ++ (wsX90 ++ (wsX70 ++ (wsX10 ++ ([]))))))))
theorem hi_Low_obeyCipherControl_X5 : ∀ x ∈ u_ws RX5 TX5 16, x ∈ wp_Low_obeyCipherControl := fun _ h => List.mem_cons_of_mem _ (List.mem_append_right _ (List.mem_append_left _ h))
theorem hi_Low_obeyCipherControl_X3 : ∀ x ∈ u_ws RX3 TX3 19, x ∈ wp_Low_obeyCipherControl := fun _ h => List.mem_cons_of_mem _ (List.mem_append_right _ (List.mem_append_right _ (List.mem_append_left _ h)))
theorem hi_Low_obeyCipherControl_X4 : ∀ x ∈ u_ws RX4 TX4 6, x ∈ wp_Low_obeyCipherControl := fun _ h => List.mem_cons_of_mem _ (List.mem_append_right _ (List.mem_append_right _ (List.mem_append_right _ (List.mem_append_left _ h))))
theorem hi_Low_obeyCipherControl_X9 : ∀ x ∈ u_ws RX9 TX9 2, x ∈ wp_Low_obeyCipherControl := fun _ h => List.mem_cons_of_mem _ (List.mem_append_right _ (List.mem_append_right _ (List.mem_append_right _ (List.mem_append_right _ (List.mem_append_left _ h)))))
theorem hi_Low_obeyCipherControl_X7 : ∀ x ∈ u_ws RX7 TX7 16, x ∈ wp_Low_obeyCipherControl := fun _ h => List.mem_cons_of_mem _ (List.mem_append_right _ (List.mem_append_right _ (List.mem_append_right _ (List.mem_append_right _ (List.mem_append_right _ (List.mem_append_left _ h))))))
theorem hi_Low_obeyCipherControl_X1 : ∀ x ∈ u_ws RX1 TX1 2, x ∈ wp_Low_obeyCipherControl := fun _ h => List.mem_cons_of_mem _ (List.mem_append_right _ (List.mem_append_right _ (List.mem_append_right _ (List.mem_append_right _ (List.mem_append_right _ (List.mem_append_right _ (List.mem_append_left _ h)))))))
set_option maxRecDepth 100000 in
theorem gd_Low_obeyCipherControl_Diary_note_582 : GoodIn wp_Low_obeyCipherControl (wsV RX11 582 RX4 yX4_note wp_Diary_note) := goodIn_app (goodIn_r _ [1, 2, 3, 4] rfl rfl) (goodIn_ca (goodIn_r _ [5, 6, 7, 8, 9, 10, 11, 12, 13, 14, 15, 16, 17] rfl rfl) (goodIn_app (goodIn_cls hi_Low_obeyCipherControl_X4 gw_X4) (goodIn_app (goodIn_cls hi_Low_obeyCipherControl_X9 gw_X9) (goodIn_nil))))
set_option maxRecDepth 100000 in
theorem gd_Low_obeyCipherControl_Low_answerSessionRequest_590 : GoodIn wp_Low_obeyCipherControl (va_wsS RX11 590 yX11_answerSessionRequest wp_Low_answerSessionRequest) := goodIn_app (goodIn_r _ [18, 19, 20] rfl rfl) (goodIn_ca (goodIn_r _ [21, 22, 23, 24, 25, 26, 27, 28, 29, 14, 30, 16, 31, 32, 33, 34, 35, 36, 37, 38, 39, 40, 41, 42, 43, 44, 45, 46, 47, 48, 49, 50, 12, 13, 15, 51, 52, 53, 54, 55, 56, 57, 58, 59, 60, 61, 62, 63, 64, 65, 66, 67, 68, 69, 70, 71, 72, 73, 74, 75, 76, 77, 78, 79, 80, 81, 82, 83, 84] rfl rfl) (goodIn_app (goodIn_cls hi_Low_obeyCipherControl_X3 gw_X3) (goodIn_app (goodIn_cls hi_Low_obeyCipherControl_X5 gw_X5) (goodIn_app (goodIn_cls hi_Low_obeyCipherControl_X9 gw_X9) (goodIn_app (goodIn_cls hi_Low_obeyCipherControl_X7 gw_X7) (goodIn_app (goodIn_cls hi_Low_obeyCipherControl_X1 gw_X1) (goodIn_nil)))))))
set_option maxRecDepth 100000 in
theorem gd_Low_obeyCipherControl_Guard_takeSessionParts_593 : GoodIn wp_Low_obeyCipherControl (wsV RX11 593 RX5 yX5_takeSessionParts wp_Guard_takeSessionParts) := goodIn_app (goodIn_r _ [22, 23, 24, 25] rfl rfl) (goodIn_ca (goodIn_r _ [26, 27, 28, 29, 14, 30, 16, 31, 32, 33] rfl rfl) (goodIn_app (goodIn_cls hi_Low_obeyCipherControl_X9 gw_X9) (goodIn_app (goodIn_cls hi_Low_obeyCipherControl_X5 gw_X5) (goodIn_nil))))
set_option maxRecDepth 100000 in
theorem gd_Low_obeyCipherControl_Guard_makeSession_596 : GoodIn wp_Low_obeyCipherControl (wsV RX11 596 RX5 yX5_makeSession wp_Guard_makeSession) := goodIn_app (goodIn_r _ [64, 65, 66, 25] rfl rfl) (goodIn_ca (goodIn_r _ [67, 68, 69, 70, 71, 72, 73, 74, 75, 76, 77, 78, 79, 80, 81, 82, 83, 33] rfl rfl) (goodIn_app (goodIn_cls hi_Low_obeyCipherControl_X5 gw_X5) (goodIn_app (goodIn_cls hi_Low_obeyCipherControl_X1 gw_X1) (goodIn_nil))))
set_option maxRecDepth 100000 in
theorem gd_Low_obeyCipherControl_Guard_beginSending_599 : GoodIn wp_Low_obeyCipherControl (wsV RX11 599 RX5 yX5_beginSending wp_Guard_beginSending) := goodIn_app (goodIn_r _ [85, 86, 87, 25] rfl rfl) (goodIn_ca (goodIn_r _ [88, 89, 90] rfl rfl) (goodIn_app (goodIn_cls hi_Low_obeyCipherControl_X5 gw_X5) (goodIn_nil)))
set_option maxRecDepth 100000 in
theorem gd_Low_obeyCipherControl_Guard_beginComing_602 : GoodIn wp_Low_obeyCipherControl (wsV RX11 602 RX5 yX5_beginComing wp_Guard_beginComing) := goodIn_app (goodIn_r _ [91, 92, 93, 25] rfl rfl) (goodIn_ca (goodIn_r _ [94, 95, 96] rfl rfl) (goodIn_app (goodIn_cls hi_Low_obeyCipherControl_X5 gw_X5) (goodIn_nil)))
set_option maxRecDepth 100000 in
theorem gd_Low_obeyCipherControl_Mail_newControl_157 : GoodIn wp_Low_obeyCipherControl (wsV RX11 157 RX7 yX7_newControl wp_Mail_newControl) := goodIn_app (goodIn_r _ [45, 46, 47, 48] rfl rfl) (goodIn_ca (goodIn_r _ [49, 50, 12, 13, 14, 15, 16, 51, 52, 53, 54, 31, 55, 56, 57, 58] rfl rfl) (goodIn_app (goodIn_cls hi_Low_obeyCipherControl_X9 gw_X9) (goodIn_app (goodIn_cls hi_Low_obeyCipherControl_X7 gw_X7) (goodIn_nil))))
set_option maxRecDepth 100000 in
theorem gd_Low_obeyCipherControl_Row_at_291 : GoodIn wp_Low_obeyCipherControl (wsV RX11 291 RX9 yX9_at wp_Row_at) := goodIn_app (goodIn_r _ [97, 28, 29, 14] rfl rfl) (goodIn_ca (goodIn_r _ [30, 16, 31] rfl rfl) (goodIn_app (goodIn_cls hi_Low_obeyCipherControl_X9 gw_X9) (goodIn_nil)))
set_option maxHeartbeats 4000000 in
set_option maxRecDepth 100000 in
theorem b_Low_obeyCipherControl {p : Program} {l : Launch} {e : Env} {R : Room} {s : State} {m : MethodId} {args : Array Value} {below : List Frame} {meth : Method} {c : Code} {D : va_G} {K : Nat → ClassId} {A : Nat → Prop} {Q : State → Prop} {τ : Nat → Option Ty} {dom : List Nat} {zb zL : Nat} {zx : Nat → Int32} {zs : Nat → Nat} (hR : 3 ≤ R.frames ∧ 68 ≤ R.locals) (B : Bx p s m args c cX11_obeyCipherControl 4 RX11 wp_Low_obeyCipherControl D (tysA K) A) (Z : Sk τ dom) (hz : ZL zb zL zx zs A s s.heap) (d : Nat) (x1 : Int) (g : Nat) (t_d : τ d = some (33, 0, 0)) (r_x1 : -2147483648 ≤ x1 ∧ x1 ≤ 2147483647) (t_g : τ g = some (1, 5, 0)) (σ0 : Nat → va_E) (G0 : Good K τ σ0) (hend : ∀ (σ' : Nat → va_E) (lv : List (Nat × Value)) (pc : Nat), Good K τ σ' → Fr τ [(35, 0), (3, 41), (3, 43), (33, 0), (37, 0), (1, 9), (2, 9), (3, 42), (2, 31), (2, 32), (3, 23), (3, 22), (1, 16), (34, 0)] σ0 σ' → decode cX11_obeyCipherControl pc = .ok (.return_, 1) → V p l e R s m args below meth c 4 D A Q (0, 0) (fd dom σ') lv pc []) : V p l e R s m args below meth c 4 D A Q (0, 0) (fd dom σ0) [(0, .ref d), (1, .int (iI x1)), (2, .ref g)] 0 [] := by
  have F0 : Fr τ [(35, 0), (3, 41), (3, 43), (33, 0), (37, 0), (1, 9), (2, 9), (3, 42), (2, 31), (2, 32), (3, 23), (3, 22), (1, 16), (34, 0)] σ0 σ0 := Fr.rf
  have J121 : ∀ (σ_121 : Nat → va_E) (a121_3 : Nat), Good K τ σ_121 → Fr τ [(35, 0), (3, 41), (3, 43), (33, 0), (37, 0), (1, 9), (2, 9), (3, 42), (2, 31), (2, 32), (3, 23), (3, 22), (1, 16), (34, 0)] σ0 σ_121 → (τ a121_3 = some (35, 0, 0)) → V p l e R s m args below meth c 4 D A Q (0, 0) (fd dom σ_121) [(0, .ref d), (3, .ref a121_3)] 121 [] := by
    intro σ_121 a121_3 G_121 F_121 t121_3
    refine v_aload_n B dX11_obeyCipherControl_121 rfl rfl ?_
    refine v_iconst B (v := iI 1) dX11_obeyCipherControl_122 rfl ?_
    obtain ⟨a1, a2, z3, a4, a5, a6, z7, z8, z9, z10, z11, z12, z13, z14, a15, a16, h17, t18, t19, r20, t21, t22, t23, r24, r25, r26, r27, r28, r29, r30, r31, t32, t33⟩ : okGuard τ (σ_121 a121_3) := G_121 a121_3 _ t121_3
    refine u_putN B Z (C := RX5) (T := TX5) (N := 16) (ci := 5) hi_Low_obeyCipherControl_X5 t121_3 h17 rfl 9 (by decide +kernel) tyX5 tyX5_ok nmX5 (List.mem_of_getElem? (i := 12) rfl) rfl (ty := .boolean) (tyX5_ok 9 (by decide +kernel)) (nar01 (by omega)) (fit01 (by omega)) (Nat.le_of_ble_eq_true rfl) (fs' := [.ref a1, .ref a2, .int (iI z3), .ref a4, .ref a5, .ref a6, .int (iI z7), .int (iI z8), .int (iI z9), .int (iI 1), .int (iI z11), .int (iI z12), .int (iI z13), .int (iI z14), .ref a15, .ref a16]) rfl dX11_obeyCipherControl_123 (fun σ34 h35 n36 => ?_)
    have G37 := G_121.put t121_3 (⟨a1, a2, z3, a4, a5, a6, z7, z8, z9, 1, z11, z12, z13, z14, a15, a16, h35, t18, t19, ⟨by omega, by omega⟩, t21, t22, t23, ⟨by omega, by omega⟩, ⟨by omega, by omega⟩, ⟨by omega, by omega⟩, ⟨by omega, by omega⟩, ⟨by omega, by omega⟩, ⟨by omega, by omega⟩, ⟨by omega, by omega⟩, ⟨by omega, by omega⟩, t32, t33⟩ : Ok K τ (35, 0, 0) (σ34 a121_3)) n36
    have F38 := F_121.put t121_3 (by simp) n36
    refine v_aload_n B dX11_obeyCipherControl_126 rfl rfl ?_
    refine v_iconst B (v := iI 0) dX11_obeyCipherControl_127 rfl ?_
    refine u_putN B Z (C := RX5) (T := TX5) (N := 16) (ci := 5) hi_Low_obeyCipherControl_X5 t121_3 h35 rfl 8 (by decide +kernel) tyX5 tyX5_ok nmX5 (List.mem_of_getElem? (i := 13) rfl) rfl (ty := .boolean) (tyX5_ok 8 (by decide +kernel)) (nar01 (by omega)) (fit01 (by omega)) (Nat.le_of_ble_eq_true rfl) (fs' := [.ref a1, .ref a2, .int (iI z3), .ref a4, .ref a5, .ref a6, .int (iI z7), .int (iI z8), .int (iI 0), .int (iI 1), .int (iI z11), .int (iI z12), .int (iI z13), .int (iI z14), .ref a15, .ref a16]) rfl dX11_obeyCipherControl_128 (fun σ39 h40 n41 => ?_)
    have G42 := G37.put t121_3 (⟨a1, a2, z3, a4, a5, a6, z7, z8, 0, 1, z11, z12, z13, z14, a15, a16, h40, t18, t19, ⟨by omega, by omega⟩, t21, t22, t23, ⟨by omega, by omega⟩, ⟨by omega, by omega⟩, ⟨by omega, by omega⟩, ⟨by omega, by omega⟩, ⟨by omega, by omega⟩, ⟨by omega, by omega⟩, ⟨by omega, by omega⟩, ⟨by omega, by omega⟩, t32, t33⟩ : Ok K τ (35, 0, 0) (σ39 a121_3)) n41
    have F43 := F38.put t121_3 (by simp) n41
    refine v_aload_n B dX11_obeyCipherControl_131 rfl rfl ?_
    obtain ⟨z44, yy45, z46, z47, z48, z49, a50, z51, yy52, a53, yy54, a55, a56, a57, a58, a59, a60, a61, a62, h63, r64, r65, r66, r67, r68, r69, t70, r71, r72, t73, r74, t75, t76, t77, t78, t79, t80, t81, t82⟩ : okDevice τ (σ39 d) := G42 d _ t_d
    refine u_getN B Z (C := RX3) (T := TX3) (N := 19) (ci := 3) hi_Low_obeyCipherControl_X3 t_d h63 rfl 17 (by decide +kernel) (List.mem_of_getElem? (i := 25) rfl) rfl dX11_obeyCipherControl_132 ?_
    refine v_bipush B (v := iI 12) dX11_obeyCipherControl_135 (by decide +kernel) ?_
    refine v_iconst B (v := iI 0) dX11_obeyCipherControl_137 rfl ?_
    refine v_iconst B (v := iI 0) dX11_obeyCipherControl_138 rfl ?_
    refine v_iconst B (v := iI 0) dX11_obeyCipherControl_139 rfl ?_
    refine u_callVv B Z hz (n := 4) (As := [.int (iI 12), .int (iI 0), .int (iI 0), .int (iI 0)]) (rest := []) (c_Diary_note l D K Z _ _ _ _ a61 12 0 0 0 t81 ⟨by omega, by omega⟩ ⟨by omega, by omega⟩ ⟨by omega, by omega⟩ ⟨by omega, by omega⟩ σ39 G42) gd_Low_obeyCipherControl_Diary_note_582 rfl rfl rfl (by decide +kernel) ⟨Nat.le_trans (by decide +kernel) hR.1, Nat.le_trans (by decide +kernel) hR.2⟩ t81 (cls_Diary G42 t81) rfl rfl rfl rfl (Nat.le_of_ble_eq_true rfl) dX11_obeyCipherControl_140 ⟨Nat.zero_le _, Nat.zero_le _⟩ (fun σ83 p84 => ?_)
    obtain ⟨G86, F87⟩ := p84
    have F88 := F43.call F87 (by first | rfl | simp)
    have h89 := (F87 a121_3 _ t121_3 (by first | rfl | simp)).trans h40
    have h90 := (F87 d _ t_d (by first | rfl | simp)).trans h63
    refine v_goto B (tgt := 179) dX11_obeyCipherControl_143 (by decide +kernel) ?_
    exact hend σ83 _ _ G86 F88 dX11_obeyCipherControl_179
  refine v_aload_n B dX11_obeyCipherControl_0 rfl rfl ?_
  obtain ⟨z91, yy92, z93, z94, z95, z96, a97, z98, yy99, a100, yy101, a102, a103, a104, a105, a106, a107, a108, a109, h110, r111, r112, r113, r114, r115, r116, t117, r118, r119, t120, r121, t122, t123, t124, t125, t126, t127, t128, t129⟩ : okDevice τ (σ0 d) := G0 d _ t_d
  refine u_getN B Z (C := RX3) (T := TX3) (N := 19) (ci := 3) hi_Low_obeyCipherControl_X3 t_d h110 rfl 13 (by decide +kernel) (List.mem_of_getElem? (i := 10) rfl) rfl dX11_obeyCipherControl_1 ?_
  refine v_astore_n B (lv' := [(3, .ref a104), (0, .ref d), (1, .int (iI x1)), (2, .ref g)]) dX11_obeyCipherControl_4 rfl (by decide +kernel) rfl ?_
  refine v_iload_n B dX11_obeyCipherControl_5 rfl rfl ?_
  refine u_tsw B (tgtd := 146) (by omega) dX11_obeyCipherControl_6 (by decide +kernel) ?_ ?_ (tsw_ok (by decide +kernel)) (by decide +kernel)
  · intro i130 o131 g132 o133 x134 t135
    match i130, o133, x134 with
    | 0, o133, x134 =>
      replace o133 : o131 = 30 := by simp at o133; omega
      obtain rfl : g132 = 36 := by omega
      refine v_aload_n B dX11_obeyCipherControl_36 rfl rfl ?_
      refine v_aload_n B dX11_obeyCipherControl_37 rfl rfl ?_
      refine u_callSv B Z hz (n := 2) (As := [.ref d, .ref g]) (rest := []) (c_Low_answerSessionRequest l D K Z _ _ _ _ d g t_d t_g σ0 G0) gd_Low_obeyCipherControl_Low_answerSessionRequest_590 rfl rfl rfl (by decide +kernel) ⟨Nat.le_trans (by decide +kernel) hR.1, Nat.le_trans (by decide +kernel) hR.2⟩ rfl rfl (Nat.le_of_ble_eq_true rfl) dX11_obeyCipherControl_38 ⟨Nat.zero_le _, Nat.zero_le _⟩ (fun σ136 p137 => ?_)
      obtain ⟨G139, F140⟩ := p137
      have F141 := F0.call F140 (by first | rfl | simp)
      refine v_goto B (tgt := 179) dX11_obeyCipherControl_41 (by decide +kernel) ?_
      exact hend σ136 _ _ G139 F141 dX11_obeyCipherControl_179
    | 1, o133, x134 =>
      replace o133 : o131 = 38 := by simp at o133; omega
      obtain rfl : g132 = 44 := by omega
      refine v_aload_n B dX11_obeyCipherControl_44 rfl rfl ?_
      obtain ⟨a142, a143, z144, a145, a146, a147, z148, z149, z150, z151, z152, z153, z154, z155, a156, a157, h158, t159, t160, r161, t162, t163, t164, r165, r166, r167, r168, r169, r170, r171, r172, t173, t174⟩ : okGuard τ (σ0 a104) := G0 a104 _ t124
      refine u_getN B Z (C := RX5) (T := TX5) (N := 16) (ci := 5) hi_Low_obeyCipherControl_X5 t124 h158 rfl 7 (by decide +kernel) (List.mem_of_getElem? (i := 14) rfl) rfl dX11_obeyCipherControl_45 ?_
      refine u_if_eq B (tgt := 179) (by omega) dX11_obeyCipherControl_48 (by decide +kernel) (fun c175 => ?_) (fun c175 => ?_)
      · exact hend σ0 _ _ G0 F0 dX11_obeyCipherControl_179
      · refine v_aload_n B dX11_obeyCipherControl_51 rfl rfl ?_
        refine v_aload_n B dX11_obeyCipherControl_52 rfl rfl ?_
        refine v_iconst B (v := iI 1) dX11_obeyCipherControl_53 rfl ?_
        refine u_callVv B Z hz (n := 2) (As := [.ref g, .int (iI 1)]) (rest := []) (c_Guard_takeSessionParts l D K Z _ _ _ _ a104 g 1 t124 t_g ⟨by omega, by omega⟩ σ0 G0) gd_Low_obeyCipherControl_Guard_takeSessionParts_593 rfl rfl rfl (by decide +kernel) ⟨Nat.le_trans (by decide +kernel) hR.1, Nat.le_trans (by decide +kernel) hR.2⟩ t124 (cls_Guard G0 t124) rfl rfl rfl rfl (Nat.le_of_ble_eq_true rfl) dX11_obeyCipherControl_54 ⟨Nat.zero_le _, Nat.zero_le _⟩ (fun σ176 p177 => ?_)
        obtain ⟨G179, F180⟩ := p177
        have F181 := F0.call F180 (by first | rfl | simp)
        have h182 := (F180 d _ t_d (by first | rfl | simp)).trans h110
        have h183 := (F180 a104 _ t124 (by first | rfl | simp)).trans h158
        refine v_aload_n B dX11_obeyCipherControl_57 rfl rfl ?_
        refine u_callVv B Z hz (n := 0) (As := []) (rest := []) (c_Guard_makeSession l D K Z _ _ _ _ a104 t124 σ176 G179) gd_Low_obeyCipherControl_Guard_makeSession_596 rfl rfl rfl (by decide +kernel) ⟨Nat.le_trans (by decide +kernel) hR.1, Nat.le_trans (by decide +kernel) hR.2⟩ t124 (cls_Guard G179 t124) rfl rfl rfl rfl (Nat.le_of_ble_eq_true rfl) dX11_obeyCipherControl_58 ⟨Nat.zero_le _, Nat.zero_le _⟩ (fun σ184 p185 => ?_)
        obtain ⟨G187, F188⟩ := p185
        have F189 := F181.call F188 (by first | rfl | simp)
        have h190 := (F188 d _ t_d (by first | rfl | simp)).trans h182
        refine v_goto B (tgt := 179) dX11_obeyCipherControl_61 (by decide +kernel) ?_
        exact hend σ184 _ _ G187 F189 dX11_obeyCipherControl_179
    | 2, o133, x134 =>
      replace o133 : o131 = 58 := by simp at o133; omega
      obtain rfl : g132 = 64 := by omega
      refine v_aload_n B dX11_obeyCipherControl_64 rfl rfl ?_
      obtain ⟨a191, a192, z193, a194, a195, a196, z197, z198, z199, z200, z201, z202, z203, z204, a205, a206, h207, t208, t209, r210, t211, t212, t213, r214, r215, r216, r217, r218, r219, r220, r221, t222, t223⟩ : okGuard τ (σ0 a104) := G0 a104 _ t124
      refine u_getN B Z (C := RX5) (T := TX5) (N := 16) (ci := 5) hi_Low_obeyCipherControl_X5 t124 h207 rfl 6 (by decide +kernel) (List.mem_of_getElem? (i := 15) rfl) rfl dX11_obeyCipherControl_65 ?_
      refine u_if_eq B (tgt := 179) (by omega) dX11_obeyCipherControl_68 (by decide +kernel) (fun c224 => ?_) (fun c224 => ?_)
      · exact hend σ0 _ _ G0 F0 dX11_obeyCipherControl_179
      · refine v_aload_n B dX11_obeyCipherControl_71 rfl rfl ?_
        refine u_callVv B Z hz (n := 0) (As := []) (rest := []) (c_Guard_beginSending l D K Z _ _ _ _ a104 t124 σ0 G0) gd_Low_obeyCipherControl_Guard_beginSending_599 rfl rfl rfl (by decide +kernel) ⟨Nat.le_trans (by decide +kernel) hR.1, Nat.le_trans (by decide +kernel) hR.2⟩ t124 (cls_Guard G0 t124) rfl rfl rfl rfl (Nat.le_of_ble_eq_true rfl) dX11_obeyCipherControl_72 ⟨Nat.zero_le _, Nat.zero_le _⟩ (fun σ225 p226 => ?_)
        obtain ⟨G228, F229⟩ := p226
        have F230 := F0.call F229 (by first | rfl | simp)
        have h231 := (F229 d _ t_d (by first | rfl | simp)).trans h110
        refine v_aload_n B dX11_obeyCipherControl_75 rfl rfl ?_
        refine u_callVv B Z hz (n := 0) (As := []) (rest := []) (c_Guard_beginComing l D K Z _ _ _ _ a104 t124 σ225 G228) gd_Low_obeyCipherControl_Guard_beginComing_602 rfl rfl rfl (by decide +kernel) ⟨Nat.le_trans (by decide +kernel) hR.1, Nat.le_trans (by decide +kernel) hR.2⟩ t124 (cls_Guard G228 t124) rfl rfl rfl rfl (Nat.le_of_ble_eq_true rfl) dX11_obeyCipherControl_76 ⟨Nat.zero_le _, Nat.zero_le _⟩ (fun σ232 p233 => ?_)
        obtain ⟨G235, F236⟩ := p233
        have F237 := F230.call F236 (by first | rfl | simp)
        have h238 := (F236 d _ t_d (by first | rfl | simp)).trans h231
        refine v_aload_n B dX11_obeyCipherControl_79 rfl rfl ?_
        refine u_getN B Z (C := RX3) (T := TX3) (N := 19) (ci := 3) hi_Low_obeyCipherControl_X3 t_d h238 rfl 12 (by decide +kernel) (List.mem_of_getElem? (i := 5) rfl) rfl dX11_obeyCipherControl_80 ?_
        refine v_bipush B (v := iI 6) dX11_obeyCipherControl_83 (by decide +kernel) ?_
        refine u_callVq B Z hz (n := 1) (As := [.int (iI 6)]) (rest := []) (c_Mail_newControl l D K Z _ _ _ _ a103 6 t123 ⟨by omega, by omega⟩ σ232 G235) gd_Low_obeyCipherControl_Mail_newControl_157 rfl rfl rfl (by decide +kernel) ⟨Nat.le_trans (by decide +kernel) hR.1, Nat.le_trans (by decide +kernel) hR.2⟩ t123 (cls_Mail G235 t123) rfl rfl rfl rfl (Nat.le_of_ble_eq_true rfl) dX11_obeyCipherControl_85 ⟨Nat.zero_le _, Nat.zero_le _⟩ (fun v241 σ239 p240 => ?_)
        obtain ⟨G242, F243, q245⟩ := p240
        have F244 := F237.call F243 (by first | rfl | simp)
        have h246 := (F243 d _ t_d (by first | rfl | simp)).trans h238
        obtain ⟨a247, rfl, t248⟩ := q245
        show V _ _ _ _ _ _ _ _ _ _ _ _ _ _ _ _ _ _ [.ref a247]
        refine v_pop B dX11_obeyCipherControl_88 rfl ?_
        refine v_goto B (tgt := 179) dX11_obeyCipherControl_89 (by decide +kernel) ?_
        exact hend σ239 _ _ G242 F244 dX11_obeyCipherControl_179
    | 3, o133, x134 =>
      replace o133 : o131 = 86 := by simp at o133; omega
      obtain rfl : g132 = 92 := by omega
      refine v_aload_n B dX11_obeyCipherControl_92 rfl rfl ?_
      obtain ⟨a249, a250, z251, a252, a253, a254, z255, z256, z257, z258, z259, z260, z261, z262, a263, a264, h265, t266, t267, r268, t269, t270, t271, r272, r273, r274, r275, r276, r277, r278, r279, t280, t281⟩ : okGuard τ (σ0 a104) := G0 a104 _ t124
      refine u_getN B Z (C := RX5) (T := TX5) (N := 16) (ci := 5) hi_Low_obeyCipherControl_X5 t124 h265 rfl 11 (by decide +kernel) (List.mem_of_getElem? (i := 61) rfl) rfl dX11_obeyCipherControl_93 ?_
      refine u_if_eq B (tgt := 179) (by omega) dX11_obeyCipherControl_96 (by decide +kernel) (fun c282 => ?_) (fun c282 => ?_)
      · exact hend σ0 _ _ G0 F0 dX11_obeyCipherControl_179
      · refine v_aload_n B dX11_obeyCipherControl_99 rfl rfl ?_
        refine u_getN B Z (C := RX3) (T := TX3) (N := 19) (ci := 3) hi_Low_obeyCipherControl_X3 t_d h110 rfl 2 (by decide +kernel) (List.mem_of_getElem? (i := 65) rfl) rfl dX11_obeyCipherControl_100 ?_
        refine v_iconst B (v := iI 5) dX11_obeyCipherControl_103 rfl ?_
        refine u_icmp_ne B (tgt := 121) (by omega) (by omega) dX11_obeyCipherControl_104 (by decide +kernel) (fun c283 => ?_) (fun c283 => ?_)
        · refine v_lv [1, 0] rfl ?_
          exact J121 σ0 a104 G0 F0 t124
        · refine v_aload_n B dX11_obeyCipherControl_107 rfl rfl ?_
          refine u_callVv B Z hz (n := 0) (As := []) (rest := []) (c_Guard_beginSending l D K Z _ _ _ _ a104 t124 σ0 G0) gd_Low_obeyCipherControl_Guard_beginSending_599 rfl rfl rfl (by decide +kernel) ⟨Nat.le_trans (by decide +kernel) hR.1, Nat.le_trans (by decide +kernel) hR.2⟩ t124 (cls_Guard G0 t124) rfl rfl rfl rfl (Nat.le_of_ble_eq_true rfl) dX11_obeyCipherControl_108 ⟨Nat.zero_le _, Nat.zero_le _⟩ (fun σ284 p285 => ?_)
          obtain ⟨G287, F288⟩ := p285
          have F289 := F0.call F288 (by first | rfl | simp)
          have h290 := (F288 d _ t_d (by first | rfl | simp)).trans h110
          refine v_aload_n B dX11_obeyCipherControl_111 rfl rfl ?_
          refine u_getN B Z (C := RX3) (T := TX3) (N := 19) (ci := 3) hi_Low_obeyCipherControl_X3 t_d h290 rfl 12 (by decide +kernel) (List.mem_of_getElem? (i := 5) rfl) rfl dX11_obeyCipherControl_112 ?_
          refine v_bipush B (v := iI 6) dX11_obeyCipherControl_115 (by decide +kernel) ?_
          refine u_callVq B Z hz (n := 1) (As := [.int (iI 6)]) (rest := []) (c_Mail_newControl l D K Z _ _ _ _ a103 6 t123 ⟨by omega, by omega⟩ σ284 G287) gd_Low_obeyCipherControl_Mail_newControl_157 rfl rfl rfl (by decide +kernel) ⟨Nat.le_trans (by decide +kernel) hR.1, Nat.le_trans (by decide +kernel) hR.2⟩ t123 (cls_Mail G287 t123) rfl rfl rfl rfl (Nat.le_of_ble_eq_true rfl) dX11_obeyCipherControl_117 ⟨Nat.zero_le _, Nat.zero_le _⟩ (fun v293 σ291 p292 => ?_)
          obtain ⟨G294, F295, q297⟩ := p292
          have F296 := F289.call F295 (by first | rfl | simp)
          have h298 := (F295 d _ t_d (by first | rfl | simp)).trans h290
          obtain ⟨a299, rfl, t300⟩ := q297
          show V _ _ _ _ _ _ _ _ _ _ _ _ _ _ _ _ _ _ [.ref a299]
          refine v_pop B dX11_obeyCipherControl_120 rfl ?_
          refine v_lv [1, 0] rfl ?_
          exact J121 σ291 a104 G294 F296 t124
    | i130 + 4, o133, x134 => exact absurd (o133.symm.trans (Array.getElem?_eq_none (by simp))) (by simp)
  · intro x134
    refine v_aload_n B dX11_obeyCipherControl_146 rfl rfl ?_
    obtain ⟨a301, a302, z303, a304, a305, a306, z307, z308, z309, z310, z311, z312, z313, z314, a315, a316, h317, t318, t319, r320, t321, t322, t323, r324, r325, r326, r327, r328, r329, r330, r331, t332, t333⟩ : okGuard τ (σ0 a104) := G0 a104 _ t124
    refine u_getN B Z (C := RX5) (T := TX5) (N := 16) (ci := 5) hi_Low_obeyCipherControl_X5 t124 h317 rfl 7 (by decide +kernel) (List.mem_of_getElem? (i := 14) rfl) rfl dX11_obeyCipherControl_147 ?_
    refine u_if_eq B (tgt := 179) (by omega) dX11_obeyCipherControl_150 (by decide +kernel) (fun c334 => ?_) (fun c334 => ?_)
    · exact hend σ0 _ _ G0 F0 dX11_obeyCipherControl_179
    · refine v_aload_n B dX11_obeyCipherControl_153 rfl rfl ?_
      refine v_iconst B (v := iI 0) dX11_obeyCipherControl_154 rfl ?_
      refine u_putN B Z (C := RX5) (T := TX5) (N := 16) (ci := 5) hi_Low_obeyCipherControl_X5 t124 h317 rfl 7 (by decide +kernel) tyX5 tyX5_ok nmX5 (List.mem_of_getElem? (i := 14) rfl) rfl (ty := .boolean) (tyX5_ok 7 (by decide +kernel)) (nar01 (by omega)) (fit01 (by omega)) (Nat.le_of_ble_eq_true rfl) (fs' := [.ref a301, .ref a302, .int (iI z303), .ref a304, .ref a305, .ref a306, .int (iI z307), .int (iI 0), .int (iI z309), .int (iI z310), .int (iI z311), .int (iI z312), .int (iI z313), .int (iI z314), .ref a315, .ref a316]) rfl dX11_obeyCipherControl_155 (fun σ335 h336 n337 => ?_)
      have G338 := G0.put t124 (⟨a301, a302, z303, a304, a305, a306, z307, 0, z309, z310, z311, z312, z313, z314, a315, a316, h336, t318, t319, ⟨by omega, by omega⟩, t321, t322, t323, ⟨by omega, by omega⟩, ⟨by omega, by omega⟩, ⟨by omega, by omega⟩, ⟨by omega, by omega⟩, ⟨by omega, by omega⟩, ⟨by omega, by omega⟩, ⟨by omega, by omega⟩, ⟨by omega, by omega⟩, t332, t333⟩ : Ok K τ (35, 0, 0) (σ335 a104)) n337
      have F339 := F0.put t124 (by simp) n337
      have h340 := (n337 d (ne_ty t_d t124 (by simp))).trans h110
      refine v_aload_n B dX11_obeyCipherControl_158 rfl rfl ?_
      refine v_iconst B (v := iI 0) dX11_obeyCipherControl_159 rfl ?_
      refine u_putN B Z (C := RX5) (T := TX5) (N := 16) (ci := 5) hi_Low_obeyCipherControl_X5 t124 h336 rfl 8 (by decide +kernel) tyX5 tyX5_ok nmX5 (List.mem_of_getElem? (i := 13) rfl) rfl (ty := .boolean) (tyX5_ok 8 (by decide +kernel)) (nar01 (by omega)) (fit01 (by omega)) (Nat.le_of_ble_eq_true rfl) (fs' := [.ref a301, .ref a302, .int (iI z303), .ref a304, .ref a305, .ref a306, .int (iI z307), .int (iI 0), .int (iI 0), .int (iI z310), .int (iI z311), .int (iI z312), .int (iI z313), .int (iI z314), .ref a315, .ref a316]) rfl dX11_obeyCipherControl_160 (fun σ341 h342 n343 => ?_)
      have G344 := G338.put t124 (⟨a301, a302, z303, a304, a305, a306, z307, 0, 0, z310, z311, z312, z313, z314, a315, a316, h342, t318, t319, ⟨by omega, by omega⟩, t321, t322, t323, ⟨by omega, by omega⟩, ⟨by omega, by omega⟩, ⟨by omega, by omega⟩, ⟨by omega, by omega⟩, ⟨by omega, by omega⟩, ⟨by omega, by omega⟩, ⟨by omega, by omega⟩, ⟨by omega, by omega⟩, t332, t333⟩ : Ok K τ (35, 0, 0) (σ341 a104)) n343
      have F345 := F339.put t124 (by simp) n343
      have h346 := (n343 d (ne_ty t_d t124 (by simp))).trans h340
      refine v_aload_n B dX11_obeyCipherControl_163 rfl rfl ?_
      refine u_getN B Z (C := RX3) (T := TX3) (N := 19) (ci := 3) hi_Low_obeyCipherControl_X3 t_d h346 rfl 17 (by decide +kernel) (List.mem_of_getElem? (i := 25) rfl) rfl dX11_obeyCipherControl_164 ?_
      refine v_bipush B (v := iI 13) dX11_obeyCipherControl_167 (by decide +kernel) ?_
      refine v_aload_n B dX11_obeyCipherControl_169 rfl rfl ?_
      refine v_iconst B (v := iI 1) dX11_obeyCipherControl_170 rfl ?_
      refine u_callVi B Z hz (n := 1) (As := [.int (iI 1)]) (rest := [.int (iI 13), .ref a108]) (c_Row_at l D K Z _ _ _ _ g 1 t_g ⟨by omega, by omega⟩ σ341 G344) gd_Low_obeyCipherControl_Row_at_291 rfl rfl rfl (by decide +kernel) ⟨Nat.le_trans (by decide +kernel) hR.1, Nat.le_trans (by decide +kernel) hR.2⟩ t_g (cls_Row G344 t_g) rfl rfl rfl rfl (Nat.le_of_ble_eq_true rfl) dX11_obeyCipherControl_171 ⟨Nat.zero_le _, Nat.zero_le _⟩ (fun v349 σ347 p348 => ?_)
      obtain ⟨rfl, z353, e354, r355⟩ := p348
      subst e354
      refine v_iconst B (v := iI 0) dX11_obeyCipherControl_174 rfl ?_
      refine v_iconst B (v := iI 0) dX11_obeyCipherControl_175 rfl ?_
      refine u_callVv B Z hz (n := 4) (As := [.int (iI 13), .int (iI z353), .int (iI 0), .int (iI 0)]) (rest := []) (c_Diary_note l D K Z _ _ _ _ a108 13 z353 0 0 t128 ⟨by omega, by omega⟩ ⟨by omega, by omega⟩ ⟨by omega, by omega⟩ ⟨by omega, by omega⟩ σ341 G344) gd_Low_obeyCipherControl_Diary_note_582 rfl rfl rfl (by decide +kernel) ⟨Nat.le_trans (by decide +kernel) hR.1, Nat.le_trans (by decide +kernel) hR.2⟩ t128 (cls_Diary G344 t128) rfl rfl rfl rfl (Nat.le_of_ble_eq_true rfl) dX11_obeyCipherControl_176 ⟨Nat.zero_le _, Nat.zero_le _⟩ (fun σ356 p357 => ?_)
      obtain ⟨G359, F360⟩ := p357
      have F361 := F345.call F360 (by first | rfl | simp)
      have h362 := (F360 d _ t_d (by first | rfl | simp)).trans h346
      have h363 := (F360 a104 _ t124 (by first | rfl | simp)).trans h342
      exact hend σ356 _ _ G359 F361 dX11_obeyCipherControl_179
set_option maxRecDepth 100000 in
theorem c_Low_obeyCipherControl (l : Launch) (D : va_G) (K : Nat → ClassId) {τ : Nat → Option Ty} {dom : List Nat} (Z : Sk τ dom) (zb zL : Nat) (zx : Nat → Int32) (zs : Nat → Nat) (d : Nat) (x1 : Int) (g : Nat) (t_d : τ d = some (33, 0, 0)) (r_x1 : -2147483648 ≤ x1 ∧ x1 ≤ 2147483647) (t_g : τ g = some (1, 5, 0)) (σ0 : Nat → va_E) (G0 : Good K τ σ0) : MZ l yX11_obeyCipherControl wp_Low_obeyCipherControl ({ frames := 3, cells := 0, slots := 0, locals := 68 }) D (tysA K) [.ref d, .int (iI x1), .ref g] (fd dom σ0) zb zL zx zs (Qv D (fun σ' => Good K τ σ' ∧ Fr τ [(35, 0), (3, 41), (3, 43), (33, 0), (37, 0), (1, 9), (2, 9), (3, 42), (2, 31), (2, 32), (3, 23), (3, 22), (1, 16), (34, 0)] σ0 σ') (fun σ' => fd dom σ')) 0 0 := by
  refine mz_of (cc := cX11_obeyCipherControl) (maxL := 4) (ret := none) (by decide +kernel) rfl (Nat.le_of_ble_eq_true rfl) ?_
  intro p e s m below meth c A B hr hlk _ hz
  exact b_Low_obeyCipherControl ⟨Nat.le_refl _, Nat.le_refl _⟩ B Z hz d x1 g t_d r_x1 t_g σ0 G0 (fun σ' lv pc G F hd => v_vret B hr hlk σ' ⟨G, F⟩ rfl (Nat.le_refl _) (Nat.le_refl _) hd)

def wp_Low_obey : List Cond := .code yX11_obey cX11_obey 4 none :: (([.methodLink RX11 157 yX7_newControl, .instanceMethod yX7_newControl, .selects RX7 yX7_newControl yX7_newControl, .initialized RX7, .code yX7_newControl cX7_newControl 3 (some (.object "LowEnergy$Row")), .methodLink RX7 62 yX9_clear, .instanceMethod yX9_clear, .selects RX9 yX9_clear yX9_clear, .initialized RX9, .code yX9_clear cX9_clear 1 none, .fieldLink RX9 21 "LowEnergy$Row" "size" "I", .methodLink RX7 71 yX9_put, .instanceMethod yX9_put, .selects RX9 yX9_put yX9_put, .code yX9_put cX9_put 2 none, .fieldLink RX9 15 "LowEnergy$Row" "bytes" "[I", .fieldLink RX7 33 "LowEnergy$Mail" "spare" "LLowEnergy$Row;", .fieldLink RX7 43 "LowEnergy$Mail" "controlCount" "I", .fieldLink RX7 20 "LowEnergy$Mail" "controls" "[LLowEnergy$Row;", .fieldLink RX7 39 "LowEnergy$Mail" "controlHead" "I", .methodLink RX11 164 yX9_put, .methodLink RX11 565 yX11_isForRole, .static yX11_isForRole, .initialized RX11, .code yX11_isForRole cX11_isForRole 2 (some .boolean), .methodLink RX11 573 yX11_obeyCipherControl, .static yX11_obeyCipherControl, .code yX11_obeyCipherControl cX11_obeyCipherControl 4 none, .methodLink RX11 582 yX4_note, .instanceMethod yX4_note, .selects RX4 yX4_note yX4_note, .initialized RX4, .code yX4_note cX4_note 6 none, .fieldLink RX4 29 "LowEnergy$Diary" "count" "I", .fieldLink RX4 36 "LowEnergy$Diary" "head" "I", .fieldLink RX4 11 "LowEnergy$Diary" "kinds" "[I", .fieldLink RX4 17 "LowEnergy$Diary" "numbers" "[[I", .fieldLink RX4 22 "LowEnergy$Diary" "rows" "[LLowEnergy$Row;", .methodLink RX4 39 yX9_clear, .fieldLink RX4 33 "LowEnergy$Diary" "lost" "I", .methodLink RX11 590 yX11_answerSessionRequest, .static yX11_answerSessionRequest, .code yX11_answerSessionRequest cX11_answerSessionRequest 2 none, .methodLink RX11 593 yX5_takeSessionParts, .instanceMethod yX5_takeSessionParts, .selects RX5 yX5_takeSessionParts yX5_takeSessionParts, .initialized RX5, .code yX5_takeSessionParts cX5_takeSessionParts 4 none, .methodLink RX5 67 yX9_at, .instanceMethod yX9_at, .selects RX9 yX9_at yX9_at, .code yX9_at cX9_at 2 (some .int), .fieldLink RX5 19 "LowEnergy$Guard" "iv" "[I", .fieldLink RX5 13 "LowEnergy$Guard" "diversifier" "[I", .methodLink RX11 208 yX3_drawInto, .instanceMethod yX3_drawInto, .selects RX3 yX3_drawInto yX3_drawInto, .initialized RX3, .code yX3_drawInto cX3_drawInto 5 none, .methodLink RX3 89 yX3_draw, .instanceMethod yX3_draw, .selects RX3 yX3_draw yX3_draw, .code yX3_draw cX3_draw 1 (some .int), .fieldLink RX3 69 "LowEnergy$Device" "x" "I", .constant RX3 88 (1103515245), .methodLink RX11 215 yX5_putSessionParts, .instanceMethod yX5_putSessionParts, .selects RX5 yX5_putSessionParts yX5_putSessionParts, .code yX5_putSessionParts cX5_putSessionParts 4 none, .methodLink RX5 61 yX9_put, .methodLink RX11 596 yX5_makeSession, .instanceMethod yX5_makeSession, .selects RX5 yX5_makeSession yX5_makeSession, .code yX5_makeSession cX5_makeSession 2 none, .fieldLink RX5 28 "LowEnergy$Guard" "cipher" "LLowEnergy$Cipher;", .fieldLink RX5 7 "LowEnergy$Guard" "key" "[I", .methodLink RX5 71 yX1_loadKey, .instanceMethod yX1_loadKey, .selects RX1 yX1_loadKey yX1_loadKey, .initialized RX1, .code yX1_loadKey cX1_loadKey 6 none, .fieldLink RX1 9 "LowEnergy$Cipher" "roundKeys" "[I", .fieldLink RX1 16 "LowEnergy$Cipher" "SBOX" "[I", .fieldLink RX5 16 "LowEnergy$Guard" "session" "[I", .methodLink RX5 77 yX1_encipher, .instanceMethod yX1_encipher, .selects RX1 yX1_encipher yX1_encipher, .code yX1_encipher cX1_encipher 7 none, .fieldLink RX1 13 "LowEnergy$Cipher" "moved" "[I", .fieldLink RX5 32 "LowEnergy$Guard" "hasSession" "Z", .methodLink RX11 599 yX5_beginSending, .instanceMethod yX5_beginSending, .selects RX5 yX5_beginSending yX5_beginSending, .code yX5_beginSending cX5_beginSending 1 none, .fieldLink RX5 45 "LowEnergy$Guard" "sends" "Z", .fieldLink RX5 51 "LowEnergy$Guard" "sent" "I", .methodLink RX11 602 yX5_beginComing, .instanceMethod yX5_beginComing, .selects RX5 yX5_beginComing yX5_beginComing, .code yX5_beginComing cX5_beginComing 1 none, .fieldLink RX5 48 "LowEnergy$Guard" "comes" "Z", .fieldLink RX5 55 "LowEnergy$Guard" "opened" "I", .methodLink RX11 291 yX9_at, .methodLink RX11 569 yX11_obeyLinkControl, .static yX11_obeyLinkControl, .code yX11_obeyLinkControl cX11_obeyLinkControl 3 none, .methodLink RX11 449 yX9_numberAt, .instanceMethod yX9_numberAt, .selects RX9 yX9_numberAt yX9_numberAt, .code yX9_numberAt cX9_numberAt 7 (some .long), .methodLink RX11 576 yX9_two, .instanceMethod yX9_two, .selects RX9 yX9_two yX9_two, .code yX9_two cX9_two 2 (some .int), .methodLink RX11 579 yX6_hearMap, .instanceMethod yX6_hearMap, .selects RX6 yX6_hearMap yX6_hearMap, .initialized RX6, .code yX6_hearMap cX6_hearMap 5 none, .methodLink RX6 76 yX6_giveReason, .instanceMethod yX6_giveReason, .selects RX6 yX6_giveReason yX6_giveReason, .code yX6_giveReason cX6_giveReason 2 none, .fieldLink RX6 15 "LowEnergy$Link" "reason" "I", .fieldLink RX6 54 "LowEnergy$Link" "event" "I", .constant RX6 75 (65535), .methodLink RX6 21 yX6_isProperMap, .static yX6_isProperMap, .code yX6_isProperMap cX6_isProperMap 2 (some .boolean), .methodLink RX6 25 yJ13_bitCount_95d88, .static yJ13_bitCount_95d88, .initialized RJ13, .code yJ13_bitCount_95d88 cJ13_bitCount_95d88 2 (some .int), .constantLong RJ13 314 (6148914691236517205), .constantLong RJ13 316 (3689348814741910323), .constantLong RJ13 318 (1085102592571150095), .fieldLink RX6 50 "LowEnergy$Link" "mapWaits" "Z", .methodLink RX6 80 yX6_awaitMap, .instanceMethod yX6_awaitMap, .selects RX6 yX6_awaitMap yX6_awaitMap, .code yX6_awaitMap cX6_awaitMap 4 none, .fieldLink RX6 69 "LowEnergy$Link" "nextMap" "J", .fieldLink RX6 72 "LowEnergy$Link" "instant" "I", .methodLink RX11 160 yX9_putNumber, .instanceMethod yX9_putNumber, .selects RX9 yX9_putNumber yX9_putNumber, .code yX9_putNumber cX9_putNumber 5 none, .constantLong RX9 25 (255), .methodLink RX11 586 yX4_noteBytes, .instanceMethod yX4_noteBytes, .selects RX4 yX4_noteBytes yX4_noteBytes, .code yX4_noteBytes cX4_noteBytes 8 none, .methodLink RX4 42 yX4_note, .methodLink RX4 46 yX9_putPart, .instanceMethod yX9_putPart, .selects RX9 yX9_putPart yX9_putPart, .code yX9_putPart cX9_putPart 6 none, .methodLink RX9 9 Lib.Math.max.name, .static Lib.Math.max.name, .initialized "java/lang/Math", .code Lib.Math.max.name Lib.Math.max.code 2 (some .int), .methodLink RX11 154 yX7_addVersion, .instanceMethod yX7_addVersion, .selects RX7 yX7_addVersion yX7_addVersion, .code yX7_addVersion cX7_addVersion 2 none, .methodLink RX7 74 yX7_newControl, .methodLink RX7 78 yX9_putNumber, .constantLong RX7 82 (258), .fieldLink RX7 46 "LowEnergy$Mail" "versionSent" "Z", .methodLink RX11 562 yX11_controlSize, .static yX11_controlSize, .code yX11_controlSize cX11_controlSize 1 (some .int)] : List Cond) ++ (wsX30 ++ (wsX90 ++ (wsX70 ++ (wsX50 ++ (wsX40 ++ (wsX10 ++ (wsX60 ++ ([])))))))))
theorem hi_Low_obey_X3 : ∀ x ∈ u_ws RX3 TX3 19, x ∈ wp_Low_obey := fun _ h => List.mem_cons_of_mem _ (List.mem_append_right _ (List.mem_append_left _ h))
theorem hi_Low_obey_X9 : ∀ x ∈ u_ws RX9 TX9 2, x ∈ wp_Low_obey := fun _ h => List.mem_cons_of_mem _ (List.mem_append_right _ (List.mem_append_right _ (List.mem_append_left _ h)))
theorem hi_Low_obey_X7 : ∀ x ∈ u_ws RX7 TX7 16, x ∈ wp_Low_obey := fun _ h => List.mem_cons_of_mem _ (List.mem_append_right _ (List.mem_append_right _ (List.mem_append_right _ (List.mem_append_left _ h))))
theorem hi_Low_obey_X5 : ∀ x ∈ u_ws RX5 TX5 16, x ∈ wp_Low_obey := fun _ h => List.mem_cons_of_mem _ (List.mem_append_right _ (List.mem_append_right _ (List.mem_append_right _ (List.mem_append_right _ (List.mem_append_left _ h)))))
theorem hi_Low_obey_X4 : ∀ x ∈ u_ws RX4 TX4 6, x ∈ wp_Low_obey := fun _ h => List.mem_cons_of_mem _ (List.mem_append_right _ (List.mem_append_right _ (List.mem_append_right _ (List.mem_append_right _ (List.mem_append_right _ (List.mem_append_left _ h))))))
theorem hi_Low_obey_X1 : ∀ x ∈ u_ws RX1 TX1 2, x ∈ wp_Low_obey := fun _ h => List.mem_cons_of_mem _ (List.mem_append_right _ (List.mem_append_right _ (List.mem_append_right _ (List.mem_append_right _ (List.mem_append_right _ (List.mem_append_right _ (List.mem_append_left _ h)))))))
theorem hi_Low_obey_X6 : ∀ x ∈ u_ws RX6 TX6 20, x ∈ wp_Low_obey := fun _ h => List.mem_cons_of_mem _ (List.mem_append_right _ (List.mem_append_right _ (List.mem_append_right _ (List.mem_append_right _ (List.mem_append_right _ (List.mem_append_right _ (List.mem_append_right _ (List.mem_append_left _ h))))))))
set_option maxRecDepth 100000 in
theorem gd_Low_obey_Mail_newControl_157 : GoodIn wp_Low_obey (wsV RX11 157 RX7 yX7_newControl wp_Mail_newControl) := goodIn_app (goodIn_r _ [1, 2, 3, 4] rfl rfl) (goodIn_ca (goodIn_r _ [5, 6, 7, 8, 9, 10, 11, 12, 13, 14, 15, 16, 17, 18, 19, 20] rfl rfl) (goodIn_app (goodIn_cls hi_Low_obey_X9 gw_X9) (goodIn_app (goodIn_cls hi_Low_obey_X7 gw_X7) (goodIn_nil))))
set_option maxRecDepth 100000 in
theorem gd_Low_obey_Row_put_164 : GoodIn wp_Low_obey (wsV RX11 164 RX9 yX9_put wp_Row_put) := goodIn_app (goodIn_r _ [21, 13, 14, 9] rfl rfl) (goodIn_ca (goodIn_r _ [15, 11, 16] rfl rfl) (goodIn_app (goodIn_cls hi_Low_obey_X9 gw_X9) (goodIn_nil)))
set_option maxRecDepth 100000 in
theorem gd_Low_obey_Low_isForRole_565 : GoodIn wp_Low_obey (va_wsS RX11 565 yX11_isForRole wp_Low_isForRole) := goodIn_app (goodIn_r _ [22, 23, 24] rfl rfl) (goodIn_ca (goodIn_r _ [25] rfl rfl) (goodIn_nil))
set_option maxRecDepth 100000 in
theorem gd_Low_obey_Low_obeyCipherControl_573 : GoodIn wp_Low_obey (va_wsS RX11 573 yX11_obeyCipherControl wp_Low_obeyCipherControl) := goodIn_app (goodIn_r _ [26, 27, 24] rfl rfl) (goodIn_ca (goodIn_r _ [28, 29, 30, 31, 32, 33, 34, 35, 36, 37, 38, 39, 7, 8, 9, 10, 11, 40, 41, 42, 24, 43, 44, 45, 46, 47, 48, 49, 50, 51, 52, 16, 53, 54, 55, 56, 57, 58, 59, 60, 61, 62, 63, 64, 65, 1, 2, 3, 4, 5, 6, 12, 13, 14, 15, 17, 18, 19, 20, 66, 67, 68, 69, 70, 71, 72, 73, 74, 75, 76, 77, 78, 79, 80, 81, 82, 83, 84, 85, 86, 87, 88, 89, 90, 21, 91, 92, 93, 94, 95, 96, 97, 98, 99, 100, 101, 102, 103] rfl rfl) (goodIn_app (goodIn_cls hi_Low_obey_X5 gw_X5) (goodIn_app (goodIn_cls hi_Low_obey_X3 gw_X3) (goodIn_app (goodIn_cls hi_Low_obey_X4 gw_X4) (goodIn_app (goodIn_cls hi_Low_obey_X9 gw_X9) (goodIn_app (goodIn_cls hi_Low_obey_X7 gw_X7) (goodIn_app (goodIn_cls hi_Low_obey_X1 gw_X1) (goodIn_nil))))))))
set_option maxRecDepth 100000 in
theorem gd_Low_obey_Low_obeyLinkControl_569 : GoodIn wp_Low_obey (va_wsS RX11 569 yX11_obeyLinkControl wp_Low_obeyLinkControl) := goodIn_app (goodIn_r _ [104, 105, 24] rfl rfl) (goodIn_ca (goodIn_r _ [106, 107, 108, 109, 9, 110, 11, 16, 111, 112, 113, 114, 115, 116, 117, 118, 119, 120, 121, 122, 123, 124, 125, 126, 127, 128, 129, 130, 131, 132, 133, 134, 135, 136, 137, 138, 139, 140, 141, 142, 143, 103, 50, 51, 52, 29, 30, 31, 32, 33, 34, 35, 36, 37, 38, 39, 7, 8, 10, 40, 1, 2, 3, 4, 5, 6, 12, 13, 14, 15, 17, 18, 19, 20, 144, 145, 146, 147, 148, 149, 150, 151, 152, 153, 154, 155, 156, 157, 158, 159, 160, 161, 162, 163, 164, 165, 166, 167, 168, 169] rfl rfl) (goodIn_app (goodIn_cls hi_Low_obey_X3 gw_X3) (goodIn_app (goodIn_cls hi_Low_obey_X9 gw_X9) (goodIn_app (goodIn_cls hi_Low_obey_X6 gw_X6) (goodIn_app (goodIn_cls hi_Low_obey_X4 gw_X4) (goodIn_app (goodIn_cls hi_Low_obey_X7 gw_X7) (goodIn_nil)))))))
set_option maxRecDepth 100000 in
theorem gd_Low_obey_Low_controlSize_562 : GoodIn wp_Low_obey (va_wsS RX11 562 yX11_controlSize wp_Low_controlSize) := goodIn_app (goodIn_r _ [170, 171, 24] rfl rfl) (goodIn_ca (goodIn_r _ [172] rfl rfl) (goodIn_nil))
set_option maxRecDepth 100000 in
theorem gd_Low_obey_Row_at_291 : GoodIn wp_Low_obey (wsV RX11 291 RX9 yX9_at wp_Row_at) := goodIn_app (goodIn_r _ [103, 50, 51, 9] rfl rfl) (goodIn_ca (goodIn_r _ [52, 11, 16] rfl rfl) (goodIn_app (goodIn_cls hi_Low_obey_X9 gw_X9) (goodIn_nil)))
set_option maxHeartbeats 4000000 in
set_option maxRecDepth 100000 in
theorem b_Low_obey {p : Program} {l : Launch} {e : Env} {R : Room} {s : State} {m : MethodId} {args : Array Value} {below : List Frame} {meth : Method} {c : Code} {D : va_G} {K : Nat → ClassId} {A : Nat → Prop} {Q : State → Prop} {τ : Nat → Option Ty} {dom : List Nat} {zb zL : Nat} {zx : Nat → Int32} {zs : Nat → Nat} (hR : 4 ≤ R.frames ∧ 94 ≤ R.locals) (B : Bx p s m args c cX11_obey 4 RX11 wp_Low_obey D (tysA K) A) (Z : Sk τ dom) (hz : ZL zb zL zx zs A s s.heap) (d : Nat) (g : Nat) (t_d : τ d = some (33, 0, 0)) (t_g : τ g = some (1, 5, 0)) (σ0 : Nat → va_E) (G0 : Good K τ σ0) (hend : ∀ (σ' : Nat → va_E) (lv : List (Nat × Value)) (pc : Nat), Good K τ σ' → Fr τ [(35, 0), (3, 41), (3, 43), (33, 0), (37, 0), (1, 9), (2, 9), (3, 42), (2, 31), (2, 32), (3, 23), (3, 22), (1, 16), (34, 0), (36, 0), (2, 16)] σ0 σ' → decode cX11_obey pc = .ok (.return_, 1) → V p l e R s m args below meth c 4 D A Q (0, 0) (fd dom σ') lv pc []) : V p l e R s m args below meth c 4 D A Q (0, 0) (fd dom σ0) [(0, .ref d), (1, .ref g)] 0 [] := by
  have F0 : Fr τ [(35, 0), (3, 41), (3, 43), (33, 0), (37, 0), (1, 9), (2, 9), (3, 42), (2, 31), (2, 32), (3, 23), (3, 22), (1, 16), (34, 0), (36, 0), (2, 16)] σ0 σ0 := Fr.rf
  have J91 : ∀ (z91_2 : Int), (-1 ≤ z91_2 ∧ z91_2 ≤ 255) → V p l e R s m args below meth c 4 D A Q (0, 0) (fd dom σ0) [(0, .ref d), (2, .int (iI z91_2))] 91 [] := by
    intro z91_2 r91_2
    refine v_iload_n B dX11_obey_91 rfl rfl ?_
    refine v_bipush B (v := iI 7) dX11_obey_92 (by decide +kernel) ?_
    refine u_icmp_eq B (tgt := 110) (by omega) (by omega) dX11_obey_94 (by decide +kernel) (fun c1 => ?_) (fun c1 => ?_)
    · exact hend σ0 _ _ G0 F0 dX11_obey_110
    · refine v_aload_n B dX11_obey_97 rfl rfl ?_
      obtain ⟨z2, yy3, z4, z5, z6, z7, a8, z9, yy10, a11, yy12, a13, a14, a15, a16, a17, a18, a19, a20, h21, r22, r23, r24, r25, r26, r27, t28, r29, r30, t31, r32, t33, t34, t35, t36, t37, t38, t39, t40⟩ : okDevice τ (σ0 d) := G0 d _ t_d
      refine u_getN B Z (C := RX3) (T := TX3) (N := 19) (ci := 3) hi_Low_obey_X3 t_d h21 rfl 12 (by decide +kernel) (List.mem_of_getElem? (i := 5) rfl) rfl dX11_obey_98 ?_
      refine v_bipush B (v := iI 7) dX11_obey_101 (by decide +kernel) ?_
      refine u_callVq B Z hz (n := 1) (As := [.int (iI 7)]) (rest := []) (c_Mail_newControl l D K Z _ _ _ _ a14 7 t34 ⟨by omega, by omega⟩ σ0 G0) gd_Low_obey_Mail_newControl_157 rfl rfl rfl (by decide +kernel) ⟨Nat.le_trans (by decide +kernel) hR.1, Nat.le_trans (by decide +kernel) hR.2⟩ t34 (cls_Mail G0 t34) rfl rfl rfl rfl (Nat.le_of_ble_eq_true rfl) dX11_obey_103 ⟨Nat.zero_le _, Nat.zero_le _⟩ (fun v43 σ41 p42 => ?_)
      obtain ⟨G44, F45, q47⟩ := p42
      have F46 := F0.call F45 (by first | rfl | simp)
      have h48 := (F45 d _ t_d (by first | rfl | simp)).trans h21
      obtain ⟨a49, rfl, t50⟩ := q47
      show V _ _ _ _ _ _ _ _ _ _ _ _ _ _ _ _ _ _ [.ref a49]
      refine v_iload_n B dX11_obey_106 rfl rfl ?_
      refine u_callVv B Z hz (n := 1) (As := [.int (iI z91_2)]) (rest := []) (c_Row_put l D K Z _ _ _ _ a49 z91_2 t50 ⟨by omega, by omega⟩ σ41 G44) gd_Low_obey_Row_put_164 rfl rfl rfl (by decide +kernel) ⟨Nat.le_trans (by decide +kernel) hR.1, Nat.le_trans (by decide +kernel) hR.2⟩ t50 (cls_Row G44 t50) rfl rfl rfl rfl (Nat.le_of_ble_eq_true rfl) dX11_obey_107 ⟨Nat.zero_le _, Nat.zero_le _⟩ (fun σ51 p52 => ?_)
      obtain ⟨G54, F55⟩ := p52
      have F56 := F46.call F55 (by first | rfl | simp)
      have h57 := (F55 d _ t_d (by first | rfl | simp)).trans h48
      exact hend σ51 _ _ G54 F56 dX11_obey_110
  have J85 : ∀ (z85_2 : Int) (z85_3 : Int) (z85_s0 : Int) (z85_s1 : Int), (-1 ≤ z85_2 ∧ z85_2 ≤ 255) → (0 ≤ z85_3 ∧ z85_3 ≤ 1) → (0 ≤ z85_s0 ∧ z85_s0 ≤ 1) → (-1 ≤ z85_s1 ∧ z85_s1 ≤ 255) → V p l e R s m args below meth c 4 D A Q (0, 0) (fd dom σ0) [(0, .ref d), (1, .ref g), (2, .int (iI z85_2)), (3, .int (iI z85_3))] 85 [.int (iI z85_s0), .int (iI z85_s1)] := by
    intro z85_2 z85_3 z85_s0 z85_s1 r85_2 r85_3 r85_s0 r85_s1
    refine u_callSi B Z hz (n := 2) (As := [.int (iI z85_s1), .int (iI z85_s0)]) (rest := []) (c_Low_isForRole l D K Z _ _ _ _ z85_s1 z85_s0 ⟨by omega, by omega⟩ ⟨by omega, by omega⟩ σ0 G0) gd_Low_obey_Low_isForRole_565 rfl rfl rfl (by decide +kernel) ⟨Nat.le_trans (by decide +kernel) hR.1, Nat.le_trans (by decide +kernel) hR.2⟩ rfl rfl (Nat.le_of_ble_eq_true rfl) dX11_obey_85 ⟨Nat.zero_le _, Nat.zero_le _⟩ (fun v60 σ58 p59 => ?_)
    obtain ⟨rfl, z64, e65, r66⟩ := p59
    subst e65
    refine u_if_ne B (tgt := 111) (by omega) dX11_obey_88 (by decide +kernel) (fun c67 => ?_) (fun c67 => ?_)
    · refine v_iload_n B dX11_obey_111 rfl rfl ?_
      refine u_if_ne B (tgt := 124) (by omega) dX11_obey_112 (by decide +kernel) (fun c68 => ?_) (fun c68 => ?_)
      · refine v_aload_n B dX11_obey_124 rfl rfl ?_
        obtain ⟨z69, yy70, z71, z72, z73, z74, a75, z76, yy77, a78, yy79, a80, a81, a82, a83, a84, a85, a86, a87, h88, r89, r90, r91, r92, r93, r94, t95, r96, r97, t98, r99, t100, t101, t102, t103, t104, t105, t106, t107⟩ : okDevice τ (σ0 d) := G0 d _ t_d
        refine u_getN B Z (C := RX3) (T := TX3) (N := 19) (ci := 3) hi_Low_obey_X3 t_d h88 rfl 13 (by decide +kernel) (List.mem_of_getElem? (i := 10) rfl) rfl dX11_obey_125 ?_
        obtain ⟨a108, a109, z110, a111, a112, a113, z114, z115, z116, z117, z118, z119, z120, z121, a122, a123, h124, t125, t126, r127, t128, t129, t130, r131, r132, r133, r134, r135, r136, r137, r138, t139, t140⟩ : okGuard τ (σ0 a82) := G0 a82 _ t102
        refine u_getN B Z (C := RX5) (T := TX5) (N := 16) (ci := 5) hi_Low_obey_X5 t102 h124 rfl 9 (by decide +kernel) (List.mem_of_getElem? (i := 12) rfl) rfl dX11_obey_128 ?_
        refine u_if_ne B (tgt := 140) (by omega) dX11_obey_131 (by decide +kernel) (fun c141 => ?_) (fun c141 => ?_)
        · exact hend σ0 _ _ G0 F0 dX11_obey_140
        · refine v_aload_n B dX11_obey_134 rfl rfl ?_
          refine v_iload_n B dX11_obey_135 rfl rfl ?_
          refine v_aload_n B dX11_obey_136 rfl rfl ?_
          refine u_callSv B Z hz (n := 3) (As := [.ref d, .int (iI z85_2), .ref g]) (rest := []) (c_Low_obeyCipherControl l D K Z _ _ _ _ d z85_2 g t_d ⟨by omega, by omega⟩ t_g σ0 G0) gd_Low_obey_Low_obeyCipherControl_573 rfl rfl rfl (by decide +kernel) ⟨Nat.le_trans (by decide +kernel) hR.1, Nat.le_trans (by decide +kernel) hR.2⟩ rfl rfl (Nat.le_of_ble_eq_true rfl) dX11_obey_137 ⟨Nat.zero_le _, Nat.zero_le _⟩ (fun σ142 p143 => ?_)
          obtain ⟨G145, F146⟩ := p143
          have F147 := F0.call F146 (by first | rfl | simp)
          exact hend σ142 _ _ G145 F147 dX11_obey_140
      · refine v_aload_n B dX11_obey_115 rfl rfl ?_
        refine v_iload_n B dX11_obey_116 rfl rfl ?_
        refine v_aload_n B dX11_obey_117 rfl rfl ?_
        refine u_callSv B Z hz (n := 3) (As := [.ref d, .int (iI z85_2), .ref g]) (rest := []) (c_Low_obeyLinkControl l D K Z _ _ _ _ d z85_2 g t_d ⟨by omega, by omega⟩ t_g σ0 G0) gd_Low_obey_Low_obeyLinkControl_569 rfl rfl rfl (by decide +kernel) ⟨Nat.le_trans (by decide +kernel) hR.1, Nat.le_trans (by decide +kernel) hR.2⟩ rfl rfl (Nat.le_of_ble_eq_true rfl) dX11_obey_118 ⟨Nat.zero_le _, Nat.zero_le _⟩ (fun σ148 p149 => ?_)
        obtain ⟨G151, F152⟩ := p149
        have F153 := F0.call F152 (by first | rfl | simp)
        refine v_goto B (tgt := 140) dX11_obey_121 (by decide +kernel) ?_
        exact hend σ148 _ _ G151 F153 dX11_obey_140
    · refine v_lv [0, 2] rfl ?_
      exact J91 z85_2 ⟨by omega, by omega⟩
  have J60 : ∀ (z60_2 : Int) (z60_3 : Int), (-1 ≤ z60_2 ∧ z60_2 ≤ 255) → (0 ≤ z60_3 ∧ z60_3 ≤ 1) → V p l e R s m args below meth c 4 D A Q (0, 0) (fd dom σ0) [(0, .ref d), (1, .ref g), (2, .int (iI z60_2)), (3, .int (iI z60_3))] 60 [] := by
    intro z60_2 z60_3 r60_2 r60_3
    refine v_aload_n B dX11_obey_60 rfl rfl ?_
    obtain ⟨b154, N155, n156, h157, t158, r159⟩ : okRow τ 5 (σ0 g) := G0 g _ t_g
    refine u_getN B Z (C := RX9) (T := TX9) (N := 2) (ci := 9) hi_Low_obey_X9 t_g h157 rfl 1 (by decide +kernel) (List.mem_of_getElem? (i := 51) rfl) rfl dX11_obey_61 ?_
    refine v_iload_n B dX11_obey_64 rfl rfl ?_
    refine u_callSi B Z hz (n := 1) (As := [.int (iI z60_2)]) (rest := [.int (iI n156)]) (c_Low_controlSize l D K Z _ _ _ _ z60_2 ⟨by omega, by omega⟩ σ0 G0) gd_Low_obey_Low_controlSize_562 rfl rfl rfl (by decide +kernel) ⟨Nat.le_trans (by decide +kernel) hR.1, Nat.le_trans (by decide +kernel) hR.2⟩ rfl rfl (Nat.le_of_ble_eq_true rfl) dX11_obey_65 ⟨Nat.zero_le _, Nat.zero_le _⟩ (fun v162 σ160 p161 => ?_)
    obtain ⟨rfl, z166, e167, r168⟩ := p161
    subst e167
    refine u_icmp_ne B (tgt := 91) (by omega) (by omega) dX11_obey_68 (by decide +kernel) (fun c169 => ?_) (fun c169 => ?_)
    · refine v_lv [0, 2] rfl ?_
      exact J91 z60_2 ⟨by omega, by omega⟩
    · refine v_iload_n B dX11_obey_71 rfl rfl ?_
      refine v_aload_n B dX11_obey_72 rfl rfl ?_
      obtain ⟨z170, yy171, z172, z173, z174, z175, a176, z177, yy178, a179, yy180, a181, a182, a183, a184, a185, a186, a187, a188, h189, r190, r191, r192, r193, r194, r195, t196, r197, r198, t199, r200, t201, t202, t203, t204, t205, t206, t207, t208⟩ : okDevice τ (σ0 d) := G0 d _ t_d
      refine u_getN B Z (C := RX3) (T := TX3) (N := 19) (ci := 3) hi_Low_obey_X3 t_d h189 rfl 2 (by decide +kernel) (List.mem_of_getElem? (i := 65) rfl) rfl dX11_obey_73 ?_
      refine v_iconst B (v := iI 4) dX11_obey_76 rfl ?_
      refine u_icmp_ne B (tgt := 84) (by omega) (by omega) dX11_obey_77 (by decide +kernel) (fun c209 => ?_) (fun c209 => ?_)
      · refine v_iconst B (v := iI 0) dX11_obey_84 rfl ?_
        exact J85 z60_2 z60_3 0 z60_2 ⟨by omega, by omega⟩ ⟨by omega, by omega⟩ ⟨by omega, by omega⟩ ⟨by omega, by omega⟩
      · refine v_iconst B (v := iI 1) dX11_obey_80 rfl ?_
        refine v_goto B (tgt := 85) dX11_obey_81 (by decide +kernel) ?_
        exact J85 z60_2 z60_3 1 z60_2 ⟨by omega, by omega⟩ ⟨by omega, by omega⟩ ⟨by omega, by omega⟩ ⟨by omega, by omega⟩
  have J28 : ∀ (z28_2 : Int) (z28_s0 : Int), (-1 ≤ z28_2 ∧ z28_2 ≤ 255) → (0 ≤ z28_s0 ∧ z28_s0 ≤ 1) → V p l e R s m args below meth c 4 D A Q (0, 0) (fd dom σ0) [(0, .ref d), (1, .ref g), (2, .int (iI z28_2))] 28 [.int (iI z28_s0)] := by
    intro z28_2 z28_s0 r28_2 r28_s0
    refine v_istore_n B (lv' := [(3, .int (iI z28_s0)), (0, .ref d), (1, .ref g), (2, .int (iI z28_2))]) dX11_obey_28 rfl (by decide +kernel) rfl ?_
    refine v_aload_n B dX11_obey_29 rfl rfl ?_
    obtain ⟨z210, yy211, z212, z213, z214, z215, a216, z217, yy218, a219, yy220, a221, a222, a223, a224, a225, a226, a227, a228, h229, r230, r231, r232, r233, r234, r235, t236, r237, r238, t239, r240, t241, t242, t243, t244, t245, t246, t247, t248⟩ : okDevice τ (σ0 d) := G0 d _ t_d
    refine u_getN B Z (C := RX3) (T := TX3) (N := 19) (ci := 3) hi_Low_obey_X3 t_d h229 rfl 12 (by decide +kernel) (List.mem_of_getElem? (i := 5) rfl) rfl dX11_obey_30 ?_
    obtain ⟨a249, z250, z251, a252, z253, z254, z255, a256, z257, z258, z259, a260, z261, a262, z263, a264, h265, t266, r267, r268, t269, r270, r271, r272, t273, r274, r275, r276, t277, r278, t279, r280, t281⟩ : okMail τ (σ0 a222) := G0 a222 _ t242
    refine u_getN B Z (C := RX7) (T := TX7) (N := 16) (ci := 7) hi_Low_obey_X7 t242 h265 rfl 5 (by decide +kernel) (List.mem_of_getElem? (i := 44) rfl) rfl dX11_obey_33 ?_
    refine v_iconst B (v := iI 4) dX11_obey_36 rfl ?_
    refine u_icmp_gt B (tgt := 59) (by omega) (by omega) dX11_obey_37 (by decide +kernel) (fun c282 => ?_) (fun c282 => ?_)
    · exact hend σ0 _ _ G0 F0 dX11_obey_59
    · refine v_aload_n B dX11_obey_40 rfl rfl ?_
      refine u_getN B Z (C := RX3) (T := TX3) (N := 19) (ci := 3) hi_Low_obey_X3 t_d h229 rfl 13 (by decide +kernel) (List.mem_of_getElem? (i := 10) rfl) rfl dX11_obey_41 ?_
      obtain ⟨a283, a284, z285, a286, a287, a288, z289, z290, z291, z292, z293, z294, z295, z296, a297, a298, h299, t300, t301, r302, t303, t304, t305, r306, r307, r308, r309, r310, r311, r312, r313, t314, t315⟩ : okGuard τ (σ0 a223) := G0 a223 _ t243
      refine u_getN B Z (C := RX5) (T := TX5) (N := 16) (ci := 5) hi_Low_obey_X5 t243 h299 rfl 8 (by decide +kernel) (List.mem_of_getElem? (i := 13) rfl) rfl dX11_obey_44 ?_
      refine u_if_eq B (tgt := 60) (by omega) dX11_obey_47 (by decide +kernel) (fun c316 => ?_) (fun c316 => ?_)
      · refine v_lv [1, 2, 3, 0] rfl ?_
        exact J60 z28_2 z28_s0 ⟨by omega, by omega⟩ ⟨by omega, by omega⟩
      · refine v_iload_n B dX11_obey_50 rfl rfl ?_
        refine u_if_ne B (tgt := 60) (by omega) dX11_obey_51 (by decide +kernel) (fun c317 => ?_) (fun c317 => ?_)
        · refine v_lv [1, 2, 3, 0] rfl ?_
          exact J60 z28_2 z28_s0 ⟨by omega, by omega⟩ ⟨by omega, by omega⟩
        · refine v_iload_n B dX11_obey_54 rfl rfl ?_
          refine v_iconst B (v := iI 2) dX11_obey_55 rfl ?_
          refine u_icmp_eq B (tgt := 60) (by omega) (by omega) dX11_obey_56 (by decide +kernel) (fun c318 => ?_) (fun c318 => ?_)
          · refine v_lv [1, 2, 3, 0] rfl ?_
            exact J60 z28_2 z28_s0 ⟨by omega, by omega⟩ ⟨by omega, by omega⟩
          · exact hend σ0 _ _ G0 F0 dX11_obey_59
  have J23 : ∀ (z23_2 : Int), (3 ≤ z23_2 ∧ z23_2 ≤ 13) → V p l e R s m args below meth c 4 D A Q (0, 0) (fd dom σ0) [(0, .ref d), (1, .ref g), (2, .int (iI z23_2))] 23 [] := by
    intro z23_2 r23_2
    refine v_iconst B (v := iI 1) dX11_obey_23 rfl ?_
    refine v_goto B (tgt := 28) dX11_obey_24 (by decide +kernel) ?_
    exact J28 z23_2 1 ⟨by omega, by omega⟩ ⟨by omega, by omega⟩
  have J17 : ∀ (z17_2 : Int), (-1 ≤ z17_2 ∧ z17_2 ≤ 255) → V p l e R s m args below meth c 4 D A Q (0, 0) (fd dom σ0) [(0, .ref d), (1, .ref g), (2, .int (iI z17_2))] 17 [] := by
    intro z17_2 r17_2
    refine v_iload_n B dX11_obey_17 rfl rfl ?_
    refine v_bipush B (v := iI 13) dX11_obey_18 (by decide +kernel) ?_
    refine u_icmp_ne B (tgt := 27) (by omega) (by omega) dX11_obey_20 (by decide +kernel) (fun c319 => ?_) (fun c319 => ?_)
    · refine v_iconst B (v := iI 0) dX11_obey_27 rfl ?_
      exact J28 z17_2 0 ⟨by omega, by omega⟩ ⟨by omega, by omega⟩
    · exact J23 z17_2 ⟨by omega, by omega⟩
  refine v_aload_n B dX11_obey_0 rfl rfl ?_
  refine v_iconst B (v := iI 0) dX11_obey_1 rfl ?_
  refine u_callVi B Z hz (n := 1) (As := [.int (iI 0)]) (rest := []) (c_Row_at l D K Z _ _ _ _ g 0 t_g ⟨by omega, by omega⟩ σ0 G0) gd_Low_obey_Row_at_291 rfl rfl rfl (by decide +kernel) ⟨Nat.le_trans (by decide +kernel) hR.1, Nat.le_trans (by decide +kernel) hR.2⟩ t_g (cls_Row G0 t_g) rfl rfl rfl rfl (Nat.le_of_ble_eq_true rfl) dX11_obey_2 ⟨Nat.zero_le _, Nat.zero_le _⟩ (fun v322 σ320 p321 => ?_)
  obtain ⟨rfl, z326, e327, r328⟩ := p321
  subst e327
  refine v_istore_n B (lv' := [(2, .int (iI z326)), (0, .ref d), (1, .ref g)]) dX11_obey_5 rfl (by decide +kernel) rfl ?_
  refine v_iload_n B dX11_obey_6 rfl rfl ?_
  refine v_iconst B (v := iI 3) dX11_obey_7 rfl ?_
  refine u_icmp_lt B (tgt := 17) (by omega) (by omega) dX11_obey_8 (by decide +kernel) (fun c329 => ?_) (fun c329 => ?_)
  · refine v_lv [1, 2, 0] rfl ?_
    exact J17 z326 ⟨by omega, by omega⟩
  · refine v_iload_n B dX11_obey_11 rfl rfl ?_
    refine v_bipush B (v := iI 6) dX11_obey_12 (by decide +kernel) ?_
    refine u_icmp_le B (tgt := 23) (by omega) (by omega) dX11_obey_14 (by decide +kernel) (fun c330 => ?_) (fun c330 => ?_)
    · refine v_lv [1, 2, 0] rfl ?_
      exact J23 z326 ⟨by omega, by omega⟩
    · refine v_lv [1, 2, 0] rfl ?_
      exact J17 z326 ⟨by omega, by omega⟩
set_option maxRecDepth 100000 in
theorem c_Low_obey (l : Launch) (D : va_G) (K : Nat → ClassId) {τ : Nat → Option Ty} {dom : List Nat} (Z : Sk τ dom) (zb zL : Nat) (zx : Nat → Int32) (zs : Nat → Nat) (d : Nat) (g : Nat) (t_d : τ d = some (33, 0, 0)) (t_g : τ g = some (1, 5, 0)) (σ0 : Nat → va_E) (G0 : Good K τ σ0) : MZ l yX11_obey wp_Low_obey ({ frames := 4, cells := 0, slots := 0, locals := 94 }) D (tysA K) [.ref d, .ref g] (fd dom σ0) zb zL zx zs (Qv D (fun σ' => Good K τ σ' ∧ Fr τ [(35, 0), (3, 41), (3, 43), (33, 0), (37, 0), (1, 9), (2, 9), (3, 42), (2, 31), (2, 32), (3, 23), (3, 22), (1, 16), (34, 0), (36, 0), (2, 16)] σ0 σ') (fun σ' => fd dom σ')) 0 0 := by
  refine mz_of (cc := cX11_obey) (maxL := 4) (ret := none) (by decide +kernel) rfl (Nat.le_of_ble_eq_true rfl) ?_
  intro p e s m below meth c A B hr hlk _ hz
  exact b_Low_obey ⟨Nat.le_refl _, Nat.le_refl _⟩ B Z hz d g t_d t_g σ0 G0 (fun σ' lv pc G F hd => v_vret B hr hlk σ' ⟨G, F⟩ rfl (Nat.le_refl _) (Nat.le_refl _) hd)

def wp_Low_answer : List Cond := .code yX11_answer cX11_answer 4 none :: (([.methodLink RX11 232 yX7_post, .instanceMethod yX7_post, .selects RX7 yX7_post yX7_post, .initialized RX7, .code yX7_post cX7_post 4 none, .methodLink RX7 84 yX7_isFull, .instanceMethod yX7_isFull, .selects RX7 yX7_isFull yX7_isFull, .code yX7_isFull cX7_isFull 1 (some .boolean), .fieldLink RX7 53 "LowEnergy$Mail" "messageCount" "I", .fieldLink RX7 24 "LowEnergy$Mail" "messages" "[LLowEnergy$Row;", .fieldLink RX7 50 "LowEnergy$Mail" "messageHead" "I", .methodLink RX7 62 yX9_clear, .instanceMethod yX9_clear, .selects RX9 yX9_clear yX9_clear, .initialized RX9, .code yX9_clear cX9_clear 1 none, .fieldLink RX9 21 "LowEnergy$Row" "size" "I", .methodLink RX7 78 yX9_putNumber, .instanceMethod yX9_putNumber, .selects RX9 yX9_putNumber yX9_putNumber, .code yX9_putNumber cX9_putNumber 5 none, .fieldLink RX9 15 "LowEnergy$Row" "bytes" "[I", .constantLong RX9 25 (255), .methodLink RX7 91 yX9_putPart, .instanceMethod yX9_putPart, .selects RX9 yX9_putPart yX9_putPart, .code yX9_putPart cX9_putPart 6 none, .methodLink RX9 9 Lib.Math.max.name, .static Lib.Math.max.name, .initialized "java/lang/Math", .code Lib.Math.max.name Lib.Math.max.code 2 (some .int), .methodLink RX11 554 yX10_hearNotice, .instanceMethod yX10_hearNotice, .selects RX10 yX10_hearNotice yX10_hearNotice, .initialized RX10, .code yX10_hearNotice cX10_hearNotice 5 none, .methodLink RX10 76 yX9_two, .instanceMethod yX9_two, .selects RX9 yX9_two yX9_two, .code yX9_two cX9_two 2 (some .int), .methodLink RX10 79 yX4_noteBytes, .instanceMethod yX4_noteBytes, .selects RX4 yX4_noteBytes yX4_noteBytes, .initialized RX4, .code yX4_noteBytes cX4_noteBytes 8 none, .fieldLink RX4 29 "LowEnergy$Diary" "count" "I", .fieldLink RX4 33 "LowEnergy$Diary" "lost" "I", .fieldLink RX4 22 "LowEnergy$Diary" "rows" "[LLowEnergy$Row;", .fieldLink RX4 36 "LowEnergy$Diary" "head" "I", .methodLink RX4 42 yX4_note, .instanceMethod yX4_note, .selects RX4 yX4_note yX4_note, .code yX4_note cX4_note 6 none, .fieldLink RX4 11 "LowEnergy$Diary" "kinds" "[I", .fieldLink RX4 17 "LowEnergy$Diary" "numbers" "[[I", .methodLink RX4 39 yX9_clear, .methodLink RX4 46 yX9_putPart, .methodLink RX10 83 yX9_put, .instanceMethod yX9_put, .selects RX9 yX9_put yX9_put, .code yX9_put cX9_put 2 none, .methodLink RX10 63 yX9_at, .instanceMethod yX9_at, .selects RX9 yX9_at yX9_at, .code yX9_at cX9_at 2 (some .int), .fieldLink RX10 28 "LowEnergy$Server" "linkMtu" "I", .fieldLink RX10 43 "LowEnergy$Server" "waitsForConfirmation" "Z", .methodLink RX10 70 yX4_note, .methodLink RX11 558 yX10_serve, .instanceMethod yX10_serve, .selects RX10 yX10_serve yX10_serve, .code yX10_serve cX10_serve 5 none, .methodLink RX10 105 yX10_agreeOnMtu, .instanceMethod yX10_agreeOnMtu, .selects RX10 yX10_agreeOnMtu yX10_agreeOnMtu, .code yX10_agreeOnMtu cX10_agreeOnMtu 2 none, .fieldLink RX10 24 "LowEnergy$Server" "ownMtu" "I", .methodLink RX10 47 Lib.Math.min.name, .static Lib.Math.min.name, .code Lib.Math.min.name Lib.Math.min.code 2 (some .int), .methodLink RX10 53 Lib.Math.max.name, .methodLink RX10 108 yX9_putNumber, .methodLink RX10 112 yX10_answerRead, .instanceMethod yX10_answerRead, .selects RX10 yX10_answerRead yX10_answerRead, .code yX10_answerRead cX10_answerRead 9 none, .methodLink RX10 97 yX10_refuse, .static yX10_refuse, .code yX10_refuse cX10_refuse 4 none, .methodLink RX10 133 yX9_putPart, .methodLink RX10 137 yX10_faultOfRead, .instanceMethod yX10_faultOfRead, .selects RX10 yX10_faultOfRead yX10_faultOfRead, .code yX10_faultOfRead cX10_faultOfRead 4 (some .int), .fieldLink RX10 56 "LowEnergy$Server" "count" "I", .fieldLink RX10 15 "LowEnergy$Server" "rights" "[I", .methodLink RX10 126 yX10_valueOf, .instanceMethod yX10_valueOf, .selects RX10 yX10_valueOf yX10_valueOf, .code yX10_valueOf cX10_valueOf 2 (some (.object "LowEnergy$Row")), .fieldLink RX10 20 "LowEnergy$Server" "values" "[LLowEnergy$Row;", .methodLink RX10 116 yX10_answerWrite, .instanceMethod yX10_answerWrite, .selects RX10 yX10_answerWrite yX10_answerWrite, .code yX10_answerWrite cX10_answerWrite 6 none, .methodLink RX10 86 yX10_faultOfWrite, .instanceMethod yX10_faultOfWrite, .selects RX10 yX10_faultOfWrite yX10_faultOfWrite, .code yX10_faultOfWrite cX10_faultOfWrite 5 (some .int), .fieldLink RX10 40 "LowEnergy$Server" "partCount" "I", .fieldLink RX10 31 "LowEnergy$Server" "parts" "[LLowEnergy$Row;", .methodLink RX10 130 yX9_clear, .methodLink RX10 90 yX10_overwrite, .instanceMethod yX10_overwrite, .selects RX10 yX10_overwrite yX10_overwrite, .code yX10_overwrite cX10_overwrite 3 none, .methodLink RX10 119 yX10_answerExecute, .instanceMethod yX10_answerExecute, .selects RX10 yX10_answerExecute yX10_answerExecute, .code yX10_answerExecute cX10_answerExecute 6 none, .methodLink RX10 145 yX10_writePart, .instanceMethod yX10_writePart, .selects RX10 yX10_writePart yX10_writePart, .code yX10_writePart cX10_writePart 5 none, .methodLink RX10 148 yX9_write, .instanceMethod yX9_write, .selects RX9 yX9_write yX9_write, .code yX9_write cX9_write 3 none, .methodLink RX9 31 yX9_put, .methodLink RX10 141 yX10_faultOfPart, .instanceMethod yX10_faultOfPart, .selects RX10 yX10_faultOfPart yX10_faultOfPart, .code yX10_faultOfPart cX10_faultOfPart 5 (some .int), .fieldLink RX10 34 "LowEnergy$Server" "sizes" "[I", .methodLink RX10 123 yX10_answerSearch, .instanceMethod yX10_answerSearch, .selects RX10 yX10_answerSearch yX10_answerSearch, .code yX10_answerSearch cX10_answerSearch 8 none, .methodLink RX10 163 yX10_listRows, .instanceMethod yX10_listRows, .selects RX10 yX10_listRows yX10_listRows, .code yX10_listRows cX10_listRows 13 none, .methodLink RX10 170 yX10_endOf, .instanceMethod yX10_endOf, .selects RX10 yX10_endOf yX10_endOf, .code yX10_endOf cX10_endOf 3 (some .int), .fieldLink RX10 11 "LowEnergy$Server" "types" "[I", .methodLink RX10 152 yX10_isGroup, .static yX10_isGroup, .code yX10_isGroup cX10_isGroup 1 (some .boolean), .methodLink RX10 159 yX10_listEqual, .instanceMethod yX10_listEqual, .selects RX10 yX10_listEqual yX10_listEqual, .code yX10_listEqual cX10_listEqual 7 none, .methodLink RX10 166 yX9_isTailOf, .instanceMethod yX9_isTailOf, .selects RX9 yX9_isTailOf yX9_isTailOf, .code yX9_isTailOf cX9_isTailOf 4 (some .boolean), .methodLink RX10 155 yX10_listTypes, .instanceMethod yX10_listTypes, .selects RX10 yX10_listTypes yX10_listTypes, .code yX10_listTypes cX10_listTypes 5 none, .methodLink RX10 93 yX10_isRequest, .static yX10_isRequest, .code yX10_isRequest cX10_isRequest 1 (some .boolean), .methodLink RX10 101 yX10_hasItsSize, .static yX10_hasItsSize, .code yX10_hasItsSize cX10_hasItsSize 2 (some .boolean), .methodLink RX11 78 yX9_clear, .methodLink RX11 291 yX9_at, .methodLink RX11 550 yX2_goOn, .instanceMethod yX2_goOn, .selects RX2 yX2_goOn yX2_goOn, .initialized RX2, .code yX2_goOn cX2_goOn 6 none, .fieldLink RX2 9 "LowEnergy$Client" "kind" "I", .methodLink RX2 70 yX9_at, .fieldLink RX2 30 "LowEnergy$Client" "askedOp" "I", .methodLink RX2 88 yX2_isWhole, .static yX2_isWhole, .code yX2_isWhole cX2_isWhole 2 (some .boolean), .methodLink RX2 119 yX2_areRows, .static yX2_areRows, .code yX2_areRows cX2_areRows 2 (some .boolean), .methodLink RX2 92 yX9_two, .methodLink RX2 95 yX10_agreeOnMtu, .methodLink RX2 98 yX2_finish, .instanceMethod yX2_finish, .selects RX2 yX2_finish yX2_finish, .code yX2_finish cX2_finish 2 none, .methodLink RX2 110 yX4_note, .methodLink RX2 102 yX2_hearValue, .instanceMethod yX2_hearValue, .selects RX2 yX2_hearValue yX2_hearValue, .code yX2_hearValue cX2_hearValue 5 none, .fieldLink RX2 20 "LowEnergy$Client" "bytes" "LLowEnergy$Row;", .methodLink RX2 66 yX9_putPart, .fieldLink RX2 24 "LowEnergy$Client" "a" "I", .methodLink RX2 123 yX4_noteBytes, .methodLink RX2 106 yX2_ask, .instanceMethod yX2_ask, .selects RX2 yX2_ask yX2_ask, .code yX2_ask cX2_ask 4 none, .methodLink RX2 40 yX9_put, .methodLink RX2 48 yX9_putNumber, .methodLink RX2 52 yX2_putRange, .instanceMethod yX2_putRange, .selects RX2 yX2_putRange yX2_putRange, .code yX2_putRange cX2_putRange 5 none, .methodLink RX2 74 yX2_lastHandle, .instanceMethod yX2_lastHandle, .selects RX2 yX2_lastHandle yX2_lastHandle, .code yX2_lastHandle cX2_lastHandle 1 (some .int), .fieldLink RX2 27 "LowEnergy$Client" "b" "I", .constant RX2 39 (65535), .methodLink RX2 62 yX2_askToWrite, .instanceMethod yX2_askToWrite, .selects RX2 yX2_askToWrite yX2_askToWrite, .code yX2_askToWrite cX2_askToWrite 3 none, .fieldLink RX2 33 "LowEnergy$Client" "done" "I", .methodLink RX2 78 Lib.Math.min.name, .methodLink RX2 116 yX2_hearRows, .instanceMethod yX2_hearRows, .selects RX2 yX2_hearRows yX2_hearRows, .code yX2_hearRows cX2_hearRows 12 none, .methodLink RX2 84 yX2_hearError, .instanceMethod yX2_hearError, .selects RX2 yX2_hearError yX2_hearError, .code yX2_hearError cX2_hearError 4 none, .methodLink RX11 546 yX8_hear, .instanceMethod yX8_hear, .selects RX8 yX8_hear yX8_hear, .initialized RX8, .code yX8_hear cX8_hear 5 none, .methodLink RX8 55 yX9_at, .methodLink RX8 64 yX8_hearRequest, .instanceMethod yX8_hearRequest, .selects RX8 yX8_hearRequest yX8_hearRequest, .code yX8_hearRequest cX8_hearRequest 4 none, .fieldLink RX8 9 "LowEnergy$Pairing" "passkey" "I", .methodLink RX8 39 yX8_keepOffer, .instanceMethod yX8_keepOffer, .selects RX8 yX8_keepOffer yX8_keepOffer, .code yX8_keepOffer cX8_keepOffer 4 none, .fieldLink RX8 19 "LowEnergy$Pairing" "bothMessages" "[I", .methodLink RX8 43 yX8_useKey, .instanceMethod yX8_useKey, .selects RX8 yX8_useKey yX8_useKey, .code yX8_useKey cX8_useKey 3 none, .fieldLink RX8 15 "LowEnergy$Pairing" "temporaryKey" "[I", .methodLink RX8 35 yX8_putOffer, .static yX8_putOffer, .code yX8_putOffer cX8_putOffer 2 none, .methodLink RX8 96 yX9_put, .fieldLink RX8 47 "LowEnergy$Pairing" "step" "I", .methodLink RX8 88 yX8_fail, .instanceMethod yX8_fail, .selects RX8 yX8_fail yX8_fail, .code yX8_fail cX8_fail 4 none, .methodLink RX8 82 yX4_note, .methodLink RX8 68 yX8_drawAndConfirm, .instanceMethod yX8_drawAndConfirm, .selects RX8 yX8_drawAndConfirm yX8_drawAndConfirm, .code yX8_drawAndConfirm cX8_drawAndConfirm 4 none, .methodLink RX8 103 yX8_confirm, .instanceMethod yX8_confirm, .selects RX8 yX8_confirm yX8_confirm, .code yX8_confirm cX8_confirm 8 none, .fieldLink RX8 31 "LowEnergy$Pairing" "cipher" "LLowEnergy$Cipher;", .fieldLink RX8 28 "LowEnergy$Pairing" "made" "[I", .methodLink RX8 107 yX1_encipher, .instanceMethod yX1_encipher, .selects RX1 yX1_encipher yX1_encipher, .initialized RX1, .code yX1_encipher cX1_encipher 7 none, .fieldLink RX1 9 "LowEnergy$Cipher" "roundKeys" "[I", .fieldLink RX1 13 "LowEnergy$Cipher" "moved" "[I", .fieldLink RX1 16 "LowEnergy$Cipher" "SBOX" "[I", .constantLong RX8 141 (255), .methodLink RX8 138 yX1_loadKey, .instanceMethod yX1_loadKey, .selects RX1 yX1_loadKey yX1_loadKey, .code yX1_loadKey cX1_loadKey 6 none, .methodLink RX8 99 yX9_putBytes, .instanceMethod yX9_putBytes, .selects RX9 yX9_putBytes yX9_putBytes, .code yX9_putBytes cX9_putBytes 3 none, .fieldLink RX8 22 "LowEnergy$Pairing" "random" "[I", .methodLink RX8 121 yX3_drawInto, .instanceMethod yX3_drawInto, .selects RX3 yX3_drawInto yX3_drawInto, .initialized RX3, .code yX3_drawInto cX3_drawInto 5 none, .methodLink RX3 89 yX3_draw, .instanceMethod yX3_draw, .selects RX3 yX3_draw yX3_draw, .code yX3_draw cX3_draw 1 (some .int), .fieldLink RX3 69 "LowEnergy$Device" "x" "I", .constant RX3 88 (1103515245), .methodLink RX8 72 yX8_hearConfirm, .instanceMethod yX8_hearConfirm, .selects RX8 yX8_hearConfirm yX8_hearConfirm, .code yX8_hearConfirm cX8_hearConfirm 4 none, .fieldLink RX8 25 "LowEnergy$Pairing" "kept" "[I", .methodLink RX8 92 yX9_copyTo, .instanceMethod yX9_copyTo, .selects RX9 yX9_copyTo yX9_copyTo, .code yX9_copyTo cX9_copyTo 5 none, .methodLink RX8 75 yX8_hearRandom, .instanceMethod yX8_hearRandom, .selects RX8 yX8_hearRandom yX8_hearRandom, .code yX8_hearRandom cX8_hearRandom 7 none, .methodLink RX8 116 yX5_keepKey, .instanceMethod yX5_keepKey, .selects RX5 yX5_keepKey yX5_keepKey, .initialized RX5, .code yX5_keepKey cX5_keepKey 3 none, .fieldLink RX5 58 "LowEnergy$Guard" "hasKey" "Z", .fieldLink RX5 7 "LowEnergy$Guard" "key" "[I"] : List Cond) ++ (wsX90 ++ (wsX30 ++ (wsX70 ++ (wsX40 ++ (wsX100 ++ (wsX50 ++ (wsX20 ++ (wsX80 ++ (wsX10 ++ (wsX60 ++ ([]))))))))))))
theorem hi_Low_answer_X9 : ∀ x ∈ u_ws RX9 TX9 2, x ∈ wp_Low_answer := fun _ h => List.mem_cons_of_mem _ (List.mem_append_right _ (List.mem_append_left _ h))
theorem hi_Low_answer_X3 : ∀ x ∈ u_ws RX3 TX3 19, x ∈ wp_Low_answer := fun _ h => List.mem_cons_of_mem _ (List.mem_append_right _ (List.mem_append_right _ (List.mem_append_left _ h)))
theorem hi_Low_answer_X7 : ∀ x ∈ u_ws RX7 TX7 16, x ∈ wp_Low_answer := fun _ h => List.mem_cons_of_mem _ (List.mem_append_right _ (List.mem_append_right _ (List.mem_append_right _ (List.mem_append_left _ h))))
theorem hi_Low_answer_X4 : ∀ x ∈ u_ws RX4 TX4 6, x ∈ wp_Low_answer := fun _ h => List.mem_cons_of_mem _ (List.mem_append_right _ (List.mem_append_right _ (List.mem_append_right _ (List.mem_append_right _ (List.mem_append_left _ h)))))
theorem hi_Low_answer_X10 : ∀ x ∈ u_ws RX10 TX10 10, x ∈ wp_Low_answer := fun _ h => List.mem_cons_of_mem _ (List.mem_append_right _ (List.mem_append_right _ (List.mem_append_right _ (List.mem_append_right _ (List.mem_append_right _ (List.mem_append_left _ h))))))
theorem hi_Low_answer_X5 : ∀ x ∈ u_ws RX5 TX5 16, x ∈ wp_Low_answer := fun _ h => List.mem_cons_of_mem _ (List.mem_append_right _ (List.mem_append_right _ (List.mem_append_right _ (List.mem_append_right _ (List.mem_append_right _ (List.mem_append_right _ (List.mem_append_left _ h)))))))
theorem hi_Low_answer_X2 : ∀ x ∈ u_ws RX2 TX2 6, x ∈ wp_Low_answer := fun _ h => List.mem_cons_of_mem _ (List.mem_append_right _ (List.mem_append_right _ (List.mem_append_right _ (List.mem_append_right _ (List.mem_append_right _ (List.mem_append_right _ (List.mem_append_right _ (List.mem_append_left _ h))))))))
theorem hi_Low_answer_X8 : ∀ x ∈ u_ws RX8 TX8 8, x ∈ wp_Low_answer := fun _ h => List.mem_cons_of_mem _ (List.mem_append_right _ (List.mem_append_right _ (List.mem_append_right _ (List.mem_append_right _ (List.mem_append_right _ (List.mem_append_right _ (List.mem_append_right _ (List.mem_append_right _ (List.mem_append_left _ h)))))))))
theorem hi_Low_answer_X1 : ∀ x ∈ u_ws RX1 TX1 2, x ∈ wp_Low_answer := fun _ h => List.mem_cons_of_mem _ (List.mem_append_right _ (List.mem_append_right _ (List.mem_append_right _ (List.mem_append_right _ (List.mem_append_right _ (List.mem_append_right _ (List.mem_append_right _ (List.mem_append_right _ (List.mem_append_right _ (List.mem_append_left _ h))))))))))
theorem hi_Low_answer_X6 : ∀ x ∈ u_ws RX6 TX6 20, x ∈ wp_Low_answer := fun _ h => List.mem_cons_of_mem _ (List.mem_append_right _ (List.mem_append_right _ (List.mem_append_right _ (List.mem_append_right _ (List.mem_append_right _ (List.mem_append_right _ (List.mem_append_right _ (List.mem_append_right _ (List.mem_append_right _ (List.mem_append_right _ (List.mem_append_left _ h)))))))))))
set_option maxRecDepth 100000 in
theorem gd_Low_answer_Mail_post_232 : GoodIn wp_Low_answer (wsV RX11 232 RX7 yX7_post wp_Mail_post) := goodIn_app (goodIn_r _ [1, 2, 3, 4] rfl rfl) (goodIn_ca (goodIn_r _ [5, 6, 7, 8, 4, 9, 10, 11, 12, 13, 14, 15, 16, 17, 18, 19, 20, 21, 22, 23, 24, 25, 26, 27, 28, 29, 30, 31, 32] rfl rfl) (goodIn_app (goodIn_cls hi_Low_answer_X7 gw_X7) (goodIn_app (goodIn_cls hi_Low_answer_X9 gw_X9) (goodIn_nil))))
set_option maxRecDepth 100000 in
theorem gd_Low_answer_Server_hearNotice_554 : GoodIn wp_Low_answer (wsV RX11 554 RX10 yX10_hearNotice wp_Server_hearNotice) := goodIn_app (goodIn_r _ [33, 34, 35, 36] rfl rfl) (goodIn_ca (goodIn_r _ [37, 38, 39, 40, 16, 41, 18, 23, 42, 43, 44, 45, 46, 47, 48, 49, 50, 51, 52, 53, 54, 55, 56, 57, 14, 15, 17, 58, 26, 27, 28, 29, 30, 31, 32, 59, 60, 61, 62, 63, 64, 65, 66, 67, 68, 69] rfl rfl) (goodIn_app (goodIn_cls hi_Low_answer_X9 gw_X9) (goodIn_app (goodIn_cls hi_Low_answer_X4 gw_X4) (goodIn_app (goodIn_cls hi_Low_answer_X10 gw_X10) (goodIn_nil)))))
set_option maxRecDepth 100000 in
theorem gd_Low_answer_Server_serve_558 : GoodIn wp_Low_answer (wsV RX11 558 RX10 yX10_serve wp_Server_serve) := goodIn_app (goodIn_r _ [70, 71, 72, 36] rfl rfl) (goodIn_ca (goodIn_r _ [73, 38, 39, 40, 16, 41, 18, 23, 74, 75, 76, 36, 77, 78, 79, 80, 31, 81, 82, 30, 32, 67, 59, 60, 61, 62, 83, 20, 21, 22, 24, 84, 85, 86, 87, 88, 89, 90, 91, 26, 27, 28, 29, 92, 93, 94, 95, 96, 97, 98, 99, 100, 101, 102, 63, 64, 65, 66, 103, 104, 105, 106, 107, 108, 109, 110, 111, 112, 113, 14, 15, 17, 114, 115, 116, 117, 118, 119, 120, 121, 122, 123, 124, 125, 126, 127, 128, 129, 130, 131, 132, 133, 134, 135, 136, 137, 138, 139, 140, 141, 142, 143, 144, 145, 146, 147, 148, 149, 150, 151, 152, 153, 154, 155, 156, 157, 158, 159, 160, 161, 162, 163, 164, 165, 166, 167, 168, 169] rfl rfl) (goodIn_app (goodIn_cls hi_Low_answer_X9 gw_X9) (goodIn_app (goodIn_cls hi_Low_answer_X10 gw_X10) (goodIn_nil))))
set_option maxRecDepth 100000 in
theorem gd_Low_answer_Row_clear_78 : GoodIn wp_Low_answer (wsV RX11 78 RX9 yX9_clear wp_Row_clear) := goodIn_app (goodIn_r _ [170, 14, 15, 16] rfl rfl) (goodIn_ca (goodIn_r _ [17, 18] rfl rfl) (goodIn_app (goodIn_cls hi_Low_answer_X9 gw_X9) (goodIn_nil)))
set_option maxRecDepth 100000 in
theorem gd_Low_answer_Row_at_291 : GoodIn wp_Low_answer (wsV RX11 291 RX9 yX9_at wp_Row_at) := goodIn_app (goodIn_r _ [171, 64, 65, 16] rfl rfl) (goodIn_ca (goodIn_r _ [66, 18, 23] rfl rfl) (goodIn_app (goodIn_cls hi_Low_answer_X9 gw_X9) (goodIn_nil)))
set_option maxRecDepth 100000 in
theorem gd_Low_answer_Client_goOn_550 : GoodIn wp_Low_answer (wsV RX11 550 RX2 yX2_goOn wp_Client_goOn) := goodIn_app (goodIn_r _ [172, 173, 174, 175] rfl rfl) (goodIn_ca (goodIn_r _ [176, 177, 178, 64, 65, 16, 66, 18, 23, 179, 180, 181, 175, 182, 183, 184, 185, 186, 39, 40, 41, 187, 75, 76, 36, 77, 78, 79, 80, 31, 81, 82, 30, 32, 67, 188, 189, 190, 191, 192, 52, 53, 45, 54, 47, 50, 55, 56, 49, 57, 14, 15, 17, 48, 193, 194, 195, 196, 197, 198, 26, 27, 28, 29, 199, 200, 43, 44, 46, 51, 58, 201, 202, 203, 204, 205, 60, 61, 62, 206, 20, 21, 22, 24, 207, 208, 209, 210, 211, 212, 213, 214, 215, 216, 217, 218, 219, 220, 221, 222, 223, 224, 225, 226, 227, 228, 229, 230] rfl rfl) (goodIn_app (goodIn_cls hi_Low_answer_X2 gw_X2) (goodIn_app (goodIn_cls hi_Low_answer_X9 gw_X9) (goodIn_app (goodIn_cls hi_Low_answer_X10 gw_X10) (goodIn_app (goodIn_cls hi_Low_answer_X4 gw_X4) (goodIn_nil))))))
set_option maxRecDepth 100000 in
theorem gd_Low_answer_Pairing_hear_546 : GoodIn wp_Low_answer (wsV RX11 546 RX8 yX8_hear wp_Pairing_hear) := goodIn_app (goodIn_r _ [231, 232, 233, 234] rfl rfl) (goodIn_ca (goodIn_r _ [235, 236, 64, 65, 16, 66, 18, 23, 237, 238, 239, 234, 240, 241, 242, 243, 244, 245, 246, 247, 248, 249, 250, 251, 252, 253, 254, 255, 60, 61, 62, 256, 257, 258, 259, 260, 261, 52, 53, 45, 54, 47, 50, 55, 56, 49, 57, 14, 15, 17, 48, 262, 263, 264, 265, 266, 267, 268, 269, 270, 271, 272, 273, 274, 275, 276, 277, 278, 279, 280, 281, 282, 283, 284, 285, 286, 287, 288, 289, 290, 291, 292, 293, 294, 295, 296, 297, 298, 299, 300, 301, 302, 303, 304, 305, 306, 307, 308, 309, 29, 30, 31, 32, 310, 311, 312, 313, 314, 315, 316, 317, 318, 319, 320] rfl rfl) (goodIn_app (goodIn_cls hi_Low_answer_X9 gw_X9) (goodIn_app (goodIn_cls hi_Low_answer_X8 gw_X8) (goodIn_app (goodIn_cls hi_Low_answer_X3 gw_X3) (goodIn_app (goodIn_cls hi_Low_answer_X4 gw_X4) (goodIn_app (goodIn_cls hi_Low_answer_X1 gw_X1) (goodIn_app (goodIn_cls hi_Low_answer_X6 gw_X6) (goodIn_app (goodIn_cls hi_Low_answer_X5 gw_X5) (goodIn_nil)))))))))
set_option maxHeartbeats 4000000 in
set_option maxRecDepth 100000 in
theorem b_Low_answer {p : Program} {l : Launch} {e : Env} {R : Room} {s : State} {m : MethodId} {args : Array Value} {below : List Frame} {meth : Method} {c : Code} {D : va_G} {K : Nat → ClassId} {A : Nat → Prop} {Q : State → Prop} {τ : Nat → Option Ty} {dom : List Nat} {zb zL : Nat} {zx : Nat → Int32} {zs : Nat → Nat} (hR : 6 ≤ R.frames ∧ 139 ≤ R.locals) (B : Bx p s m args c cX11_answer 4 RX11 wp_Low_answer D (tysA K) A) (Z : Sk τ dom) (hz : ZL zb zL zx zs A s s.heap) (d : Nat) (t_d : τ d = some (33, 0, 0)) (σ0 : Nat → va_E) (G0 : Good K τ σ0) (hend : ∀ (σ' : Nat → va_E) (lv : List (Nat × Value)) (pc : Nat), Good K τ σ' → Fr τ [(1, 8), (40, 0), (3, 23), (3, 22), (1, 16), (34, 0), (32, 0), (2, 15), (1, 15), (2, 16), (2, 8), (2, 33), (3, 46), (38, 0), (33, 0), (2, 34), (2, 35), (2, 31), (2, 32), (3, 47), (3, 40), (35, 0), (1, 13), (2, 13), (1, 14), (2, 14), (3, 28), (1, 10), (2, 10), (37, 0)] σ0 σ' → decode cX11_answer pc = .ok (.return_, 1) → V p l e R s m args below meth c 4 D A Q (0, 0) (fd dom σ') lv pc []) : V p l e R s m args below meth c 4 D A Q (0, 0) (fd dom σ0) [(0, .ref d)] 0 [] := by
  have F0 : Fr τ [(1, 8), (40, 0), (3, 23), (3, 22), (1, 16), (34, 0), (32, 0), (2, 15), (1, 15), (2, 16), (2, 8), (2, 33), (3, 46), (38, 0), (33, 0), (2, 34), (2, 35), (2, 31), (2, 32), (3, 47), (3, 40), (35, 0), (1, 13), (2, 13), (1, 14), (2, 14), (3, 28), (1, 10), (2, 10), (37, 0)] σ0 σ0 := Fr.rf
  have J131 : ∀ (σ_131 : Nat → va_E) (a131_2 : Nat), Good K τ σ_131 → Fr τ [(1, 8), (40, 0), (3, 23), (3, 22), (1, 16), (34, 0), (32, 0), (2, 15), (1, 15), (2, 16), (2, 8), (2, 33), (3, 46), (38, 0), (33, 0), (2, 34), (2, 35), (2, 31), (2, 32), (3, 47), (3, 40), (35, 0), (1, 13), (2, 13), (1, 14), (2, 14), (3, 28), (1, 10), (2, 10), (37, 0)] σ0 σ_131 → (τ a131_2 = some (1, 8, 0)) → V p l e R s m args below meth c 4 D A Q (0, 0) (fd dom σ_131) [(0, .ref d), (2, .ref a131_2)] 131 [] := by
    intro σ_131 a131_2 G_131 F_131 t131_2
    refine v_aload_n B dX11_answer_131 rfl rfl ?_
    obtain ⟨b1, N2, n3, h4, t5, r6⟩ : okRow τ 8 (σ_131 a131_2) := G_131 a131_2 _ t131_2
    refine u_getN B Z (C := RX9) (T := TX9) (N := 2) (ci := 9) hi_Low_answer_X9 t131_2 h4 rfl 1 (by decide +kernel) (List.mem_of_getElem? (i := 51) rfl) rfl dX11_answer_132 ?_
    refine u_if_le B (tgt := 153) (by omega) dX11_answer_135 (by decide +kernel) (fun c7 => ?_) (fun c7 => ?_)
    · exact hend σ_131 _ _ G_131 F_131 dX11_answer_153
    · refine v_aload_n B dX11_answer_138 rfl rfl ?_
      obtain ⟨z8, yy9, z10, z11, z12, z13, a14, z15, yy16, a17, yy18, a19, a20, a21, a22, a23, a24, a25, a26, h27, r28, r29, r30, r31, r32, r33, t34, r35, r36, t37, r38, t39, t40, t41, t42, t43, t44, t45, t46⟩ : okDevice τ (σ_131 d) := G_131 d _ t_d
      refine u_getN B Z (C := RX3) (T := TX3) (N := 19) (ci := 3) hi_Low_answer_X3 t_d h27 rfl 12 (by decide +kernel) (List.mem_of_getElem? (i := 5) rfl) rfl dX11_answer_139 ?_
      refine v_aload_n B dX11_answer_142 rfl rfl ?_
      refine u_getN B Z (C := RX3) (T := TX3) (N := 19) (ci := 3) hi_Low_answer_X3 t_d h27 rfl 12 (by decide +kernel) (List.mem_of_getElem? (i := 5) rfl) rfl dX11_answer_143 ?_
      obtain ⟨a47, z48, z49, a50, z51, z52, z53, a54, z55, z56, z57, a58, z59, a60, z61, a62, h63, t64, r65, r66, t67, r68, r69, r70, t71, r72, r73, r74, t75, r76, t77, r78, t79⟩ : okMail τ (σ_131 a20) := G_131 a20 _ t40
      refine u_getN B Z (C := RX7) (T := TX7) (N := 16) (ci := 7) hi_Low_answer_X7 t40 h63 rfl 14 (by decide +kernel) (List.mem_of_getElem? (i := 63) rfl) rfl dX11_answer_146 ?_
      refine v_aload_n B dX11_answer_149 rfl rfl ?_
      refine u_callVv B Z hz (n := 2) (As := [.int (iI z61), .ref a131_2]) (rest := []) (c_Mail_post l D K Z _ _ _ _ a20 z61 a131_2 t40 ⟨by omega, by omega⟩ t131_2 σ_131 G_131) gd_Low_answer_Mail_post_232 rfl rfl rfl (by decide +kernel) ⟨Nat.le_trans (by decide +kernel) hR.1, Nat.le_trans (by decide +kernel) hR.2⟩ t40 (cls_Mail G_131 t40) rfl rfl rfl rfl (Nat.le_of_ble_eq_true rfl) dX11_answer_150 ⟨Nat.zero_le _, Nat.zero_le _⟩ (fun σ80 p81 => ?_)
      obtain ⟨G83, F84⟩ := p81
      have F85 := F_131.call F84 (by first | rfl | simp)
      have h86 := (F84 a131_2 _ t131_2 (by first | rfl | simp)).trans h4
      have h87 := (F84 d _ t_d (by first | rfl | simp)).trans h27
      exact hend σ80 _ _ G83 F85 dX11_answer_153
  have J99 : ∀ (σ_99 : Nat → va_E) (a99_1 : Nat) (a99_2 : Nat), Good K τ σ_99 → Fr τ [(1, 8), (40, 0), (3, 23), (3, 22), (1, 16), (34, 0), (32, 0), (2, 15), (1, 15), (2, 16), (2, 8), (2, 33), (3, 46), (38, 0), (33, 0), (2, 34), (2, 35), (2, 31), (2, 32), (3, 47), (3, 40), (35, 0), (1, 13), (2, 13), (1, 14), (2, 14), (3, 28), (1, 10), (2, 10), (37, 0)] σ0 σ_99 → (τ a99_1 = some (1, 12, 0)) → (τ a99_2 = some (1, 8, 0)) → V p l e R s m args below meth c 4 D A Q (0, 0) (fd dom σ_99) [(0, .ref d), (1, .ref a99_1), (2, .ref a99_2)] 99 [] := by
    intro σ_99 a99_1 a99_2 G_99 F_99 t99_1 t99_2
    refine v_aload_n B dX11_answer_99 rfl rfl ?_
    obtain ⟨z88, yy89, z90, z91, z92, z93, a94, z95, yy96, a97, yy98, a99, a100, a101, a102, a103, a104, a105, a106, h107, r108, r109, r110, r111, r112, r113, t114, r115, r116, t117, r118, t119, t120, t121, t122, t123, t124, t125, t126⟩ : okDevice τ (σ_99 d) := G_99 d _ t_d
    refine u_getN B Z (C := RX3) (T := TX3) (N := 19) (ci := 3) hi_Low_answer_X3 t_d h107 rfl 15 (by decide +kernel) (List.mem_of_getElem? (i := 3) rfl) rfl dX11_answer_100 ?_
    refine v_aload_n B dX11_answer_103 rfl rfl ?_
    refine v_aload_n B dX11_answer_104 rfl rfl ?_
    refine u_getN B Z (C := RX3) (T := TX3) (N := 19) (ci := 3) hi_Low_answer_X3 t_d h107 rfl 17 (by decide +kernel) (List.mem_of_getElem? (i := 25) rfl) rfl dX11_answer_105 ?_
    refine v_aload_n B dX11_answer_108 rfl rfl ?_
    refine u_callVv B Z hz (n := 3) (As := [.ref a99_1, .ref a105, .ref a99_2]) (rest := []) (c_Server_hearNotice l D K Z _ _ _ _ a103 a99_1 a105 a99_2 t123 t99_1 t125 t99_2 σ_99 G_99) gd_Low_answer_Server_hearNotice_554 rfl rfl rfl (by decide +kernel) ⟨Nat.le_trans (by decide +kernel) hR.1, Nat.le_trans (by decide +kernel) hR.2⟩ t123 (cls_Server G_99 t123) rfl rfl rfl rfl (Nat.le_of_ble_eq_true rfl) dX11_answer_109 ⟨Nat.zero_le _, Nat.zero_le _⟩ (fun σ127 p128 => ?_)
    obtain ⟨G130, F131⟩ := p128
    have F132 := F_99.call F131 (by first | rfl | simp)
    have h133 := (F131 d _ t_d (by first | rfl | simp)).trans h107
    refine v_goto B (tgt := 131) dX11_answer_112 (by decide +kernel) ?_
    refine v_lv [0, 2] rfl ?_
    exact J131 σ127 a99_2 G130 F132 t99_2
  have J81 : ∀ (σ_81 : Nat → va_E) (a81_1 : Nat) (a81_2 : Nat) (z81_3 : Int), Good K τ σ_81 → Fr τ [(1, 8), (40, 0), (3, 23), (3, 22), (1, 16), (34, 0), (32, 0), (2, 15), (1, 15), (2, 16), (2, 8), (2, 33), (3, 46), (38, 0), (33, 0), (2, 34), (2, 35), (2, 31), (2, 32), (3, 47), (3, 40), (35, 0), (1, 13), (2, 13), (1, 14), (2, 14), (3, 28), (1, 10), (2, 10), (37, 0)] σ0 σ_81 → (τ a81_1 = some (1, 12, 0)) → (τ a81_2 = some (1, 8, 0)) → (-1 ≤ z81_3 ∧ z81_3 ≤ 255) → V p l e R s m args below meth c 4 D A Q (0, 0) (fd dom σ_81) [(0, .ref d), (1, .ref a81_1), (2, .ref a81_2), (3, .int (iI z81_3))] 81 [] := by
    intro σ_81 a81_1 a81_2 z81_3 G_81 F_81 t81_1 t81_2 r81_3
    refine v_iload_n B dX11_answer_81 rfl rfl ?_
    refine v_bipush B (v := iI 27) dX11_answer_82 (by decide +kernel) ?_
    refine u_icmp_eq B (tgt := 99) (by omega) (by omega) dX11_answer_84 (by decide +kernel) (fun c134 => ?_) (fun c134 => ?_)
    · refine v_lv [0, 1, 2] rfl ?_
      exact J99 σ_81 a81_1 a81_2 G_81 F_81 t81_1 t81_2
    · refine v_iload_n B dX11_answer_87 rfl rfl ?_
      refine v_bipush B (v := iI 29) dX11_answer_88 (by decide +kernel) ?_
      refine u_icmp_eq B (tgt := 99) (by omega) (by omega) dX11_answer_90 (by decide +kernel) (fun c135 => ?_) (fun c135 => ?_)
      · refine v_lv [0, 1, 2] rfl ?_
        exact J99 σ_81 a81_1 a81_2 G_81 F_81 t81_1 t81_2
      · refine v_iload_n B dX11_answer_93 rfl rfl ?_
        refine v_bipush B (v := iI 30) dX11_answer_94 (by decide +kernel) ?_
        refine u_icmp_ne B (tgt := 115) (by omega) (by omega) dX11_answer_96 (by decide +kernel) (fun c136 => ?_) (fun c136 => ?_)
        · refine v_aload_n B dX11_answer_115 rfl rfl ?_
          obtain ⟨z137, yy138, z139, z140, z141, z142, a143, z144, yy145, a146, yy147, a148, a149, a150, a151, a152, a153, a154, a155, h156, r157, r158, r159, r160, r161, r162, t163, r164, r165, t166, r167, t168, t169, t170, t171, t172, t173, t174, t175⟩ : okDevice τ (σ_81 d) := G_81 d _ t_d
          refine u_getN B Z (C := RX3) (T := TX3) (N := 19) (ci := 3) hi_Low_answer_X3 t_d h156 rfl 15 (by decide +kernel) (List.mem_of_getElem? (i := 3) rfl) rfl dX11_answer_116 ?_
          refine v_aload_n B dX11_answer_119 rfl rfl ?_
          refine v_aload_n B dX11_answer_120 rfl rfl ?_
          refine u_getN B Z (C := RX3) (T := TX3) (N := 19) (ci := 3) hi_Low_answer_X3 t_d h156 rfl 13 (by decide +kernel) (List.mem_of_getElem? (i := 10) rfl) rfl dX11_answer_121 ?_
          obtain ⟨a176, a177, z178, a179, a180, a181, z182, z183, z184, z185, z186, z187, z188, z189, a190, a191, h192, t193, t194, r195, t196, t197, t198, r199, r200, r201, r202, r203, r204, r205, r206, t207, t208⟩ : okGuard τ (σ_81 a150) := G_81 a150 _ t170
          refine u_getN B Z (C := RX5) (T := TX5) (N := 16) (ci := 5) hi_Low_answer_X5 t170 h192 rfl 9 (by decide +kernel) (List.mem_of_getElem? (i := 12) rfl) rfl dX11_answer_124 ?_
          refine v_aload_n B dX11_answer_127 rfl rfl ?_
          refine u_callVv B Z hz (n := 3) (As := [.ref a81_1, .int (iI z185), .ref a81_2]) (rest := []) (c_Server_serve l D K Z _ _ _ _ a152 a81_1 z185 a81_2 t172 t81_1 ⟨by omega, by omega⟩ t81_2 σ_81 G_81) gd_Low_answer_Server_serve_558 rfl rfl rfl (by decide +kernel) ⟨Nat.le_trans (by decide +kernel) hR.1, Nat.le_trans (by decide +kernel) hR.2⟩ t172 (cls_Server G_81 t172) rfl rfl rfl rfl (Nat.le_of_ble_eq_true rfl) dX11_answer_128 ⟨Nat.zero_le _, Nat.zero_le _⟩ (fun σ209 p210 => ?_)
          obtain ⟨G212, F213⟩ := p210
          have F214 := F_81.call F213 (by first | rfl | simp)
          have h215 := (F213 d _ t_d (by first | rfl | simp)).trans h156
          have h216 := (F213 a150 _ t170 (by first | rfl | simp)).trans h192
          refine v_lv [0, 2] rfl ?_
          exact J131 σ209 a81_2 G212 F214 t81_2
        · refine v_lv [0, 1, 2] rfl ?_
          exact J99 σ_81 a81_1 a81_2 G_81 F_81 t81_1 t81_2
  refine v_aload_n B dX11_answer_0 rfl rfl ?_
  obtain ⟨z217, yy218, z219, z220, z221, z222, a223, z224, yy225, a226, yy227, a228, a229, a230, a231, a232, a233, a234, a235, h236, r237, r238, r239, r240, r241, r242, t243, r244, r245, t246, r247, t248, t249, t250, t251, t252, t253, t254, t255⟩ : okDevice τ (σ0 d) := G0 d _ t_d
  refine u_getN B Z (C := RX3) (T := TX3) (N := 19) (ci := 3) hi_Low_answer_X3 t_d h236 rfl 12 (by decide +kernel) (List.mem_of_getElem? (i := 5) rfl) rfl dX11_answer_1 ?_
  obtain ⟨a256, z257, z258, a259, z260, z261, z262, a263, z264, z265, z266, a267, z268, a269, z270, a271, h272, t273, r274, r275, t276, r277, r278, r279, t280, r281, r282, r283, t284, r285, t286, r287, t288⟩ : okMail τ (σ0 a229) := G0 a229 _ t249
  refine u_getN B Z (C := RX7) (T := TX7) (N := 16) (ci := 7) hi_Low_answer_X7 t249 h272 rfl 13 (by decide +kernel) (List.mem_of_getElem? (i := 62) rfl) rfl dX11_answer_4 ?_
  refine v_astore_n B (lv' := [(1, .ref a269), (0, .ref d)]) dX11_answer_7 rfl (by decide +kernel) rfl ?_
  refine v_aload_n B dX11_answer_8 rfl rfl ?_
  refine u_getN B Z (C := RX3) (T := TX3) (N := 19) (ci := 3) hi_Low_answer_X3 t_d h236 rfl 18 (by decide +kernel) (List.mem_of_getElem? (i := 19) rfl) rfl dX11_answer_9 ?_
  refine v_astore_n B (lv' := [(2, .ref a235), (1, .ref a269), (0, .ref d)]) dX11_answer_12 rfl (by decide +kernel) rfl ?_
  refine v_aload_n B dX11_answer_13 rfl rfl ?_
  refine u_callVv B Z hz (n := 0) (As := []) (rest := []) (c_Row_clear l D K Z _ _ _ _ a235 t255 σ0 G0) gd_Low_answer_Row_clear_78 rfl rfl rfl (by decide +kernel) ⟨Nat.le_trans (by decide +kernel) hR.1, Nat.le_trans (by decide +kernel) hR.2⟩ t255 (cls_Row G0 t255) rfl rfl rfl rfl (Nat.le_of_ble_eq_true rfl) dX11_answer_14 ⟨Nat.zero_le _, Nat.zero_le _⟩ (fun σ289 p290 => ?_)
  obtain ⟨G292, F293⟩ := p290
  have F294 := F0.call F293 (by first | rfl | simp)
  have h295 := (F293 d _ t_d (by first | rfl | simp)).trans h236
  have h296 := (F293 a229 _ t249 (by first | rfl | simp)).trans h272
  refine v_aload_n B dX11_answer_17 rfl rfl ?_
  refine u_getN B Z (C := RX3) (T := TX3) (N := 19) (ci := 3) hi_Low_answer_X3 t_d h295 rfl 12 (by decide +kernel) (List.mem_of_getElem? (i := 5) rfl) rfl dX11_answer_18 ?_
  refine u_getN B Z (C := RX7) (T := TX7) (N := 16) (ci := 7) hi_Low_answer_X7 t249 h296 rfl 14 (by decide +kernel) (List.mem_of_getElem? (i := 63) rfl) rfl dX11_answer_21 ?_
  refine v_bipush B (v := iI 6) dX11_answer_24 (by decide +kernel) ?_
  refine u_icmp_ne B (tgt := 42) (by omega) (by omega) dX11_answer_26 (by decide +kernel) (fun c297 => ?_) (fun c297 => ?_)
  · refine v_aload_n B dX11_answer_42 rfl rfl ?_
    refine v_iconst B (v := iI 0) dX11_answer_43 rfl ?_
    refine u_callVi B Z hz (n := 1) (As := [.int (iI 0)]) (rest := []) (c_Row_at l D K Z _ _ _ _ a269 0 t286 ⟨by omega, by omega⟩ σ289 G292) gd_Low_answer_Row_at_291 rfl rfl rfl (by decide +kernel) ⟨Nat.le_trans (by decide +kernel) hR.1, Nat.le_trans (by decide +kernel) hR.2⟩ t286 (cls_Row G292 t286) rfl rfl rfl rfl (Nat.le_of_ble_eq_true rfl) dX11_answer_44 ⟨Nat.zero_le _, Nat.zero_le _⟩ (fun v300 σ298 p299 => ?_)
    obtain ⟨rfl, z304, e305, r306⟩ := p299
    subst e305
    refine v_istore_n B (lv' := [(3, .int (iI z304)), (2, .ref a235), (1, .ref a269), (0, .ref d)]) dX11_answer_47 rfl (by decide +kernel) rfl ?_
    refine v_iload_n B dX11_answer_48 rfl rfl ?_
    refine v_bipush B (v := iI 25) dX11_answer_49 (by decide +kernel) ?_
    refine u_icmp_gt B (tgt := 81) (by omega) (by omega) dX11_answer_51 (by decide +kernel) (fun c307 => ?_) (fun c307 => ?_)
    · refine v_lv [3, 2, 1, 0] rfl ?_
      exact J81 σ289 a269 a235 z304 G292 F294 t286 t255 ⟨by omega, by omega⟩
    · refine v_iload_n B dX11_answer_54 rfl rfl ?_
      refine v_iconst B (v := iI 1) dX11_answer_55 rfl ?_
      obtain ⟨z308, e309, r310⟩ := iI_and z304 (c := 1) (by decide) (by decide)
      refine v_iand B (v := iI z308) dX11_answer_56 e309 ?_
      refine v_iconst B (v := iI 1) dX11_answer_57 rfl ?_
      refine u_icmp_ne B (tgt := 81) (by omega) (by omega) dX11_answer_58 (by decide +kernel) (fun c311 => ?_) (fun c311 => ?_)
      · refine v_lv [3, 2, 1, 0] rfl ?_
        exact J81 σ289 a269 a235 z304 G292 F294 t286 t255 ⟨by omega, by omega⟩
      · refine v_aload_n B dX11_answer_61 rfl rfl ?_
        refine u_getN B Z (C := RX3) (T := TX3) (N := 19) (ci := 3) hi_Low_answer_X3 t_d h295 rfl 16 (by decide +kernel) (List.mem_of_getElem? (i := 20) rfl) rfl dX11_answer_62 ?_
        refine v_aload_n B dX11_answer_65 rfl rfl ?_
        refine v_aload_n B dX11_answer_66 rfl rfl ?_
        refine u_getN B Z (C := RX3) (T := TX3) (N := 19) (ci := 3) hi_Low_answer_X3 t_d h295 rfl 15 (by decide +kernel) (List.mem_of_getElem? (i := 3) rfl) rfl dX11_answer_67 ?_
        refine v_aload_n B dX11_answer_70 rfl rfl ?_
        refine u_getN B Z (C := RX3) (T := TX3) (N := 19) (ci := 3) hi_Low_answer_X3 t_d h295 rfl 17 (by decide +kernel) (List.mem_of_getElem? (i := 25) rfl) rfl dX11_answer_71 ?_
        refine v_aload_n B dX11_answer_74 rfl rfl ?_
        refine u_callVv B Z hz (n := 4) (As := [.ref a269, .ref a232, .ref a234, .ref a235]) (rest := []) (c_Client_goOn l D K Z _ _ _ _ a233 a269 a232 a234 a235 t253 t286 t252 t254 t255 σ289 G292) gd_Low_answer_Client_goOn_550 rfl rfl rfl (by decide +kernel) ⟨Nat.le_trans (by decide +kernel) hR.1, Nat.le_trans (by decide +kernel) hR.2⟩ t253 (cls_Client G292 t253) rfl rfl rfl rfl (Nat.le_of_ble_eq_true rfl) dX11_answer_75 ⟨Nat.zero_le _, Nat.zero_le _⟩ (fun σ312 p313 => ?_)
        obtain ⟨G315, F316⟩ := p313
        have F317 := F294.call F316 (by first | rfl | simp)
        have h318 := (F316 d _ t_d (by first | rfl | simp)).trans h295
        have h319 := (F316 a229 _ t249 (by first | rfl | simp)).trans h296
        refine v_goto B (tgt := 131) dX11_answer_78 (by decide +kernel) ?_
        refine v_lv [3, 1] rfl ?_
        exact J131 σ312 a235 G315 F317 t255
  · refine v_aload_n B dX11_answer_29 rfl rfl ?_
    refine u_getN B Z (C := RX3) (T := TX3) (N := 19) (ci := 3) hi_Low_answer_X3 t_d h295 rfl 14 (by decide +kernel) (List.mem_of_getElem? (i := 0) rfl) rfl dX11_answer_30 ?_
    refine v_aload_n B dX11_answer_33 rfl rfl ?_
    refine v_aload_n B dX11_answer_34 rfl rfl ?_
    refine v_aload_n B dX11_answer_35 rfl rfl ?_
    refine u_callVv B Z hz (n := 3) (As := [.ref d, .ref a269, .ref a235]) (rest := []) (c_Pairing_hear l D K Z _ _ _ _ a231 d a269 a235 t251 t_d t286 t255 σ289 G292) gd_Low_answer_Pairing_hear_546 rfl rfl rfl (by decide +kernel) ⟨Nat.le_trans (by decide +kernel) hR.1, Nat.le_trans (by decide +kernel) hR.2⟩ t251 (cls_Pairing G292 t251) rfl rfl rfl rfl (Nat.le_of_ble_eq_true rfl) dX11_answer_36 ⟨Nat.zero_le _, Nat.zero_le _⟩ (fun σ320 p321 => ?_)
    obtain ⟨G323, F324⟩ := p321
    have F325 := F294.call F324 (by first | rfl | simp)
    have h326 := (F324 a229 _ t249 (by first | rfl | simp)).trans h296
    refine v_goto B (tgt := 131) dX11_answer_39 (by decide +kernel) ?_
    refine v_lv [2, 0] rfl ?_
    exact J131 σ320 a235 G323 F325 t255
set_option maxRecDepth 100000 in
theorem c_Low_answer (l : Launch) (D : va_G) (K : Nat → ClassId) {τ : Nat → Option Ty} {dom : List Nat} (Z : Sk τ dom) (zb zL : Nat) (zx : Nat → Int32) (zs : Nat → Nat) (d : Nat) (t_d : τ d = some (33, 0, 0)) (σ0 : Nat → va_E) (G0 : Good K τ σ0) : MZ l yX11_answer wp_Low_answer ({ frames := 6, cells := 0, slots := 0, locals := 139 }) D (tysA K) [.ref d] (fd dom σ0) zb zL zx zs (Qv D (fun σ' => Good K τ σ' ∧ Fr τ [(1, 8), (40, 0), (3, 23), (3, 22), (1, 16), (34, 0), (32, 0), (2, 15), (1, 15), (2, 16), (2, 8), (2, 33), (3, 46), (38, 0), (33, 0), (2, 34), (2, 35), (2, 31), (2, 32), (3, 47), (3, 40), (35, 0), (1, 13), (2, 13), (1, 14), (2, 14), (3, 28), (1, 10), (2, 10), (37, 0)] σ0 σ') (fun σ' => fd dom σ')) 0 0 := by
  refine mz_of (cc := cX11_answer) (maxL := 4) (ret := none) (by decide +kernel) rfl (Nat.le_of_ble_eq_true rfl) ?_
  intro p e s m below meth c A B hr hlk _ hz
  exact b_Low_answer ⟨Nat.le_refl _, Nat.le_refl _⟩ B Z hz d t_d σ0 G0 (fun σ' lv pc G F hd => v_vret B hr hlk σ' ⟨G, F⟩ rfl (Nat.le_refl _) (Nat.le_refl _) hd)
