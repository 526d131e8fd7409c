def wp_r_clear : List Cond := .code yX9_clear cX9_clear 1 none :: ([.fieldLink RX9 21 "LowEnergy$Row" "size" "I"] ++ (wsX90 ++ ([])))
theorem hi_r_clear_X9 : ∀ x ∈ u_ws RX9 TX9 2, x ∈ wp_r_clear := fun _ h => List.mem_cons_of_mem _ (List.mem_append_right _ (List.mem_append_left _ h))
set_option maxHeartbeats 4000000 in
set_option maxRecDepth 100000 in
theorem r_clear (l : Launch) (D : va_G) (K : Nat → ClassId) (h : Nat) (b : Nat) (n : Int32) : MG l yX9_clear wp_r_clear ({ frames := 0, cells := 0, slots := 0, locals := 0 }) D (tysA K) [.ref h] [(h, .inr (9, [.ref b, .int n]))] (Qv D (fun _ : Unit => True) (fun _ => [(h, .inr (9, [.ref b, .int 0]))])) 0 0 := by
  refine mg_of (cc := cX9_clear) (maxL := 1) (ret := none) (by decide +kernel) rfl (Nat.le_of_ble_eq_true rfl) ?_
  intro p e s m below meth c A B hr hlk hnam
  show V _ _ _ _ _ _ _ _ _ _ _ _ _ _ _ _ [(0, .ref h)] _ _
  refine v_aload_n B dX9_clear_0 rfl rfl ?_
  refine v_iconst B (v := 0) dX9_clear_1 (by decide +kernel) ?_
  refine v_put B (C := RX9) (T := TX9) (N := 2) (ci := 9) (k0 := 0) hi_r_clear_X9 rfl rfl 1 (by decide +kernel) tyX9 tyX9_ok nmX9 (List.mem_of_getElem? (i := 1) rfl) rfl (ty := .int) (tyX9_ok 1 (by decide +kernel)) rfl rfl (Nat.le_of_ble_eq_true rfl) (w' := [(h, .inr (9, [.ref b, .int 0]))]) rfl dX9_clear_2 ?_
  exact v_vret B hr hlk () trivial rfl (by decide +kernel) (by decide +kernel) dX9_clear_5

def wp_r_cut0 : List Cond := .code yX9_cut cX9_cut 2 none :: ([.fieldLink RX9 21 "LowEnergy$Row" "size" "I"] ++ (wsX90 ++ ([])))
theorem hi_r_cut0_X9 : ∀ x ∈ u_ws RX9 TX9 2, x ∈ wp_r_cut0 := fun _ h => List.mem_cons_of_mem _ (List.mem_append_right _ (List.mem_append_left _ h))
set_option maxHeartbeats 4000000 in
set_option maxRecDepth 100000 in
theorem r_cut0 (l : Launch) (D : va_G) (K : Nat → ClassId) (h : Nat) (b : Nat) : MG l yX9_cut wp_r_cut0 ({ frames := 0, cells := 0, slots := 0, locals := 0 }) D (tysA K) [.ref h, .int 0] [(h, .inr (9, [.ref b, .int 0]))] (Qv D (fun _ : Unit => True) (fun _ => [(h, .inr (9, [.ref b, .int 0]))])) 0 0 := by
  refine mg_of (cc := cX9_cut) (maxL := 2) (ret := none) (by decide +kernel) rfl (Nat.le_of_ble_eq_true rfl) ?_
  intro p e s m below meth c A B hr hlk hnam
  show V _ _ _ _ _ _ _ _ _ _ _ _ _ _ _ _ [(0, .ref h), (1, .int 0)] _ _
  refine v_iload_n B dX9_cut_0 rfl rfl ?_
  refine v_if_lt B (tgt := 17) dX9_cut_1 (by decide +kernel) (fun h => absurd h (by decide +kernel)) (fun _ => ?_)
  refine v_iload_n B dX9_cut_4 rfl rfl ?_
  refine v_aload_n B dX9_cut_5 rfl rfl ?_
  refine v_get B (C := RX9) (T := TX9) (N := 2) (ci := 9) (k0 := 0) hi_r_cut0_X9 rfl rfl 1 (by decide +kernel) (List.mem_of_getElem? (i := 1) rfl) rfl dX9_cut_6 ?_
  refine v_icmp_ge B (tgt := 17) dX9_cut_9 (by decide +kernel) (fun _ => ?_) (fun h => absurd (by decide +kernel) h)
  exact v_vret B hr hlk () trivial rfl (by decide +kernel) (by decide +kernel) dX9_cut_17

def wp_r_at0 : List Cond := .code yX9_at cX9_at 2 (some .int) :: ([.fieldLink RX9 21 "LowEnergy$Row" "size" "I"] ++ (wsX90 ++ ([])))
theorem hi_r_at0_X9 : ∀ x ∈ u_ws RX9 TX9 2, x ∈ wp_r_at0 := fun _ h => List.mem_cons_of_mem _ (List.mem_append_right _ (List.mem_append_left _ h))
set_option maxHeartbeats 4000000 in
set_option maxRecDepth 100000 in
theorem r_at0 (l : Launch) (D : va_G) (K : Nat → ClassId) (h : Nat) (b : Nat) (i : Int32) : MG l yX9_at wp_r_at0 ({ frames := 0, cells := 0, slots := 0, locals := 0 }) D (tysA K) [.ref h, .int i] [(h, .inr (9, [.ref b, .int 0]))] (Qi D (fun (r : Int32) (_ : Unit) => r = -1) (fun _ => [(h, .inr (9, [.ref b, .int 0]))])) 0 0 := by
  refine mg_of (cc := cX9_at) (maxL := 2) (ret := (some .int)) (by decide +kernel) rfl (Nat.le_of_ble_eq_true rfl) ?_
  intro p e s m below meth c A B hr hlk hnam
  show V _ _ _ _ _ _ _ _ _ _ _ _ _ _ _ _ [(0, .ref h), (1, .int i)] _ _
  refine v_iload_n B dX9_at_0 rfl rfl ?_
  refine v_if_lt B (tgt := 21) dX9_at_1 (by decide +kernel) (fun c_1 => ?_) (fun c_1 => ?_)
  · refine v_iconst B (v := (-1)) dX9_at_21 (by decide +kernel) ?_
    exact v_iret B hr hlk () rfl rfl (by decide +kernel) (by decide +kernel) dX9_at_22
  · refine v_iload_n B dX9_at_4 rfl rfl ?_
    refine v_aload_n B dX9_at_5 rfl rfl ?_
    refine v_get B (C := RX9) (T := TX9) (N := 2) (ci := 9) (k0 := 0) hi_r_at0_X9 rfl rfl 1 (by decide +kernel) (List.mem_of_getElem? (i := 1) rfl) rfl dX9_at_6 ?_
    refine v_icmp_ge B (tgt := 21) dX9_at_9 (by decide +kernel) (fun _ => ?_) (fun h => absurd (Int32.not_lt.mp c_1) h)
    refine v_iconst B (v := (-1)) dX9_at_21 (by decide +kernel) ?_
    exact v_iret B hr hlk () rfl rfl (by decide +kernel) (by decide +kernel) dX9_at_22

def wp_r_putPart0 : List Cond := .code yX9_putPart cX9_putPart 6 none :: ([.methodLink RX9 9 Lib.Math.max.name, .static Lib.Math.max.name, .initialized "java/lang/Math", .code Lib.Math.max.name Lib.Math.max.code 2 (some .int)] ++ ([]))
set_option maxHeartbeats 4000000 in
set_option maxRecDepth 100000 in
theorem r_putPart0 (l : Launch) (D : va_G) (K : Nat → ClassId) (h : Nat) (b : Nat) (g : Nat) (b2 : Nat) : MG l yX9_putPart wp_r_putPart0 ({ frames := 1, cells := 0, slots := 0, locals := 13 }) D (tysA K) [.ref h, .ref g, .int 0, .int 0] [(h, .inr (9, [.ref b, .int 0])), (g, .inr (9, [.ref b2, .int 0]))] (Qv D (fun _ : Unit => True) (fun _ => [(h, .inr (9, [.ref b, .int 0])), (g, .inr (9, [.ref b2, .int 0]))])) 0 0 := by
  refine mg_of (cc := cX9_putPart) (maxL := 6) (ret := none) (by decide +kernel) rfl (Nat.le_of_ble_eq_true rfl) ?_
  intro p e s m below meth c A B hr hlk hnam
  show V _ _ _ _ _ _ _ _ _ _ _ _ _ _ _ _ [(0, .ref h), (1, .ref g), (2, .int 0), (3, .int 0)] _ _
  refine v_iload_n B dX9_putPart_0 rfl rfl ?_
  refine v_iconst B (v := 0) dX9_putPart_1 (by decide +kernel) ?_
  refine v_mmax B (v := 0) (List.mem_of_getElem? (i := 1) rfl) (List.mem_of_getElem? (i := 2) rfl) (List.mem_of_getElem? (i := 3) rfl) (List.mem_of_getElem? (i := 4) rfl) (by decide +kernel) (Nat.le_of_ble_eq_true rfl) (by decide +kernel) (by decide +kernel) (by decide +kernel) dX9_putPart_2 ?_
  refine v_istore B (lv' := [(4, .int 0), (0, .ref h), (1, .ref g), (2, .int 0), (3, .int 0)]) dX9_putPart_5 (by decide +kernel) rfl ?_
  refine v_iload B dX9_putPart_7 rfl ?_
  refine v_istore B (lv' := [(5, .int 0), (4, .int 0), (0, .ref h), (1, .ref g), (2, .int 0), (3, .int 0)]) dX9_putPart_9 (by decide +kernel) rfl ?_
  refine v_iload B dX9_putPart_11 rfl ?_
  refine v_iload B dX9_putPart_13 rfl ?_
  refine v_isub B (v := 0) dX9_putPart_15 (by decide +kernel) ?_
  refine v_iload_n B dX9_putPart_16 rfl rfl ?_
  refine v_icmp_ge B (tgt := 73) dX9_putPart_17 (by decide +kernel) (fun _ => ?_) (fun h => absurd (by decide +kernel) h)
  exact v_vret B hr hlk () trivial rfl (by decide +kernel) (by decide +kernel) dX9_putPart_73

def wp_r_become0 : List Cond := .code yX9_become cX9_become 2 none :: ([.fieldLink RX9 21 "LowEnergy$Row" "size" "I", .methodLink RX9 27 yX9_putPart, .instanceMethod yX9_putPart, .selects RX9 yX9_putPart yX9_putPart, .initialized RX9, .code yX9_putPart cX9_putPart 6 none, .methodLink RX9 9 Lib.Math.max.name, .static Lib.Math.max.name, .initialized "java/lang/Math", .code Lib.Math.max.name Lib.Math.max.code 2 (some .int)] ++ (wsX90 ++ ([])))
theorem hi_r_become0_X9 : ∀ x ∈ u_ws RX9 TX9 2, x ∈ wp_r_become0 := fun _ h => List.mem_cons_of_mem _ (List.mem_append_right _ (List.mem_append_left _ h))
set_option maxRecDepth 100000 in
theorem gd_r_become0_r_putPart0_27 : GoodIn wp_r_become0 (wsV RX9 27 RX9 yX9_putPart wp_r_putPart0) := goodIn_app (goodIn_r _ [2, 3, 4, 5] rfl rfl) (goodIn_ca (goodIn_r _ [6, 7, 8, 9, 10] rfl rfl) (goodIn_nil))
set_option maxHeartbeats 4000000 in
set_option maxRecDepth 100000 in
theorem r_become0 (l : Launch) (D : va_G) (K : Nat → ClassId) (h : Nat) (b : Nat) (g : Nat) (b2 : Nat) : MG l yX9_become wp_r_become0 ({ frames := 2, cells := 0, slots := 0, locals := 38 }) D (tysA K) [.ref h, .ref g] [(h, .inr (9, [.ref b, .int 0])), (g, .inr (9, [.ref b2, .int 0]))] (Qv D (fun _ : Unit => True) (fun _ => [(h, .inr (9, [.ref b, .int 0])), (g, .inr (9, [.ref b2, .int 0]))])) 0 0 := by
  refine mg_of (cc := cX9_become) (maxL := 2) (ret := none) (by decide +kernel) rfl (Nat.le_of_ble_eq_true rfl) ?_
  intro p e s m below meth c A B hr hlk hnam
  show V _ _ _ _ _ _ _ _ _ _ _ _ _ _ _ _ [(0, .ref h), (1, .ref g)] _ _
  refine v_aload_n B dX9_become_0 rfl rfl ?_
  refine v_iconst B (v := 0) dX9_become_1 (by decide +kernel) ?_
  refine v_put B (C := RX9) (T := TX9) (N := 2) (ci := 9) (k0 := 0) hi_r_become0_X9 rfl rfl 1 (by decide +kernel) tyX9 tyX9_ok nmX9 (List.mem_of_getElem? (i := 1) rfl) rfl (ty := .int) (tyX9_ok 1 (by decide +kernel)) rfl rfl (Nat.le_of_ble_eq_true rfl) (w' := [(h, .inr (9, [.ref b, .int 0])), (g, .inr (9, [.ref b2, .int 0]))]) rfl dX9_become_2 ?_
  refine v_aload_n B dX9_become_5 rfl rfl ?_
  refine v_aload_n B dX9_become_6 rfl rfl ?_
  refine v_iconst B (v := 0) dX9_become_7 (by decide +kernel) ?_
  refine v_aload_n B dX9_become_8 rfl rfl ?_
  refine v_get B (C := RX9) (T := TX9) (N := 2) (ci := 9) (k0 := 1) hi_r_become0_X9 rfl rfl 1 (by decide +kernel) (List.mem_of_getElem? (i := 1) rfl) rfl dX9_become_9 ?_
  refine v_callVv B (b := h) (n := 3) (As := [.ref g, .int 0, .int 0]) (rest := []) (wc := [(h, .inr (9, [.ref b, .int 0])), (g, .inr (9, [.ref b2, .int 0]))]) (wr := []) (r_putPart0 l D K h b g b2) gd_r_become0_r_putPart0_27 rfl rfl rfl (by decide +kernel) ⟨by decide +kernel, by decide +kernel⟩ 0 rfl rfl rfl (sp_pl [0, 1] [] rfl rfl rfl rfl rfl) rfl rfl (Nat.le_of_ble_eq_true rfl) dX9_become_12 ⟨by decide +kernel, by decide +kernel⟩ (fun u_1 hp_2 => ?_)
  show V _ _ _ _ _ _ _ _ _ _ _ _ _ _ (0, 0) [(h, .inr (9, [.ref b, .int 0])), (g, .inr (9, [.ref b2, .int 0]))] _ _ _
  exact v_vret B hr hlk () trivial rfl (by decide +kernel) (by decide +kernel) dX9_become_15

def wp_r_phf_0 : List Cond := .code yX9_putHighestFirst cX9_putHighestFirst 3 none :: ([.fieldLink RX9 21 "LowEnergy$Row" "size" "I", .fieldLink RX9 15 "LowEnergy$Row" "bytes" "[I"] ++ (wsX90 ++ ([])))
theorem hi_r_phf_0_X9 : ∀ x ∈ u_ws RX9 TX9 2, x ∈ wp_r_phf_0 := fun _ h => List.mem_cons_of_mem _ (List.mem_append_right _ (List.mem_append_left _ h))
set_option maxHeartbeats 4000000 in
set_option maxRecDepth 100000 in
theorem r_phf_0 (l : Launch) (D : va_G) (K : Nat → ClassId) (h : Nat) (b : Nat) (f : Nat → Int32) (x : Int32) : MG l yX9_putHighestFirst wp_r_phf_0 ({ frames := 0, cells := 0, slots := 0, locals := 0 }) D (tysA K) [.ref h, .int x] [(h, .inr (9, [.ref b, .int 0])), (b, .inl (K 0, 100, .inl f))] (Qv D (fun _ : (Nat → Int32) => True) (fun u => [(h, .inr (9, [.ref b, .int 4])), (b, .inl (K 0, 100, .inl u))])) 0 0 := by
  refine mg_of (cc := cX9_putHighestFirst) (maxL := 3) (ret := none) (by decide +kernel) rfl (Nat.le_of_ble_eq_true rfl) ?_
  intro p e s m below meth c A B hr hlk hnam
  show V _ _ _ _ _ _ _ _ _ _ _ _ _ _ _ _ [(0, .ref h), (1, .int x)] _ _
  refine v_bipush B (v := 24) dX9_putHighestFirst_0 (by decide +kernel) ?_
  refine v_istore_n B (lv' := [(2, .int 24), (0, .ref h), (1, .int x)]) dX9_putHighestFirst_2 rfl (by decide +kernel) rfl ?_
  refine v_iload_n B dX9_putHighestFirst_3 rfl rfl ?_
  refine v_if_lt B (tgt := 51) dX9_putHighestFirst_4 (by decide +kernel) (fun h => absurd h (by decide +kernel)) (fun _ => ?_)
  refine v_aload_n B dX9_putHighestFirst_7 rfl rfl ?_
  refine v_get B (C := RX9) (T := TX9) (N := 2) (ci := 9) (k0 := 0) hi_r_phf_0_X9 rfl rfl 1 (by decide +kernel) (List.mem_of_getElem? (i := 1) rfl) rfl dX9_putHighestFirst_8 ?_
  refine v_aload_n B dX9_putHighestFirst_11 rfl rfl ?_
  refine v_get B (C := RX9) (T := TX9) (N := 2) (ci := 9) (k0 := 0) hi_r_phf_0_X9 rfl rfl 0 (by decide +kernel) (List.mem_of_getElem? (i := 2) rfl) rfl dX9_putHighestFirst_12 ?_
  refine v_alen B (k0 := 1) (t0 := 0) (v := 100) rfl rfl rfl dX9_putHighestFirst_15 ?_
  refine v_icmp_ge B (tgt := 51) dX9_putHighestFirst_16 (by decide +kernel) (fun h => absurd h (by decide +kernel)) (fun _ => ?_)
  refine v_aload_n B dX9_putHighestFirst_19 rfl rfl ?_
  refine v_get B (C := RX9) (T := TX9) (N := 2) (ci := 9) (k0 := 0) hi_r_phf_0_X9 rfl rfl 0 (by decide +kernel) (List.mem_of_getElem? (i := 2) rfl) rfl dX9_putHighestFirst_20 ?_
  refine v_aload_n B dX9_putHighestFirst_23 rfl rfl ?_
  refine v_get B (C := RX9) (T := TX9) (N := 2) (ci := 9) (k0 := 0) hi_r_phf_0_X9 rfl rfl 1 (by decide +kernel) (List.mem_of_getElem? (i := 1) rfl) rfl dX9_putHighestFirst_24 ?_
  refine v_iload_n B dX9_putHighestFirst_27 rfl rfl ?_
  refine v_iload_n B dX9_putHighestFirst_28 rfl rfl ?_
  refine v_iushr B (v := ((x).toUInt32 >>> ((24 : Int32).toUInt32 &&& Int32.toUInt32 31)).toInt32) dX9_putHighestFirst_29 rfl ?_
  refine v_sipush B (v := 255) dX9_putHighestFirst_30 (by decide +kernel) ?_
  refine v_iand B (v := (((x).toUInt32 >>> ((24 : Int32).toUInt32 &&& Int32.toUInt32 31)).toInt32 &&& 255)) dX9_putHighestFirst_33 rfl ?_
  refine v_iast B (k0 := 1) (t0 := 0) (w' := [(h, .inr (9, [.ref b, .int 0])), (b, .inl (K 0, 100, .inl (upd f (0 : Int32).toNatClampNeg (((x).toUInt32 >>> ((24 : Int32).toUInt32 &&& Int32.toUInt32 31)).toInt32 &&& 255))))]) rfl rfl (vpi (by decide +kernel)) rfl dX9_putHighestFirst_34 ?_
  refine v_aload_n B dX9_putHighestFirst_35 rfl rfl ?_
  refine v_dup B dX9_putHighestFirst_36 rfl ?_
  refine v_get B (C := RX9) (T := TX9) (N := 2) (ci := 9) (k0 := 0) hi_r_phf_0_X9 rfl rfl 1 (by decide +kernel) (List.mem_of_getElem? (i := 1) rfl) rfl dX9_putHighestFirst_37 ?_
  refine v_iconst B (v := 1) dX9_putHighestFirst_40 (by decide +kernel) ?_
  refine v_iadd B (v := 1) dX9_putHighestFirst_41 (by decide +kernel) ?_
  refine v_put B (C := RX9) (T := TX9) (N := 2) (ci := 9) (k0 := 0) hi_r_phf_0_X9 rfl rfl 1 (by decide +kernel) tyX9 tyX9_ok nmX9 (List.mem_of_getElem? (i := 1) rfl) rfl (ty := .int) (tyX9_ok 1 (by decide +kernel)) rfl rfl (Nat.le_of_ble_eq_true rfl) (w' := [(h, .inr (9, [.ref b, .int 1])), (b, .inl (K 0, 100, .inl (upd f (0 : Int32).toNatClampNeg (((x).toUInt32 >>> ((24 : Int32).toUInt32 &&& Int32.toUInt32 31)).toInt32 &&& 255))))]) rfl dX9_putHighestFirst_42 ?_
  refine v_iinc B (k := 0) (v := 16) (lv' := [(2, .int 16), (0, .ref h), (1, .int x)]) dX9_putHighestFirst_45 rfl (by decide +kernel) (by decide +kernel) rfl ?_
  refine v_goto B (tgt := 3) dX9_putHighestFirst_48 (by decide +kernel) ?_
  refine v_iload_n B dX9_putHighestFirst_3 rfl rfl ?_
  refine v_if_lt B (tgt := 51) dX9_putHighestFirst_4 (by decide +kernel) (fun h => absurd h (by decide +kernel)) (fun _ => ?_)
  refine v_aload_n B dX9_putHighestFirst_7 rfl rfl ?_
  refine v_get B (C := RX9) (T := TX9) (N := 2) (ci := 9) (k0 := 0) hi_r_phf_0_X9 rfl rfl 1 (by decide +kernel) (List.mem_of_getElem? (i := 1) rfl) rfl dX9_putHighestFirst_8 ?_
  refine v_aload_n B dX9_putHighestFirst_11 rfl rfl ?_
  refine v_get B (C := RX9) (T := TX9) (N := 2) (ci := 9) (k0 := 0) hi_r_phf_0_X9 rfl rfl 0 (by decide +kernel) (List.mem_of_getElem? (i := 2) rfl) rfl dX9_putHighestFirst_12 ?_
  refine v_alen B (k0 := 1) (t0 := 0) (v := 100) rfl rfl rfl dX9_putHighestFirst_15 ?_
  refine v_icmp_ge B (tgt := 51) dX9_putHighestFirst_16 (by decide +kernel) (fun h => absurd h (by decide +kernel)) (fun _ => ?_)
  refine v_aload_n B dX9_putHighestFirst_19 rfl rfl ?_
  refine v_get B (C := RX9) (T := TX9) (N := 2) (ci := 9) (k0 := 0) hi_r_phf_0_X9 rfl rfl 0 (by decide +kernel) (List.mem_of_getElem? (i := 2) rfl) rfl dX9_putHighestFirst_20 ?_
  refine v_aload_n B dX9_putHighestFirst_23 rfl rfl ?_
  refine v_get B (C := RX9) (T := TX9) (N := 2) (ci := 9) (k0 := 0) hi_r_phf_0_X9 rfl rfl 1 (by decide +kernel) (List.mem_of_getElem? (i := 1) rfl) rfl dX9_putHighestFirst_24 ?_
  refine v_iload_n B dX9_putHighestFirst_27 rfl rfl ?_
  refine v_iload_n B dX9_putHighestFirst_28 rfl rfl ?_
  refine v_iushr B (v := ((x).toUInt32 >>> ((16 : Int32).toUInt32 &&& Int32.toUInt32 31)).toInt32) dX9_putHighestFirst_29 rfl ?_
  refine v_sipush B (v := 255) dX9_putHighestFirst_30 (by decide +kernel) ?_
  refine v_iand B (v := (((x).toUInt32 >>> ((16 : Int32).toUInt32 &&& Int32.toUInt32 31)).toInt32 &&& 255)) dX9_putHighestFirst_33 rfl ?_
  refine v_iast B (k0 := 1) (t0 := 0) (w' := [(h, .inr (9, [.ref b, .int 1])), (b, .inl (K 0, 100, .inl (upd (upd f (0 : Int32).toNatClampNeg (((x).toUInt32 >>> ((24 : Int32).toUInt32 &&& Int32.toUInt32 31)).toInt32 &&& 255)) (1 : Int32).toNatClampNeg (((x).toUInt32 >>> ((16 : Int32).toUInt32 &&& Int32.toUInt32 31)).toInt32 &&& 255))))]) rfl rfl (vpi (by decide +kernel)) rfl dX9_putHighestFirst_34 ?_
  refine v_aload_n B dX9_putHighestFirst_35 rfl rfl ?_
  refine v_dup B dX9_putHighestFirst_36 rfl ?_
  refine v_get B (C := RX9) (T := TX9) (N := 2) (ci := 9) (k0 := 0) hi_r_phf_0_X9 rfl rfl 1 (by decide +kernel) (List.mem_of_getElem? (i := 1) rfl) rfl dX9_putHighestFirst_37 ?_
  refine v_iconst B (v := 1) dX9_putHighestFirst_40 (by decide +kernel) ?_
  refine v_iadd B (v := 2) dX9_putHighestFirst_41 (by decide +kernel) ?_
  refine v_put B (C := RX9) (T := TX9) (N := 2) (ci := 9) (k0 := 0) hi_r_phf_0_X9 rfl rfl 1 (by decide +kernel) tyX9 tyX9_ok nmX9 (List.mem_of_getElem? (i := 1) rfl) rfl (ty := .int) (tyX9_ok 1 (by decide +kernel)) rfl rfl (Nat.le_of_ble_eq_true rfl) (w' := [(h, .inr (9, [.ref b, .int 2])), (b, .inl (K 0, 100, .inl (upd (upd f (0 : Int32).toNatClampNeg (((x).toUInt32 >>> ((24 : Int32).toUInt32 &&& Int32.toUInt32 31)).toInt32 &&& 255)) (1 : Int32).toNatClampNeg (((x).toUInt32 >>> ((16 : Int32).toUInt32 &&& Int32.toUInt32 31)).toInt32 &&& 255))))]) rfl dX9_putHighestFirst_42 ?_
  refine v_iinc B (k := 0) (v := 8) (lv' := [(2, .int 8), (0, .ref h), (1, .int x)]) dX9_putHighestFirst_45 rfl (by decide +kernel) (by decide +kernel) rfl ?_
  refine v_goto B (tgt := 3) dX9_putHighestFirst_48 (by decide +kernel) ?_
  refine v_iload_n B dX9_putHighestFirst_3 rfl rfl ?_
  refine v_if_lt B (tgt := 51) dX9_putHighestFirst_4 (by decide +kernel) (fun h => absurd h (by decide +kernel)) (fun _ => ?_)
  refine v_aload_n B dX9_putHighestFirst_7 rfl rfl ?_
  refine v_get B (C := RX9) (T := TX9) (N := 2) (ci := 9) (k0 := 0) hi_r_phf_0_X9 rfl rfl 1 (by decide +kernel) (List.mem_of_getElem? (i := 1) rfl) rfl dX9_putHighestFirst_8 ?_
  refine v_aload_n B dX9_putHighestFirst_11 rfl rfl ?_
  refine v_get B (C := RX9) (T := TX9) (N := 2) (ci := 9) (k0 := 0) hi_r_phf_0_X9 rfl rfl 0 (by decide +kernel) (List.mem_of_getElem? (i := 2) rfl) rfl dX9_putHighestFirst_12 ?_
  refine v_alen B (k0 := 1) (t0 := 0) (v := 100) rfl rfl rfl dX9_putHighestFirst_15 ?_
  refine v_icmp_ge B (tgt := 51) dX9_putHighestFirst_16 (by decide +kernel) (fun h => absurd h (by decide +kernel)) (fun _ => ?_)
  refine v_aload_n B dX9_putHighestFirst_19 rfl rfl ?_
  refine v_get B (C := RX9) (T := TX9) (N := 2) (ci := 9) (k0 := 0) hi_r_phf_0_X9 rfl rfl 0 (by decide +kernel) (List.mem_of_getElem? (i := 2) rfl) rfl dX9_putHighestFirst_20 ?_
  refine v_aload_n B dX9_putHighestFirst_23 rfl rfl ?_
  refine v_get B (C := RX9) (T := TX9) (N := 2) (ci := 9) (k0 := 0) hi_r_phf_0_X9 rfl rfl 1 (by decide +kernel) (List.mem_of_getElem? (i := 1) rfl) rfl dX9_putHighestFirst_24 ?_
  refine v_iload_n B dX9_putHighestFirst_27 rfl rfl ?_
  refine v_iload_n B dX9_putHighestFirst_28 rfl rfl ?_
  refine v_iushr B (v := ((x).toUInt32 >>> ((8 : Int32).toUInt32 &&& Int32.toUInt32 31)).toInt32) dX9_putHighestFirst_29 rfl ?_
  refine v_sipush B (v := 255) dX9_putHighestFirst_30 (by decide +kernel) ?_
  refine v_iand B (v := (((x).toUInt32 >>> ((8 : Int32).toUInt32 &&& Int32.toUInt32 31)).toInt32 &&& 255)) dX9_putHighestFirst_33 rfl ?_
  refine v_iast B (k0 := 1) (t0 := 0) (w' := [(h, .inr (9, [.ref b, .int 2])), (b, .inl (K 0, 100, .inl (upd (upd (upd f (0 : Int32).toNatClampNeg (((x).toUInt32 >>> ((24 : Int32).toUInt32 &&& Int32.toUInt32 31)).toInt32 &&& 255)) (1 : Int32).toNatClampNeg (((x).toUInt32 >>> ((16 : Int32).toUInt32 &&& Int32.toUInt32 31)).toInt32 &&& 255)) (2 : Int32).toNatClampNeg (((x).toUInt32 >>> ((8 : Int32).toUInt32 &&& Int32.toUInt32 31)).toInt32 &&& 255))))]) rfl rfl (vpi (by decide +kernel)) rfl dX9_putHighestFirst_34 ?_
  refine v_aload_n B dX9_putHighestFirst_35 rfl rfl ?_
  refine v_dup B dX9_putHighestFirst_36 rfl ?_
  refine v_get B (C := RX9) (T := TX9) (N := 2) (ci := 9) (k0 := 0) hi_r_phf_0_X9 rfl rfl 1 (by decide +kernel) (List.mem_of_getElem? (i := 1) rfl) rfl dX9_putHighestFirst_37 ?_
  refine v_iconst B (v := 1) dX9_putHighestFirst_40 (by decide +kernel) ?_
  refine v_iadd B (v := 3) dX9_putHighestFirst_41 (by decide +kernel) ?_
  refine v_put B (C := RX9) (T := TX9) (N := 2) (ci := 9) (k0 := 0) hi_r_phf_0_X9 rfl rfl 1 (by decide +kernel) tyX9 tyX9_ok nmX9 (List.mem_of_getElem? (i := 1) rfl) rfl (ty := .int) (tyX9_ok 1 (by decide +kernel)) rfl rfl (Nat.le_of_ble_eq_true rfl) (w' := [(h, .inr (9, [.ref b, .int 3])), (b, .inl (K 0, 100, .inl (upd (upd (upd f (0 : Int32).toNatClampNeg (((x).toUInt32 >>> ((24 : Int32).toUInt32 &&& Int32.toUInt32 31)).toInt32 &&& 255)) (1 : Int32).toNatClampNeg (((x).toUInt32 >>> ((16 : Int32).toUInt32 &&& Int32.toUInt32 31)).toInt32 &&& 255)) (2 : Int32).toNatClampNeg (((x).toUInt32 >>> ((8 : Int32).toUInt32 &&& Int32.toUInt32 31)).toInt32 &&& 255))))]) rfl dX9_putHighestFirst_42 ?_
  refine v_iinc B (k := 0) (v := 0) (lv' := [(2, .int 0), (0, .ref h), (1, .int x)]) dX9_putHighestFirst_45 rfl (by decide +kernel) (by decide +kernel) rfl ?_
  refine v_goto B (tgt := 3) dX9_putHighestFirst_48 (by decide +kernel) ?_
  refine v_iload_n B dX9_putHighestFirst_3 rfl rfl ?_
  refine v_if_lt B (tgt := 51) dX9_putHighestFirst_4 (by decide +kernel) (fun h => absurd h (by decide +kernel)) (fun _ => ?_)
  refine v_aload_n B dX9_putHighestFirst_7 rfl rfl ?_
  refine v_get B (C := RX9) (T := TX9) (N := 2) (ci := 9) (k0 := 0) hi_r_phf_0_X9 rfl rfl 1 (by decide +kernel) (List.mem_of_getElem? (i := 1) rfl) rfl dX9_putHighestFirst_8 ?_
  refine v_aload_n B dX9_putHighestFirst_11 rfl rfl ?_
  refine v_get B (C := RX9) (T := TX9) (N := 2) (ci := 9) (k0 := 0) hi_r_phf_0_X9 rfl rfl 0 (by decide +kernel) (List.mem_of_getElem? (i := 2) rfl) rfl dX9_putHighestFirst_12 ?_
  refine v_alen B (k0 := 1) (t0 := 0) (v := 100) rfl rfl rfl dX9_putHighestFirst_15 ?_
  refine v_icmp_ge B (tgt := 51) dX9_putHighestFirst_16 (by decide +kernel) (fun h => absurd h (by decide +kernel)) (fun _ => ?_)
  refine v_aload_n B dX9_putHighestFirst_19 rfl rfl ?_
  refine v_get B (C := RX9) (T := TX9) (N := 2) (ci := 9) (k0 := 0) hi_r_phf_0_X9 rfl rfl 0 (by decide +kernel) (List.mem_of_getElem? (i := 2) rfl) rfl dX9_putHighestFirst_20 ?_
  refine v_aload_n B dX9_putHighestFirst_23 rfl rfl ?_
  refine v_get B (C := RX9) (T := TX9) (N := 2) (ci := 9) (k0 := 0) hi_r_phf_0_X9 rfl rfl 1 (by decide +kernel) (List.mem_of_getElem? (i := 1) rfl) rfl dX9_putHighestFirst_24 ?_
  refine v_iload_n B dX9_putHighestFirst_27 rfl rfl ?_
  refine v_iload_n B dX9_putHighestFirst_28 rfl rfl ?_
  refine v_iushr B (v := ((x).toUInt32 >>> ((0 : Int32).toUInt32 &&& Int32.toUInt32 31)).toInt32) dX9_putHighestFirst_29 rfl ?_
  refine v_sipush B (v := 255) dX9_putHighestFirst_30 (by decide +kernel) ?_
  refine v_iand B (v := (((x).toUInt32 >>> ((0 : Int32).toUInt32 &&& Int32.toUInt32 31)).toInt32 &&& 255)) dX9_putHighestFirst_33 rfl ?_
  refine v_iast B (k0 := 1) (t0 := 0) (w' := [(h, .inr (9, [.ref b, .int 3])), (b, .inl (K 0, 100, .inl (upd (upd (upd (upd f (0 : Int32).toNatClampNeg (((x).toUInt32 >>> ((24 : Int32).toUInt32 &&& Int32.toUInt32 31)).toInt32 &&& 255)) (1 : Int32).toNatClampNeg (((x).toUInt32 >>> ((16 : Int32).toUInt32 &&& Int32.toUInt32 31)).toInt32 &&& 255)) (2 : Int32).toNatClampNeg (((x).toUInt32 >>> ((8 : Int32).toUInt32 &&& Int32.toUInt32 31)).toInt32 &&& 255)) (3 : Int32).toNatClampNeg (((x).toUInt32 >>> ((0 : Int32).toUInt32 &&& Int32.toUInt32 31)).toInt32 &&& 255))))]) rfl rfl (vpi (by decide +kernel)) rfl dX9_putHighestFirst_34 ?_
  refine v_aload_n B dX9_putHighestFirst_35 rfl rfl ?_
  refine v_dup B dX9_putHighestFirst_36 rfl ?_
  refine v_get B (C := RX9) (T := TX9) (N := 2) (ci := 9) (k0 := 0) hi_r_phf_0_X9 rfl rfl 1 (by decide +kernel) (List.mem_of_getElem? (i := 1) rfl) rfl dX9_putHighestFirst_37 ?_
  refine v_iconst B (v := 1) dX9_putHighestFirst_40 (by decide +kernel) ?_
  refine v_iadd B (v := 4) dX9_putHighestFirst_41 (by decide +kernel) ?_
  refine v_put B (C := RX9) (T := TX9) (N := 2) (ci := 9) (k0 := 0) hi_r_phf_0_X9 rfl rfl 1 (by decide +kernel) tyX9 tyX9_ok nmX9 (List.mem_of_getElem? (i := 1) rfl) rfl (ty := .int) (tyX9_ok 1 (by decide +kernel)) rfl rfl (Nat.le_of_ble_eq_true rfl) (w' := [(h, .inr (9, [.ref b, .int 4])), (b, .inl (K 0, 100, .inl (upd (upd (upd (upd f (0 : Int32).toNatClampNeg (((x).toUInt32 >>> ((24 : Int32).toUInt32 &&& Int32.toUInt32 31)).toInt32 &&& 255)) (1 : Int32).toNatClampNeg (((x).toUInt32 >>> ((16 : Int32).toUInt32 &&& Int32.toUInt32 31)).toInt32 &&& 255)) (2 : Int32).toNatClampNeg (((x).toUInt32 >>> ((8 : Int32).toUInt32 &&& Int32.toUInt32 31)).toInt32 &&& 255)) (3 : Int32).toNatClampNeg (((x).toUInt32 >>> ((0 : Int32).toUInt32 &&& Int32.toUInt32 31)).toInt32 &&& 255))))]) rfl dX9_putHighestFirst_42 ?_
  refine v_iinc B (k := 0) (v := (-8)) (lv' := [(2, .int (-8)), (0, .ref h), (1, .int x)]) dX9_putHighestFirst_45 rfl (by decide +kernel) (by decide +kernel) rfl ?_
  refine v_goto B (tgt := 3) dX9_putHighestFirst_48 (by decide +kernel) ?_
  refine v_iload_n B dX9_putHighestFirst_3 rfl rfl ?_
  refine v_if_lt B (tgt := 51) dX9_putHighestFirst_4 (by decide +kernel) (fun _ => ?_) (fun h => absurd (by decide +kernel) h)
  exact v_vret B hr hlk (upd (upd (upd (upd f (0 : Int32).toNatClampNeg (((x).toUInt32 >>> ((24 : Int32).toUInt32 &&& Int32.toUInt32 31)).toInt32 &&& 255)) (1 : Int32).toNatClampNeg (((x).toUInt32 >>> ((16 : Int32).toUInt32 &&& Int32.toUInt32 31)).toInt32 &&& 255)) (2 : Int32).toNatClampNeg (((x).toUInt32 >>> ((8 : Int32).toUInt32 &&& Int32.toUInt32 31)).toInt32 &&& 255)) (3 : Int32).toNatClampNeg (((x).toUInt32 >>> ((0 : Int32).toUInt32 &&& Int32.toUInt32 31)).toInt32 &&& 255)) trivial rfl (by decide +kernel) (by decide +kernel) dX9_putHighestFirst_51

def wp_r_phf_4 : List Cond := .code yX9_putHighestFirst cX9_putHighestFirst 3 none :: ([.fieldLink RX9 21 "LowEnergy$Row" "size" "I", .fieldLink RX9 15 "LowEnergy$Row" "bytes" "[I"] ++ (wsX90 ++ ([])))
theorem hi_r_phf_4_X9 : ∀ x ∈ u_ws RX9 TX9 2, x ∈ wp_r_phf_4 := fun _ h => List.mem_cons_of_mem _ (List.mem_append_right _ (List.mem_append_left _ h))
set_option maxHeartbeats 4000000 in
set_option maxRecDepth 100000 in
theorem r_phf_4 (l : Launch) (D : va_G) (K : Nat → ClassId) (h : Nat) (b : Nat) (f : Nat → Int32) (x : Int32) : MG l yX9_putHighestFirst wp_r_phf_4 ({ frames := 0, cells := 0, slots := 0, locals := 0 }) D (tysA K) [.ref h, .int x] [(h, .inr (9, [.ref b, .int 4])), (b, .inl (K 0, 100, .inl f))] (Qv D (fun _ : (Nat → Int32) => True) (fun u => [(h, .inr (9, [.ref b, .int 8])), (b, .inl (K 0, 100, .inl u))])) 0 0 := by
  refine mg_of (cc := cX9_putHighestFirst) (maxL := 3) (ret := none) (by decide +kernel) rfl (Nat.le_of_ble_eq_true rfl) ?_
  intro p e s m below meth c A B hr hlk hnam
  show V _ _ _ _ _ _ _ _ _ _ _ _ _ _ _ _ [(0, .ref h), (1, .int x)] _ _
  refine v_bipush B (v := 24) dX9_putHighestFirst_0 (by decide +kernel) ?_
  refine v_istore_n B (lv' := [(2, .int 24), (0, .ref h), (1, .int x)]) dX9_putHighestFirst_2 rfl (by decide +kernel) rfl ?_
  refine v_iload_n B dX9_putHighestFirst_3 rfl rfl ?_
  refine v_if_lt B (tgt := 51) dX9_putHighestFirst_4 (by decide +kernel) (fun h => absurd h (by decide +kernel)) (fun _ => ?_)
  refine v_aload_n B dX9_putHighestFirst_7 rfl rfl ?_
  refine v_get B (C := RX9) (T := TX9) (N := 2) (ci := 9) (k0 := 0) hi_r_phf_4_X9 rfl rfl 1 (by decide +kernel) (List.mem_of_getElem? (i := 1) rfl) rfl dX9_putHighestFirst_8 ?_
  refine v_aload_n B dX9_putHighestFirst_11 rfl rfl ?_
  refine v_get B (C := RX9) (T := TX9) (N := 2) (ci := 9) (k0 := 0) hi_r_phf_4_X9 rfl rfl 0 (by decide +kernel) (List.mem_of_getElem? (i := 2) rfl) rfl dX9_putHighestFirst_12 ?_
  refine v_alen B (k0 := 1) (t0 := 0) (v := 100) rfl rfl rfl dX9_putHighestFirst_15 ?_
  refine v_icmp_ge B (tgt := 51) dX9_putHighestFirst_16 (by decide +kernel) (fun h => absurd h (by decide +kernel)) (fun _ => ?_)
  refine v_aload_n B dX9_putHighestFirst_19 rfl rfl ?_
  refine v_get B (C := RX9) (T := TX9) (N := 2) (ci := 9) (k0 := 0) hi_r_phf_4_X9 rfl rfl 0 (by decide +kernel) (List.mem_of_getElem? (i := 2) rfl) rfl dX9_putHighestFirst_20 ?_
  refine v_aload_n B dX9_putHighestFirst_23 rfl rfl ?_
  refine v_get B (C := RX9) (T := TX9) (N := 2) (ci := 9) (k0 := 0) hi_r_phf_4_X9 rfl rfl 1 (by decide +kernel) (List.mem_of_getElem? (i := 1) rfl) rfl dX9_putHighestFirst_24 ?_
  refine v_iload_n B dX9_putHighestFirst_27 rfl rfl ?_
  refine v_iload_n B dX9_putHighestFirst_28 rfl rfl ?_
  refine v_iushr B (v := ((x).toUInt32 >>> ((24 : Int32).toUInt32 &&& Int32.toUInt32 31)).toInt32) dX9_putHighestFirst_29 rfl ?_
  refine v_sipush B (v := 255) dX9_putHighestFirst_30 (by decide +kernel) ?_
  refine v_iand B (v := (((x).toUInt32 >>> ((24 : Int32).toUInt32 &&& Int32.toUInt32 31)).toInt32 &&& 255)) dX9_putHighestFirst_33 rfl ?_
  refine v_iast B (k0 := 1) (t0 := 0) (w' := [(h, .inr (9, [.ref b, .int 4])), (b, .inl (K 0, 100, .inl (upd f (4 : Int32).toNatClampNeg (((x).toUInt32 >>> ((24 : Int32).toUInt32 &&& Int32.toUInt32 31)).toInt32 &&& 255))))]) rfl rfl (vpi (by decide +kernel)) rfl dX9_putHighestFirst_34 ?_
  refine v_aload_n B dX9_putHighestFirst_35 rfl rfl ?_
  refine v_dup B dX9_putHighestFirst_36 rfl ?_
  refine v_get B (C := RX9) (T := TX9) (N := 2) (ci := 9) (k0 := 0) hi_r_phf_4_X9 rfl rfl 1 (by decide +kernel) (List.mem_of_getElem? (i := 1) rfl) rfl dX9_putHighestFirst_37 ?_
  refine v_iconst B (v := 1) dX9_putHighestFirst_40 (by decide +kernel) ?_
  refine v_iadd B (v := 5) dX9_putHighestFirst_41 (by decide +kernel) ?_
  refine v_put B (C := RX9) (T := TX9) (N := 2) (ci := 9) (k0 := 0) hi_r_phf_4_X9 rfl rfl 1 (by decide +kernel) tyX9 tyX9_ok nmX9 (List.mem_of_getElem? (i := 1) rfl) rfl (ty := .int) (tyX9_ok 1 (by decide +kernel)) rfl rfl (Nat.le_of_ble_eq_true rfl) (w' := [(h, .inr (9, [.ref b, .int 5])), (b, .inl (K 0, 100, .inl (upd f (4 : Int32).toNatClampNeg (((x).toUInt32 >>> ((24 : Int32).toUInt32 &&& Int32.toUInt32 31)).toInt32 &&& 255))))]) rfl dX9_putHighestFirst_42 ?_
  refine v_iinc B (k := 0) (v := 16) (lv' := [(2, .int 16), (0, .ref h), (1, .int x)]) dX9_putHighestFirst_45 rfl (by decide +kernel) (by decide +kernel) rfl ?_
  refine v_goto B (tgt := 3) dX9_putHighestFirst_48 (by decide +kernel) ?_
  refine v_iload_n B dX9_putHighestFirst_3 rfl rfl ?_
  refine v_if_lt B (tgt := 51) dX9_putHighestFirst_4 (by decide +kernel) (fun h => absurd h (by decide +kernel)) (fun _ => ?_)
  refine v_aload_n B dX9_putHighestFirst_7 rfl rfl ?_
  refine v_get B (C := RX9) (T := TX9) (N := 2) (ci := 9) (k0 := 0) hi_r_phf_4_X9 rfl rfl 1 (by decide +kernel) (List.mem_of_getElem? (i := 1) rfl) rfl dX9_putHighestFirst_8 ?_
  refine v_aload_n B dX9_putHighestFirst_11 rfl rfl ?_
  refine v_get B (C := RX9) (T := TX9) (N := 2) (ci := 9) (k0 := 0) hi_r_phf_4_X9 rfl rfl 0 (by decide +kernel) (List.mem_of_getElem? (i := 2) rfl) rfl dX9_putHighestFirst_12 ?_
  refine v_alen B (k0 := 1) (t0 := 0) (v := 100) rfl rfl rfl dX9_putHighestFirst_15 ?_
  refine v_icmp_ge B (tgt := 51) dX9_putHighestFirst_16 (by decide +kernel) (fun h => absurd h (by decide +kernel)) (fun _ => ?_)
  refine v_aload_n B dX9_putHighestFirst_19 rfl rfl ?_
  refine v_get B (C := RX9) (T := TX9) (N := 2) (ci := 9) (k0 := 0) hi_r_phf_4_X9 rfl rfl 0 (by decide +kernel) (List.mem_of_getElem? (i := 2) rfl) rfl dX9_putHighestFirst_20 ?_
  refine v_aload_n B dX9_putHighestFirst_23 rfl rfl ?_
  refine v_get B (C := RX9) (T := TX9) (N := 2) (ci := 9) (k0 := 0) hi_r_phf_4_X9 rfl rfl 1 (by decide +kernel) (List.mem_of_getElem? (i := 1) rfl) rfl dX9_putHighestFirst_24 ?_
  refine v_iload_n B dX9_putHighestFirst_27 rfl rfl ?_
  refine v_iload_n B dX9_putHighestFirst_28 rfl rfl ?_
  refine v_iushr B (v := ((x).toUInt32 >>> ((16 : Int32).toUInt32 &&& Int32.toUInt32 31)).toInt32) dX9_putHighestFirst_29 rfl ?_
  refine v_sipush B (v := 255) dX9_putHighestFirst_30 (by decide +kernel) ?_
  refine v_iand B (v := (((x).toUInt32 >>> ((16 : Int32).toUInt32 &&& Int32.toUInt32 31)).toInt32 &&& 255)) dX9_putHighestFirst_33 rfl ?_
  refine v_iast B (k0 := 1) (t0 := 0) (w' := [(h, .inr (9, [.ref b, .int 5])), (b, .inl (K 0, 100, .inl (upd (upd f (4 : Int32).toNatClampNeg (((x).toUInt32 >>> ((24 : Int32).toUInt32 &&& Int32.toUInt32 31)).toInt32 &&& 255)) (5 : Int32).toNatClampNeg (((x).toUInt32 >>> ((16 : Int32).toUInt32 &&& Int32.toUInt32 31)).toInt32 &&& 255))))]) rfl rfl (vpi (by decide +kernel)) rfl dX9_putHighestFirst_34 ?_
  refine v_aload_n B dX9_putHighestFirst_35 rfl rfl ?_
  refine v_dup B dX9_putHighestFirst_36 rfl ?_
  refine v_get B (C := RX9) (T := TX9) (N := 2) (ci := 9) (k0 := 0) hi_r_phf_4_X9 rfl rfl 1 (by decide +kernel) (List.mem_of_getElem? (i := 1) rfl) rfl dX9_putHighestFirst_37 ?_
  refine v_iconst B (v := 1) dX9_putHighestFirst_40 (by decide +kernel) ?_
  refine v_iadd B (v := 6) dX9_putHighestFirst_41 (by decide +kernel) ?_
  refine v_put B (C := RX9) (T := TX9) (N := 2) (ci := 9) (k0 := 0) hi_r_phf_4_X9 rfl rfl 1 (by decide +kernel) tyX9 tyX9_ok nmX9 (List.mem_of_getElem? (i := 1) rfl) rfl (ty := .int) (tyX9_ok 1 (by decide +kernel)) rfl rfl (Nat.le_of_ble_eq_true rfl) (w' := [(h, .inr (9, [.ref b, .int 6])), (b, .inl (K 0, 100, .inl (upd (upd f (4 : Int32).toNatClampNeg (((x).toUInt32 >>> ((24 : Int32).toUInt32 &&& Int32.toUInt32 31)).toInt32 &&& 255)) (5 : Int32).toNatClampNeg (((x).toUInt32 >>> ((16 : Int32).toUInt32 &&& Int32.toUInt32 31)).toInt32 &&& 255))))]) rfl dX9_putHighestFirst_42 ?_
  refine v_iinc B (k := 0) (v := 8) (lv' := [(2, .int 8), (0, .ref h), (1, .int x)]) dX9_putHighestFirst_45 rfl (by decide +kernel) (by decide +kernel) rfl ?_
  refine v_goto B (tgt := 3) dX9_putHighestFirst_48 (by decide +kernel) ?_
  refine v_iload_n B dX9_putHighestFirst_3 rfl rfl ?_
  refine v_if_lt B (tgt := 51) dX9_putHighestFirst_4 (by decide +kernel) (fun h => absurd h (by decide +kernel)) (fun _ => ?_)
  refine v_aload_n B dX9_putHighestFirst_7 rfl rfl ?_
  refine v_get B (C := RX9) (T := TX9) (N := 2) (ci := 9) (k0 := 0) hi_r_phf_4_X9 rfl rfl 1 (by decide +kernel) (List.mem_of_getElem? (i := 1) rfl) rfl dX9_putHighestFirst_8 ?_
  refine v_aload_n B dX9_putHighestFirst_11 rfl rfl ?_
  refine v_get B (C := RX9) (T := TX9) (N := 2) (ci := 9) (k0 := 0) hi_r_phf_4_X9 rfl rfl 0 (by decide +kernel) (List.mem_of_getElem? (i := 2) rfl) rfl dX9_putHighestFirst_12 ?_
  refine v_alen B (k0 := 1) (t0 := 0) (v := 100) rfl rfl rfl dX9_putHighestFirst_15 ?_
  refine v_icmp_ge B (tgt := 51) dX9_putHighestFirst_16 (by decide +kernel) (fun h => absurd h (by decide +kernel)) (fun _ => ?_)
  refine v_aload_n B dX9_putHighestFirst_19 rfl rfl ?_
  refine v_get B (C := RX9) (T := TX9) (N := 2) (ci := 9) (k0 := 0) hi_r_phf_4_X9 rfl rfl 0 (by decide +kernel) (List.mem_of_getElem? (i := 2) rfl) rfl dX9_putHighestFirst_20 ?_
  refine v_aload_n B dX9_putHighestFirst_23 rfl rfl ?_
  refine v_get B (C := RX9) (T := TX9) (N := 2) (ci := 9) (k0 := 0) hi_r_phf_4_X9 rfl rfl 1 (by decide +kernel) (List.mem_of_getElem? (i := 1) rfl) rfl dX9_putHighestFirst_24 ?_
  refine v_iload_n B dX9_putHighestFirst_27 rfl rfl ?_
  refine v_iload_n B dX9_putHighestFirst_28 rfl rfl ?_
  refine v_iushr B (v := ((x).toUInt32 >>> ((8 : Int32).toUInt32 &&& Int32.toUInt32 31)).toInt32) dX9_putHighestFirst_29 rfl ?_
  refine v_sipush B (v := 255) dX9_putHighestFirst_30 (by decide +kernel) ?_
  refine v_iand B (v := (((x).toUInt32 >>> ((8 : Int32).toUInt32 &&& Int32.toUInt32 31)).toInt32 &&& 255)) dX9_putHighestFirst_33 rfl ?_
  refine v_iast B (k0 := 1) (t0 := 0) (w' := [(h, .inr (9, [.ref b, .int 6])), (b, .inl (K 0, 100, .inl (upd (upd (upd f (4 : Int32).toNatClampNeg (((x).toUInt32 >>> ((24 : Int32).toUInt32 &&& Int32.toUInt32 31)).toInt32 &&& 255)) (5 : Int32).toNatClampNeg (((x).toUInt32 >>> ((16 : Int32).toUInt32 &&& Int32.toUInt32 31)).toInt32 &&& 255)) (6 : Int32).toNatClampNeg (((x).toUInt32 >>> ((8 : Int32).toUInt32 &&& Int32.toUInt32 31)).toInt32 &&& 255))))]) rfl rfl (vpi (by decide +kernel)) rfl dX9_putHighestFirst_34 ?_
  refine v_aload_n B dX9_putHighestFirst_35 rfl rfl ?_
  refine v_dup B dX9_putHighestFirst_36 rfl ?_
  refine v_get B (C := RX9) (T := TX9) (N := 2) (ci := 9) (k0 := 0) hi_r_phf_4_X9 rfl rfl 1 (by decide +kernel) (List.mem_of_getElem? (i := 1) rfl) rfl dX9_putHighestFirst_37 ?_
  refine v_iconst B (v := 1) dX9_putHighestFirst_40 (by decide +kernel) ?_
  refine v_iadd B (v := 7) dX9_putHighestFirst_41 (by decide +kernel) ?_
  refine v_put B (C := RX9) (T := TX9) (N := 2) (ci := 9) (k0 := 0) hi_r_phf_4_X9 rfl rfl 1 (by decide +kernel) tyX9 tyX9_ok nmX9 (List.mem_of_getElem? (i := 1) rfl) rfl (ty := .int) (tyX9_ok 1 (by decide +kernel)) rfl rfl (Nat.le_of_ble_eq_true rfl) (w' := [(h, .inr (9, [.ref b, .int 7])), (b, .inl (K 0, 100, .inl (upd (upd (upd f (4 : Int32).toNatClampNeg (((x).toUInt32 >>> ((24 : Int32).toUInt32 &&& Int32.toUInt32 31)).toInt32 &&& 255)) (5 : Int32).toNatClampNeg (((x).toUInt32 >>> ((16 : Int32).toUInt32 &&& Int32.toUInt32 31)).toInt32 &&& 255)) (6 : Int32).toNatClampNeg (((x).toUInt32 >>> ((8 : Int32).toUInt32 &&& Int32.toUInt32 31)).toInt32 &&& 255))))]) rfl dX9_putHighestFirst_42 ?_
  refine v_iinc B (k := 0) (v := 0) (lv' := [(2, .int 0), (0, .ref h), (1, .int x)]) dX9_putHighestFirst_45 rfl (by decide +kernel) (by decide +kernel) rfl ?_
  refine v_goto B (tgt := 3) dX9_putHighestFirst_48 (by decide +kernel) ?_
  refine v_iload_n B dX9_putHighestFirst_3 rfl rfl ?_
  refine v_if_lt B (tgt := 51) dX9_putHighestFirst_4 (by decide +kernel) (fun h => absurd h (by decide +kernel)) (fun _ => ?_)
  refine v_aload_n B dX9_putHighestFirst_7 rfl rfl ?_
  refine v_get B (C := RX9) (T := TX9) (N := 2) (ci := 9) (k0 := 0) hi_r_phf_4_X9 rfl rfl 1 (by decide +kernel) (List.mem_of_getElem? (i := 1) rfl) rfl dX9_putHighestFirst_8 ?_
  refine v_aload_n B dX9_putHighestFirst_11 rfl rfl ?_
  refine v_get B (C := RX9) (T := TX9) (N := 2) (ci := 9) (k0 := 0) hi_r_phf_4_X9 rfl rfl 0 (by decide +kernel) (List.mem_of_getElem? (i := 2) rfl) rfl dX9_putHighestFirst_12 ?_
  refine v_alen B (k0 := 1) (t0 := 0) (v := 100) rfl rfl rfl dX9_putHighestFirst_15 ?_
  refine v_icmp_ge B (tgt := 51) dX9_putHighestFirst_16 (by decide +kernel) (fun h => absurd h (by decide +kernel)) (fun _ => ?_)
  refine v_aload_n B dX9_putHighestFirst_19 rfl rfl ?_
  refine v_get B (C := RX9) (T := TX9) (N := 2) (ci := 9) (k0 := 0) hi_r_phf_4_X9 rfl rfl 0 (by decide +kernel) (List.mem_of_getElem? (i := 2) rfl) rfl dX9_putHighestFirst_20 ?_
  refine v_aload_n B dX9_putHighestFirst_23 rfl rfl ?_
  refine v_get B (C := RX9) (T := TX9) (N := 2) (ci := 9) (k0 := 0) hi_r_phf_4_X9 rfl rfl 1 (by decide +kernel) (List.mem_of_getElem? (i := 1) rfl) rfl dX9_putHighestFirst_24 ?_
  refine v_iload_n B dX9_putHighestFirst_27 rfl rfl ?_
  refine v_iload_n B dX9_putHighestFirst_28 rfl rfl ?_
  refine v_iushr B (v := ((x).toUInt32 >>> ((0 : Int32).toUInt32 &&& Int32.toUInt32 31)).toInt32) dX9_putHighestFirst_29 rfl ?_
  refine v_sipush B (v := 255) dX9_putHighestFirst_30 (by decide +kernel) ?_
  refine v_iand B (v := (((x).toUInt32 >>> ((0 : Int32).toUInt32 &&& Int32.toUInt32 31)).toInt32 &&& 255)) dX9_putHighestFirst_33 rfl ?_
  refine v_iast B (k0 := 1) (t0 := 0) (w' := [(h, .inr (9, [.ref b, .int 7])), (b, .inl (K 0, 100, .inl (upd (upd (upd (upd f (4 : Int32).toNatClampNeg (((x).toUInt32 >>> ((24 : Int32).toUInt32 &&& Int32.toUInt32 31)).toInt32 &&& 255)) (5 : Int32).toNatClampNeg (((x).toUInt32 >>> ((16 : Int32).toUInt32 &&& Int32.toUInt32 31)).toInt32 &&& 255)) (6 : Int32).toNatClampNeg (((x).toUInt32 >>> ((8 : Int32).toUInt32 &&& Int32.toUInt32 31)).toInt32 &&& 255)) (7 : Int32).toNatClampNeg (((x).toUInt32 >>> ((0 : Int32).toUInt32 &&& Int32.toUInt32 31)).toInt32 &&& 255))))]) rfl rfl (vpi (by decide +kernel)) rfl dX9_putHighestFirst_34 ?_
  refine v_aload_n B dX9_putHighestFirst_35 rfl rfl ?_
  refine v_dup B dX9_putHighestFirst_36 rfl ?_
  refine v_get B (C := RX9) (T := TX9) (N := 2) (ci := 9) (k0 := 0) hi_r_phf_4_X9 rfl rfl 1 (by decide +kernel) (List.mem_of_getElem? (i := 1) rfl) rfl dX9_putHighestFirst_37 ?_
  refine v_iconst B (v := 1) dX9_putHighestFirst_40 (by decide +kernel) ?_
  refine v_iadd B (v := 8) dX9_putHighestFirst_41 (by decide +kernel) ?_
  refine v_put B (C := RX9) (T := TX9) (N := 2) (ci := 9) (k0 := 0) hi_r_phf_4_X9 rfl rfl 1 (by decide +kernel) tyX9 tyX9_ok nmX9 (List.mem_of_getElem? (i := 1) rfl) rfl (ty := .int) (tyX9_ok 1 (by decide +kernel)) rfl rfl (Nat.le_of_ble_eq_true rfl) (w' := [(h, .inr (9, [.ref b, .int 8])), (b, .inl (K 0, 100, .inl (upd (upd (upd (upd f (4 : Int32).toNatClampNeg (((x).toUInt32 >>> ((24 : Int32).toUInt32 &&& Int32.toUInt32 31)).toInt32 &&& 255)) (5 : Int32).toNatClampNeg (((x).toUInt32 >>> ((16 : Int32).toUInt32 &&& Int32.toUInt32 31)).toInt32 &&& 255)) (6 : Int32).toNatClampNeg (((x).toUInt32 >>> ((8 : Int32).toUInt32 &&& Int32.toUInt32 31)).toInt32 &&& 255)) (7 : Int32).toNatClampNeg (((x).toUInt32 >>> ((0 : Int32).toUInt32 &&& Int32.toUInt32 31)).toInt32 &&& 255))))]) rfl dX9_putHighestFirst_42 ?_
  refine v_iinc B (k := 0) (v := (-8)) (lv' := [(2, .int (-8)), (0, .ref h), (1, .int x)]) dX9_putHighestFirst_45 rfl (by decide +kernel) (by decide +kernel) rfl ?_
  refine v_goto B (tgt := 3) dX9_putHighestFirst_48 (by decide +kernel) ?_
  refine v_iload_n B dX9_putHighestFirst_3 rfl rfl ?_
  refine v_if_lt B (tgt := 51) dX9_putHighestFirst_4 (by decide +kernel) (fun _ => ?_) (fun h => absurd (by decide +kernel) h)
  exact v_vret B hr hlk (upd (upd (upd (upd f (4 : Int32).toNatClampNeg (((x).toUInt32 >>> ((24 : Int32).toUInt32 &&& Int32.toUInt32 31)).toInt32 &&& 255)) (5 : Int32).toNatClampNeg (((x).toUInt32 >>> ((16 : Int32).toUInt32 &&& Int32.toUInt32 31)).toInt32 &&& 255)) (6 : Int32).toNatClampNeg (((x).toUInt32 >>> ((8 : Int32).toUInt32 &&& Int32.toUInt32 31)).toInt32 &&& 255)) (7 : Int32).toNatClampNeg (((x).toUInt32 >>> ((0 : Int32).toUInt32 &&& Int32.toUInt32 31)).toInt32 &&& 255)) trivial rfl (by decide +kernel) (by decide +kernel) dX9_putHighestFirst_51

def wp_r_phf_8 : List Cond := .code yX9_putHighestFirst cX9_putHighestFirst 3 none :: ([.fieldLink RX9 21 "LowEnergy$Row" "size" "I", .fieldLink RX9 15 "LowEnergy$Row" "bytes" "[I"] ++ (wsX90 ++ ([])))
theorem hi_r_phf_8_X9 : ∀ x ∈ u_ws RX9 TX9 2, x ∈ wp_r_phf_8 := fun _ h => List.mem_cons_of_mem _ (List.mem_append_right _ (List.mem_append_left _ h))
set_option maxHeartbeats 4000000 in
set_option maxRecDepth 100000 in
theorem r_phf_8 (l : Launch) (D : va_G) (K : Nat → ClassId) (h : Nat) (b : Nat) (f : Nat → Int32) (x : Int32) : MG l yX9_putHighestFirst wp_r_phf_8 ({ frames := 0, cells := 0, slots := 0, locals := 0 }) D (tysA K) [.ref h, .int x] [(h, .inr (9, [.ref b, .int 8])), (b, .inl (K 0, 100, .inl f))] (Qv D (fun _ : (Nat → Int32) => True) (fun u => [(h, .inr (9, [.ref b, .int 12])), (b, .inl (K 0, 100, .inl u))])) 0 0 := by
  refine mg_of (cc := cX9_putHighestFirst) (maxL := 3) (ret := none) (by decide +kernel) rfl (Nat.le_of_ble_eq_true rfl) ?_
  intro p e s m below meth c A B hr hlk hnam
  show V _ _ _ _ _ _ _ _ _ _ _ _ _ _ _ _ [(0, .ref h), (1, .int x)] _ _
  refine v_bipush B (v := 24) dX9_putHighestFirst_0 (by decide +kernel) ?_
  refine v_istore_n B (lv' := [(2, .int 24), (0, .ref h), (1, .int x)]) dX9_putHighestFirst_2 rfl (by decide +kernel) rfl ?_
  refine v_iload_n B dX9_putHighestFirst_3 rfl rfl ?_
  refine v_if_lt B (tgt := 51) dX9_putHighestFirst_4 (by decide +kernel) (fun h => absurd h (by decide +kernel)) (fun _ => ?_)
  refine v_aload_n B dX9_putHighestFirst_7 rfl rfl ?_
  refine v_get B (C := RX9) (T := TX9) (N := 2) (ci := 9) (k0 := 0) hi_r_phf_8_X9 rfl rfl 1 (by decide +kernel) (List.mem_of_getElem? (i := 1) rfl) rfl dX9_putHighestFirst_8 ?_
  refine v_aload_n B dX9_putHighestFirst_11 rfl rfl ?_
  refine v_get B (C := RX9) (T := TX9) (N := 2) (ci := 9) (k0 := 0) hi_r_phf_8_X9 rfl rfl 0 (by decide +kernel) (List.mem_of_getElem? (i := 2) rfl) rfl dX9_putHighestFirst_12 ?_
  refine v_alen B (k0 := 1) (t0 := 0) (v := 100) rfl rfl rfl dX9_putHighestFirst_15 ?_
  refine v_icmp_ge B (tgt := 51) dX9_putHighestFirst_16 (by decide +kernel) (fun h => absurd h (by decide +kernel)) (fun _ => ?_)
  refine v_aload_n B dX9_putHighestFirst_19 rfl rfl ?_
  refine v_get B (C := RX9) (T := TX9) (N := 2) (ci := 9) (k0 := 0) hi_r_phf_8_X9 rfl rfl 0 (by decide +kernel) (List.mem_of_getElem? (i := 2) rfl) rfl dX9_putHighestFirst_20 ?_
  refine v_aload_n B dX9_putHighestFirst_23 rfl rfl ?_
  refine v_get B (C := RX9) (T := TX9) (N := 2) (ci := 9) (k0 := 0) hi_r_phf_8_X9 rfl rfl 1 (by decide +kernel) (List.mem_of_getElem? (i := 1) rfl) rfl dX9_putHighestFirst_24 ?_
  refine v_iload_n B dX9_putHighestFirst_27 rfl rfl ?_
  refine v_iload_n B dX9_putHighestFirst_28 rfl rfl ?_
  refine v_iushr B (v := ((x).toUInt32 >>> ((24 : Int32).toUInt32 &&& Int32.toUInt32 31)).toInt32) dX9_putHighestFirst_29 rfl ?_
  refine v_sipush B (v := 255) dX9_putHighestFirst_30 (by decide +kernel) ?_
  refine v_iand B (v := (((x).toUInt32 >>> ((24 : Int32).toUInt32 &&& Int32.toUInt32 31)).toInt32 &&& 255)) dX9_putHighestFirst_33 rfl ?_
  refine v_iast B (k0 := 1) (t0 := 0) (w' := [(h, .inr (9, [.ref b, .int 8])), (b, .inl (K 0, 100, .inl (upd f (8 : Int32).toNatClampNeg (((x).toUInt32 >>> ((24 : Int32).toUInt32 &&& Int32.toUInt32 31)).toInt32 &&& 255))))]) rfl rfl (vpi (by decide +kernel)) rfl dX9_putHighestFirst_34 ?_
  refine v_aload_n B dX9_putHighestFirst_35 rfl rfl ?_
  refine v_dup B dX9_putHighestFirst_36 rfl ?_
  refine v_get B (C := RX9) (T := TX9) (N := 2) (ci := 9) (k0 := 0) hi_r_phf_8_X9 rfl rfl 1 (by decide +kernel) (List.mem_of_getElem? (i := 1) rfl) rfl dX9_putHighestFirst_37 ?_
  refine v_iconst B (v := 1) dX9_putHighestFirst_40 (by decide +kernel) ?_
  refine v_iadd B (v := 9) dX9_putHighestFirst_41 (by decide +kernel) ?_
  refine v_put B (C := RX9) (T := TX9) (N := 2) (ci := 9) (k0 := 0) hi_r_phf_8_X9 rfl rfl 1 (by decide +kernel) tyX9 tyX9_ok nmX9 (List.mem_of_getElem? (i := 1) rfl) rfl (ty := .int) (tyX9_ok 1 (by decide +kernel)) rfl rfl (Nat.le_of_ble_eq_true rfl) (w' := [(h, .inr (9, [.ref b, .int 9])), (b, .inl (K 0, 100, .inl (upd f (8 : Int32).toNatClampNeg (((x).toUInt32 >>> ((24 : Int32).toUInt32 &&& Int32.toUInt32 31)).toInt32 &&& 255))))]) rfl dX9_putHighestFirst_42 ?_
  refine v_iinc B (k := 0) (v := 16) (lv' := [(2, .int 16), (0, .ref h), (1, .int x)]) dX9_putHighestFirst_45 rfl (by decide +kernel) (by decide +kernel) rfl ?_
  refine v_goto B (tgt := 3) dX9_putHighestFirst_48 (by decide +kernel) ?_
  refine v_iload_n B dX9_putHighestFirst_3 rfl rfl ?_
  refine v_if_lt B (tgt := 51) dX9_putHighestFirst_4 (by decide +kernel) (fun h => absurd h (by decide +kernel)) (fun _ => ?_)
  refine v_aload_n B dX9_putHighestFirst_7 rfl rfl ?_
  refine v_get B (C := RX9) (T := TX9) (N := 2) (ci := 9) (k0 := 0) hi_r_phf_8_X9 rfl rfl 1 (by decide +kernel) (List.mem_of_getElem? (i := 1) rfl) rfl dX9_putHighestFirst_8 ?_
  refine v_aload_n B dX9_putHighestFirst_11 rfl rfl ?_
  refine v_get B (C := RX9) (T := TX9) (N := 2) (ci := 9) (k0 := 0) hi_r_phf_8_X9 rfl rfl 0 (by decide +kernel) (List.mem_of_getElem? (i := 2) rfl) rfl dX9_putHighestFirst_12 ?_
  refine v_alen B (k0 := 1) (t0 := 0) (v := 100) rfl rfl rfl dX9_putHighestFirst_15 ?_
  refine v_icmp_ge B (tgt := 51) dX9_putHighestFirst_16 (by decide +kernel) (fun h => absurd h (by decide +kernel)) (fun _ => ?_)
  refine v_aload_n B dX9_putHighestFirst_19 rfl rfl ?_
  refine v_get B (C := RX9) (T := TX9) (N := 2) (ci := 9) (k0 := 0) hi_r_phf_8_X9 rfl rfl 0 (by decide +kernel) (List.mem_of_getElem? (i := 2) rfl) rfl dX9_putHighestFirst_20 ?_
  refine v_aload_n B dX9_putHighestFirst_23 rfl rfl ?_
  refine v_get B (C := RX9) (T := TX9) (N := 2) (ci := 9) (k0 := 0) hi_r_phf_8_X9 rfl rfl 1 (by decide +kernel) (List.mem_of_getElem? (i := 1) rfl) rfl dX9_putHighestFirst_24 ?_
  refine v_iload_n B dX9_putHighestFirst_27 rfl rfl ?_
  refine v_iload_n B dX9_putHighestFirst_28 rfl rfl ?_
  refine v_iushr B (v := ((x).toUInt32 >>> ((16 : Int32).toUInt32 &&& Int32.toUInt32 31)).toInt32) dX9_putHighestFirst_29 rfl ?_
  refine v_sipush B (v := 255) dX9_putHighestFirst_30 (by decide +kernel) ?_
  refine v_iand B (v := (((x).toUInt32 >>> ((16 : Int32).toUInt32 &&& Int32.toUInt32 31)).toInt32 &&& 255)) dX9_putHighestFirst_33 rfl ?_
  refine v_iast B (k0 := 1) (t0 := 0) (w' := [(h, .inr (9, [.ref b, .int 9])), (b, .inl (K 0, 100, .inl (upd (upd f (8 : Int32).toNatClampNeg (((x).toUInt32 >>> ((24 : Int32).toUInt32 &&& Int32.toUInt32 31)).toInt32 &&& 255)) (9 : Int32).toNatClampNeg (((x).toUInt32 >>> ((16 : Int32).toUInt32 &&& Int32.toUInt32 31)).toInt32 &&& 255))))]) rfl rfl (vpi (by decide +kernel)) rfl dX9_putHighestFirst_34 ?_
  refine v_aload_n B dX9_putHighestFirst_35 rfl rfl ?_
  refine v_dup B dX9_putHighestFirst_36 rfl ?_
  refine v_get B (C := RX9) (T := TX9) (N := 2) (ci := 9) (k0 := 0) hi_r_phf_8_X9 rfl rfl 1 (by decide +kernel) (List.mem_of_getElem? (i := 1) rfl) rfl dX9_putHighestFirst_37 ?_
  refine v_iconst B (v := 1) dX9_putHighestFirst_40 (by decide +kernel) ?_
  refine v_iadd B (v := 10) dX9_putHighestFirst_41 (by decide +kernel) ?_
  refine v_put B (C := RX9) (T := TX9) (N := 2) (ci := 9) (k0 := 0) hi_r_phf_8_X9 rfl rfl 1 (by decide +kernel) tyX9 tyX9_ok nmX9 (List.mem_of_getElem? (i := 1) rfl) rfl (ty := .int) (tyX9_ok 1 (by decide +kernel)) rfl rfl (Nat.le_of_ble_eq_true rfl) (w' := [(h, .inr (9, [.ref b, .int 10])), (b, .inl (K 0, 100, .inl (upd (upd f (8 : Int32).toNatClampNeg (((x).toUInt32 >>> ((24 : Int32).toUInt32 &&& Int32.toUInt32 31)).toInt32 &&& 255)) (9 : Int32).toNatClampNeg (((x).toUInt32 >>> ((16 : Int32).toUInt32 &&& Int32.toUInt32 31)).toInt32 &&& 255))))]) rfl dX9_putHighestFirst_42 ?_
  refine v_iinc B (k := 0) (v := 8) (lv' := [(2, .int 8), (0, .ref h), (1, .int x)]) dX9_putHighestFirst_45 rfl (by decide +kernel) (by decide +kernel) rfl ?_
  refine v_goto B (tgt := 3) dX9_putHighestFirst_48 (by decide +kernel) ?_
  refine v_iload_n B dX9_putHighestFirst_3 rfl rfl ?_
  refine v_if_lt B (tgt := 51) dX9_putHighestFirst_4 (by decide +kernel) (fun h => absurd h (by decide +kernel)) (fun _ => ?_)
  refine v_aload_n B dX9_putHighestFirst_7 rfl rfl ?_
  refine v_get B (C := RX9) (T := TX9) (N := 2) (ci := 9) (k0 := 0) hi_r_phf_8_X9 rfl rfl 1 (by decide +kernel) (List.mem_of_getElem? (i := 1) rfl) rfl dX9_putHighestFirst_8 ?_
  refine v_aload_n B dX9_putHighestFirst_11 rfl rfl ?_
  refine v_get B (C := RX9) (T := TX9) (N := 2) (ci := 9) (k0 := 0) hi_r_phf_8_X9 rfl rfl 0 (by decide +kernel) (List.mem_of_getElem? (i := 2) rfl) rfl dX9_putHighestFirst_12 ?_
  refine v_alen B (k0 := 1) (t0 := 0) (v := 100) rfl rfl rfl dX9_putHighestFirst_15 ?_
  refine v_icmp_ge B (tgt := 51) dX9_putHighestFirst_16 (by decide +kernel) (fun h => absurd h (by decide +kernel)) (fun _ => ?_)
  refine v_aload_n B dX9_putHighestFirst_19 rfl rfl ?_
  refine v_get B (C := RX9) (T := TX9) (N := 2) (ci := 9) (k0 := 0) hi_r_phf_8_X9 rfl rfl 0 (by decide +kernel) (List.mem_of_getElem? (i := 2) rfl) rfl dX9_putHighestFirst_20 ?_
  refine v_aload_n B dX9_putHighestFirst_23 rfl rfl ?_
  refine v_get B (C := RX9) (T := TX9) (N := 2) (ci := 9) (k0 := 0) hi_r_phf_8_X9 rfl rfl 1 (by decide +kernel) (List.mem_of_getElem? (i := 1) rfl) rfl dX9_putHighestFirst_24 ?_
  refine v_iload_n B dX9_putHighestFirst_27 rfl rfl ?_
  refine v_iload_n B dX9_putHighestFirst_28 rfl rfl ?_
  refine v_iushr B (v := ((x).toUInt32 >>> ((8 : Int32).toUInt32 &&& Int32.toUInt32 31)).toInt32) dX9_putHighestFirst_29 rfl ?_
  refine v_sipush B (v := 255) dX9_putHighestFirst_30 (by decide +kernel) ?_
  refine v_iand B (v := (((x).toUInt32 >>> ((8 : Int32).toUInt32 &&& Int32.toUInt32 31)).toInt32 &&& 255)) dX9_putHighestFirst_33 rfl ?_
  refine v_iast B (k0 := 1) (t0 := 0) (w' := [(h, .inr (9, [.ref b, .int 10])), (b, .inl (K 0, 100, .inl (upd (upd (upd f (8 : Int32).toNatClampNeg (((x).toUInt32 >>> ((24 : Int32).toUInt32 &&& Int32.toUInt32 31)).toInt32 &&& 255)) (9 : Int32).toNatClampNeg (((x).toUInt32 >>> ((16 : Int32).toUInt32 &&& Int32.toUInt32 31)).toInt32 &&& 255)) (10 : Int32).toNatClampNeg (((x).toUInt32 >>> ((8 : Int32).toUInt32 &&& Int32.toUInt32 31)).toInt32 &&& 255))))]) rfl rfl (vpi (by decide +kernel)) rfl dX9_putHighestFirst_34 ?_
  refine v_aload_n B dX9_putHighestFirst_35 rfl rfl ?_
  refine v_dup B dX9_putHighestFirst_36 rfl ?_
  refine v_get B (C := RX9) (T := TX9) (N := 2) (ci := 9) (k0 := 0) hi_r_phf_8_X9 rfl rfl 1 (by decide +kernel) (List.mem_of_getElem? (i := 1) rfl) rfl dX9_putHighestFirst_37 ?_
  refine v_iconst B (v := 1) dX9_putHighestFirst_40 (by decide +kernel) ?_
  refine v_iadd B (v := 11) dX9_putHighestFirst_41 (by decide +kernel) ?_
  refine v_put B (C := RX9) (T := TX9) (N := 2) (ci := 9) (k0 := 0) hi_r_phf_8_X9 rfl rfl 1 (by decide +kernel) tyX9 tyX9_ok nmX9 (List.mem_of_getElem? (i := 1) rfl) rfl (ty := .int) (tyX9_ok 1 (by decide +kernel)) rfl rfl (Nat.le_of_ble_eq_true rfl) (w' := [(h, .inr (9, [.ref b, .int 11])), (b, .inl (K 0, 100, .inl (upd (upd (upd f (8 : Int32).toNatClampNeg (((x).toUInt32 >>> ((24 : Int32).toUInt32 &&& Int32.toUInt32 31)).toInt32 &&& 255)) (9 : Int32).toNatClampNeg (((x).toUInt32 >>> ((16 : Int32).toUInt32 &&& Int32.toUInt32 31)).toInt32 &&& 255)) (10 : Int32).toNatClampNeg (((x).toUInt32 >>> ((8 : Int32).toUInt32 &&& Int32.toUInt32 31)).toInt32 &&& 255))))]) rfl dX9_putHighestFirst_42 ?_
  refine v_iinc B (k := 0) (v := 0) (lv' := [(2, .int 0), (0, .ref h), (1, .int x)]) dX9_putHighestFirst_45 rfl (by decide +kernel) (by decide +kernel) rfl ?_
  refine v_goto B (tgt := 3) dX9_putHighestFirst_48 (by decide +kernel) ?_
  refine v_iload_n B dX9_putHighestFirst_3 rfl rfl ?_
  refine v_if_lt B (tgt := 51) dX9_putHighestFirst_4 (by decide +kernel) (fun h => absurd h (by decide +kernel)) (fun _ => ?_)
  refine v_aload_n B dX9_putHighestFirst_7 rfl rfl ?_
  refine v_get B (C := RX9) (T := TX9) (N := 2) (ci := 9) (k0 := 0) hi_r_phf_8_X9 rfl rfl 1 (by decide +kernel) (List.mem_of_getElem? (i := 1) rfl) rfl dX9_putHighestFirst_8 ?_
  refine v_aload_n B dX9_putHighestFirst_11 rfl rfl ?_
  refine v_get B (C := RX9) (T := TX9) (N := 2) (ci := 9) (k0 := 0) hi_r_phf_8_X9 rfl rfl 0 (by decide +kernel) (List.mem_of_getElem? (i := 2) rfl) rfl dX9_putHighestFirst_12 ?_
  refine v_alen B (k0 := 1) (t0 := 0) (v := 100) rfl rfl rfl dX9_putHighestFirst_15 ?_
  refine v_icmp_ge B (tgt := 51) dX9_putHighestFirst_16 (by decide +kernel) (fun h => absurd h (by decide +kernel)) (fun _ => ?_)
  refine v_aload_n B dX9_putHighestFirst_19 rfl rfl ?_
  refine v_get B (C := RX9) (T := TX9) (N := 2) (ci := 9) (k0 := 0) hi_r_phf_8_X9 rfl rfl 0 (by decide +kernel) (List.mem_of_getElem? (i := 2) rfl) rfl dX9_putHighestFirst_20 ?_
  refine v_aload_n B dX9_putHighestFirst_23 rfl rfl ?_
  refine v_get B (C := RX9) (T := TX9) (N := 2) (ci := 9) (k0 := 0) hi_r_phf_8_X9 rfl rfl 1 (by decide +kernel) (List.mem_of_getElem? (i := 1) rfl) rfl dX9_putHighestFirst_24 ?_
  refine v_iload_n B dX9_putHighestFirst_27 rfl rfl ?_
  refine v_iload_n B dX9_putHighestFirst_28 rfl rfl ?_
  refine v_iushr B (v := ((x).toUInt32 >>> ((0 : Int32).toUInt32 &&& Int32.toUInt32 31)).toInt32) dX9_putHighestFirst_29 rfl ?_
  refine v_sipush B (v := 255) dX9_putHighestFirst_30 (by decide +kernel) ?_
  refine v_iand B (v := (((x).toUInt32 >>> ((0 : Int32).toUInt32 &&& Int32.toUInt32 31)).toInt32 &&& 255)) dX9_putHighestFirst_33 rfl ?_
  refine v_iast B (k0 := 1) (t0 := 0) (w' := [(h, .inr (9, [.ref b, .int 11])), (b, .inl (K 0, 100, .inl (upd (upd (upd (upd f (8 : Int32).toNatClampNeg (((x).toUInt32 >>> ((24 : Int32).toUInt32 &&& Int32.toUInt32 31)).toInt32 &&& 255)) (9 : Int32).toNatClampNeg (((x).toUInt32 >>> ((16 : Int32).toUInt32 &&& Int32.toUInt32 31)).toInt32 &&& 255)) (10 : Int32).toNatClampNeg (((x).toUInt32 >>> ((8 : Int32).toUInt32 &&& Int32.toUInt32 31)).toInt32 &&& 255)) (11 : Int32).toNatClampNeg (((x).toUInt32 >>> ((0 : Int32).toUInt32 &&& Int32.toUInt32 31)).toInt32 &&& 255))))]) rfl rfl (vpi (by decide +kernel)) rfl dX9_putHighestFirst_34 ?_
  refine v_aload_n B dX9_putHighestFirst_35 rfl rfl ?_
  refine v_dup B dX9_putHighestFirst_36 rfl ?_
  refine v_get B (C := RX9) (T := TX9) (N := 2) (ci := 9) (k0 := 0) hi_r_phf_8_X9 rfl rfl 1 (by decide +kernel) (List.mem_of_getElem? (i := 1) rfl) rfl dX9_putHighestFirst_37 ?_
  refine v_iconst B (v := 1) dX9_putHighestFirst_40 (by decide +kernel) ?_
  refine v_iadd B (v := 12) dX9_putHighestFirst_41 (by decide +kernel) ?_
  refine v_put B (C := RX9) (T := TX9) (N := 2) (ci := 9) (k0 := 0) hi_r_phf_8_X9 rfl rfl 1 (by decide +kernel) tyX9 tyX9_ok nmX9 (List.mem_of_getElem? (i := 1) rfl) rfl (ty := .int) (tyX9_ok 1 (by decide +kernel)) rfl rfl (Nat.le_of_ble_eq_true rfl) (w' := [(h, .inr (9, [.ref b, .int 12])), (b, .inl (K 0, 100, .inl (upd (upd (upd (upd f (8 : Int32).toNatClampNeg (((x).toUInt32 >>> ((24 : Int32).toUInt32 &&& Int32.toUInt32 31)).toInt32 &&& 255)) (9 : Int32).toNatClampNeg (((x).toUInt32 >>> ((16 : Int32).toUInt32 &&& Int32.toUInt32 31)).toInt32 &&& 255)) (10 : Int32).toNatClampNeg (((x).toUInt32 >>> ((8 : Int32).toUInt32 &&& Int32.toUInt32 31)).toInt32 &&& 255)) (11 : Int32).toNatClampNeg (((x).toUInt32 >>> ((0 : Int32).toUInt32 &&& Int32.toUInt32 31)).toInt32 &&& 255))))]) rfl dX9_putHighestFirst_42 ?_
  refine v_iinc B (k := 0) (v := (-8)) (lv' := [(2, .int (-8)), (0, .ref h), (1, .int x)]) dX9_putHighestFirst_45 rfl (by decide +kernel) (by decide +kernel) rfl ?_
  refine v_goto B (tgt := 3) dX9_putHighestFirst_48 (by decide +kernel) ?_
  refine v_iload_n B dX9_putHighestFirst_3 rfl rfl ?_
  refine v_if_lt B (tgt := 51) dX9_putHighestFirst_4 (by decide +kernel) (fun _ => ?_) (fun h => absurd (by decide +kernel) h)
  exact v_vret B hr hlk (upd (upd (upd (upd f (8 : Int32).toNatClampNeg (((x).toUInt32 >>> ((24 : Int32).toUInt32 &&& Int32.toUInt32 31)).toInt32 &&& 255)) (9 : Int32).toNatClampNeg (((x).toUInt32 >>> ((16 : Int32).toUInt32 &&& Int32.toUInt32 31)).toInt32 &&& 255)) (10 : Int32).toNatClampNeg (((x).toUInt32 >>> ((8 : Int32).toUInt32 &&& Int32.toUInt32 31)).toInt32 &&& 255)) (11 : Int32).toNatClampNeg (((x).toUInt32 >>> ((0 : Int32).toUInt32 &&& Int32.toUInt32 31)).toInt32 &&& 255)) trivial rfl (by decide +kernel) (by decide +kernel) dX9_putHighestFirst_51

def wp_r_phf_12 : List Cond := .code yX9_putHighestFirst cX9_putHighestFirst 3 none :: ([.fieldLink RX9 21 "LowEnergy$Row" "size" "I", .fieldLink RX9 15 "LowEnergy$Row" "bytes" "[I"] ++ (wsX90 ++ ([])))
theorem hi_r_phf_12_X9 : ∀ x ∈ u_ws RX9 TX9 2, x ∈ wp_r_phf_12 := fun _ h => List.mem_cons_of_mem _ (List.mem_append_right _ (List.mem_append_left _ h))
set_option maxHeartbeats 4000000 in
set_option maxRecDepth 100000 in
theorem r_phf_12 (l : Launch) (D : va_G) (K : Nat → ClassId) (h : Nat) (b : Nat) (f : Nat → Int32) (x : Int32) : MG l yX9_putHighestFirst wp_r_phf_12 ({ frames := 0, cells := 0, slots := 0, locals := 0 }) D (tysA K) [.ref h, .int x] [(h, .inr (9, [.ref b, .int 12])), (b, .inl (K 0, 100, .inl f))] (Qv D (fun _ : (Nat → Int32) => True) (fun u => [(h, .inr (9, [.ref b, .int 16])), (b, .inl (K 0, 100, .inl u))])) 0 0 := by
  refine mg_of (cc := cX9_putHighestFirst) (maxL := 3) (ret := none) (by decide +kernel) rfl (Nat.le_of_ble_eq_true rfl) ?_
  intro p e s m below meth c A B hr hlk hnam
  show V _ _ _ _ _ _ _ _ _ _ _ _ _ _ _ _ [(0, .ref h), (1, .int x)] _ _
  refine v_bipush B (v := 24) dX9_putHighestFirst_0 (by decide +kernel) ?_
  refine v_istore_n B (lv' := [(2, .int 24), (0, .ref h), (1, .int x)]) dX9_putHighestFirst_2 rfl (by decide +kernel) rfl ?_
  refine v_iload_n B dX9_putHighestFirst_3 rfl rfl ?_
  refine v_if_lt B (tgt := 51) dX9_putHighestFirst_4 (by decide +kernel) (fun h => absurd h (by decide +kernel)) (fun _ => ?_)
  refine v_aload_n B dX9_putHighestFirst_7 rfl rfl ?_
  refine v_get B (C := RX9) (T := TX9) (N := 2) (ci := 9) (k0 := 0) hi_r_phf_12_X9 rfl rfl 1 (by decide +kernel) (List.mem_of_getElem? (i := 1) rfl) rfl dX9_putHighestFirst_8 ?_
  refine v_aload_n B dX9_putHighestFirst_11 rfl rfl ?_
  refine v_get B (C := RX9) (T := TX9) (N := 2) (ci := 9) (k0 := 0) hi_r_phf_12_X9 rfl rfl 0 (by decide +kernel) (List.mem_of_getElem? (i := 2) rfl) rfl dX9_putHighestFirst_12 ?_
  refine v_alen B (k0 := 1) (t0 := 0) (v := 100) rfl rfl rfl dX9_putHighestFirst_15 ?_
  refine v_icmp_ge B (tgt := 51) dX9_putHighestFirst_16 (by decide +kernel) (fun h => absurd h (by decide +kernel)) (fun _ => ?_)
  refine v_aload_n B dX9_putHighestFirst_19 rfl rfl ?_
  refine v_get B (C := RX9) (T := TX9) (N := 2) (ci := 9) (k0 := 0) hi_r_phf_12_X9 rfl rfl 0 (by decide +kernel) (List.mem_of_getElem? (i := 2) rfl) rfl dX9_putHighestFirst_20 ?_
  refine v_aload_n B dX9_putHighestFirst_23 rfl rfl ?_
  refine v_get B (C := RX9) (T := TX9) (N := 2) (ci := 9) (k0 := 0) hi_r_phf_12_X9 rfl rfl 1 (by decide +kernel) (List.mem_of_getElem? (i := 1) rfl) rfl dX9_putHighestFirst_24 ?_
  refine v_iload_n B dX9_putHighestFirst_27 rfl rfl ?_
  refine v_iload_n B dX9_putHighestFirst_28 rfl rfl ?_
  refine v_iushr B (v := ((x).toUInt32 >>> ((24 : Int32).toUInt32 &&& Int32.toUInt32 31)).toInt32) dX9_putHighestFirst_29 rfl ?_
  refine v_sipush B (v := 255) dX9_putHighestFirst_30 (by decide +kernel) ?_
  refine v_iand B (v := (((x).toUInt32 >>> ((24 : Int32).toUInt32 &&& Int32.toUInt32 31)).toInt32 &&& 255)) dX9_putHighestFirst_33 rfl ?_
  refine v_iast B (k0 := 1) (t0 := 0) (w' := [(h, .inr (9, [.ref b, .int 12])), (b, .inl (K 0, 100, .inl (upd f (12 : Int32).toNatClampNeg (((x).toUInt32 >>> ((24 : Int32).toUInt32 &&& Int32.toUInt32 31)).toInt32 &&& 255))))]) rfl rfl (vpi (by decide +kernel)) rfl dX9_putHighestFirst_34 ?_
  refine v_aload_n B dX9_putHighestFirst_35 rfl rfl ?_
  refine v_dup B dX9_putHighestFirst_36 rfl ?_
  refine v_get B (C := RX9) (T := TX9) (N := 2) (ci := 9) (k0 := 0) hi_r_phf_12_X9 rfl rfl 1 (by decide +kernel) (List.mem_of_getElem? (i := 1) rfl) rfl dX9_putHighestFirst_37 ?_
  refine v_iconst B (v := 1) dX9_putHighestFirst_40 (by decide +kernel) ?_
  refine v_iadd B (v := 13) dX9_putHighestFirst_41 (by decide +kernel) ?_
  refine v_put B (C := RX9) (T := TX9) (N := 2) (ci := 9) (k0 := 0) hi_r_phf_12_X9 rfl rfl 1 (by decide +kernel) tyX9 tyX9_ok nmX9 (List.mem_of_getElem? (i := 1) rfl) rfl (ty := .int) (tyX9_ok 1 (by decide +kernel)) rfl rfl (Nat.le_of_ble_eq_true rfl) (w' := [(h, .inr (9, [.ref b, .int 13])), (b, .inl (K 0, 100, .inl (upd f (12 : Int32).toNatClampNeg (((x).toUInt32 >>> ((24 : Int32).toUInt32 &&& Int32.toUInt32 31)).toInt32 &&& 255))))]) rfl dX9_putHighestFirst_42 ?_
  refine v_iinc B (k := 0) (v := 16) (lv' := [(2, .int 16), (0, .ref h), (1, .int x)]) dX9_putHighestFirst_45 rfl (by decide +kernel) (by decide +kernel) rfl ?_
  refine v_goto B (tgt := 3) dX9_putHighestFirst_48 (by decide +kernel) ?_
  refine v_iload_n B dX9_putHighestFirst_3 rfl rfl ?_
  refine v_if_lt B (tgt := 51) dX9_putHighestFirst_4 (by decide +kernel) (fun h => absurd h (by decide +kernel)) (fun _ => ?_)
  refine v_aload_n B dX9_putHighestFirst_7 rfl rfl ?_
  refine v_get B (C := RX9) (T := TX9) (N := 2) (ci := 9) (k0 := 0) hi_r_phf_12_X9 rfl rfl 1 (by decide +kernel) (List.mem_of_getElem? (i := 1) rfl) rfl dX9_putHighestFirst_8 ?_
  refine v_aload_n B dX9_putHighestFirst_11 rfl rfl ?_
  refine v_get B (C := RX9) (T := TX9) (N := 2) (ci := 9) (k0 := 0) hi_r_phf_12_X9 rfl rfl 0 (by decide +kernel) (List.mem_of_getElem? (i := 2) rfl) rfl dX9_putHighestFirst_12 ?_
  refine v_alen B (k0 := 1) (t0 := 0) (v := 100) rfl rfl rfl dX9_putHighestFirst_15 ?_
  refine v_icmp_ge B (tgt := 51) dX9_putHighestFirst_16 (by decide +kernel) (fun h => absurd h (by decide +kernel)) (fun _ => ?_)
  refine v_aload_n B dX9_putHighestFirst_19 rfl rfl ?_
  refine v_get B (C := RX9) (T := TX9) (N := 2) (ci := 9) (k0 := 0) hi_r_phf_12_X9 rfl rfl 0 (by decide +kernel) (List.mem_of_getElem? (i := 2) rfl) rfl dX9_putHighestFirst_20 ?_
  refine v_aload_n B dX9_putHighestFirst_23 rfl rfl ?_
  refine v_get B (C := RX9) (T := TX9) (N := 2) (ci := 9) (k0 := 0) hi_r_phf_12_X9 rfl rfl 1 (by decide +kernel) (List.mem_of_getElem? (i := 1) rfl) rfl dX9_putHighestFirst_24 ?_
  refine v_iload_n B dX9_putHighestFirst_27 rfl rfl ?_
  refine v_iload_n B dX9_putHighestFirst_28 rfl rfl ?_
  refine v_iushr B (v := ((x).toUInt32 >>> ((16 : Int32).toUInt32 &&& Int32.toUInt32 31)).toInt32) dX9_putHighestFirst_29 rfl ?_
  refine v_sipush B (v := 255) dX9_putHighestFirst_30 (by decide +kernel) ?_
  refine v_iand B (v := (((x).toUInt32 >>> ((16 : Int32).toUInt32 &&& Int32.toUInt32 31)).toInt32 &&& 255)) dX9_putHighestFirst_33 rfl ?_
  refine v_iast B (k0 := 1) (t0 := 0) (w' := [(h, .inr (9, [.ref b, .int 13])), (b, .inl (K 0, 100, .inl (upd (upd f (12 : Int32).toNatClampNeg (((x).toUInt32 >>> ((24 : Int32).toUInt32 &&& Int32.toUInt32 31)).toInt32 &&& 255)) (13 : Int32).toNatClampNeg (((x).toUInt32 >>> ((16 : Int32).toUInt32 &&& Int32.toUInt32 31)).toInt32 &&& 255))))]) rfl rfl (vpi (by decide +kernel)) rfl dX9_putHighestFirst_34 ?_
  refine v_aload_n B dX9_putHighestFirst_35 rfl rfl ?_
  refine v_dup B dX9_putHighestFirst_36 rfl ?_
  refine v_get B (C := RX9) (T := TX9) (N := 2) (ci := 9) (k0 := 0) hi_r_phf_12_X9 rfl rfl 1 (by decide +kernel) (List.mem_of_getElem? (i := 1) rfl) rfl dX9_putHighestFirst_37 ?_
  refine v_iconst B (v := 1) dX9_putHighestFirst_40 (by decide +kernel) ?_
  refine v_iadd B (v := 14) dX9_putHighestFirst_41 (by decide +kernel) ?_
  refine v_put B (C := RX9) (T := TX9) (N := 2) (ci := 9) (k0 := 0) hi_r_phf_12_X9 rfl rfl 1 (by decide +kernel) tyX9 tyX9_ok nmX9 (List.mem_of_getElem? (i := 1) rfl) rfl (ty := .int) (tyX9_ok 1 (by decide +kernel)) rfl rfl (Nat.le_of_ble_eq_true rfl) (w' := [(h, .inr (9, [.ref b, .int 14])), (b, .inl (K 0, 100, .inl (upd (upd f (12 : Int32).toNatClampNeg (((x).toUInt32 >>> ((24 : Int32).toUInt32 &&& Int32.toUInt32 31)).toInt32 &&& 255)) (13 : Int32).toNatClampNeg (((x).toUInt32 >>> ((16 : Int32).toUInt32 &&& Int32.toUInt32 31)).toInt32 &&& 255))))]) rfl dX9_putHighestFirst_42 ?_
  refine v_iinc B (k := 0) (v := 8) (lv' := [(2, .int 8), (0, .ref h), (1, .int x)]) dX9_putHighestFirst_45 rfl (by decide +kernel) (by decide +kernel) rfl ?_
  refine v_goto B (tgt := 3) dX9_putHighestFirst_48 (by decide +kernel) ?_
  refine v_iload_n B dX9_putHighestFirst_3 rfl rfl ?_
  refine v_if_lt B (tgt := 51) dX9_putHighestFirst_4 (by decide +kernel) (fun h => absurd h (by decide +kernel)) (fun _ => ?_)
  refine v_aload_n B dX9_putHighestFirst_7 rfl rfl ?_
  refine v_get B (C := RX9) (T := TX9) (N := 2) (ci := 9) (k0 := 0) hi_r_phf_12_X9 rfl rfl 1 (by decide +kernel) (List.mem_of_getElem? (i := 1) rfl) rfl dX9_putHighestFirst_8 ?_
  refine v_aload_n B dX9_putHighestFirst_11 rfl rfl ?_
  refine v_get B (C := RX9) (T := TX9) (N := 2) (ci := 9) (k0 := 0) hi_r_phf_12_X9 rfl rfl 0 (by decide +kernel) (List.mem_of_getElem? (i := 2) rfl) rfl dX9_putHighestFirst_12 ?_
  refine v_alen B (k0 := 1) (t0 := 0) (v := 100) rfl rfl rfl dX9_putHighestFirst_15 ?_
  refine v_icmp_ge B (tgt := 51) dX9_putHighestFirst_16 (by decide +kernel) (fun h => absurd h (by decide +kernel)) (fun _ => ?_)
  refine v_aload_n B dX9_putHighestFirst_19 rfl rfl ?_
  refine v_get B (C := RX9) (T := TX9) (N := 2) (ci := 9) (k0 := 0) hi_r_phf_12_X9 rfl rfl 0 (by decide +kernel) (List.mem_of_getElem? (i := 2) rfl) rfl dX9_putHighestFirst_20 ?_
  refine v_aload_n B dX9_putHighestFirst_23 rfl rfl ?_
  refine v_get B (C := RX9) (T := TX9) (N := 2) (ci := 9) (k0 := 0) hi_r_phf_12_X9 rfl rfl 1 (by decide +kernel) (List.mem_of_getElem? (i := 1) rfl) rfl dX9_putHighestFirst_24 ?_
  refine v_iload_n B dX9_putHighestFirst_27 rfl rfl ?_
  refine v_iload_n B dX9_putHighestFirst_28 rfl rfl ?_
  refine v_iushr B (v := ((x).toUInt32 >>> ((8 : Int32).toUInt32 &&& Int32.toUInt32 31)).toInt32) dX9_putHighestFirst_29 rfl ?_
  refine v_sipush B (v := 255) dX9_putHighestFirst_30 (by decide +kernel) ?_
  refine v_iand B (v := (((x).toUInt32 >>> ((8 : Int32).toUInt32 &&& Int32.toUInt32 31)).toInt32 &&& 255)) dX9_putHighestFirst_33 rfl ?_
  refine v_iast B (k0 := 1) (t0 := 0) (w' := [(h, .inr (9, [.ref b, .int 14])), (b, .inl (K 0, 100, .inl (upd (upd (upd f (12 : Int32).toNatClampNeg (((x).toUInt32 >>> ((24 : Int32).toUInt32 &&& Int32.toUInt32 31)).toInt32 &&& 255)) (13 : Int32).toNatClampNeg (((x).toUInt32 >>> ((16 : Int32).toUInt32 &&& Int32.toUInt32 31)).toInt32 &&& 255)) (14 : Int32).toNatClampNeg (((x).toUInt32 >>> ((8 : Int32).toUInt32 &&& Int32.toUInt32 31)).toInt32 &&& 255))))]) rfl rfl (vpi (by decide +kernel)) rfl dX9_putHighestFirst_34 ?_
  refine v_aload_n B dX9_putHighestFirst_35 rfl rfl ?_
  refine v_dup B dX9_putHighestFirst_36 rfl ?_
  refine v_get B (C := RX9) (T := TX9) (N := 2) (ci := 9) (k0 := 0) hi_r_phf_12_X9 rfl rfl 1 (by decide +kernel) (List.mem_of_getElem? (i := 1) rfl) rfl dX9_putHighestFirst_37 ?_
  refine v_iconst B (v := 1) dX9_putHighestFirst_40 (by decide +kernel) ?_
  refine v_iadd B (v := 15) dX9_putHighestFirst_41 (by decide +kernel) ?_
  refine v_put B (C := RX9) (T := TX9) (N := 2) (ci := 9) (k0 := 0) hi_r_phf_12_X9 rfl rfl 1 (by decide +kernel) tyX9 tyX9_ok nmX9 (List.mem_of_getElem? (i := 1) rfl) rfl (ty := .int) (tyX9_ok 1 (by decide +kernel)) rfl rfl (Nat.le_of_ble_eq_true rfl) (w' := [(h, .inr (9, [.ref b, .int 15])), (b, .inl (K 0, 100, .inl (upd (upd (upd f (12 : Int32).toNatClampNeg (((x).toUInt32 >>> ((24 : Int32).toUInt32 &&& Int32.toUInt32 31)).toInt32 &&& 255)) (13 : Int32).toNatClampNeg (((x).toUInt32 >>> ((16 : Int32).toUInt32 &&& Int32.toUInt32 31)).toInt32 &&& 255)) (14 : Int32).toNatClampNeg (((x).toUInt32 >>> ((8 : Int32).toUInt32 &&& Int32.toUInt32 31)).toInt32 &&& 255))))]) rfl dX9_putHighestFirst_42 ?_
  refine v_iinc B (k := 0) (v := 0) (lv' := [(2, .int 0), (0, .ref h), (1, .int x)]) dX9_putHighestFirst_45 rfl (by decide +kernel) (by decide +kernel) rfl ?_
  refine v_goto B (tgt := 3) dX9_putHighestFirst_48 (by decide +kernel) ?_
  refine v_iload_n B dX9_putHighestFirst_3 rfl rfl ?_
  refine v_if_lt B (tgt := 51) dX9_putHighestFirst_4 (by decide +kernel) (fun h => absurd h (by decide +kernel)) (fun _ => ?_)
  refine v_aload_n B dX9_putHighestFirst_7 rfl rfl ?_
  refine v_get B (C := RX9) (T := TX9) (N := 2) (ci := 9) (k0 := 0) hi_r_phf_12_X9 rfl rfl 1 (by decide +kernel) (List.mem_of_getElem? (i := 1) rfl) rfl dX9_putHighestFirst_8 ?_
  refine v_aload_n B dX9_putHighestFirst_11 rfl rfl ?_
  refine v_get B (C := RX9) (T := TX9) (N := 2) (ci := 9) (k0 := 0) hi_r_phf_12_X9 rfl rfl 0 (by decide +kernel) (List.mem_of_getElem? (i := 2) rfl) rfl dX9_putHighestFirst_12 ?_
  refine v_alen B (k0 := 1) (t0 := 0) (v := 100) rfl rfl rfl dX9_putHighestFirst_15 ?_
  refine v_icmp_ge B (tgt := 51) dX9_putHighestFirst_16 (by decide +kernel) (fun h => absurd h (by decide +kernel)) (fun _ => ?_)
  refine v_aload_n B dX9_putHighestFirst_19 rfl rfl ?_
  refine v_get B (C := RX9) (T := TX9) (N := 2) (ci := 9) (k0 := 0) hi_r_phf_12_X9 rfl rfl 0 (by decide +kernel) (List.mem_of_getElem? (i := 2) rfl) rfl dX9_putHighestFirst_20 ?_
  refine v_aload_n B dX9_putHighestFirst_23 rfl rfl ?_
  refine v_get B (C := RX9) (T := TX9) (N := 2) (ci := 9) (k0 := 0) hi_r_phf_12_X9 rfl rfl 1 (by decide +kernel) (List.mem_of_getElem? (i := 1) rfl) rfl dX9_putHighestFirst_24 ?_
  refine v_iload_n B dX9_putHighestFirst_27 rfl rfl ?_
  refine v_iload_n B dX9_putHighestFirst_28 rfl rfl ?_
  refine v_iushr B (v := ((x).toUInt32 >>> ((0 : Int32).toUInt32 &&& Int32.toUInt32 31)).toInt32) dX9_putHighestFirst_29 rfl ?_
  refine v_sipush B (v := 255) dX9_putHighestFirst_30 (by decide +kernel) ?_
  refine v_iand B (v := (((x).toUInt32 >>> ((0 : Int32).toUInt32 &&& Int32.toUInt32 31)).toInt32 &&& 255)) dX9_putHighestFirst_33 rfl ?_
  refine v_iast B (k0 := 1) (t0 := 0) (w' := [(h, .inr (9, [.ref b, .int 15])), (b, .inl (K 0, 100, .inl (upd (upd (upd (upd f (12 : Int32).toNatClampNeg (((x).toUInt32 >>> ((24 : Int32).toUInt32 &&& Int32.toUInt32 31)).toInt32 &&& 255)) (13 : Int32).toNatClampNeg (((x).toUInt32 >>> ((16 : Int32).toUInt32 &&& Int32.toUInt32 31)).toInt32 &&& 255)) (14 : Int32).toNatClampNeg (((x).toUInt32 >>> ((8 : Int32).toUInt32 &&& Int32.toUInt32 31)).toInt32 &&& 255)) (15 : Int32).toNatClampNeg (((x).toUInt32 >>> ((0 : Int32).toUInt32 &&& Int32.toUInt32 31)).toInt32 &&& 255))))]) rfl rfl (vpi (by decide +kernel)) rfl dX9_putHighestFirst_34 ?_
  refine v_aload_n B dX9_putHighestFirst_35 rfl rfl ?_
  refine v_dup B dX9_putHighestFirst_36 rfl ?_
  refine v_get B (C := RX9) (T := TX9) (N := 2) (ci := 9) (k0 := 0) hi_r_phf_12_X9 rfl rfl 1 (by decide +kernel) (List.mem_of_getElem? (i := 1) rfl) rfl dX9_putHighestFirst_37 ?_
  refine v_iconst B (v := 1) dX9_putHighestFirst_40 (by decide +kernel) ?_
  refine v_iadd B (v := 16) dX9_putHighestFirst_41 (by decide +kernel) ?_
  refine v_put B (C := RX9) (T := TX9) (N := 2) (ci := 9) (k0 := 0) hi_r_phf_12_X9 rfl rfl 1 (by decide +kernel) tyX9 tyX9_ok nmX9 (List.mem_of_getElem? (i := 1) rfl) rfl (ty := .int) (tyX9_ok 1 (by decide +kernel)) rfl rfl (Nat.le_of_ble_eq_true rfl) (w' := [(h, .inr (9, [.ref b, .int 16])), (b, .inl (K 0, 100, .inl (upd (upd (upd (upd f (12 : Int32).toNatClampNeg (((x).toUInt32 >>> ((24 : Int32).toUInt32 &&& Int32.toUInt32 31)).toInt32 &&& 255)) (13 : Int32).toNatClampNeg (((x).toUInt32 >>> ((16 : Int32).toUInt32 &&& Int32.toUInt32 31)).toInt32 &&& 255)) (14 : Int32).toNatClampNeg (((x).toUInt32 >>> ((8 : Int32).toUInt32 &&& Int32.toUInt32 31)).toInt32 &&& 255)) (15 : Int32).toNatClampNeg (((x).toUInt32 >>> ((0 : Int32).toUInt32 &&& Int32.toUInt32 31)).toInt32 &&& 255))))]) rfl dX9_putHighestFirst_42 ?_
  refine v_iinc B (k := 0) (v := (-8)) (lv' := [(2, .int (-8)), (0, .ref h), (1, .int x)]) dX9_putHighestFirst_45 rfl (by decide +kernel) (by decide +kernel) rfl ?_
  refine v_goto B (tgt := 3) dX9_putHighestFirst_48 (by decide +kernel) ?_
  refine v_iload_n B dX9_putHighestFirst_3 rfl rfl ?_
  refine v_if_lt B (tgt := 51) dX9_putHighestFirst_4 (by decide +kernel) (fun _ => ?_) (fun h => absurd (by decide +kernel) h)
  exact v_vret B hr hlk (upd (upd (upd (upd f (12 : Int32).toNatClampNeg (((x).toUInt32 >>> ((24 : Int32).toUInt32 &&& Int32.toUInt32 31)).toInt32 &&& 255)) (13 : Int32).toNatClampNeg (((x).toUInt32 >>> ((16 : Int32).toUInt32 &&& Int32.toUInt32 31)).toInt32 &&& 255)) (14 : Int32).toNatClampNeg (((x).toUInt32 >>> ((8 : Int32).toUInt32 &&& Int32.toUInt32 31)).toInt32 &&& 255)) (15 : Int32).toNatClampNeg (((x).toUInt32 >>> ((0 : Int32).toUInt32 &&& Int32.toUInt32 31)).toInt32 &&& 255)) trivial rfl (by decide +kernel) (by decide +kernel) dX9_putHighestFirst_51

def wp_r_phf_16 : List Cond := .code yX9_putHighestFirst cX9_putHighestFirst 3 none :: ([.fieldLink RX9 21 "LowEnergy$Row" "size" "I", .fieldLink RX9 15 "LowEnergy$Row" "bytes" "[I"] ++ (wsX90 ++ ([])))
theorem hi_r_phf_16_X9 : ∀ x ∈ u_ws RX9 TX9 2, x ∈ wp_r_phf_16 := fun _ h => List.mem_cons_of_mem _ (List.mem_append_right _ (List.mem_append_left _ h))
set_option maxHeartbeats 4000000 in
set_option maxRecDepth 100000 in
theorem r_phf_16 (l : Launch) (D : va_G) (K : Nat → ClassId) (h : Nat) (b : Nat) (f : Nat → Int32) (x : Int32) : MG l yX9_putHighestFirst wp_r_phf_16 ({ frames := 0, cells := 0, slots := 0, locals := 0 }) D (tysA K) [.ref h, .int x] [(h, .inr (9, [.ref b, .int 16])), (b, .inl (K 0, 100, .inl f))] (Qv D (fun _ : (Nat → Int32) => True) (fun u => [(h, .inr (9, [.ref b, .int 20])), (b, .inl (K 0, 100, .inl u))])) 0 0 := by
  refine mg_of (cc := cX9_putHighestFirst) (maxL := 3) (ret := none) (by decide +kernel) rfl (Nat.le_of_ble_eq_true rfl) ?_
  intro p e s m below meth c A B hr hlk hnam
  show V _ _ _ _ _ _ _ _ _ _ _ _ _ _ _ _ [(0, .ref h), (1, .int x)] _ _
  refine v_bipush B (v := 24) dX9_putHighestFirst_0 (by decide +kernel) ?_
  refine v_istore_n B (lv' := [(2, .int 24), (0, .ref h), (1, .int x)]) dX9_putHighestFirst_2 rfl (by decide +kernel) rfl ?_
  refine v_iload_n B dX9_putHighestFirst_3 rfl rfl ?_
  refine v_if_lt B (tgt := 51) dX9_putHighestFirst_4 (by decide +kernel) (fun h => absurd h (by decide +kernel)) (fun _ => ?_)
  refine v_aload_n B dX9_putHighestFirst_7 rfl rfl ?_
  refine v_get B (C := RX9) (T := TX9) (N := 2) (ci := 9) (k0 := 0) hi_r_phf_16_X9 rfl rfl 1 (by decide +kernel) (List.mem_of_getElem? (i := 1) rfl) rfl dX9_putHighestFirst_8 ?_
  refine v_aload_n B dX9_putHighestFirst_11 rfl rfl ?_
  refine v_get B (C := RX9) (T := TX9) (N := 2) (ci := 9) (k0 := 0) hi_r_phf_16_X9 rfl rfl 0 (by decide +kernel) (List.mem_of_getElem? (i := 2) rfl) rfl dX9_putHighestFirst_12 ?_
  refine v_alen B (k0 := 1) (t0 := 0) (v := 100) rfl rfl rfl dX9_putHighestFirst_15 ?_
  refine v_icmp_ge B (tgt := 51) dX9_putHighestFirst_16 (by decide +kernel) (fun h => absurd h (by decide +kernel)) (fun _ => ?_)
  refine v_aload_n B dX9_putHighestFirst_19 rfl rfl ?_
  refine v_get B (C := RX9) (T := TX9) (N := 2) (ci := 9) (k0 := 0) hi_r_phf_16_X9 rfl rfl 0 (by decide +kernel) (List.mem_of_getElem? (i := 2) rfl) rfl dX9_putHighestFirst_20 ?_
  refine v_aload_n B dX9_putHighestFirst_23 rfl rfl ?_
  refine v_get B (C := RX9) (T := TX9) (N := 2) (ci := 9) (k0 := 0) hi_r_phf_16_X9 rfl rfl 1 (by decide +kernel) (List.mem_of_getElem? (i := 1) rfl) rfl dX9_putHighestFirst_24 ?_
  refine v_iload_n B dX9_putHighestFirst_27 rfl rfl ?_
  refine v_iload_n B dX9_putHighestFirst_28 rfl rfl ?_
  refine v_iushr B (v := ((x).toUInt32 >>> ((24 : Int32).toUInt32 &&& Int32.toUInt32 31)).toInt32) dX9_putHighestFirst_29 rfl ?_
  refine v_sipush B (v := 255) dX9_putHighestFirst_30 (by decide +kernel) ?_
  refine v_iand B (v := (((x).toUInt32 >>> ((24 : Int32).toUInt32 &&& Int32.toUInt32 31)).toInt32 &&& 255)) dX9_putHighestFirst_33 rfl ?_
  refine v_iast B (k0 := 1) (t0 := 0) (w' := [(h, .inr (9, [.ref b, .int 16])), (b, .inl (K 0, 100, .inl (upd f (16 : Int32).toNatClampNeg (((x).toUInt32 >>> ((24 : Int32).toUInt32 &&& Int32.toUInt32 31)).toInt32 &&& 255))))]) rfl rfl (vpi (by decide +kernel)) rfl dX9_putHighestFirst_34 ?_
  refine v_aload_n B dX9_putHighestFirst_35 rfl rfl ?_
  refine v_dup B dX9_putHighestFirst_36 rfl ?_
  refine v_get B (C := RX9) (T := TX9) (N := 2) (ci := 9) (k0 := 0) hi_r_phf_16_X9 rfl rfl 1 (by decide +kernel) (List.mem_of_getElem? (i := 1) rfl) rfl dX9_putHighestFirst_37 ?_
  refine v_iconst B (v := 1) dX9_putHighestFirst_40 (by decide +kernel) ?_
  refine v_iadd B (v := 17) dX9_putHighestFirst_41 (by decide +kernel) ?_
  refine v_put B (C := RX9) (T := TX9) (N := 2) (ci := 9) (k0 := 0) hi_r_phf_16_X9 rfl rfl 1 (by decide +kernel) tyX9 tyX9_ok nmX9 (List.mem_of_getElem? (i := 1) rfl) rfl (ty := .int) (tyX9_ok 1 (by decide +kernel)) rfl rfl (Nat.le_of_ble_eq_true rfl) (w' := [(h, .inr (9, [.ref b, .int 17])), (b, .inl (K 0, 100, .inl (upd f (16 : Int32).toNatClampNeg (((x).toUInt32 >>> ((24 : Int32).toUInt32 &&& Int32.toUInt32 31)).toInt32 &&& 255))))]) rfl dX9_putHighestFirst_42 ?_
  refine v_iinc B (k := 0) (v := 16) (lv' := [(2, .int 16), (0, .ref h), (1, .int x)]) dX9_putHighestFirst_45 rfl (by decide +kernel) (by decide +kernel) rfl ?_
  refine v_goto B (tgt := 3) dX9_putHighestFirst_48 (by decide +kernel) ?_
  refine v_iload_n B dX9_putHighestFirst_3 rfl rfl ?_
  refine v_if_lt B (tgt := 51) dX9_putHighestFirst_4 (by decide +kernel) (fun h => absurd h (by decide +kernel)) (fun _ => ?_)
  refine v_aload_n B dX9_putHighestFirst_7 rfl rfl ?_
  refine v_get B (C := RX9) (T := TX9) (N := 2) (ci := 9) (k0 := 0) hi_r_phf_16_X9 rfl rfl 1 (by decide +kernel) (List.mem_of_getElem? (i := 1) rfl) rfl dX9_putHighestFirst_8 ?_
  refine v_aload_n B dX9_putHighestFirst_11 rfl rfl ?_
  refine v_get B (C := RX9) (T := TX9) (N := 2) (ci := 9) (k0 := 0) hi_r_phf_16_X9 rfl rfl 0 (by decide +kernel) (List.mem_of_getElem? (i := 2) rfl) rfl dX9_putHighestFirst_12 ?_
  refine v_alen B (k0 := 1) (t0 := 0) (v := 100) rfl rfl rfl dX9_putHighestFirst_15 ?_
  refine v_icmp_ge B (tgt := 51) dX9_putHighestFirst_16 (by decide +kernel) (fun h => absurd h (by decide +kernel)) (fun _ => ?_)
  refine v_aload_n B dX9_putHighestFirst_19 rfl rfl ?_
  refine v_get B (C := RX9) (T := TX9) (N := 2) (ci := 9) (k0 := 0) hi_r_phf_16_X9 rfl rfl 0 (by decide +kernel) (List.mem_of_getElem? (i := 2) rfl) rfl dX9_putHighestFirst_20 ?_
  refine v_aload_n B dX9_putHighestFirst_23 rfl rfl ?_
  refine v_get B (C := RX9) (T := TX9) (N := 2) (ci := 9) (k0 := 0) hi_r_phf_16_X9 rfl rfl 1 (by decide +kernel) (List.mem_of_getElem? (i := 1) rfl) rfl dX9_putHighestFirst_24 ?_
  refine v_iload_n B dX9_putHighestFirst_27 rfl rfl ?_
  refine v_iload_n B dX9_putHighestFirst_28 rfl rfl ?_
  refine v_iushr B (v := ((x).toUInt32 >>> ((16 : Int32).toUInt32 &&& Int32.toUInt32 31)).toInt32) dX9_putHighestFirst_29 rfl ?_
  refine v_sipush B (v := 255) dX9_putHighestFirst_30 (by decide +kernel) ?_
  refine v_iand B (v := (((x).toUInt32 >>> ((16 : Int32).toUInt32 &&& Int32.toUInt32 31)).toInt32 &&& 255)) dX9_putHighestFirst_33 rfl ?_
  refine v_iast B (k0 := 1) (t0 := 0) (w' := [(h, .inr (9, [.ref b, .int 17])), (b, .inl (K 0, 100, .inl (upd (upd f (16 : Int32).toNatClampNeg (((x).toUInt32 >>> ((24 : Int32).toUInt32 &&& Int32.toUInt32 31)).toInt32 &&& 255)) (17 : Int32).toNatClampNeg (((x).toUInt32 >>> ((16 : Int32).toUInt32 &&& Int32.toUInt32 31)).toInt32 &&& 255))))]) rfl rfl (vpi (by decide +kernel)) rfl dX9_putHighestFirst_34 ?_
  refine v_aload_n B dX9_putHighestFirst_35 rfl rfl ?_
  refine v_dup B dX9_putHighestFirst_36 rfl ?_
  refine v_get B (C := RX9) (T := TX9) (N := 2) (ci := 9) (k0 := 0) hi_r_phf_16_X9 rfl rfl 1 (by decide +kernel) (List.mem_of_getElem? (i := 1) rfl) rfl dX9_putHighestFirst_37 ?_
  refine v_iconst B (v := 1) dX9_putHighestFirst_40 (by decide +kernel) ?_
  refine v_iadd B (v := 18) dX9_putHighestFirst_41 (by decide +kernel) ?_
  refine v_put B (C := RX9) (T := TX9) (N := 2) (ci := 9) (k0 := 0) hi_r_phf_16_X9 rfl rfl 1 (by decide +kernel) tyX9 tyX9_ok nmX9 (List.mem_of_getElem? (i := 1) rfl) rfl (ty := .int) (tyX9_ok 1 (by decide +kernel)) rfl rfl (Nat.le_of_ble_eq_true rfl) (w' := [(h, .inr (9, [.ref b, .int 18])), (b, .inl (K 0, 100, .inl (upd (upd f (16 : Int32).toNatClampNeg (((x).toUInt32 >>> ((24 : Int32).toUInt32 &&& Int32.toUInt32 31)).toInt32 &&& 255)) (17 : Int32).toNatClampNeg (((x).toUInt32 >>> ((16 : Int32).toUInt32 &&& Int32.toUInt32 31)).toInt32 &&& 255))))]) rfl dX9_putHighestFirst_42 ?_
  refine v_iinc B (k := 0) (v := 8) (lv' := [(2, .int 8), (0, .ref h), (1, .int x)]) dX9_putHighestFirst_45 rfl (by decide +kernel) (by decide +kernel) rfl ?_
  refine v_goto B (tgt := 3) dX9_putHighestFirst_48 (by decide +kernel) ?_
  refine v_iload_n B dX9_putHighestFirst_3 rfl rfl ?_
  refine v_if_lt B (tgt := 51) dX9_putHighestFirst_4 (by decide +kernel) (fun h => absurd h (by decide +kernel)) (fun _ => ?_)
  refine v_aload_n B dX9_putHighestFirst_7 rfl rfl ?_
  refine v_get B (C := RX9) (T := TX9) (N := 2) (ci := 9) (k0 := 0) hi_r_phf_16_X9 rfl rfl 1 (by decide +kernel) (List.mem_of_getElem? (i := 1) rfl) rfl dX9_putHighestFirst_8 ?_
  refine v_aload_n B dX9_putHighestFirst_11 rfl rfl ?_
  refine v_get B (C := RX9) (T := TX9) (N := 2) (ci := 9) (k0 := 0) hi_r_phf_16_X9 rfl rfl 0 (by decide +kernel) (List.mem_of_getElem? (i := 2) rfl) rfl dX9_putHighestFirst_12 ?_
  refine v_alen B (k0 := 1) (t0 := 0) (v := 100) rfl rfl rfl dX9_putHighestFirst_15 ?_
  refine v_icmp_ge B (tgt := 51) dX9_putHighestFirst_16 (by decide +kernel) (fun h => absurd h (by decide +kernel)) (fun _ => ?_)
  refine v_aload_n B dX9_putHighestFirst_19 rfl rfl ?_
  refine v_get B (C := RX9) (T := TX9) (N := 2) (ci := 9) (k0 := 0) hi_r_phf_16_X9 rfl rfl 0 (by decide +kernel) (List.mem_of_getElem? (i := 2) rfl) rfl dX9_putHighestFirst_20 ?_
  refine v_aload_n B dX9_putHighestFirst_23 rfl rfl ?_
  refine v_get B (C := RX9) (T := TX9) (N := 2) (ci := 9) (k0 := 0) hi_r_phf_16_X9 rfl rfl 1 (by decide +kernel) (List.mem_of_getElem? (i := 1) rfl) rfl dX9_putHighestFirst_24 ?_
  refine v_iload_n B dX9_putHighestFirst_27 rfl rfl ?_
  refine v_iload_n B dX9_putHighestFirst_28 rfl rfl ?_
  refine v_iushr B (v := ((x).toUInt32 >>> ((8 : Int32).toUInt32 &&& Int32.toUInt32 31)).toInt32) dX9_putHighestFirst_29 rfl ?_
  refine v_sipush B (v := 255) dX9_putHighestFirst_30 (by decide +kernel) ?_
  refine v_iand B (v := (((x).toUInt32 >>> ((8 : Int32).toUInt32 &&& Int32.toUInt32 31)).toInt32 &&& 255)) dX9_putHighestFirst_33 rfl ?_
  refine v_iast B (k0 := 1) (t0 := 0) (w' := [(h, .inr (9, [.ref b, .int 18])), (b, .inl (K 0, 100, .inl (upd (upd (upd f (16 : Int32).toNatClampNeg (((x).toUInt32 >>> ((24 : Int32).toUInt32 &&& Int32.toUInt32 31)).toInt32 &&& 255)) (17 : Int32).toNatClampNeg (((x).toUInt32 >>> ((16 : Int32).toUInt32 &&& Int32.toUInt32 31)).toInt32 &&& 255)) (18 : Int32).toNatClampNeg (((x).toUInt32 >>> ((8 : Int32).toUInt32 &&& Int32.toUInt32 31)).toInt32 &&& 255))))]) rfl rfl (vpi (by decide +kernel)) rfl dX9_putHighestFirst_34 ?_
  refine v_aload_n B dX9_putHighestFirst_35 rfl rfl ?_
  refine v_dup B dX9_putHighestFirst_36 rfl ?_
  refine v_get B (C := RX9) (T := TX9) (N := 2) (ci := 9) (k0 := 0) hi_r_phf_16_X9 rfl rfl 1 (by decide +kernel) (List.mem_of_getElem? (i := 1) rfl) rfl dX9_putHighestFirst_37 ?_
  refine v_iconst B (v := 1) dX9_putHighestFirst_40 (by decide +kernel) ?_
  refine v_iadd B (v := 19) dX9_putHighestFirst_41 (by decide +kernel) ?_
  refine v_put B (C := RX9) (T := TX9) (N := 2) (ci := 9) (k0 := 0) hi_r_phf_16_X9 rfl rfl 1 (by decide +kernel) tyX9 tyX9_ok nmX9 (List.mem_of_getElem? (i := 1) rfl) rfl (ty := .int) (tyX9_ok 1 (by decide +kernel)) rfl rfl (Nat.le_of_ble_eq_true rfl) (w' := [(h, .inr (9, [.ref b, .int 19])), (b, .inl (K 0, 100, .inl (upd (upd (upd f (16 : Int32).toNatClampNeg (((x).toUInt32 >>> ((24 : Int32).toUInt32 &&& Int32.toUInt32 31)).toInt32 &&& 255)) (17 : Int32).toNatClampNeg (((x).toUInt32 >>> ((16 : Int32).toUInt32 &&& Int32.toUInt32 31)).toInt32 &&& 255)) (18 : Int32).toNatClampNeg (((x).toUInt32 >>> ((8 : Int32).toUInt32 &&& Int32.toUInt32 31)).toInt32 &&& 255))))]) rfl dX9_putHighestFirst_42 ?_
  refine v_iinc B (k := 0) (v := 0) (lv' := [(2, .int 0), (0, .ref h), (1, .int x)]) dX9_putHighestFirst_45 rfl (by decide +kernel) (by decide +kernel) rfl ?_
  refine v_goto B (tgt := 3) dX9_putHighestFirst_48 (by decide +kernel) ?_
  refine v_iload_n B dX9_putHighestFirst_3 rfl rfl ?_
  refine v_if_lt B (tgt := 51) dX9_putHighestFirst_4 (by decide +kernel) (fun h => absurd h (by decide +kernel)) (fun _ => ?_)
  refine v_aload_n B dX9_putHighestFirst_7 rfl rfl ?_
  refine v_get B (C := RX9) (T := TX9) (N := 2) (ci := 9) (k0 := 0) hi_r_phf_16_X9 rfl rfl 1 (by decide +kernel) (List.mem_of_getElem? (i := 1) rfl) rfl dX9_putHighestFirst_8 ?_
  refine v_aload_n B dX9_putHighestFirst_11 rfl rfl ?_
  refine v_get B (C := RX9) (T := TX9) (N := 2) (ci := 9) (k0 := 0) hi_r_phf_16_X9 rfl rfl 0 (by decide +kernel) (List.mem_of_getElem? (i := 2) rfl) rfl dX9_putHighestFirst_12 ?_
  refine v_alen B (k0 := 1) (t0 := 0) (v := 100) rfl rfl rfl dX9_putHighestFirst_15 ?_
  refine v_icmp_ge B (tgt := 51) dX9_putHighestFirst_16 (by decide +kernel) (fun h => absurd h (by decide +kernel)) (fun _ => ?_)
  refine v_aload_n B dX9_putHighestFirst_19 rfl rfl ?_
  refine v_get B (C := RX9) (T := TX9) (N := 2) (ci := 9) (k0 := 0) hi_r_phf_16_X9 rfl rfl 0 (by decide +kernel) (List.mem_of_getElem? (i := 2) rfl) rfl dX9_putHighestFirst_20 ?_
  refine v_aload_n B dX9_putHighestFirst_23 rfl rfl ?_
  refine v_get B (C := RX9) (T := TX9) (N := 2) (ci := 9) (k0 := 0) hi_r_phf_16_X9 rfl rfl 1 (by decide +kernel) (List.mem_of_getElem? (i := 1) rfl) rfl dX9_putHighestFirst_24 ?_
  refine v_iload_n B dX9_putHighestFirst_27 rfl rfl ?_
  refine v_iload_n B dX9_putHighestFirst_28 rfl rfl ?_
  refine v_iushr B (v := ((x).toUInt32 >>> ((0 : Int32).toUInt32 &&& Int32.toUInt32 31)).toInt32) dX9_putHighestFirst_29 rfl ?_
  refine v_sipush B (v := 255) dX9_putHighestFirst_30 (by decide +kernel) ?_
  refine v_iand B (v := (((x).toUInt32 >>> ((0 : Int32).toUInt32 &&& Int32.toUInt32 31)).toInt32 &&& 255)) dX9_putHighestFirst_33 rfl ?_
  refine v_iast B (k0 := 1) (t0 := 0) (w' := [(h, .inr (9, [.ref b, .int 19])), (b, .inl (K 0, 100, .inl (upd (upd (upd (upd f (16 : Int32).toNatClampNeg (((x).toUInt32 >>> ((24 : Int32).toUInt32 &&& Int32.toUInt32 31)).toInt32 &&& 255)) (17 : Int32).toNatClampNeg (((x).toUInt32 >>> ((16 : Int32).toUInt32 &&& Int32.toUInt32 31)).toInt32 &&& 255)) (18 : Int32).toNatClampNeg (((x).toUInt32 >>> ((8 : Int32).toUInt32 &&& Int32.toUInt32 31)).toInt32 &&& 255)) (19 : Int32).toNatClampNeg (((x).toUInt32 >>> ((0 : Int32).toUInt32 &&& Int32.toUInt32 31)).toInt32 &&& 255))))]) rfl rfl (vpi (by decide +kernel)) rfl dX9_putHighestFirst_34 ?_
  refine v_aload_n B dX9_putHighestFirst_35 rfl rfl ?_
  refine v_dup B dX9_putHighestFirst_36 rfl ?_
  refine v_get B (C := RX9) (T := TX9) (N := 2) (ci := 9) (k0 := 0) hi_r_phf_16_X9 rfl rfl 1 (by decide +kernel) (List.mem_of_getElem? (i := 1) rfl) rfl dX9_putHighestFirst_37 ?_
  refine v_iconst B (v := 1) dX9_putHighestFirst_40 (by decide +kernel) ?_
  refine v_iadd B (v := 20) dX9_putHighestFirst_41 (by decide +kernel) ?_
  refine v_put B (C := RX9) (T := TX9) (N := 2) (ci := 9) (k0 := 0) hi_r_phf_16_X9 rfl rfl 1 (by decide +kernel) tyX9 tyX9_ok nmX9 (List.mem_of_getElem? (i := 1) rfl) rfl (ty := .int) (tyX9_ok 1 (by decide +kernel)) rfl rfl (Nat.le_of_ble_eq_true rfl) (w' := [(h, .inr (9, [.ref b, .int 20])), (b, .inl (K 0, 100, .inl (upd (upd (upd (upd f (16 : Int32).toNatClampNeg (((x).toUInt32 >>> ((24 : Int32).toUInt32 &&& Int32.toUInt32 31)).toInt32 &&& 255)) (17 : Int32).toNatClampNeg (((x).toUInt32 >>> ((16 : Int32).toUInt32 &&& Int32.toUInt32 31)).toInt32 &&& 255)) (18 : Int32).toNatClampNeg (((x).toUInt32 >>> ((8 : Int32).toUInt32 &&& Int32.toUInt32 31)).toInt32 &&& 255)) (19 : Int32).toNatClampNeg (((x).toUInt32 >>> ((0 : Int32).toUInt32 &&& Int32.toUInt32 31)).toInt32 &&& 255))))]) rfl dX9_putHighestFirst_42 ?_
  refine v_iinc B (k := 0) (v := (-8)) (lv' := [(2, .int (-8)), (0, .ref h), (1, .int x)]) dX9_putHighestFirst_45 rfl (by decide +kernel) (by decide +kernel) rfl ?_
  refine v_goto B (tgt := 3) dX9_putHighestFirst_48 (by decide +kernel) ?_
  refine v_iload_n B dX9_putHighestFirst_3 rfl rfl ?_
  refine v_if_lt B (tgt := 51) dX9_putHighestFirst_4 (by decide +kernel) (fun _ => ?_) (fun h => absurd (by decide +kernel) h)
  exact v_vret B hr hlk (upd (upd (upd (upd f (16 : Int32).toNatClampNeg (((x).toUInt32 >>> ((24 : Int32).toUInt32 &&& Int32.toUInt32 31)).toInt32 &&& 255)) (17 : Int32).toNatClampNeg (((x).toUInt32 >>> ((16 : Int32).toUInt32 &&& Int32.toUInt32 31)).toInt32 &&& 255)) (18 : Int32).toNatClampNeg (((x).toUInt32 >>> ((8 : Int32).toUInt32 &&& Int32.toUInt32 31)).toInt32 &&& 255)) (19 : Int32).toNatClampNeg (((x).toUInt32 >>> ((0 : Int32).toUInt32 &&& Int32.toUInt32 31)).toInt32 &&& 255)) trivial rfl (by decide +kernel) (by decide +kernel) dX9_putHighestFirst_51

