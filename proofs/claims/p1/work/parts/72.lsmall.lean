def cellv (L : Nat) (xs : Nat → Int32) (k : Nat) : Int32 := if k < L then xs k else 0
theorem cl_T0 : ∀ L, L < 12 → Int32.ofNat L ≤ 0 → ¬ 0 < L := by decide +kernel
theorem cl_F0 : ∀ L, L < 12 → ¬ Int32.ofNat L ≤ 0 → 0 < L ∧ ¬ ((0 : Int32) < 0 ∨ L ≤ (0 : Int32).toNatClampNeg) := by decide +kernel
theorem cl_T1 : ∀ L, L < 12 → Int32.ofNat L ≤ 1 → ¬ 1 < L := by decide +kernel
theorem cl_F1 : ∀ L, L < 12 → ¬ Int32.ofNat L ≤ 1 → 1 < L ∧ ¬ ((1 : Int32) < 0 ∨ L ≤ (1 : Int32).toNatClampNeg) := by decide +kernel
def wp_l_cell_0 : List Cond := .code yL_cell cL_cell 2 (some .int) :: ([] ++ ([]))
set_option maxHeartbeats 4000000 in
set_option maxRecDepth 100000 in
/-- cell 0 of the script -/
theorem l_cell_0 (l : Launch) (D : va_G) (K : Nat → ClassId) (zb zL : Nat) (zx : Nat → Int32) (zs : Nat → Nat)  (hL : zL < 12) : MZ l yL_cell wp_l_cell_0 ({ frames := 0, cells := 0, slots := 0, locals := 0 }) D (tysA K) [.ref zb, .int 0] [] zb zL zx zs (Qi D (fun (r : Int32) (_ : Unit) => r = cellv zL zx 0) (fun _ => [])) 0 0 := by
  refine mz_of (cc := cL_cell) (maxL := 2) (ret := (some .int)) (by decide +kernel) rfl (Nat.le_of_ble_eq_true rfl) ?_
  intro p e s m below meth c A B hr hlk htb hz
  show V _ _ _ _ _ _ _ _ _ _ _ _ _ _ _ _ [(0, .ref zb), (1, .int 0)] _ _
  refine v_iload_n B dL_cell_0 rfl rfl ?_
  refine v_aload_n B dL_cell_1 rfl rfl ?_
  refine v_slen B hz dL_cell_2 ?_
  refine v_icmp_ge B (tgt := 12) dL_cell_3 (by decide +kernel) (fun c_1 => ?_) (fun c_1 => ?_)
  · refine v_iconst B (v := 0) dL_cell_12 (by decide +kernel) ?_
    exact v_iret B hr hlk () (if_neg (cl_T0 zL hL c_1)).symm rfl (by decide +kernel) (by decide +kernel) dL_cell_13
  · refine v_aload_n B dL_cell_6 rfl rfl ?_
    refine v_iload_n B dL_cell_7 rfl rfl ?_
    refine v_sld B hz (i := 0) (v := zx 0) (cl_F0 zL hL c_1).2 (congrArg zx (by decide +kernel)) dL_cell_8 ?_
    refine v_goto B (tgt := 13) dL_cell_9 (by decide +kernel) ?_
    exact v_iret B hr hlk () (if_pos (cl_F0 zL hL c_1).1).symm rfl (by decide +kernel) (by decide +kernel) dL_cell_13

def wp_l_cell_1 : List Cond := .code yL_cell cL_cell 2 (some .int) :: ([] ++ ([]))
set_option maxHeartbeats 4000000 in
set_option maxRecDepth 100000 in
/-- cell 1 of the script -/
theorem l_cell_1 (l : Launch) (D : va_G) (K : Nat → ClassId) (zb zL : Nat) (zx : Nat → Int32) (zs : Nat → Nat)  (hL : zL < 12) : MZ l yL_cell wp_l_cell_1 ({ frames := 0, cells := 0, slots := 0, locals := 0 }) D (tysA K) [.ref zb, .int 1] [] zb zL zx zs (Qi D (fun (r : Int32) (_ : Unit) => r = cellv zL zx 1) (fun _ => [])) 0 0 := by
  refine mz_of (cc := cL_cell) (maxL := 2) (ret := (some .int)) (by decide +kernel) rfl (Nat.le_of_ble_eq_true rfl) ?_
  intro p e s m below meth c A B hr hlk htb hz
  show V _ _ _ _ _ _ _ _ _ _ _ _ _ _ _ _ [(0, .ref zb), (1, .int 1)] _ _
  refine v_iload_n B dL_cell_0 rfl rfl ?_
  refine v_aload_n B dL_cell_1 rfl rfl ?_
  refine v_slen B hz dL_cell_2 ?_
  refine v_icmp_ge B (tgt := 12) dL_cell_3 (by decide +kernel) (fun c_1 => ?_) (fun c_1 => ?_)
  · refine v_iconst B (v := 0) dL_cell_12 (by decide +kernel) ?_
    exact v_iret B hr hlk () (if_neg (cl_T1 zL hL c_1)).symm rfl (by decide +kernel) (by decide +kernel) dL_cell_13
  · refine v_aload_n B dL_cell_6 rfl rfl ?_
    refine v_iload_n B dL_cell_7 rfl rfl ?_
    refine v_sld B hz (i := 1) (v := zx 1) (cl_F1 zL hL c_1).2 (congrArg zx (by decide +kernel)) dL_cell_8 ?_
    refine v_goto B (tgt := 13) dL_cell_9 (by decide +kernel) ?_
    exact v_iret B hr hlk () (if_pos (cl_F1 zL hL c_1).1).symm rfl (by decide +kernel) (by decide +kernel) dL_cell_13

def wp_l_tick_bad : List Cond := .codeWith yL_tick cL_tick 4 (some .int) [(0, 9, 12, 13)] :: ([.methodLink RL 7 yX11_tick, .instanceMethod yX11_tick, .selects RX11 yX11_tick yX11_tick, .initialized RX11, .code yX11_tick cX11_tick 7 (some .int), .classLink RX11 388 tIA, .initialized tIA, .classLink RL 13 tIA] ++ (wsE00 ++ ([])))
theorem hi_l_tick_bad_E0 : ∀ x ∈ wsE00, x ∈ wp_l_tick_bad := fun _ h => List.mem_cons_of_mem _ (List.mem_append_right _ (List.mem_append_left _ h))
set_option maxRecDepth 100000 in
theorem gd_l_tick_bad_x_tick_bad_7 : GoodIn wp_l_tick_bad (wsV RL 7 RX11 yX11_tick wp_x_tick_bad) := goodIn_app (goodIn_r _ [1, 2, 3, 4] rfl rfl) (goodIn_ca (goodIn_r _ [5, 6, 7] rfl rfl) (goodIn_app (goodIn_cls hi_l_tick_bad_E0 gw_E0) (goodIn_nil)))
set_option maxHeartbeats 4000000 in
set_option maxRecDepth 100000 in
theorem l_tick_bad (l : Launch) (hl0 : l.stackTraces = false) (D : va_G) (K : Nat → ClassId) (zb zL : Nat) (zx : Nat → Int32) (zs : Nat → Nat) (h : Nat) (xa : Nat → Nat) (xf : Nat → Option Nat) (xg : Nat → Option Nat) (fa : Int64) (sa : Int64) (ho : Nat) (n : Int32) (hb : n < 1 ∨ 1000 < n) : MZ l yL_tick wp_l_tick_bad ({ frames := 7, cells := 1, slots := 6, locals := 108 }) D (tysA K) [.ref h, .int n, .ref ho] [(h, .inr (11, [.ref (xa 0), .ref (xa 1), .ref (xa 2), .ref (xa 3), .int 0]))] zb zL zx zs (Qi D (fun (r : Int32) (_ : Unit) => r = 1) (fun _ => [])) 1 6 := by
  refine mzw_of (cc := cL_tick) (maxL := 4) (ret := (some .int)) (hh := [(0, 9, 12, 13)]) (by decide +kernel) rfl (Nat.le_of_ble_eq_true rfl) ?_
  intro p e s m below meth c A B hr hlk htb hz
  show V _ _ _ _ _ _ _ _ _ _ _ _ _ _ _ _ [(0, .ref h), (1, .int n), (2, .ref ho)] _ _
  refine v_aload_n B dL_tick_0 rfl rfl ?_
  refine v_iconst B (v := 0) dL_tick_1 (by decide +kernel) ?_
  refine v_aload_n B dL_tick_2 rfl rfl ?_
  refine v_iload_n B dL_tick_3 rfl rfl ?_
  refine v_catchV B hz (a := h) (n := 1) (As := [.int n]) (rest := [.int 0, .ref ho]) (wc := [(h, .inr (11, [.ref (xa 0), .ref (xa 1), .ref (xa 2), .ref (xa 3), .int 0]))]) (wr := []) (x_tick_bad l hl0 D K zb zL zx zs h xa xf xg fa sa n hb) gd_l_tick_bad_x_tick_bad_7 rfl rfl rfl (by decide +kernel) ⟨by decide +kernel, by decide +kernel⟩ 0 rfl rfl rfl (sp_pl [0] [] rfl rfl rfl rfl rfl) rfl rfl (Nat.le_of_ble_eq_true rfl) dL_tick_4 ⟨by decide +kernel, by decide +kernel⟩ htb (by decide +kernel) (by decide +kernel) (List.mem_of_getElem? (i := 8) rfl) hz.2.2.2.1.1 (tgt := 12) rfl (fun q_1 => ?_)
  show V _ _ _ _ _ _ _ _ _ _ _ _ _ _ (1, 6) [] _ _ [.ref q_1]
  refine v_astore_n B (lv' := [(3, .ref q_1), (0, .ref h), (1, .int n), (2, .ref ho)]) dL_tick_12 rfl (by decide +kernel) rfl ?_
  refine v_iconst B (v := 1) dL_tick_13 (by decide +kernel) ?_
  exact v_iret B hr hlk () rfl rfl (by decide +kernel) (by decide +kernel) dL_tick_14

def wp_l_tick_ok : List Cond := .codeWith yL_tick cL_tick 4 (some .int) [(0, 9, 12, 13)] :: ([.methodLink RL 7 yX11_tick, .instanceMethod yX11_tick, .selects RX11 yX11_tick yX11_tick, .initialized RX11, .code yX11_tick cX11_tick 7 (some .int), .fieldLink RX11 18 "LowEnergy" "sky" "LLowEnergy$Air;", .methodLink RX11 393 yX0_clear, .instanceMethod yX0_clear, .selects RX0 yX0_clear yX0_clear, .initialized RX0, .code yX0_clear cX0_clear 1 none, .fieldLink RX0 42 "LowEnergy$Air" "count" "I", .fieldLink RX11 9 "LowEnergy" "devices" "[LLowEnergy$Device;", .methodLink RX11 394 yX11_spread, .instanceMethod yX11_spread, .selects RX11 yX11_spread yX11_spread, .code yX11_spread cX11_spread 4 none, .methodLink RX11 398 yX11_beginEvents, .instanceMethod yX11_beginEvents, .selects RX11 yX11_beginEvents yX11_beginEvents, .code yX11_beginEvents cX11_beginEvents 2 none, .fieldLink RX11 65 "LowEnergy" "now" "I", .methodLink RX11 483 yX3_hasEventAt, .instanceMethod yX3_hasEventAt, .selects RX3 yX3_hasEventAt yX3_hasEventAt, .initialized RX3, .code yX3_hasEventAt cX3_hasEventAt 2 (some .boolean), .methodLink RX3 96 yX3_inLink, .instanceMethod yX3_inLink, .selects RX3 yX3_inLink yX3_inLink, .code yX3_inLink cX3_inLink 1 (some .boolean), .fieldLink RX3 93 "LowEnergy$Device" "state" "I", .methodLink RX11 401 yX11_reaches, .instanceMethod yX11_reaches, .selects RX11 yX11_reaches yX11_reaches, .code yX11_reaches cX11_reaches 3 (some .boolean), .methodLink RX11 416 yX11_endEvents, .instanceMethod yX11_endEvents, .selects RX11 yX11_endEvents yX11_endEvents, .code yX11_endEvents cX11_endEvents 2 none, .methodLink RX11 419 yX11_endLinks, .instanceMethod yX11_endLinks, .selects RX11 yX11_endLinks yX11_endLinks, .code yX11_endLinks cX11_endLinks 4 none, .methodLink RX11 99 yX3_inLink] ++ (wsX110 ++ (wsX00 ++ (wsX30 ++ ([])))))
theorem hi_l_tick_ok_X11 : ∀ x ∈ u_ws RX11 TX11 5, x ∈ wp_l_tick_ok := fun _ h => List.mem_cons_of_mem _ (List.mem_append_right _ (List.mem_append_left _ h))
theorem hi_l_tick_ok_X0 : ∀ x ∈ u_ws RX0 TX0 10, x ∈ wp_l_tick_ok := fun _ h => List.mem_cons_of_mem _ (List.mem_append_right _ (List.mem_append_right _ (List.mem_append_left _ h)))
theorem hi_l_tick_ok_X3 : ∀ x ∈ u_ws RX3 TX3 19, x ∈ wp_l_tick_ok := fun _ h => List.mem_cons_of_mem _ (List.mem_append_right _ (List.mem_append_right _ (List.mem_append_right _ (List.mem_append_left _ h))))
set_option maxRecDepth 100000 in
theorem gd_l_tick_ok_x_tick_ok_7 : GoodIn wp_l_tick_ok (wsV RL 7 RX11 yX11_tick wp_x_tick_ok) := goodIn_app (goodIn_r _ [1, 2, 3, 4] rfl rfl) (goodIn_ca (goodIn_r _ [5, 6, 7, 8, 9, 10, 11, 12, 13, 14, 15, 16, 4, 17, 18, 19, 20, 21, 22, 23, 24, 25, 26, 27, 28, 29, 30, 31, 32, 33, 34, 35, 36, 37, 38, 39, 40, 41, 42, 43, 44, 45] rfl rfl) (goodIn_app (goodIn_cls hi_l_tick_ok_X11 gw_X11) (goodIn_app (goodIn_cls hi_l_tick_ok_X0 gw_X0) (goodIn_app (goodIn_cls hi_l_tick_ok_X3 gw_X3) (goodIn_nil)))))
set_option maxHeartbeats 4000000 in
set_option maxRecDepth 100000 in
theorem l_tick_ok (l : Launch) (D : va_G) (K : Nat → ClassId) (zb zL : Nat) (zx : Nat → Int32) (zs : Nat → Nat) (h : Nat) (xa : Nat → Nat) (xf : Nat → Option Nat) (xg : Nat → Option Nat) (fa : Int64) (sa : Int64) (ho : Nat) (N : Nat) (h1 : 1 ≤ N) (h2 : N ≤ 1000) : MZ l yL_tick wp_l_tick_ok ({ frames := 4, cells := 0, slots := 0, locals := 88 }) D (tysA K) [.ref h, .int (nI N), .ref ho] [(h, .inr (11, [.ref (xa 0), .ref (xa 1), .ref (xa 2), .ref (xa 3), .int 0])), ((xa 0), .inl (K 5, 2, .inr (.inr (.inr (.inr (va_up (va_up (fun _ => none) (0 : Int32).toNatClampNeg (some (xa 4))) (1 : Int32).toNatClampNeg (some (xa 5)))))))), ((xa 4), .inr (3, [.int 0, .long (fa &&& 281474976710655), .int 0, .int 0, .int 0, .int 0, .ref (xa 16), .int 0, .long 0, .ref (xa 17), .long 0, .ref (xa 18), .ref (xa 19), .ref (xa 20), .ref (xa 21), .ref (xa 22), .ref (xa 23), .ref (xa 24), .ref (xa 25)])), ((xa 5), .inr (3, [.int 1, .long (sa &&& 281474976710655), .int 0, .int 1, .int 0, .int 0, .ref (xa 58), .int 0, .long 0, .ref (xa 59), .long 0, .ref (xa 60), .ref (xa 61), .ref (xa 62), .ref (xa 63), .ref (xa 64), .ref (xa 65), .ref (xa 66), .ref (xa 67)])), ((xa 1), .inr (0, [.ref (xa 6), .ref (xa 7), .ref (xa 8), .ref (xa 9), .ref (xa 10), .ref (xa 11), .ref (xa 12), .int 0, .int 0, .int 0])), (ho, .inl (K 1, 1, .inr (.inl (fun _ => 0))))] zb zL zx zs (Qi D (fun (r : Int32) (_ : Unit) => r = 0) (fun _ => [(ho, .inl (K 1, 1, .inr (.inl (vp_updL (fun _ => 0) (0 : Int32).toNatClampNeg 0))))])) 0 0 := by
  refine mzw_of (cc := cL_tick) (maxL := 4) (ret := (some .int)) (hh := [(0, 9, 12, 13)]) (by decide +kernel) rfl (Nat.le_of_ble_eq_true rfl) ?_
  intro p e s m below meth c A B hr hlk htb hz
  show V _ _ _ _ _ _ _ _ _ _ _ _ _ _ _ _ [(0, .ref h), (1, .int (nI N)), (2, .ref ho)] _ _
  refine v_aload_n B dL_tick_0 rfl rfl ?_
  refine v_iconst B (v := 0) dL_tick_1 (by decide +kernel) ?_
  refine v_aload_n B dL_tick_2 rfl rfl ?_
  refine v_iload_n B dL_tick_3 rfl rfl ?_
  refine v_callVi B (b := h) (n := 1) (As := [.int (nI N)]) (rest := [.int 0, .ref ho]) (wc := [(h, .inr (11, [.ref (xa 0), .ref (xa 1), .ref (xa 2), .ref (xa 3), .int 0])), ((xa 0), .inl (K 5, 2, .inr (.inr (.inr (.inr (va_up (va_up (fun _ => none) (0 : Int32).toNatClampNeg (some (xa 4))) (1 : Int32).toNatClampNeg (some (xa 5)))))))), ((xa 4), .inr (3, [.int 0, .long (fa &&& 281474976710655), .int 0, .int 0, .int 0, .int 0, .ref (xa 16), .int 0, .long 0, .ref (xa 17), .long 0, .ref (xa 18), .ref (xa 19), .ref (xa 20), .ref (xa 21), .ref (xa 22), .ref (xa 23), .ref (xa 24), .ref (xa 25)])), ((xa 5), .inr (3, [.int 1, .long (sa &&& 281474976710655), .int 0, .int 1, .int 0, .int 0, .ref (xa 58), .int 0, .long 0, .ref (xa 59), .long 0, .ref (xa 60), .ref (xa 61), .ref (xa 62), .ref (xa 63), .ref (xa 64), .ref (xa 65), .ref (xa 66), .ref (xa 67)])), ((xa 1), .inr (0, [.ref (xa 6), .ref (xa 7), .ref (xa 8), .ref (xa 9), .ref (xa 10), .ref (xa 11), .ref (xa 12), .int 0, .int 0, .int 0]))]) (wr := [(ho, .inl (K 1, 1, .inr (.inl (fun _ => 0))))]) (x_tick_ok l D K h xa xf xg fa sa N h1 h2) gd_l_tick_ok_x_tick_ok_7 rfl rfl rfl (by decide +kernel) ⟨by decide +kernel, by decide +kernel⟩ 0 rfl rfl rfl (sp_pl [0, 1, 2, 3, 4] [5] rfl rfl rfl rfl rfl) rfl rfl (Nat.le_of_ble_eq_true rfl) dL_tick_4 ⟨by decide +kernel, by decide +kernel⟩ (fun r_3 u_1 hp_2 => ?_)
  subst hp_2
  show V _ _ _ _ _ _ _ _ _ _ _ _ _ _ (0, 0) [(ho, .inl (K 1, 1, .inr (.inl (fun _ => 0))))] _ _ [.int 0, .int 0, .ref ho]
  show V _ _ _ _ _ _ _ _ _ _ _ _ _ _ (0, 0) [(ho, .inl (K 1, 1, .inr (.inl (fun _ => 0))))] _ _ _
  refine v_i2l B (v := 0) dL_tick_7 (by decide +kernel) ?_
  refine v_last B (k0 := 0) (t0 := 1) (w' := [(ho, .inl (K 1, 1, .inr (.inl (vp_updL (fun _ => 0) (0 : Int32).toNatClampNeg 0))))]) rfl rfl (vpi (by decide +kernel)) rfl dL_tick_8 ?_
  refine v_goto B (tgt := 15) dL_tick_9 (by decide +kernel) ?_
  refine v_iconst B (v := 0) dL_tick_15 (by decide +kernel) ?_
  exact v_iret B hr hlk () rfl rfl (by decide +kernel) (by decide +kernel) dL_tick_16

def wp_l_air : List Cond := .codeWith yL_air cL_air 5 (some .int) [(0, 10, 13, 19)] :: ([.methodLink RL 15 yX11_air, .instanceMethod yX11_air, .selects RX11 yX11_air yX11_air, .initialized RX11, .code yX11_air cX11_air 4 (some .int), .fieldLink RX11 18 "LowEnergy" "sky" "LLowEnergy$Air;", .methodLink RX11 278 yX0_figure, .instanceMethod yX0_figure, .selects RX0 yX0_figure yX0_figure, .initialized RX0, .code yX0_figure cX0_figure 3 (some .int), .fieldLink RX0 42 "LowEnergy$Air" "count" "I", .classLink RX11 282 tNS, .initialized tNS, .classLink RL 19 tNS] ++ (wsX110 ++ (wsX00 ++ (wsE10 ++ ([])))))
theorem hi_l_air_X11 : ∀ x ∈ u_ws RX11 TX11 5, x ∈ wp_l_air := fun _ h => List.mem_cons_of_mem _ (List.mem_append_right _ (List.mem_append_left _ h))
theorem hi_l_air_X0 : ∀ x ∈ u_ws RX0 TX0 10, x ∈ wp_l_air := fun _ h => List.mem_cons_of_mem _ (List.mem_append_right _ (List.mem_append_right _ (List.mem_append_left _ h)))
theorem hi_l_air_E1 : ∀ x ∈ wsE10, x ∈ wp_l_air := fun _ h => List.mem_cons_of_mem _ (List.mem_append_right _ (List.mem_append_right _ (List.mem_append_right _ (List.mem_append_left _ h))))
set_option maxRecDepth 100000 in
theorem gd_l_air_x_air_15 : GoodIn wp_l_air (wsV RL 15 RX11 yX11_air wp_x_air) := goodIn_app (goodIn_r _ [1, 2, 3, 4] rfl rfl) (goodIn_ca (goodIn_r _ [5, 6, 7, 8, 9, 10, 11, 12, 13, 14] rfl rfl) (goodIn_app (goodIn_cls hi_l_air_X11 gw_X11) (goodIn_app (goodIn_cls hi_l_air_X0 gw_X0) (goodIn_app (goodIn_cls hi_l_air_E1 gw_E1) (goodIn_nil)))))
set_option maxHeartbeats 4000000 in
set_option maxRecDepth 100000 in
theorem l_air (l : Launch) (hl0 : l.stackTraces = false) (D : va_G) (K : Nat → ClassId) (zb zL : Nat) (zx : Nat → Int32) (zs : Nat → Nat) (h : Nat) (xa : Nat → Nat) (xf : Nat → Option Nat) (xg : Nat → Option Nat) (fa : Int64) (sa : Int64) (ho : Nat) (k9 : Int32) (i : Int32) : MZ l yL_air wp_l_air ({ frames := 7, cells := 1, slots := 6, locals := 105 }) D (tysA K) [.ref h, .int k9, .int i, .ref ho] [(h, .inr (11, [.ref (xa 0), .ref (xa 1), .ref (xa 2), .ref (xa 3), .int 0])), ((xa 1), .inr (0, [.ref (xa 6), .ref (xa 7), .ref (xa 8), .ref (xa 9), .ref (xa 10), .ref (xa 11), .ref (xa 12), .int 0, .int 0, .int 0]))] zb zL zx zs (Qi D (fun (r : Int32) (_ : Unit) => r = 1) (fun _ => [])) 1 6 := by
  refine mzw_of (cc := cL_air) (maxL := 5) (ret := (some .int)) (hh := [(0, 10, 13, 19)]) (by decide +kernel) rfl (Nat.le_of_ble_eq_true rfl) ?_
  intro p e s m below meth c A B hr hlk htb hz
  show V _ _ _ _ _ _ _ _ _ _ _ _ _ _ _ _ [(0, .ref h), (1, .int k9), (2, .int i), (3, .ref ho)] _ _
  refine v_aload_n B dL_air_0 rfl rfl ?_
  refine v_iconst B (v := 0) dL_air_1 (by decide +kernel) ?_
  refine v_aload_n B dL_air_2 rfl rfl ?_
  refine v_iload_n B dL_air_3 rfl rfl ?_
  refine v_iload_n B dL_air_4 rfl rfl ?_
  refine v_catchV B hz (a := h) (n := 2) (As := [.int k9, .int i]) (rest := [.int 0, .ref ho]) (wc := [(h, .inr (11, [.ref (xa 0), .ref (xa 1), .ref (xa 2), .ref (xa 3), .int 0])), ((xa 1), .inr (0, [.ref (xa 6), .ref (xa 7), .ref (xa 8), .ref (xa 9), .ref (xa 10), .ref (xa 11), .ref (xa 12), .int 0, .int 0, .int 0]))]) (wr := []) (x_air l hl0 D K zb zL zx zs h xa xf xg fa sa k9 i) gd_l_air_x_air_15 rfl rfl rfl (by decide +kernel) ⟨by decide +kernel, by decide +kernel⟩ 0 rfl rfl rfl (sp_pl [0, 1] [] rfl rfl rfl rfl rfl) rfl rfl (Nat.le_of_ble_eq_true rfl) dL_air_5 ⟨by decide +kernel, by decide +kernel⟩ htb (by decide +kernel) (by decide +kernel) (List.mem_of_getElem? (i := 15) rfl) hz.2.2.2.1.2.1 (tgt := 13) rfl (fun q_1 => ?_)
  show V _ _ _ _ _ _ _ _ _ _ _ _ _ _ (1, 6) [] _ _ [.ref q_1]
  refine v_astore B (lv' := [(4, .ref q_1), (0, .ref h), (1, .int k9), (2, .int i), (3, .ref ho)]) dL_air_13 (by decide +kernel) rfl ?_
  refine v_iconst B (v := 1) dL_air_15 (by decide +kernel) ?_
  exact v_iret B hr hlk () rfl rfl (by decide +kernel) (by decide +kernel) dL_air_16

def wp_l_value : List Cond := .codeWith yL_value cL_value 6 (some .int) [(0, 12, 15, 19)] :: ([.methodLink RL 21 yX11_value, .instanceMethod yX11_value, .selects RX11 yX11_value yX11_value, .initialized RX11, .code yX11_value cX11_value 6 (some .int), .methodLink RX11 52 yX11_find, .instanceMethod yX11_find, .selects RX11 yX11_find yX11_find, .code yX11_find cX11_find 2 (some (.object "LowEnergy$Device")), .fieldLink RX11 9 "LowEnergy" "devices" "[LLowEnergy$Device;", .methodLink RX11 134 yX10_valueOf, .instanceMethod yX10_valueOf, .selects RX10 yX10_valueOf yX10_valueOf, .initialized RX10, .code yX10_valueOf cX10_valueOf 2 (some (.object "LowEnergy$Row")), .fieldLink RX10 56 "LowEnergy$Server" "count" "I", .classLink RX11 282 tNS, .initialized tNS, .classLink RL 19 tNS] ++ (wsX110 ++ (wsX30 ++ (wsX100 ++ (wsE10 ++ ([]))))))
theorem hi_l_value_X11 : ∀ x ∈ u_ws RX11 TX11 5, x ∈ wp_l_value := fun _ h => List.mem_cons_of_mem _ (List.mem_append_right _ (List.mem_append_left _ h))
theorem hi_l_value_X3 : ∀ x ∈ u_ws RX3 TX3 19, x ∈ wp_l_value := fun _ h => List.mem_cons_of_mem _ (List.mem_append_right _ (List.mem_append_right _ (List.mem_append_left _ h)))
theorem hi_l_value_X10 : ∀ x ∈ u_ws RX10 TX10 10, x ∈ wp_l_value := fun _ h => List.mem_cons_of_mem _ (List.mem_append_right _ (List.mem_append_right _ (List.mem_append_right _ (List.mem_append_left _ h))))
theorem hi_l_value_E1 : ∀ x ∈ wsE10, x ∈ wp_l_value := fun _ h => List.mem_cons_of_mem _ (List.mem_append_right _ (List.mem_append_right _ (List.mem_append_right _ (List.mem_append_right _ (List.mem_append_left _ h)))))
set_option maxRecDepth 100000 in
theorem gd_l_value_x_value_21 : GoodIn wp_l_value (wsV RL 21 RX11 yX11_value wp_x_value) := goodIn_app (goodIn_r _ [1, 2, 3, 4] rfl rfl) (goodIn_ca (goodIn_r _ [5, 6, 7, 8, 4, 9, 10, 11, 12, 13, 14, 15, 16, 17, 18] rfl rfl) (goodIn_app (goodIn_cls hi_l_value_X11 gw_X11) (goodIn_app (goodIn_cls hi_l_value_X3 gw_X3) (goodIn_app (goodIn_cls hi_l_value_X10 gw_X10) (goodIn_app (goodIn_cls hi_l_value_E1 gw_E1) (goodIn_nil))))))
set_option maxHeartbeats 4000000 in
set_option maxRecDepth 100000 in
theorem l_value (l : Launch) (hl0 : l.stackTraces = false) (D : va_G) (K : Nat → ClassId) (zb zL : Nat) (zx : Nat → Int32) (zs : Nat → Nat) (h : Nat) (xa : Nat → Nat) (xf : Nat → Option Nat) (xg : Nat → Option Nat) (fa : Int64) (sa : Int64) (ho : Nat) (d : Int32) (hd : Int32) (i : Int32) : MZ l yL_value wp_l_value ({ frames := 7, cells := 1, slots := 6, locals := 107 }) D (tysA K) [.ref h, .int d, .int hd, .int i, .ref ho] [(h, .inr (11, [.ref (xa 0), .ref (xa 1), .ref (xa 2), .ref (xa 3), .int 0])), ((xa 0), .inl (K 5, 2, .inr (.inr (.inr (.inr (va_up (va_up (fun _ => none) (0 : Int32).toNatClampNeg (some (xa 4))) (1 : Int32).toNatClampNeg (some (xa 5)))))))), ((xa 4), .inr (3, [.int 0, .long (fa &&& 281474976710655), .int 0, .int 0, .int 0, .int 0, .ref (xa 16), .int 0, .long 0, .ref (xa 17), .long 0, .ref (xa 18), .ref (xa 19), .ref (xa 20), .ref (xa 21), .ref (xa 22), .ref (xa 23), .ref (xa 24), .ref (xa 25)])), ((xa 5), .inr (3, [.int 1, .long (sa &&& 281474976710655), .int 0, .int 1, .int 0, .int 0, .ref (xa 58), .int 0, .long 0, .ref (xa 59), .long 0, .ref (xa 60), .ref (xa 61), .ref (xa 62), .ref (xa 63), .ref (xa 64), .ref (xa 65), .ref (xa 66), .ref (xa 67)])), ((xa 22), .inr (10, [.ref (xa 47), .ref (xa 48), .ref (xa 49), .int 0, .int 23, .int 23, .ref (xa 50), .int 0, .int 0, .ref (xa 51)])), ((xa 64), .inr (10, [.ref (xa 88), .ref (xa 89), .ref (xa 90), .int 0, .int 23, .int 23, .ref (xa 91), .int 0, .int 0, .ref (xa 92)]))] zb zL zx zs (Qi D (fun (r : Int32) (_ : Unit) => r = 1) (fun _ => [])) 1 6 := by
  refine mzw_of (cc := cL_value) (maxL := 6) (ret := (some .int)) (hh := [(0, 12, 15, 19)]) (by decide +kernel) rfl (Nat.le_of_ble_eq_true rfl) ?_
  intro p e s m below meth c A B hr hlk htb hz
  show V _ _ _ _ _ _ _ _ _ _ _ _ _ _ _ _ [(0, .ref h), (1, .int d), (2, .int hd), (3, .int i), (4, .ref ho)] _ _
  refine v_aload B dL_value_0 rfl ?_
  refine v_iconst B (v := 0) dL_value_2 (by decide +kernel) ?_
  refine v_aload_n B dL_value_3 rfl rfl ?_
  refine v_iload_n B dL_value_4 rfl rfl ?_
  refine v_iload_n B dL_value_5 rfl rfl ?_
  refine v_iload_n B dL_value_6 rfl rfl ?_
  refine v_catchV B hz (a := h) (n := 3) (As := [.int d, .int hd, .int i]) (rest := [.int 0, .ref ho]) (wc := [(h, .inr (11, [.ref (xa 0), .ref (xa 1), .ref (xa 2), .ref (xa 3), .int 0])), ((xa 0), .inl (K 5, 2, .inr (.inr (.inr (.inr (va_up (va_up (fun _ => none) (0 : Int32).toNatClampNeg (some (xa 4))) (1 : Int32).toNatClampNeg (some (xa 5)))))))), ((xa 4), .inr (3, [.int 0, .long (fa &&& 281474976710655), .int 0, .int 0, .int 0, .int 0, .ref (xa 16), .int 0, .long 0, .ref (xa 17), .long 0, .ref (xa 18), .ref (xa 19), .ref (xa 20), .ref (xa 21), .ref (xa 22), .ref (xa 23), .ref (xa 24), .ref (xa 25)])), ((xa 5), .inr (3, [.int 1, .long (sa &&& 281474976710655), .int 0, .int 1, .int 0, .int 0, .ref (xa 58), .int 0, .long 0, .ref (xa 59), .long 0, .ref (xa 60), .ref (xa 61), .ref (xa 62), .ref (xa 63), .ref (xa 64), .ref (xa 65), .ref (xa 66), .ref (xa 67)])), ((xa 22), .inr (10, [.ref (xa 47), .ref (xa 48), .ref (xa 49), .int 0, .int 23, .int 23, .ref (xa 50), .int 0, .int 0, .ref (xa 51)])), ((xa 64), .inr (10, [.ref (xa 88), .ref (xa 89), .ref (xa 90), .int 0, .int 23, .int 23, .ref (xa 91), .int 0, .int 0, .ref (xa 92)]))]) (wr := []) (x_value l hl0 D K zb zL zx zs h xa xf xg fa sa d hd i) gd_l_value_x_value_21 rfl rfl rfl (by decide +kernel) ⟨by decide +kernel, by decide +kernel⟩ 0 rfl rfl rfl (sp_pl [0, 1, 2, 3, 4, 5] [] rfl rfl rfl rfl rfl) rfl rfl (Nat.le_of_ble_eq_true rfl) dL_value_7 ⟨by decide +kernel, by decide +kernel⟩ htb (by decide +kernel) (by decide +kernel) (List.mem_of_getElem? (i := 19) rfl) hz.2.2.2.1.2.1 (tgt := 15) rfl (fun q_1 => ?_)
  show V _ _ _ _ _ _ _ _ _ _ _ _ _ _ (1, 6) [] _ _ [.ref q_1]
  refine v_astore B (lv' := [(5, .ref q_1), (0, .ref h), (1, .int d), (2, .int hd), (3, .int i), (4, .ref ho)]) dL_value_15 (by decide +kernel) rfl ?_
  refine v_iconst B (v := 1) dL_value_17 (by decide +kernel) ?_
  exact v_iret B hr hlk () rfl rfl (by decide +kernel) (by decide +kernel) dL_value_18

