def wp_c_Row_init_100 : List Cond := .code yX9_init cX9_init 2 none :: ([.methodLink RX9 3 objectInit, .instanceMethod objectInit, .code objectInit ⟨#[0xb1]⟩ 1 none, .methodLink RX9 9 Lib.Math.max.name, .static Lib.Math.max.name, .initialized "java/lang/Math", .code Lib.Math.max.name Lib.Math.max.code 2 (some .int), .arrayClass .int, .fieldLink RX9 15 "LowEnergy$Row" "bytes" "[I"] ++ (wsX90 ++ ([])))
theorem hi_c_Row_init_100_X9 : ∀ x ∈ u_ws RX9 TX9 2, x ∈ wp_c_Row_init_100 := fun _ h => List.mem_cons_of_mem _ (List.mem_append_right _ (List.mem_append_left _ h))
set_option maxHeartbeats 4000000 in
set_option maxRecDepth 100000 in
/-- a new Row of 100 -/
theorem c_Row_init_100 (l : Launch) (D : va_G) (K : Nat → ClassId) (h : Nat) : MG l yX9_init wp_c_Row_init_100 ({ frames := 1, cells := 1, slots := 100, locals := 14 }) D (tysA K) [.ref h, .int 100] [(h, .inr (9, [.null, .int 0]))] (Qv D (fun _ : Nat => True) (fun u => [(h, .inr (9, [.ref u, .int 0])), (u, .inl (K 0, 100, .inl (fun _ => 0)))])) 1 100 := by
  refine mg_of (cc := cX9_init) (maxL := 2) (ret := none) (by decide +kernel) rfl (Nat.le_of_ble_eq_true rfl) ?_
  intro p e s m below meth c A B hr hlk hnam
  show V _ _ _ _ _ _ _ _ _ _ _ _ _ _ _ _ [(0, .ref h), (1, .int 100)] _ _
  refine v_aload_n B dX9_init_0 rfl rfl ?_
  refine v_objInit B (List.mem_of_getElem? (i := 1) rfl) (List.mem_of_getElem? (i := 2) rfl) (List.mem_of_getElem? (i := 3) rfl) dX9_init_1 (by decide +kernel) (Nat.le_of_ble_eq_true rfl) ?_
  refine v_aload_n B dX9_init_4 rfl rfl ?_
  refine v_iload_n B dX9_init_5 rfl rfl ?_
  refine v_iconst B (v := 0) dX9_init_6 (by decide +kernel) ?_
  refine v_mmax B (v := 100) (List.mem_of_getElem? (i := 4) rfl) (List.mem_of_getElem? (i := 5) rfl) (List.mem_of_getElem? (i := 6) rfl) (List.mem_of_getElem? (i := 7) rfl) (by decide +kernel) (Nat.le_of_ble_eq_true rfl) (by decide +kernel) (by decide +kernel) (by decide +kernel) dX9_init_7 ?_
  refine v_newa_int B (cA := K 0) (t0 := 0) (N' := 100) (List.mem_of_getElem? (i := 8) rfl) rfl (by decide +kernel) (by decide +kernel) (by decide +kernel) (by decide +kernel) (by decide +kernel) dX9_init_10 (fun q_1 => ?_)
  show V _ _ _ _ _ _ _ _ _ _ _ _ _ _ (1, 100) [(h, .inr (9, [.null, .int 0])), (q_1, .inl (K 0, 100, .inl (fun _ => 0)))] _ _ _
  refine v_putF B (C := RX9) (T := TX9) (N := 2) (ci := 9) (k0 := 0) hi_c_Row_init_100_X9 rfl rfl 0 (by decide +kernel) tyX9 tyX9_ok nmX9 (List.mem_of_getElem? (i := 9) rfl) rfl hnam rfl (ty := .array .int) (tyX9_ok 0 (by decide +kernel)) rfl rfl (Nat.le_of_ble_eq_true rfl) (w' := [(h, .inr (9, [.ref q_1, .int 0])), (q_1, .inl (K 0, 100, .inl (fun _ => 0)))]) rfl dX9_init_12 ?_
  exact v_vret B hr hlk q_1 trivial rfl (by decide +kernel) (by decide +kernel) dX9_init_15

def wp_c_RowN_init_31 : List Cond := .code yX9_init cX9_init 2 none :: ([.methodLink RX9 3 objectInit, .instanceMethod objectInit, .code objectInit ⟨#[0xb1]⟩ 1 none, .methodLink RX9 9 Lib.Math.max.name, .static Lib.Math.max.name, .initialized "java/lang/Math", .code Lib.Math.max.name Lib.Math.max.code 2 (some .int), .arrayClass .int, .fieldLink RX9 15 "LowEnergy$Row" "bytes" "[I"] ++ (wsX90 ++ ([])))
theorem hi_c_RowN_init_31_X9 : ∀ x ∈ u_ws RX9 TX9 2, x ∈ wp_c_RowN_init_31 := fun _ h => List.mem_cons_of_mem _ (List.mem_append_right _ (List.mem_append_left _ h))
set_option maxHeartbeats 4000000 in
set_option maxRecDepth 100000 in
/-- a new Row of 31 (its bytes are not told of) -/
theorem c_RowN_init_31 (l : Launch) (D : va_G) (K : Nat → ClassId) (h : Nat) : MG l yX9_init wp_c_RowN_init_31 ({ frames := 1, cells := 1, slots := 31, locals := 14 }) D (tysA K) [.ref h, .int 31] [(h, .inr (9, [.null, .int 0]))] (Qv D (fun _ : Nat => True) (fun u => [(h, .inr (9, [.ref u, .int 0]))])) 1 31 := by
  refine mg_of (cc := cX9_init) (maxL := 2) (ret := none) (by decide +kernel) rfl (Nat.le_of_ble_eq_true rfl) ?_
  intro p e s m below meth c A B hr hlk hnam
  show V _ _ _ _ _ _ _ _ _ _ _ _ _ _ _ _ [(0, .ref h), (1, .int 31)] _ _
  refine v_aload_n B dX9_init_0 rfl rfl ?_
  refine v_objInit B (List.mem_of_getElem? (i := 1) rfl) (List.mem_of_getElem? (i := 2) rfl) (List.mem_of_getElem? (i := 3) rfl) dX9_init_1 (by decide +kernel) (Nat.le_of_ble_eq_true rfl) ?_
  refine v_aload_n B dX9_init_4 rfl rfl ?_
  refine v_iload_n B dX9_init_5 rfl rfl ?_
  refine v_iconst B (v := 0) dX9_init_6 (by decide +kernel) ?_
  refine v_mmax B (v := 31) (List.mem_of_getElem? (i := 4) rfl) (List.mem_of_getElem? (i := 5) rfl) (List.mem_of_getElem? (i := 6) rfl) (List.mem_of_getElem? (i := 7) rfl) (by decide +kernel) (Nat.le_of_ble_eq_true rfl) (by decide +kernel) (by decide +kernel) (by decide +kernel) dX9_init_7 ?_
  refine v_newa_int B (cA := K 0) (t0 := 0) (N' := 31) (List.mem_of_getElem? (i := 8) rfl) rfl (by decide +kernel) (by decide +kernel) (by decide +kernel) (by decide +kernel) (by decide +kernel) dX9_init_10 (fun q_1 => ?_)
  show V _ _ _ _ _ _ _ _ _ _ _ _ _ _ (1, 31) [(h, .inr (9, [.null, .int 0])), (q_1, .inl (K 0, 31, .inl (fun _ => 0)))] _ _ _
  refine v_putF B (C := RX9) (T := TX9) (N := 2) (ci := 9) (k0 := 0) hi_c_RowN_init_31_X9 rfl rfl 0 (by decide +kernel) tyX9 tyX9_ok nmX9 (List.mem_of_getElem? (i := 9) rfl) rfl hnam rfl (ty := .array .int) (tyX9_ok 0 (by decide +kernel)) rfl rfl (Nat.le_of_ble_eq_true rfl) (w' := [(h, .inr (9, [.ref q_1, .int 0])), (q_1, .inl (K 0, 31, .inl (fun _ => 0)))]) rfl dX9_init_12 ?_
  refine v_forget (wc := [(h, .inr (9, [.ref q_1, .int 0]))]) (wr := []) (sp_pl [0] [] rfl rfl rfl rfl rfl) ?_
  exact v_vret B hr hlk q_1 trivial rfl (by decide +kernel) (by decide +kernel) dX9_init_15

def wp_c_RowN_init_40 : List Cond := .code yX9_init cX9_init 2 none :: ([.methodLink RX9 3 objectInit, .instanceMethod objectInit, .code objectInit ⟨#[0xb1]⟩ 1 none, .methodLink RX9 9 Lib.Math.max.name, .static Lib.Math.max.name, .initialized "java/lang/Math", .code Lib.Math.max.name Lib.Math.max.code 2 (some .int), .arrayClass .int, .fieldLink RX9 15 "LowEnergy$Row" "bytes" "[I"] ++ (wsX90 ++ ([])))
theorem hi_c_RowN_init_40_X9 : ∀ x ∈ u_ws RX9 TX9 2, x ∈ wp_c_RowN_init_40 := fun _ h => List.mem_cons_of_mem _ (List.mem_append_right _ (List.mem_append_left _ h))
set_option maxHeartbeats 4000000 in
set_option maxRecDepth 100000 in
/-- a new Row of 40 (its bytes are not told of) -/
theorem c_RowN_init_40 (l : Launch) (D : va_G) (K : Nat → ClassId) (h : Nat) : MG l yX9_init wp_c_RowN_init_40 ({ frames := 1, cells := 1, slots := 40, locals := 14 }) D (tysA K) [.ref h, .int 40] [(h, .inr (9, [.null, .int 0]))] (Qv D (fun _ : Nat => True) (fun u => [(h, .inr (9, [.ref u, .int 0]))])) 1 40 := by
  refine mg_of (cc := cX9_init) (maxL := 2) (ret := none) (by decide +kernel) rfl (Nat.le_of_ble_eq_true rfl) ?_
  intro p e s m below meth c A B hr hlk hnam
  show V _ _ _ _ _ _ _ _ _ _ _ _ _ _ _ _ [(0, .ref h), (1, .int 40)] _ _
  refine v_aload_n B dX9_init_0 rfl rfl ?_
  refine v_objInit B (List.mem_of_getElem? (i := 1) rfl) (List.mem_of_getElem? (i := 2) rfl) (List.mem_of_getElem? (i := 3) rfl) dX9_init_1 (by decide +kernel) (Nat.le_of_ble_eq_true rfl) ?_
  refine v_aload_n B dX9_init_4 rfl rfl ?_
  refine v_iload_n B dX9_init_5 rfl rfl ?_
  refine v_iconst B (v := 0) dX9_init_6 (by decide +kernel) ?_
  refine v_mmax B (v := 40) (List.mem_of_getElem? (i := 4) rfl) (List.mem_of_getElem? (i := 5) rfl) (List.mem_of_getElem? (i := 6) rfl) (List.mem_of_getElem? (i := 7) rfl) (by decide +kernel) (Nat.le_of_ble_eq_true rfl) (by decide +kernel) (by decide +kernel) (by decide +kernel) dX9_init_7 ?_
  refine v_newa_int B (cA := K 0) (t0 := 0) (N' := 40) (List.mem_of_getElem? (i := 8) rfl) rfl (by decide +kernel) (by decide +kernel) (by decide +kernel) (by decide +kernel) (by decide +kernel) dX9_init_10 (fun q_1 => ?_)
  show V _ _ _ _ _ _ _ _ _ _ _ _ _ _ (1, 40) [(h, .inr (9, [.null, .int 0])), (q_1, .inl (K 0, 40, .inl (fun _ => 0)))] _ _ _
  refine v_putF B (C := RX9) (T := TX9) (N := 2) (ci := 9) (k0 := 0) hi_c_RowN_init_40_X9 rfl rfl 0 (by decide +kernel) tyX9 tyX9_ok nmX9 (List.mem_of_getElem? (i := 9) rfl) rfl hnam rfl (ty := .array .int) (tyX9_ok 0 (by decide +kernel)) rfl rfl (Nat.le_of_ble_eq_true rfl) (w' := [(h, .inr (9, [.ref q_1, .int 0])), (q_1, .inl (K 0, 40, .inl (fun _ => 0)))]) rfl dX9_init_12 ?_
  refine v_forget (wc := [(h, .inr (9, [.ref q_1, .int 0]))]) (wr := []) (sp_pl [0] [] rfl rfl rfl rfl rfl) ?_
  exact v_vret B hr hlk q_1 trivial rfl (by decide +kernel) (by decide +kernel) dX9_init_15

def wp_c_RowN_init_20 : List Cond := .code yX9_init cX9_init 2 none :: ([.methodLink RX9 3 objectInit, .instanceMethod objectInit, .code objectInit ⟨#[0xb1]⟩ 1 none, .methodLink RX9 9 Lib.Math.max.name, .static Lib.Math.max.name, .initialized "java/lang/Math", .code Lib.Math.max.name Lib.Math.max.code 2 (some .int), .arrayClass .int, .fieldLink RX9 15 "LowEnergy$Row" "bytes" "[I"] ++ (wsX90 ++ ([])))
theorem hi_c_RowN_init_20_X9 : ∀ x ∈ u_ws RX9 TX9 2, x ∈ wp_c_RowN_init_20 := fun _ h => List.mem_cons_of_mem _ (List.mem_append_right _ (List.mem_append_left _ h))
set_option maxHeartbeats 4000000 in
set_option maxRecDepth 100000 in
/-- a new Row of 20 (its bytes are not told of) -/
theorem c_RowN_init_20 (l : Launch) (D : va_G) (K : Nat → ClassId) (h : Nat) : MG l yX9_init wp_c_RowN_init_20 ({ frames := 1, cells := 1, slots := 20, locals := 14 }) D (tysA K) [.ref h, .int 20] [(h, .inr (9, [.null, .int 0]))] (Qv D (fun _ : Nat => True) (fun u => [(h, .inr (9, [.ref u, .int 0]))])) 1 20 := by
  refine mg_of (cc := cX9_init) (maxL := 2) (ret := none) (by decide +kernel) rfl (Nat.le_of_ble_eq_true rfl) ?_
  intro p e s m below meth c A B hr hlk hnam
  show V _ _ _ _ _ _ _ _ _ _ _ _ _ _ _ _ [(0, .ref h), (1, .int 20)] _ _
  refine v_aload_n B dX9_init_0 rfl rfl ?_
  refine v_objInit B (List.mem_of_getElem? (i := 1) rfl) (List.mem_of_getElem? (i := 2) rfl) (List.mem_of_getElem? (i := 3) rfl) dX9_init_1 (by decide +kernel) (Nat.le_of_ble_eq_true rfl) ?_
  refine v_aload_n B dX9_init_4 rfl rfl ?_
  refine v_iload_n B dX9_init_5 rfl rfl ?_
  refine v_iconst B (v := 0) dX9_init_6 (by decide +kernel) ?_
  refine v_mmax B (v := 20) (List.mem_of_getElem? (i := 4) rfl) (List.mem_of_getElem? (i := 5) rfl) (List.mem_of_getElem? (i := 6) rfl) (List.mem_of_getElem? (i := 7) rfl) (by decide +kernel) (Nat.le_of_ble_eq_true rfl) (by decide +kernel) (by decide +kernel) (by decide +kernel) dX9_init_7 ?_
  refine v_newa_int B (cA := K 0) (t0 := 0) (N' := 20) (List.mem_of_getElem? (i := 8) rfl) rfl (by decide +kernel) (by decide +kernel) (by decide +kernel) (by decide +kernel) (by decide +kernel) dX9_init_10 (fun q_1 => ?_)
  show V _ _ _ _ _ _ _ _ _ _ _ _ _ _ (1, 20) [(h, .inr (9, [.null, .int 0])), (q_1, .inl (K 0, 20, .inl (fun _ => 0)))] _ _ _
  refine v_putF B (C := RX9) (T := TX9) (N := 2) (ci := 9) (k0 := 0) hi_c_RowN_init_20_X9 rfl rfl 0 (by decide +kernel) tyX9 tyX9_ok nmX9 (List.mem_of_getElem? (i := 9) rfl) rfl hnam rfl (ty := .array .int) (tyX9_ok 0 (by decide +kernel)) rfl rfl (Nat.le_of_ble_eq_true rfl) (w' := [(h, .inr (9, [.ref q_1, .int 0])), (q_1, .inl (K 0, 20, .inl (fun _ => 0)))]) rfl dX9_init_12 ?_
  refine v_forget (wc := [(h, .inr (9, [.ref q_1, .int 0]))]) (wr := []) (sp_pl [0] [] rfl rfl rfl rfl rfl) ?_
  exact v_vret B hr hlk q_1 trivial rfl (by decide +kernel) (by decide +kernel) dX9_init_15

def wp_c_RowN_init_92 : List Cond := .code yX9_init cX9_init 2 none :: ([.methodLink RX9 3 objectInit, .instanceMethod objectInit, .code objectInit ⟨#[0xb1]⟩ 1 none, .methodLink RX9 9 Lib.Math.max.name, .static Lib.Math.max.name, .initialized "java/lang/Math", .code Lib.Math.max.name Lib.Math.max.code 2 (some .int), .arrayClass .int, .fieldLink RX9 15 "LowEnergy$Row" "bytes" "[I"] ++ (wsX90 ++ ([])))
theorem hi_c_RowN_init_92_X9 : ∀ x ∈ u_ws RX9 TX9 2, x ∈ wp_c_RowN_init_92 := fun _ h => List.mem_cons_of_mem _ (List.mem_append_right _ (List.mem_append_left _ h))
set_option maxHeartbeats 4000000 in
set_option maxRecDepth 100000 in
/-- a new Row of 92 (its bytes are not told of) -/
theorem c_RowN_init_92 (l : Launch) (D : va_G) (K : Nat → ClassId) (h : Nat) : MG l yX9_init wp_c_RowN_init_92 ({ frames := 1, cells := 1, slots := 92, locals := 14 }) D (tysA K) [.ref h, .int 92] [(h, .inr (9, [.null, .int 0]))] (Qv D (fun _ : Nat => True) (fun u => [(h, .inr (9, [.ref u, .int 0]))])) 1 92 := by
  refine mg_of (cc := cX9_init) (maxL := 2) (ret := none) (by decide +kernel) rfl (Nat.le_of_ble_eq_true rfl) ?_
  intro p e s m below meth c A B hr hlk hnam
  show V _ _ _ _ _ _ _ _ _ _ _ _ _ _ _ _ [(0, .ref h), (1, .int 92)] _ _
  refine v_aload_n B dX9_init_0 rfl rfl ?_
  refine v_objInit B (List.mem_of_getElem? (i := 1) rfl) (List.mem_of_getElem? (i := 2) rfl) (List.mem_of_getElem? (i := 3) rfl) dX9_init_1 (by decide +kernel) (Nat.le_of_ble_eq_true rfl) ?_
  refine v_aload_n B dX9_init_4 rfl rfl ?_
  refine v_iload_n B dX9_init_5 rfl rfl ?_
  refine v_iconst B (v := 0) dX9_init_6 (by decide +kernel) ?_
  refine v_mmax B (v := 92) (List.mem_of_getElem? (i := 4) rfl) (List.mem_of_getElem? (i := 5) rfl) (List.mem_of_getElem? (i := 6) rfl) (List.mem_of_getElem? (i := 7) rfl) (by decide +kernel) (Nat.le_of_ble_eq_true rfl) (by decide +kernel) (by decide +kernel) (by decide +kernel) dX9_init_7 ?_
  refine v_newa_int B (cA := K 0) (t0 := 0) (N' := 92) (List.mem_of_getElem? (i := 8) rfl) rfl (by decide +kernel) (by decide +kernel) (by decide +kernel) (by decide +kernel) (by decide +kernel) dX9_init_10 (fun q_1 => ?_)
  show V _ _ _ _ _ _ _ _ _ _ _ _ _ _ (1, 92) [(h, .inr (9, [.null, .int 0])), (q_1, .inl (K 0, 92, .inl (fun _ => 0)))] _ _ _
  refine v_putF B (C := RX9) (T := TX9) (N := 2) (ci := 9) (k0 := 0) hi_c_RowN_init_92_X9 rfl rfl 0 (by decide +kernel) tyX9 tyX9_ok nmX9 (List.mem_of_getElem? (i := 9) rfl) rfl hnam rfl (ty := .array .int) (tyX9_ok 0 (by decide +kernel)) rfl rfl (Nat.le_of_ble_eq_true rfl) (w' := [(h, .inr (9, [.ref q_1, .int 0])), (q_1, .inl (K 0, 92, .inl (fun _ => 0)))]) rfl dX9_init_12 ?_
  refine v_forget (wc := [(h, .inr (9, [.ref q_1, .int 0]))]) (wr := []) (sp_pl [0] [] rfl rfl rfl rfl rfl) ?_
  exact v_vret B hr hlk q_1 trivial rfl (by decide +kernel) (by decide +kernel) dX9_init_15

def wp_c_RowN_init_96 : List Cond := .code yX9_init cX9_init 2 none :: ([.methodLink RX9 3 objectInit, .instanceMethod objectInit, .code objectInit ⟨#[0xb1]⟩ 1 none, .methodLink RX9 9 Lib.Math.max.name, .static Lib.Math.max.name, .initialized "java/lang/Math", .code Lib.Math.max.name Lib.Math.max.code 2 (some .int), .arrayClass .int, .fieldLink RX9 15 "LowEnergy$Row" "bytes" "[I"] ++ (wsX90 ++ ([])))
theorem hi_c_RowN_init_96_X9 : ∀ x ∈ u_ws RX9 TX9 2, x ∈ wp_c_RowN_init_96 := fun _ h => List.mem_cons_of_mem _ (List.mem_append_right _ (List.mem_append_left _ h))
set_option maxHeartbeats 4000000 in
set_option maxRecDepth 100000 in
/-- a new Row of 96 (its bytes are not told of) -/
theorem c_RowN_init_96 (l : Launch) (D : va_G) (K : Nat → ClassId) (h : Nat) : MG l yX9_init wp_c_RowN_init_96 ({ frames := 1, cells := 1, slots := 96, locals := 14 }) D (tysA K) [.ref h, .int 96] [(h, .inr (9, [.null, .int 0]))] (Qv D (fun _ : Nat => True) (fun u => [(h, .inr (9, [.ref u, .int 0]))])) 1 96 := by
  refine mg_of (cc := cX9_init) (maxL := 2) (ret := none) (by decide +kernel) rfl (Nat.le_of_ble_eq_true rfl) ?_
  intro p e s m below meth c A B hr hlk hnam
  show V _ _ _ _ _ _ _ _ _ _ _ _ _ _ _ _ [(0, .ref h), (1, .int 96)] _ _
  refine v_aload_n B dX9_init_0 rfl rfl ?_
  refine v_objInit B (List.mem_of_getElem? (i := 1) rfl) (List.mem_of_getElem? (i := 2) rfl) (List.mem_of_getElem? (i := 3) rfl) dX9_init_1 (by decide +kernel) (Nat.le_of_ble_eq_true rfl) ?_
  refine v_aload_n B dX9_init_4 rfl rfl ?_
  refine v_iload_n B dX9_init_5 rfl rfl ?_
  refine v_iconst B (v := 0) dX9_init_6 (by decide +kernel) ?_
  refine v_mmax B (v := 96) (List.mem_of_getElem? (i := 4) rfl) (List.mem_of_getElem? (i := 5) rfl) (List.mem_of_getElem? (i := 6) rfl) (List.mem_of_getElem? (i := 7) rfl) (by decide +kernel) (Nat.le_of_ble_eq_true rfl) (by decide +kernel) (by decide +kernel) (by decide +kernel) dX9_init_7 ?_
  refine v_newa_int B (cA := K 0) (t0 := 0) (N' := 96) (List.mem_of_getElem? (i := 8) rfl) rfl (by decide +kernel) (by decide +kernel) (by decide +kernel) (by decide +kernel) (by decide +kernel) dX9_init_10 (fun q_1 => ?_)
  show V _ _ _ _ _ _ _ _ _ _ _ _ _ _ (1, 96) [(h, .inr (9, [.null, .int 0])), (q_1, .inl (K 0, 96, .inl (fun _ => 0)))] _ _ _
  refine v_putF B (C := RX9) (T := TX9) (N := 2) (ci := 9) (k0 := 0) hi_c_RowN_init_96_X9 rfl rfl 0 (by decide +kernel) tyX9 tyX9_ok nmX9 (List.mem_of_getElem? (i := 9) rfl) rfl hnam rfl (ty := .array .int) (tyX9_ok 0 (by decide +kernel)) rfl rfl (Nat.le_of_ble_eq_true rfl) (w' := [(h, .inr (9, [.ref q_1, .int 0])), (q_1, .inl (K 0, 96, .inl (fun _ => 0)))]) rfl dX9_init_12 ?_
  refine v_forget (wc := [(h, .inr (9, [.ref q_1, .int 0]))]) (wr := []) (sp_pl [0] [] rfl rfl rfl rfl rfl) ?_
  exact v_vret B hr hlk q_1 trivial rfl (by decide +kernel) (by decide +kernel) dX9_init_15

def wp_c_RowN_init_27 : List Cond := .code yX9_init cX9_init 2 none :: ([.methodLink RX9 3 objectInit, .instanceMethod objectInit, .code objectInit ⟨#[0xb1]⟩ 1 none, .methodLink RX9 9 Lib.Math.max.name, .static Lib.Math.max.name, .initialized "java/lang/Math", .code Lib.Math.max.name Lib.Math.max.code 2 (some .int), .arrayClass .int, .fieldLink RX9 15 "LowEnergy$Row" "bytes" "[I"] ++ (wsX90 ++ ([])))
theorem hi_c_RowN_init_27_X9 : ∀ x ∈ u_ws RX9 TX9 2, x ∈ wp_c_RowN_init_27 := fun _ h => List.mem_cons_of_mem _ (List.mem_append_right _ (List.mem_append_left _ h))
set_option maxHeartbeats 4000000 in
set_option maxRecDepth 100000 in
/-- a new Row of 27 (its bytes are not told of) -/
theorem c_RowN_init_27 (l : Launch) (D : va_G) (K : Nat → ClassId) (h : Nat) : MG l yX9_init wp_c_RowN_init_27 ({ frames := 1, cells := 1, slots := 27, locals := 14 }) D (tysA K) [.ref h, .int 27] [(h, .inr (9, [.null, .int 0]))] (Qv D (fun _ : Nat => True) (fun u => [(h, .inr (9, [.ref u, .int 0]))])) 1 27 := by
  refine mg_of (cc := cX9_init) (maxL := 2) (ret := none) (by decide +kernel) rfl (Nat.le_of_ble_eq_true rfl) ?_
  intro p e s m below meth c A B hr hlk hnam
  show V _ _ _ _ _ _ _ _ _ _ _ _ _ _ _ _ [(0, .ref h), (1, .int 27)] _ _
  refine v_aload_n B dX9_init_0 rfl rfl ?_
  refine v_objInit B (List.mem_of_getElem? (i := 1) rfl) (List.mem_of_getElem? (i := 2) rfl) (List.mem_of_getElem? (i := 3) rfl) dX9_init_1 (by decide +kernel) (Nat.le_of_ble_eq_true rfl) ?_
  refine v_aload_n B dX9_init_4 rfl rfl ?_
  refine v_iload_n B dX9_init_5 rfl rfl ?_
  refine v_iconst B (v := 0) dX9_init_6 (by decide +kernel) ?_
  refine v_mmax B (v := 27) (List.mem_of_getElem? (i := 4) rfl) (List.mem_of_getElem? (i := 5) rfl) (List.mem_of_getElem? (i := 6) rfl) (List.mem_of_getElem? (i := 7) rfl) (by decide +kernel) (Nat.le_of_ble_eq_true rfl) (by decide +kernel) (by decide +kernel) (by decide +kernel) dX9_init_7 ?_
  refine v_newa_int B (cA := K 0) (t0 := 0) (N' := 27) (List.mem_of_getElem? (i := 8) rfl) rfl (by decide +kernel) (by decide +kernel) (by decide +kernel) (by decide +kernel) (by decide +kernel) dX9_init_10 (fun q_1 => ?_)
  show V _ _ _ _ _ _ _ _ _ _ _ _ _ _ (1, 27) [(h, .inr (9, [.null, .int 0])), (q_1, .inl (K 0, 27, .inl (fun _ => 0)))] _ _ _
  refine v_putF B (C := RX9) (T := TX9) (N := 2) (ci := 9) (k0 := 0) hi_c_RowN_init_27_X9 rfl rfl 0 (by decide +kernel) tyX9 tyX9_ok nmX9 (List.mem_of_getElem? (i := 9) rfl) rfl hnam rfl (ty := .array .int) (tyX9_ok 0 (by decide +kernel)) rfl rfl (Nat.le_of_ble_eq_true rfl) (w' := [(h, .inr (9, [.ref q_1, .int 0])), (q_1, .inl (K 0, 27, .inl (fun _ => 0)))]) rfl dX9_init_12 ?_
  refine v_forget (wc := [(h, .inr (9, [.ref q_1, .int 0]))]) (wr := []) (sp_pl [0] [] rfl rfl rfl rfl rfl) ?_
  exact v_vret B hr hlk q_1 trivial rfl (by decide +kernel) (by decide +kernel) dX9_init_15

def wp_c_RowN_init_64 : List Cond := .code yX9_init cX9_init 2 none :: ([.methodLink RX9 3 objectInit, .instanceMethod objectInit, .code objectInit ⟨#[0xb1]⟩ 1 none, .methodLink RX9 9 Lib.Math.max.name, .static Lib.Math.max.name, .initialized "java/lang/Math", .code Lib.Math.max.name Lib.Math.max.code 2 (some .int), .arrayClass .int, .fieldLink RX9 15 "LowEnergy$Row" "bytes" "[I"] ++ (wsX90 ++ ([])))
theorem hi_c_RowN_init_64_X9 : ∀ x ∈ u_ws RX9 TX9 2, x ∈ wp_c_RowN_init_64 := fun _ h => List.mem_cons_of_mem _ (List.mem_append_right _ (List.mem_append_left _ h))
set_option maxHeartbeats 4000000 in
set_option maxRecDepth 100000 in
/-- a new Row of 64 (its bytes are not told of) -/
theorem c_RowN_init_64 (l : Launch) (D : va_G) (K : Nat → ClassId) (h : Nat) : MG l yX9_init wp_c_RowN_init_64 ({ frames := 1, cells := 1, slots := 64, locals := 14 }) D (tysA K) [.ref h, .int 64] [(h, .inr (9, [.null, .int 0]))] (Qv D (fun _ : Nat => True) (fun u => [(h, .inr (9, [.ref u, .int 0]))])) 1 64 := by
  refine mg_of (cc := cX9_init) (maxL := 2) (ret := none) (by decide +kernel) rfl (Nat.le_of_ble_eq_true rfl) ?_
  intro p e s m below meth c A B hr hlk hnam
  show V _ _ _ _ _ _ _ _ _ _ _ _ _ _ _ _ [(0, .ref h), (1, .int 64)] _ _
  refine v_aload_n B dX9_init_0 rfl rfl ?_
  refine v_objInit B (List.mem_of_getElem? (i := 1) rfl) (List.mem_of_getElem? (i := 2) rfl) (List.mem_of_getElem? (i := 3) rfl) dX9_init_1 (by decide +kernel) (Nat.le_of_ble_eq_true rfl) ?_
  refine v_aload_n B dX9_init_4 rfl rfl ?_
  refine v_iload_n B dX9_init_5 rfl rfl ?_
  refine v_iconst B (v := 0) dX9_init_6 (by decide +kernel) ?_
  refine v_mmax B (v := 64) (List.mem_of_getElem? (i := 4) rfl) (List.mem_of_getElem? (i := 5) rfl) (List.mem_of_getElem? (i := 6) rfl) (List.mem_of_getElem? (i := 7) rfl) (by decide +kernel) (Nat.le_of_ble_eq_true rfl) (by decide +kernel) (by decide +kernel) (by decide +kernel) dX9_init_7 ?_
  refine v_newa_int B (cA := K 0) (t0 := 0) (N' := 64) (List.mem_of_getElem? (i := 8) rfl) rfl (by decide +kernel) (by decide +kernel) (by decide +kernel) (by decide +kernel) (by decide +kernel) dX9_init_10 (fun q_1 => ?_)
  show V _ _ _ _ _ _ _ _ _ _ _ _ _ _ (1, 64) [(h, .inr (9, [.null, .int 0])), (q_1, .inl (K 0, 64, .inl (fun _ => 0)))] _ _ _
  refine v_putF B (C := RX9) (T := TX9) (N := 2) (ci := 9) (k0 := 0) hi_c_RowN_init_64_X9 rfl rfl 0 (by decide +kernel) tyX9 tyX9_ok nmX9 (List.mem_of_getElem? (i := 9) rfl) rfl hnam rfl (ty := .array .int) (tyX9_ok 0 (by decide +kernel)) rfl rfl (Nat.le_of_ble_eq_true rfl) (w' := [(h, .inr (9, [.ref q_1, .int 0])), (q_1, .inl (K 0, 64, .inl (fun _ => 0)))]) rfl dX9_init_12 ?_
  refine v_forget (wc := [(h, .inr (9, [.ref q_1, .int 0]))]) (wr := []) (sp_pl [0] [] rfl rfl rfl rfl rfl) ?_
  exact v_vret B hr hlk q_1 trivial rfl (by decide +kernel) (by decide +kernel) dX9_init_15

def wp_c_Link_init : List Cond := .code yX6_init cX6_init 1 none :: ([.methodLink RX6 3 objectInit, .instanceMethod objectInit, .code objectInit ⟨#[0xb1]⟩ 1 none, .fieldLink RX6 9 "LowEnergy$Link" "channel" "I", .fieldLink RX6 15 "LowEnergy$Link" "reason" "I", .fieldLink RX6 18 "LowEnergy$Link" "laterReason" "I"] ++ (wsX60 ++ ([])))
theorem hi_c_Link_init_X6 : ∀ x ∈ u_ws RX6 TX6 20, x ∈ wp_c_Link_init := fun _ h => List.mem_cons_of_mem _ (List.mem_append_right _ (List.mem_append_left _ h))
set_option maxHeartbeats 4000000 in
set_option maxRecDepth 100000 in
/-- a new Link -/
theorem c_Link_init (l : Launch) (D : va_G) (K : Nat → ClassId) (h : Nat) : MG l yX6_init wp_c_Link_init ({ frames := 1, cells := 0, slots := 0, locals := 12 }) D (tysA K) [.ref h] [(h, .inr (6, [.int 0, .int 0, .int 0, .int 0, .int 0, .long 0, .long 0, .int 0, .int 0, .int 0, .int 0, .int 0, .int 0, .int 0, .int 0, .int 0, .int 0, .int 0, .int 0, .long 0]))] (Qv D (fun _ : Unit => True) (fun _ => [(h, .inr (6, [.int 0, .int 0, .int 0, .int 0, .int 0, .long 0, .long 0, .int 0, .int 0, .int 0, .int 0, .int 0, .int (-1), .int 0, .int 0, .int 0, .int 0, .int (-1), .int (-1), .long 0]))])) 0 0 := by
  refine mg_of (cc := cX6_init) (maxL := 1) (ret := none) (by decide +kernel) rfl (Nat.le_of_ble_eq_true rfl) ?_
  intro p e s m below meth c A B hr hlk hnam
  show V _ _ _ _ _ _ _ _ _ _ _ _ _ _ _ _ [(0, .ref h)] _ _
  refine v_aload_n B dX6_init_0 rfl rfl ?_
  refine v_objInit B (List.mem_of_getElem? (i := 1) rfl) (List.mem_of_getElem? (i := 2) rfl) (List.mem_of_getElem? (i := 3) rfl) dX6_init_1 (by decide +kernel) (Nat.le_of_ble_eq_true rfl) ?_
  refine v_aload_n B dX6_init_4 rfl rfl ?_
  refine v_iconst B (v := (-1)) dX6_init_5 (by decide +kernel) ?_
  refine v_put B (C := RX6) (T := TX6) (N := 20) (ci := 6) (k0 := 0) hi_c_Link_init_X6 rfl rfl 12 (by decide +kernel) tyX6 tyX6_ok nmX6 (List.mem_of_getElem? (i := 4) rfl) rfl (ty := .int) (tyX6_ok 12 (by decide +kernel)) rfl rfl (Nat.le_of_ble_eq_true rfl) (w' := [(h, .inr (6, [.int 0, .int 0, .int 0, .int 0, .int 0, .long 0, .long 0, .int 0, .int 0, .int 0, .int 0, .int 0, .int (-1), .int 0, .int 0, .int 0, .int 0, .int 0, .int 0, .long 0]))]) rfl dX6_init_6 ?_
  refine v_aload_n B dX6_init_9 rfl rfl ?_
  refine v_iconst B (v := (-1)) dX6_init_10 (by decide +kernel) ?_
  refine v_put B (C := RX6) (T := TX6) (N := 20) (ci := 6) (k0 := 0) hi_c_Link_init_X6 rfl rfl 17 (by decide +kernel) tyX6 tyX6_ok nmX6 (List.mem_of_getElem? (i := 5) rfl) rfl (ty := .int) (tyX6_ok 17 (by decide +kernel)) rfl rfl (Nat.le_of_ble_eq_true rfl) (w' := [(h, .inr (6, [.int 0, .int 0, .int 0, .int 0, .int 0, .long 0, .long 0, .int 0, .int 0, .int 0, .int 0, .int 0, .int (-1), .int 0, .int 0, .int 0, .int 0, .int (-1), .int 0, .long 0]))]) rfl dX6_init_11 ?_
  refine v_aload_n B dX6_init_14 rfl rfl ?_
  refine v_iconst B (v := (-1)) dX6_init_15 (by decide +kernel) ?_
  refine v_put B (C := RX6) (T := TX6) (N := 20) (ci := 6) (k0 := 0) hi_c_Link_init_X6 rfl rfl 18 (by decide +kernel) tyX6 tyX6_ok nmX6 (List.mem_of_getElem? (i := 6) rfl) rfl (ty := .int) (tyX6_ok 18 (by decide +kernel)) rfl rfl (Nat.le_of_ble_eq_true rfl) (w' := [(h, .inr (6, [.int 0, .int 0, .int 0, .int 0, .int 0, .long 0, .long 0, .int 0, .int 0, .int 0, .int 0, .int 0, .int (-1), .int 0, .int 0, .int 0, .int 0, .int (-1), .int (-1), .long 0]))]) rfl dX6_init_16 ?_
  exact v_vret B hr hlk () trivial rfl (by decide +kernel) (by decide +kernel) dX6_init_19

def wp_c_Cipher_init : List Cond := .code yX1_init cX1_init 1 none :: ([.methodLink RX1 1 objectInit, .instanceMethod objectInit, .code objectInit ⟨#[0xb1]⟩ 1 none, .arrayClass .int, .fieldLink RX1 9 "LowEnergy$Cipher" "roundKeys" "[I", .fieldLink RX1 13 "LowEnergy$Cipher" "moved" "[I"] ++ (wsX10 ++ ([])))
theorem hi_c_Cipher_init_X1 : ∀ x ∈ u_ws RX1 TX1 2, x ∈ wp_c_Cipher_init := fun _ h => List.mem_cons_of_mem _ (List.mem_append_right _ (List.mem_append_left _ h))
set_option maxHeartbeats 4000000 in
set_option maxRecDepth 100000 in
/-- a new Cipher -/
theorem c_Cipher_init (l : Launch) (D : va_G) (K : Nat → ClassId) (h : Nat) : MG l yX1_init wp_c_Cipher_init ({ frames := 1, cells := 2, slots := 192, locals := 12 }) D (tysA K) [.ref h] [(h, .inr (1, [.null, .null]))] (Qv D (fun _ : Nat × Nat => True) (fun u => [(h, .inr (1, [.ref u.1, .ref u.2]))])) 2 192 := by
  refine mg_of (cc := cX1_init) (maxL := 1) (ret := none) (by decide +kernel) rfl (Nat.le_of_ble_eq_true rfl) ?_
  intro p e s m below meth c A B hr hlk hnam
  show V _ _ _ _ _ _ _ _ _ _ _ _ _ _ _ _ [(0, .ref h)] _ _
  refine v_aload_n B dX1_init_0 rfl rfl ?_
  refine v_objInit B (List.mem_of_getElem? (i := 1) rfl) (List.mem_of_getElem? (i := 2) rfl) (List.mem_of_getElem? (i := 3) rfl) dX1_init_1 (by decide +kernel) (Nat.le_of_ble_eq_true rfl) ?_
  refine v_aload_n B dX1_init_4 rfl rfl ?_
  refine v_sipush B (v := 176) dX1_init_5 (by decide +kernel) ?_
  refine v_newa_int B (cA := K 0) (t0 := 0) (N' := 176) (List.mem_of_getElem? (i := 4) rfl) rfl (by decide +kernel) (by decide +kernel) (by decide +kernel) (by decide +kernel) (by decide +kernel) dX1_init_8 (fun q_1 => ?_)
  show V _ _ _ _ _ _ _ _ _ _ _ _ _ _ (1, 176) [(h, .inr (1, [.null, .null])), (q_1, .inl (K 0, 176, .inl (fun _ => 0)))] _ _ _
  refine v_putF B (C := RX1) (T := TX1) (N := 2) (ci := 1) (k0 := 0) hi_c_Cipher_init_X1 rfl rfl 0 (by decide +kernel) tyX1 tyX1_ok nmX1 (List.mem_of_getElem? (i := 5) rfl) rfl hnam rfl (ty := .array .int) (tyX1_ok 0 (by decide +kernel)) rfl rfl (Nat.le_of_ble_eq_true rfl) (w' := [(h, .inr (1, [.ref q_1, .null])), (q_1, .inl (K 0, 176, .inl (fun _ => 0)))]) rfl dX1_init_10 ?_
  refine v_aload_n B dX1_init_13 rfl rfl ?_
  refine v_bipush B (v := 16) dX1_init_14 (by decide +kernel) ?_
  refine v_newa_int B (cA := K 0) (t0 := 0) (N' := 16) (List.mem_of_getElem? (i := 4) rfl) rfl (by decide +kernel) (by decide +kernel) (by decide +kernel) (by decide +kernel) (by decide +kernel) dX1_init_16 (fun q_2 => ?_)
  show V _ _ _ _ _ _ _ _ _ _ _ _ _ _ (2, 192) [(h, .inr (1, [.ref q_1, .null])), (q_1, .inl (K 0, 176, .inl (fun _ => 0))), (q_2, .inl (K 0, 16, .inl (fun _ => 0)))] _ _ _
  refine v_putF B (C := RX1) (T := TX1) (N := 2) (ci := 1) (k0 := 0) hi_c_Cipher_init_X1 rfl rfl 1 (by decide +kernel) tyX1 tyX1_ok nmX1 (List.mem_of_getElem? (i := 6) rfl) rfl hnam rfl (ty := .array .int) (tyX1_ok 1 (by decide +kernel)) rfl rfl (Nat.le_of_ble_eq_true rfl) (w' := [(h, .inr (1, [.ref q_1, .ref q_2])), (q_1, .inl (K 0, 176, .inl (fun _ => 0))), (q_2, .inl (K 0, 16, .inl (fun _ => 0)))]) rfl dX1_init_18 ?_
  refine v_forget (wc := [(h, .inr (1, [.ref q_1, .ref q_2]))]) (wr := []) (sp_pl [0] [] rfl rfl rfl rfl rfl) ?_
  exact v_vret B hr hlk (q_1, q_2) trivial rfl (by decide +kernel) (by decide +kernel) dX1_init_21

def wp_c_Guard_init : List Cond := .code yX5_init cX5_init 2 none :: ([.methodLink RX5 1 objectInit, .instanceMethod objectInit, .code objectInit ⟨#[0xb1]⟩ 1 none, .arrayClass .int, .fieldLink RX5 7 "LowEnergy$Guard" "key" "[I", .fieldLink RX5 13 "LowEnergy$Guard" "diversifier" "[I", .fieldLink RX5 16 "LowEnergy$Guard" "session" "[I", .fieldLink RX5 19 "LowEnergy$Guard" "iv" "[I", .fieldLink RX5 22 "LowEnergy$Guard" "mac" "[I", .fieldLink RX5 25 "LowEnergy$Guard" "pad" "[I", .fieldLink RX5 28 "LowEnergy$Guard" "cipher" "LLowEnergy$Cipher;"] ++ (wsX50 ++ ([])))
theorem hi_c_Guard_init_X5 : ∀ x ∈ u_ws RX5 TX5 16, x ∈ wp_c_Guard_init := fun _ h => List.mem_cons_of_mem _ (List.mem_append_right _ (List.mem_append_left _ h))
set_option maxHeartbeats 4000000 in
set_option maxRecDepth 100000 in
/-- a new Guard -/
theorem c_Guard_init (l : Launch) (D : va_G) (K : Nat → ClassId) (h : Nat) (cp : Nat) : MG l yX5_init wp_c_Guard_init ({ frames := 1, cells := 6, slots := 88, locals := 12 }) D (tysA K) [.ref h, .ref cp] [(h, .inr (5, [.null, .null, .int 0, .null, .null, .null, .int 0, .int 0, .int 0, .int 0, .int 0, .int 0, .int 0, .int 0, .null, .null]))] (Qv D (fun _ : Nat × Nat × Nat × Nat × Nat × Nat => True) (fun u => [(h, .inr (5, [.ref cp, .ref u.1, .int 0, .ref u.2.1, .ref u.2.2.1, .ref u.2.2.2.1, .int 0, .int 0, .int 0, .int 0, .int 0, .int 0, .int 0, .int 0, .ref u.2.2.2.2.1, .ref u.2.2.2.2.2]))])) 6 88 := by
  refine mg_of (cc := cX5_init) (maxL := 2) (ret := none) (by decide +kernel) rfl (Nat.le_of_ble_eq_true rfl) ?_
  intro p e s m below meth c A B hr hlk hnam
  show V _ _ _ _ _ _ _ _ _ _ _ _ _ _ _ _ [(0, .ref h), (1, .ref cp)] _ _
  refine v_aload_n B dX5_init_0 rfl rfl ?_
  refine v_objInit B (List.mem_of_getElem? (i := 1) rfl) (List.mem_of_getElem? (i := 2) rfl) (List.mem_of_getElem? (i := 3) rfl) dX5_init_1 (by decide +kernel) (Nat.le_of_ble_eq_true rfl) ?_
  refine v_aload_n B dX5_init_4 rfl rfl ?_
  refine v_bipush B (v := 16) dX5_init_5 (by decide +kernel) ?_
  refine v_newa_int B (cA := K 0) (t0 := 0) (N' := 16) (List.mem_of_getElem? (i := 4) rfl) rfl (by decide +kernel) (by decide +kernel) (by decide +kernel) (by decide +kernel) (by decide +kernel) dX5_init_7 (fun q_1 => ?_)
  show V _ _ _ _ _ _ _ _ _ _ _ _ _ _ (1, 16) [(h, .inr (5, [.null, .null, .int 0, .null, .null, .null, .int 0, .int 0, .int 0, .int 0, .int 0, .int 0, .int 0, .int 0, .null, .null])), (q_1, .inl (K 0, 16, .inl (fun _ => 0)))] _ _ _
  refine v_putF B (C := RX5) (T := TX5) (N := 16) (ci := 5) (k0 := 0) hi_c_Guard_init_X5 rfl rfl 1 (by decide +kernel) tyX5 tyX5_ok nmX5 (List.mem_of_getElem? (i := 5) rfl) rfl hnam rfl (ty := .array .int) (tyX5_ok 1 (by decide +kernel)) rfl rfl (Nat.le_of_ble_eq_true rfl) (w' := [(h, .inr (5, [.null, .ref q_1, .int 0, .null, .null, .null, .int 0, .int 0, .int 0, .int 0, .int 0, .int 0, .int 0, .int 0, .null, .null])), (q_1, .inl (K 0, 16, .inl (fun _ => 0)))]) rfl dX5_init_9 ?_
  refine v_aload_n B dX5_init_12 rfl rfl ?_
  refine v_bipush B (v := 16) dX5_init_13 (by decide +kernel) ?_
  refine v_newa_int B (cA := K 0) (t0 := 0) (N' := 16) (List.mem_of_getElem? (i := 4) rfl) rfl (by decide +kernel) (by decide +kernel) (by decide +kernel) (by decide +kernel) (by decide +kernel) dX5_init_15 (fun q_2 => ?_)
  show V _ _ _ _ _ _ _ _ _ _ _ _ _ _ (2, 32) [(h, .inr (5, [.null, .ref q_1, .int 0, .null, .null, .null, .int 0, .int 0, .int 0, .int 0, .int 0, .int 0, .int 0, .int 0, .null, .null])), (q_1, .inl (K 0, 16, .inl (fun _ => 0))), (q_2, .inl (K 0, 16, .inl (fun _ => 0)))] _ _ _
  refine v_putF B (C := RX5) (T := TX5) (N := 16) (ci := 5) (k0 := 0) hi_c_Guard_init_X5 rfl rfl 3 (by decide +kernel) tyX5 tyX5_ok nmX5 (List.mem_of_getElem? (i := 6) rfl) rfl hnam rfl (ty := .array .int) (tyX5_ok 3 (by decide +kernel)) rfl rfl (Nat.le_of_ble_eq_true rfl) (w' := [(h, .inr (5, [.null, .ref q_1, .int 0, .ref q_2, .null, .null, .int 0, .int 0, .int 0, .int 0, .int 0, .int 0, .int 0, .int 0, .null, .null])), (q_1, .inl (K 0, 16, .inl (fun _ => 0))), (q_2, .inl (K 0, 16, .inl (fun _ => 0)))]) rfl dX5_init_17 ?_
  refine v_aload_n B dX5_init_20 rfl rfl ?_
  refine v_bipush B (v := 16) dX5_init_21 (by decide +kernel) ?_
  refine v_newa_int B (cA := K 0) (t0 := 0) (N' := 16) (List.mem_of_getElem? (i := 4) rfl) rfl (by decide +kernel) (by decide +kernel) (by decide +kernel) (by decide +kernel) (by decide +kernel) dX5_init_23 (fun q_3 => ?_)
  show V _ _ _ _ _ _ _ _ _ _ _ _ _ _ (3, 48) [(h, .inr (5, [.null, .ref q_1, .int 0, .ref q_2, .null, .null, .int 0, .int 0, .int 0, .int 0, .int 0, .int 0, .int 0, .int 0, .null, .null])), (q_1, .inl (K 0, 16, .inl (fun _ => 0))), (q_2, .inl (K 0, 16, .inl (fun _ => 0))), (q_3, .inl (K 0, 16, .inl (fun _ => 0)))] _ _ _
  refine v_putF B (C := RX5) (T := TX5) (N := 16) (ci := 5) (k0 := 0) hi_c_Guard_init_X5 rfl rfl 4 (by decide +kernel) tyX5 tyX5_ok nmX5 (List.mem_of_getElem? (i := 7) rfl) rfl hnam rfl (ty := .array .int) (tyX5_ok 4 (by decide +kernel)) rfl rfl (Nat.le_of_ble_eq_true rfl) (w' := [(h, .inr (5, [.null, .ref q_1, .int 0, .ref q_2, .ref q_3, .null, .int 0, .int 0, .int 0, .int 0, .int 0, .int 0, .int 0, .int 0, .null, .null])), (q_1, .inl (K 0, 16, .inl (fun _ => 0))), (q_2, .inl (K 0, 16, .inl (fun _ => 0))), (q_3, .inl (K 0, 16, .inl (fun _ => 0)))]) rfl dX5_init_25 ?_
  refine v_aload_n B dX5_init_28 rfl rfl ?_
  refine v_bipush B (v := 8) dX5_init_29 (by decide +kernel) ?_
  refine v_newa_int B (cA := K 0) (t0 := 0) (N' := 8) (List.mem_of_getElem? (i := 4) rfl) rfl (by decide +kernel) (by decide +kernel) (by decide +kernel) (by decide +kernel) (by decide +kernel) dX5_init_31 (fun q_4 => ?_)
  show V _ _ _ _ _ _ _ _ _ _ _ _ _ _ (4, 56) [(h, .inr (5, [.null, .ref q_1, .int 0, .ref q_2, .ref q_3, .null, .int 0, .int 0, .int 0, .int 0, .int 0, .int 0, .int 0, .int 0, .null, .null])), (q_1, .inl (K 0, 16, .inl (fun _ => 0))), (q_2, .inl (K 0, 16, .inl (fun _ => 0))), (q_3, .inl (K 0, 16, .inl (fun _ => 0))), (q_4, .inl (K 0, 8, .inl (fun _ => 0)))] _ _ _
  refine v_putF B (C := RX5) (T := TX5) (N := 16) (ci := 5) (k0 := 0) hi_c_Guard_init_X5 rfl rfl 5 (by decide +kernel) tyX5 tyX5_ok nmX5 (List.mem_of_getElem? (i := 8) rfl) rfl hnam rfl (ty := .array .int) (tyX5_ok 5 (by decide +kernel)) rfl rfl (Nat.le_of_ble_eq_true rfl) (w' := [(h, .inr (5, [.null, .ref q_1, .int 0, .ref q_2, .ref q_3, .ref q_4, .int 0, .int 0, .int 0, .int 0, .int 0, .int 0, .int 0, .int 0, .null, .null])), (q_1, .inl (K 0, 16, .inl (fun _ => 0))), (q_2, .inl (K 0, 16, .inl (fun _ => 0))), (q_3, .inl (K 0, 16, .inl (fun _ => 0))), (q_4, .inl (K 0, 8, .inl (fun _ => 0)))]) rfl dX5_init_33 ?_
  refine v_aload_n B dX5_init_36 rfl rfl ?_
  refine v_bipush B (v := 16) dX5_init_37 (by decide +kernel) ?_
  refine v_newa_int B (cA := K 0) (t0 := 0) (N' := 16) (List.mem_of_getElem? (i := 4) rfl) rfl (by decide +kernel) (by decide +kernel) (by decide +kernel) (by decide +kernel) (by decide +kernel) dX5_init_39 (fun q_5 => ?_)
  show V _ _ _ _ _ _ _ _ _ _ _ _ _ _ (5, 72) [(h, .inr (5, [.null, .ref q_1, .int 0, .ref q_2, .ref q_3, .ref q_4, .int 0, .int 0, .int 0, .int 0, .int 0, .int 0, .int 0, .int 0, .null, .null])), (q_1, .inl (K 0, 16, .inl (fun _ => 0))), (q_2, .inl (K 0, 16, .inl (fun _ => 0))), (q_3, .inl (K 0, 16, .inl (fun _ => 0))), (q_4, .inl (K 0, 8, .inl (fun _ => 0))), (q_5, .inl (K 0, 16, .inl (fun _ => 0)))] _ _ _
  refine v_putF B (C := RX5) (T := TX5) (N := 16) (ci := 5) (k0 := 0) hi_c_Guard_init_X5 rfl rfl 14 (by decide +kernel) tyX5 tyX5_ok nmX5 (List.mem_of_getElem? (i := 9) rfl) rfl hnam rfl (ty := .array .int) (tyX5_ok 14 (by decide +kernel)) rfl rfl (Nat.le_of_ble_eq_true rfl) (w' := [(h, .inr (5, [.null, .ref q_1, .int 0, .ref q_2, .ref q_3, .ref q_4, .int 0, .int 0, .int 0, .int 0, .int 0, .int 0, .int 0, .int 0, .ref q_5, .null])), (q_1, .inl (K 0, 16, .inl (fun _ => 0))), (q_2, .inl (K 0, 16, .inl (fun _ => 0))), (q_3, .inl (K 0, 16, .inl (fun _ => 0))), (q_4, .inl (K 0, 8, .inl (fun _ => 0))), (q_5, .inl (K 0, 16, .inl (fun _ => 0)))]) rfl dX5_init_41 ?_
  refine v_aload_n B dX5_init_44 rfl rfl ?_
  refine v_bipush B (v := 16) dX5_init_45 (by decide +kernel) ?_
  refine v_newa_int B (cA := K 0) (t0 := 0) (N' := 16) (List.mem_of_getElem? (i := 4) rfl) rfl (by decide +kernel) (by decide +kernel) (by decide +kernel) (by decide +kernel) (by decide +kernel) dX5_init_47 (fun q_6 => ?_)
  show V _ _ _ _ _ _ _ _ _ _ _ _ _ _ (6, 88) [(h, .inr (5, [.null, .ref q_1, .int 0, .ref q_2, .ref q_3, .ref q_4, .int 0, .int 0, .int 0, .int 0, .int 0, .int 0, .int 0, .int 0, .ref q_5, .null])), (q_1, .inl (K 0, 16, .inl (fun _ => 0))), (q_2, .inl (K 0, 16, .inl (fun _ => 0))), (q_3, .inl (K 0, 16, .inl (fun _ => 0))), (q_4, .inl (K 0, 8, .inl (fun _ => 0))), (q_5, .inl (K 0, 16, .inl (fun _ => 0))), (q_6, .inl (K 0, 16, .inl (fun _ => 0)))] _ _ _
  refine v_putF B (C := RX5) (T := TX5) (N := 16) (ci := 5) (k0 := 0) hi_c_Guard_init_X5 rfl rfl 15 (by decide +kernel) tyX5 tyX5_ok nmX5 (List.mem_of_getElem? (i := 10) rfl) rfl hnam rfl (ty := .array .int) (tyX5_ok 15 (by decide +kernel)) rfl rfl (Nat.le_of_ble_eq_true rfl) (w' := [(h, .inr (5, [.null, .ref q_1, .int 0, .ref q_2, .ref q_3, .ref q_4, .int 0, .int 0, .int 0, .int 0, .int 0, .int 0, .int 0, .int 0, .ref q_5, .ref q_6])), (q_1, .inl (K 0, 16, .inl (fun _ => 0))), (q_2, .inl (K 0, 16, .inl (fun _ => 0))), (q_3, .inl (K 0, 16, .inl (fun _ => 0))), (q_4, .inl (K 0, 8, .inl (fun _ => 0))), (q_5, .inl (K 0, 16, .inl (fun _ => 0))), (q_6, .inl (K 0, 16, .inl (fun _ => 0)))]) rfl dX5_init_49 ?_
  refine v_aload_n B dX5_init_52 rfl rfl ?_
  refine v_aload_n B dX5_init_53 rfl rfl ?_
  refine v_putF B (C := RX5) (T := TX5) (N := 16) (ci := 5) (k0 := 0) hi_c_Guard_init_X5 rfl rfl 0 (by decide +kernel) tyX5 tyX5_ok nmX5 (List.mem_of_getElem? (i := 11) rfl) rfl hnam rfl (ty := .object "LowEnergy$Cipher") (tyX5_ok 0 (by decide +kernel)) rfl rfl (Nat.le_of_ble_eq_true rfl) (w' := [(h, .inr (5, [.ref cp, .ref q_1, .int 0, .ref q_2, .ref q_3, .ref q_4, .int 0, .int 0, .int 0, .int 0, .int 0, .int 0, .int 0, .int 0, .ref q_5, .ref q_6])), (q_1, .inl (K 0, 16, .inl (fun _ => 0))), (q_2, .inl (K 0, 16, .inl (fun _ => 0))), (q_3, .inl (K 0, 16, .inl (fun _ => 0))), (q_4, .inl (K 0, 8, .inl (fun _ => 0))), (q_5, .inl (K 0, 16, .inl (fun _ => 0))), (q_6, .inl (K 0, 16, .inl (fun _ => 0)))]) rfl dX5_init_54 ?_
  refine v_forget (wc := [(h, .inr (5, [.ref cp, .ref q_1, .int 0, .ref q_2, .ref q_3, .ref q_4, .int 0, .int 0, .int 0, .int 0, .int 0, .int 0, .int 0, .int 0, .ref q_5, .ref q_6]))]) (wr := []) (sp_pl [0] [] rfl rfl rfl rfl rfl) ?_
  exact v_vret B hr hlk (q_1, q_2, q_3, q_4, q_5, q_6) trivial rfl (by decide +kernel) (by decide +kernel) dX5_init_57

def wp_c_Pairing_init : List Cond := .code yX8_init cX8_init 2 none :: ([.methodLink RX8 3 objectInit, .instanceMethod objectInit, .code objectInit ⟨#[0xb1]⟩ 1 none, .fieldLink RX8 9 "LowEnergy$Pairing" "passkey" "I", .arrayClass .int, .fieldLink RX8 15 "LowEnergy$Pairing" "temporaryKey" "[I", .fieldLink RX8 19 "LowEnergy$Pairing" "bothMessages" "[I", .fieldLink RX8 22 "LowEnergy$Pairing" "random" "[I", .fieldLink RX8 25 "LowEnergy$Pairing" "kept" "[I", .fieldLink RX8 28 "LowEnergy$Pairing" "made" "[I", .fieldLink RX8 31 "LowEnergy$Pairing" "cipher" "LLowEnergy$Cipher;"] ++ (wsX80 ++ ([])))
theorem hi_c_Pairing_init_X8 : ∀ x ∈ u_ws RX8 TX8 8, x ∈ wp_c_Pairing_init := fun _ h => List.mem_cons_of_mem _ (List.mem_append_right _ (List.mem_append_left _ h))
set_option maxHeartbeats 4000000 in
set_option maxRecDepth 100000 in
/-- a new Pairing -/
theorem c_Pairing_init (l : Launch) (D : va_G) (K : Nat → ClassId) (h : Nat) (cp : Nat) : MG l yX8_init wp_c_Pairing_init ({ frames := 1, cells := 5, slots := 80, locals := 12 }) D (tysA K) [.ref h, .ref cp] [(h, .inr (8, [.null, .int 0, .int 0, .null, .null, .null, .null, .null]))] (Qv D (fun _ : Nat × Nat × Nat × Nat × Nat => True) (fun u => [(h, .inr (8, [.ref cp, .int (-1), .int 0, .ref u.1, .ref u.2.1, .ref u.2.2.1, .ref u.2.2.2.1, .ref u.2.2.2.2]))])) 5 80 := by
  refine mg_of (cc := cX8_init) (maxL := 2) (ret := none) (by decide +kernel) rfl (Nat.le_of_ble_eq_true rfl) ?_
  intro p e s m below meth c A B hr hlk hnam
  show V _ _ _ _ _ _ _ _ _ _ _ _ _ _ _ _ [(0, .ref h), (1, .ref cp)] _ _
  refine v_aload_n B dX8_init_0 rfl rfl ?_
  refine v_objInit B (List.mem_of_getElem? (i := 1) rfl) (List.mem_of_getElem? (i := 2) rfl) (List.mem_of_getElem? (i := 3) rfl) dX8_init_1 (by decide +kernel) (Nat.le_of_ble_eq_true rfl) ?_
  refine v_aload_n B dX8_init_4 rfl rfl ?_
  refine v_iconst B (v := (-1)) dX8_init_5 (by decide +kernel) ?_
  refine v_put B (C := RX8) (T := TX8) (N := 8) (ci := 8) (k0 := 0) hi_c_Pairing_init_X8 rfl rfl 1 (by decide +kernel) tyX8 tyX8_ok nmX8 (List.mem_of_getElem? (i := 4) rfl) rfl (ty := .int) (tyX8_ok 1 (by decide +kernel)) rfl rfl (Nat.le_of_ble_eq_true rfl) (w' := [(h, .inr (8, [.null, .int (-1), .int 0, .null, .null, .null, .null, .null]))]) rfl dX8_init_6 ?_
  refine v_aload_n B dX8_init_9 rfl rfl ?_
  refine v_bipush B (v := 16) dX8_init_10 (by decide +kernel) ?_
  refine v_newa_int B (cA := K 0) (t0 := 0) (N' := 16) (List.mem_of_getElem? (i := 5) rfl) rfl (by decide +kernel) (by decide +kernel) (by decide +kernel) (by decide +kernel) (by decide +kernel) dX8_init_12 (fun q_1 => ?_)
  show V _ _ _ _ _ _ _ _ _ _ _ _ _ _ (1, 16) [(h, .inr (8, [.null, .int (-1), .int 0, .null, .null, .null, .null, .null])), (q_1, .inl (K 0, 16, .inl (fun _ => 0)))] _ _ _
  refine v_putF B (C := RX8) (T := TX8) (N := 8) (ci := 8) (k0 := 0) hi_c_Pairing_init_X8 rfl rfl 3 (by decide +kernel) tyX8 tyX8_ok nmX8 (List.mem_of_getElem? (i := 6) rfl) rfl hnam rfl (ty := .array .int) (tyX8_ok 3 (by decide +kernel)) rfl rfl (Nat.le_of_ble_eq_true rfl) (w' := [(h, .inr (8, [.null, .int (-1), .int 0, .ref q_1, .null, .null, .null, .null])), (q_1, .inl (K 0, 16, .inl (fun _ => 0)))]) rfl dX8_init_14 ?_
  refine v_aload_n B dX8_init_17 rfl rfl ?_
  refine v_bipush B (v := 16) dX8_init_18 (by decide +kernel) ?_
  refine v_newa_int B (cA := K 0) (t0 := 0) (N' := 16) (List.mem_of_getElem? (i := 5) rfl) rfl (by decide +kernel) (by decide +kernel) (by decide +kernel) (by decide +kernel) (by decide +kernel) dX8_init_20 (fun q_2 => ?_)
  show V _ _ _ _ _ _ _ _ _ _ _ _ _ _ (2, 32) [(h, .inr (8, [.null, .int (-1), .int 0, .ref q_1, .null, .null, .null, .null])), (q_1, .inl (K 0, 16, .inl (fun _ => 0))), (q_2, .inl (K 0, 16, .inl (fun _ => 0)))] _ _ _
  refine v_putF B (C := RX8) (T := TX8) (N := 8) (ci := 8) (k0 := 0) hi_c_Pairing_init_X8 rfl rfl 4 (by decide +kernel) tyX8 tyX8_ok nmX8 (List.mem_of_getElem? (i := 7) rfl) rfl hnam rfl (ty := .array .int) (tyX8_ok 4 (by decide +kernel)) rfl rfl (Nat.le_of_ble_eq_true rfl) (w' := [(h, .inr (8, [.null, .int (-1), .int 0, .ref q_1, .ref q_2, .null, .null, .null])), (q_1, .inl (K 0, 16, .inl (fun _ => 0))), (q_2, .inl (K 0, 16, .inl (fun _ => 0)))]) rfl dX8_init_22 ?_
  refine v_aload_n B dX8_init_25 rfl rfl ?_
  refine v_bipush B (v := 16) dX8_init_26 (by decide +kernel) ?_
  refine v_newa_int B (cA := K 0) (t0 := 0) (N' := 16) (List.mem_of_getElem? (i := 5) rfl) rfl (by decide +kernel) (by decide +kernel) (by decide +kernel) (by decide +kernel) (by decide +kernel) dX8_init_28 (fun q_3 => ?_)
  show V _ _ _ _ _ _ _ _ _ _ _ _ _ _ (3, 48) [(h, .inr (8, [.null, .int (-1), .int 0, .ref q_1, .ref q_2, .null, .null, .null])), (q_1, .inl (K 0, 16, .inl (fun _ => 0))), (q_2, .inl (K 0, 16, .inl (fun _ => 0))), (q_3, .inl (K 0, 16, .inl (fun _ => 0)))] _ _ _
  refine v_putF B (C := RX8) (T := TX8) (N := 8) (ci := 8) (k0 := 0) hi_c_Pairing_init_X8 rfl rfl 5 (by decide +kernel) tyX8 tyX8_ok nmX8 (List.mem_of_getElem? (i := 8) rfl) rfl hnam rfl (ty := .array .int) (tyX8_ok 5 (by decide +kernel)) rfl rfl (Nat.le_of_ble_eq_true rfl) (w' := [(h, .inr (8, [.null, .int (-1), .int 0, .ref q_1, .ref q_2, .ref q_3, .null, .null])), (q_1, .inl (K 0, 16, .inl (fun _ => 0))), (q_2, .inl (K 0, 16, .inl (fun _ => 0))), (q_3, .inl (K 0, 16, .inl (fun _ => 0)))]) rfl dX8_init_30 ?_
  refine v_aload_n B dX8_init_33 rfl rfl ?_
  refine v_bipush B (v := 16) dX8_init_34 (by decide +kernel) ?_
  refine v_newa_int B (cA := K 0) (t0 := 0) (N' := 16) (List.mem_of_getElem? (i := 5) rfl) rfl (by decide +kernel) (by decide +kernel) (by decide +kernel) (by decide +kernel) (by decide +kernel) dX8_init_36 (fun q_4 => ?_)
  show V _ _ _ _ _ _ _ _ _ _ _ _ _ _ (4, 64) [(h, .inr (8, [.null, .int (-1), .int 0, .ref q_1, .ref q_2, .ref q_3, .null, .null])), (q_1, .inl (K 0, 16, .inl (fun _ => 0))), (q_2, .inl (K 0, 16, .inl (fun _ => 0))), (q_3, .inl (K 0, 16, .inl (fun _ => 0))), (q_4, .inl (K 0, 16, .inl (fun _ => 0)))] _ _ _
  refine v_putF B (C := RX8) (T := TX8) (N := 8) (ci := 8) (k0 := 0) hi_c_Pairing_init_X8 rfl rfl 6 (by decide +kernel) tyX8 tyX8_ok nmX8 (List.mem_of_getElem? (i := 9) rfl) rfl hnam rfl (ty := .array .int) (tyX8_ok 6 (by decide +kernel)) rfl rfl (Nat.le_of_ble_eq_true rfl) (w' := [(h, .inr (8, [.null, .int (-1), .int 0, .ref q_1, .ref q_2, .ref q_3, .ref q_4, .null])), (q_1, .inl (K 0, 16, .inl (fun _ => 0))), (q_2, .inl (K 0, 16, .inl (fun _ => 0))), (q_3, .inl (K 0, 16, .inl (fun _ => 0))), (q_4, .inl (K 0, 16, .inl (fun _ => 0)))]) rfl dX8_init_38 ?_
  refine v_aload_n B dX8_init_41 rfl rfl ?_
  refine v_bipush B (v := 16) dX8_init_42 (by decide +kernel) ?_
  refine v_newa_int B (cA := K 0) (t0 := 0) (N' := 16) (List.mem_of_getElem? (i := 5) rfl) rfl (by decide +kernel) (by decide +kernel) (by decide +kernel) (by decide +kernel) (by decide +kernel) dX8_init_44 (fun q_5 => ?_)
  show V _ _ _ _ _ _ _ _ _ _ _ _ _ _ (5, 80) [(h, .inr (8, [.null, .int (-1), .int 0, .ref q_1, .ref q_2, .ref q_3, .ref q_4, .null])), (q_1, .inl (K 0, 16, .inl (fun _ => 0))), (q_2, .inl (K 0, 16, .inl (fun _ => 0))), (q_3, .inl (K 0, 16, .inl (fun _ => 0))), (q_4, .inl (K 0, 16, .inl (fun _ => 0))), (q_5, .inl (K 0, 16, .inl (fun _ => 0)))] _ _ _
  refine v_putF B (C := RX8) (T := TX8) (N := 8) (ci := 8) (k0 := 0) hi_c_Pairing_init_X8 rfl rfl 7 (by decide +kernel) tyX8 tyX8_ok nmX8 (List.mem_of_getElem? (i := 10) rfl) rfl hnam rfl (ty := .array .int) (tyX8_ok 7 (by decide +kernel)) rfl rfl (Nat.le_of_ble_eq_true rfl) (w' := [(h, .inr (8, [.null, .int (-1), .int 0, .ref q_1, .ref q_2, .ref q_3, .ref q_4, .ref q_5])), (q_1, .inl (K 0, 16, .inl (fun _ => 0))), (q_2, .inl (K 0, 16, .inl (fun _ => 0))), (q_3, .inl (K 0, 16, .inl (fun _ => 0))), (q_4, .inl (K 0, 16, .inl (fun _ => 0))), (q_5, .inl (K 0, 16, .inl (fun _ => 0)))]) rfl dX8_init_46 ?_
  refine v_aload_n B dX8_init_49 rfl rfl ?_
  refine v_aload_n B dX8_init_50 rfl rfl ?_
  refine v_putF B (C := RX8) (T := TX8) (N := 8) (ci := 8) (k0 := 0) hi_c_Pairing_init_X8 rfl rfl 0 (by decide +kernel) tyX8 tyX8_ok nmX8 (List.mem_of_getElem? (i := 11) rfl) rfl hnam rfl (ty := .object "LowEnergy$Cipher") (tyX8_ok 0 (by decide +kernel)) rfl rfl (Nat.le_of_ble_eq_true rfl) (w' := [(h, .inr (8, [.ref cp, .int (-1), .int 0, .ref q_1, .ref q_2, .ref q_3, .ref q_4, .ref q_5])), (q_1, .inl (K 0, 16, .inl (fun _ => 0))), (q_2, .inl (K 0, 16, .inl (fun _ => 0))), (q_3, .inl (K 0, 16, .inl (fun _ => 0))), (q_4, .inl (K 0, 16, .inl (fun _ => 0))), (q_5, .inl (K 0, 16, .inl (fun _ => 0)))]) rfl dX8_init_51 ?_
  refine v_forget (wc := [(h, .inr (8, [.ref cp, .int (-1), .int 0, .ref q_1, .ref q_2, .ref q_3, .ref q_4, .ref q_5]))]) (wr := []) (sp_pl [0] [] rfl rfl rfl rfl rfl) ?_
  exact v_vret B hr hlk (q_1, q_2, q_3, q_4, q_5) trivial rfl (by decide +kernel) (by decide +kernel) dX8_init_54

def wp_c_Client_init : List Cond := .code yX2_init cX2_init 1 none :: ([.methodLink RX2 3 objectInit, .instanceMethod objectInit, .code objectInit ⟨#[0xb1]⟩ 1 none, .fieldLink RX2 9 "LowEnergy$Client" "kind" "I", .classLink RX2 15 RX9, .instantiable RX9 2, .initialized RX9, .methodLink RX2 17 yX9_init, .instanceMethod yX9_init, .code yX9_init cX9_init 2 none, .methodLink RX9 3 objectInit, .methodLink RX9 9 Lib.Math.max.name, .static Lib.Math.max.name, .initialized "java/lang/Math", .code Lib.Math.max.name Lib.Math.max.code 2 (some .int), .arrayClass .int, .fieldLink RX9 15 "LowEnergy$Row" "bytes" "[I", .fieldLink RX2 20 "LowEnergy$Client" "bytes" "LLowEnergy$Row;"] ++ (wsX20 ++ (wsX90 ++ ([]))))
theorem hi_c_Client_init_X2 : ∀ x ∈ u_ws RX2 TX2 6, x ∈ wp_c_Client_init := fun _ h => List.mem_cons_of_mem _ (List.mem_append_right _ (List.mem_append_left _ h))
theorem hi_c_Client_init_X9 : ∀ x ∈ u_ws RX9 TX9 2, x ∈ wp_c_Client_init := fun _ h => List.mem_cons_of_mem _ (List.mem_append_right _ (List.mem_append_right _ (List.mem_append_left _ h)))
set_option maxRecDepth 100000 in
theorem gd_c_Client_init_c_RowN_init_40_17 : GoodIn wp_c_Client_init (wp_c_RowN_init_40) := goodIn_ca (goodIn_r _ [10, 11, 2, 3, 12, 13, 14, 15, 16, 17] rfl rfl) (goodIn_app (goodIn_cls hi_c_Client_init_X9 gw_X9) (goodIn_nil))
set_option maxHeartbeats 4000000 in
set_option maxRecDepth 100000 in
/-- a new Client -/
theorem c_Client_init (l : Launch) (D : va_G) (K : Nat → ClassId) (h : Nat) : MG l yX2_init wp_c_Client_init ({ frames := 2, cells := 2, slots := 42, locals := 35 }) D (tysA K) [.ref h] [(h, .inr (2, [.int 0, .int 0, .int 0, .int 0, .int 0, .null]))] (Qv D (fun _ : Nat => True) (fun u => [(h, .inr (2, [.int (-1), .int 0, .int 0, .int 0, .int 0, .ref u]))])) 2 42 := by
  refine mg_of (cc := cX2_init) (maxL := 1) (ret := none) (by decide +kernel) rfl (Nat.le_of_ble_eq_true rfl) ?_
  intro p e s m below meth c A B hr hlk hnam
  show V _ _ _ _ _ _ _ _ _ _ _ _ _ _ _ _ [(0, .ref h)] _ _
  refine v_aload_n B dX2_init_0 rfl rfl ?_
  refine v_objInit B (List.mem_of_getElem? (i := 1) rfl) (List.mem_of_getElem? (i := 2) rfl) (List.mem_of_getElem? (i := 3) rfl) dX2_init_1 (by decide +kernel) (Nat.le_of_ble_eq_true rfl) ?_
  refine v_aload_n B dX2_init_4 rfl rfl ?_
  refine v_iconst B (v := (-1)) dX2_init_5 (by decide +kernel) ?_
  refine v_put B (C := RX2) (T := TX2) (N := 6) (ci := 2) (k0 := 0) hi_c_Client_init_X2 rfl rfl 0 (by decide +kernel) tyX2 tyX2_ok nmX2 (List.mem_of_getElem? (i := 4) rfl) rfl (ty := .int) (tyX2_ok 0 (by decide +kernel)) rfl rfl (Nat.le_of_ble_eq_true rfl) (w' := [(h, .inr (2, [.int (-1), .int 0, .int 0, .int 0, .int 0, .null]))]) rfl dX2_init_6 ?_
  refine v_aload_n B dX2_init_9 rfl rfl ?_
  refine v_new B (C := RX9) (T := TX9) (N := 2) (ci := 9) (fs := [.null, .int 0]) hi_c_Client_init_X9 tyX9 tyX9_ok (List.mem_of_getElem? (i := 5) rfl) (List.mem_of_getElem? (i := 6) rfl) (List.mem_of_getElem? (i := 7) rfl) rfl (by decide +kernel) (by decide +kernel) (by decide +kernel) dX2_init_10 (fun q_1 => ?_)
  show V _ _ _ _ _ _ _ _ _ _ _ _ _ _ (1, 2) [(h, .inr (2, [.int (-1), .int 0, .int 0, .int 0, .int 0, .null])), (q_1, .inr (9, [.null, .int 0]))] _ _ _
  refine v_dup B dX2_init_13 rfl ?_
  refine v_bipush B (v := 40) dX2_init_14 (by decide +kernel) ?_
  refine v_callIv B (b := q_1) (n := 1) (As := [.int 40]) (rest := [.ref q_1, .ref h]) (wc := [(q_1, .inr (9, [.null, .int 0]))]) (wr := [(h, .inr (2, [.int (-1), .int 0, .int 0, .int 0, .int 0, .null]))]) (c_RowN_init_40 l D K q_1) gd_c_Client_init_c_RowN_init_40_17 rfl rfl rfl (by decide +kernel) ⟨by decide +kernel, by decide +kernel⟩ (List.mem_of_getElem? (i := 7) rfl) (List.mem_of_getElem? (i := 8) rfl) (List.mem_of_getElem? (i := 9) rfl) rfl (sp_pl [1] [0] rfl rfl rfl rfl rfl) rfl rfl (Nat.le_of_ble_eq_true rfl) dX2_init_16 ⟨by decide +kernel, by decide +kernel⟩ (fun u_2 hp_3 => ?_)
  obtain ⟨a_5, rfl⟩ : ∃ z, z = u_2 := ⟨_, rfl⟩
  show V _ _ _ _ _ _ _ _ _ _ _ _ _ _ (2, 42) [(h, .inr (2, [.int (-1), .int 0, .int 0, .int 0, .int 0, .null])), (q_1, .inr (9, [.ref a_5, .int 0]))] _ _ _
  refine v_putF B (C := RX2) (T := TX2) (N := 6) (ci := 2) (k0 := 0) hi_c_Client_init_X2 rfl rfl 5 (by decide +kernel) tyX2 tyX2_ok nmX2 (List.mem_of_getElem? (i := 18) rfl) rfl hnam rfl (ty := .object "LowEnergy$Row") (tyX2_ok 5 (by decide +kernel)) rfl rfl (Nat.le_of_ble_eq_true rfl) (w' := [(h, .inr (2, [.int (-1), .int 0, .int 0, .int 0, .int 0, .ref q_1])), (q_1, .inr (9, [.ref a_5, .int 0]))]) rfl dX2_init_19 ?_
  refine v_forget (wc := [(h, .inr (2, [.int (-1), .int 0, .int 0, .int 0, .int 0, .ref q_1]))]) (wr := []) (sp_pl [0] [] rfl rfl rfl rfl rfl) ?_
  exact v_vret B hr hlk q_1 trivial rfl (by decide +kernel) (by decide +kernel) dX2_init_22
