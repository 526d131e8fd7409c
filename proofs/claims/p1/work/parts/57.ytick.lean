def wp_y_tick_bad : List Cond := .code yX12_tick cX12_tick 4 (some .int) :: ([.fieldLink RX12 1 "LowEnergyModel" "thrown" "I"] ++ (wsX120 ++ ([])))
theorem hi_y_tick_bad_X12 : ∀ x ∈ u_ws RX12 TX12 123, x ∈ wp_y_tick_bad := fun _ h => List.mem_cons_of_mem _ (List.mem_append_right _ (List.mem_append_left _ h))
set_option maxHeartbeats 4000000 in
set_option maxRecDepth 100000 in
theorem y_tick_bad (l : Launch) (D : va_G) (K : Nat → ClassId) (h : Nat) (q : Nat → Nat) (n : Int32) (hb : n < 1 ∨ 1000 < n) : MG l yX12_tick wp_y_tick_bad ({ frames := 0, cells := 0, slots := 0, locals := 0 }) D (tysA K) [.ref h, .int n] [(h, .inr (12, fsM q 0 0 0 0 0)), ((q 7), .inl (K 0, 2, .inl (gl [0, 0]))), ((q 42), .inl (K 3, 2, .inl (gl [0, 0])))] (Qi D (fun (r : Int32) (_ : Unit) => r = 0) (fun _ => [(h, .inr (12, fsM q 1 0 0 0 0))])) 0 0 := by
  refine mg_of (cc := cX12_tick) (maxL := 4) (ret := (some .int)) (by decide +kernel) rfl (Nat.le_of_ble_eq_true rfl) ?_
  intro p e s m below meth c A B hr hlk hnam
  show V _ _ _ _ _ _ _ _ _ _ _ _ _ _ _ _ [(0, .ref h), (1, .int n)] _ _
  rcases hb with hb | hb
  · skip
    refine v_aload_n B dX12_tick_0 rfl rfl ?_
    refine v_iload_n B dX12_tick_1 rfl rfl ?_
    refine v_iconst B (v := 1) dX12_tick_2 (by decide +kernel) ?_
    refine v_icmp_lt B (tgt := 13) dX12_tick_3 (by decide +kernel) (fun _ => ?_) (fun h => absurd hb h)
    refine v_iconst B (v := 1) dX12_tick_13 (by decide +kernel) ?_
    refine v_goto B (tgt := 18) dX12_tick_14 (by decide +kernel) ?_
    refine v_put B (C := RX12) (T := TX12) (N := 123) (ci := 12) (k0 := 0) hi_y_tick_bad_X12 rfl rfl 0 (by decide +kernel) tyX12 tyX12_ok nmX12 (List.mem_of_getElem? (i := 1) rfl) rfl (ty := .int) (tyX12_ok 0 (by decide +kernel)) rfl rfl (Nat.le_of_ble_eq_true rfl) (w' := [(h, .inr (12, fsM q 1 0 0 0 0)), ((q 7), .inl (K 0, 2, .inl (gl [0, 0]))), ((q 42), .inl (K 3, 2, .inl (gl [0, 0])))]) rfl dX12_tick_18 ?_
    refine v_iconst B (v := 0) dX12_tick_21 (by decide +kernel) ?_
    refine v_istore_n B (lv' := [(2, .int 0), (0, .ref h), (1, .int n)]) dX12_tick_22 rfl (by decide +kernel) rfl ?_
    refine v_iconst B (v := 0) dX12_tick_23 (by decide +kernel) ?_
    refine v_istore_n B (lv' := [(3, .int 0), (2, .int 0), (0, .ref h), (1, .int n)]) dX12_tick_24 rfl (by decide +kernel) rfl ?_
    refine v_iload_n B dX12_tick_25 rfl rfl ?_
    refine v_iload_n B dX12_tick_26 rfl rfl ?_
    refine v_icmp_ge B (tgt := 54) dX12_tick_27 (by decide +kernel) (fun c_1 => ?_) (fun c_1 => ?_)
    · refine v_iload_n B dX12_tick_54 rfl rfl ?_
      refine v_forget (wc := [(h, .inr (12, fsM q 1 0 0 0 0))]) (wr := []) (sp_pl [0] [] rfl rfl rfl rfl rfl) ?_
      exact v_iret B hr hlk () rfl rfl (by decide +kernel) (by decide +kernel) dX12_tick_55
    · refine v_aload_n B dX12_tick_30 rfl rfl ?_
      refine v_get B (C := RX12) (T := TX12) (N := 123) (ci := 12) (k0 := 0) hi_y_tick_bad_X12 rfl rfl 0 (by decide +kernel) (List.mem_of_getElem? (i := 1) rfl) rfl dX12_tick_31 ?_
      refine v_if_ne B (tgt := 54) dX12_tick_34 (by decide +kernel) (fun _ => ?_) (fun h => absurd h (by decide +kernel))
      refine v_iload_n B dX12_tick_54 rfl rfl ?_
      refine v_forget (wc := [(h, .inr (12, fsM q 1 0 0 0 0))]) (wr := []) (sp_pl [0] [] rfl rfl rfl rfl rfl) ?_
      exact v_iret B hr hlk () rfl rfl (by decide +kernel) (by decide +kernel) dX12_tick_55
  · skip
    refine v_aload_n B dX12_tick_0 rfl rfl ?_
    refine v_iload_n B dX12_tick_1 rfl rfl ?_
    refine v_iconst B (v := 1) dX12_tick_2 (by decide +kernel) ?_
    refine v_icmp_lt B (tgt := 13) dX12_tick_3 (by decide +kernel) (fun h => absurd h (fun h => absurd (Int32.lt_trans hb h) (by decide +kernel))) (fun _ => ?_)
    refine v_iload_n B dX12_tick_6 rfl rfl ?_
    refine v_sipush B (v := 1000) dX12_tick_7 (by decide +kernel) ?_
    refine v_icmp_le B (tgt := 17) dX12_tick_10 (by decide +kernel) (fun h => absurd h (Int32.not_le.mpr hb)) (fun _ => ?_)
    refine v_iconst B (v := 1) dX12_tick_13 (by decide +kernel) ?_
    refine v_goto B (tgt := 18) dX12_tick_14 (by decide +kernel) ?_
    refine v_put B (C := RX12) (T := TX12) (N := 123) (ci := 12) (k0 := 0) hi_y_tick_bad_X12 rfl rfl 0 (by decide +kernel) tyX12 tyX12_ok nmX12 (List.mem_of_getElem? (i := 1) rfl) rfl (ty := .int) (tyX12_ok 0 (by decide +kernel)) rfl rfl (Nat.le_of_ble_eq_true rfl) (w' := [(h, .inr (12, fsM q 1 0 0 0 0)), ((q 7), .inl (K 0, 2, .inl (gl [0, 0]))), ((q 42), .inl (K 3, 2, .inl (gl [0, 0])))]) rfl dX12_tick_18 ?_
    refine v_iconst B (v := 0) dX12_tick_21 (by decide +kernel) ?_
    refine v_istore_n B (lv' := [(2, .int 0), (0, .ref h), (1, .int n)]) dX12_tick_22 rfl (by decide +kernel) rfl ?_
    refine v_iconst B (v := 0) dX12_tick_23 (by decide +kernel) ?_
    refine v_istore_n B (lv' := [(3, .int 0), (2, .int 0), (0, .ref h), (1, .int n)]) dX12_tick_24 rfl (by decide +kernel) rfl ?_
    refine v_iload_n B dX12_tick_25 rfl rfl ?_
    refine v_iload_n B dX12_tick_26 rfl rfl ?_
    refine v_icmp_ge B (tgt := 54) dX12_tick_27 (by decide +kernel) (fun c_2 => ?_) (fun c_2 => ?_)
    · refine v_iload_n B dX12_tick_54 rfl rfl ?_
      refine v_forget (wc := [(h, .inr (12, fsM q 1 0 0 0 0))]) (wr := []) (sp_pl [0] [] rfl rfl rfl rfl rfl) ?_
      exact v_iret B hr hlk () rfl rfl (by decide +kernel) (by decide +kernel) dX12_tick_55
    · refine v_aload_n B dX12_tick_30 rfl rfl ?_
      refine v_get B (C := RX12) (T := TX12) (N := 123) (ci := 12) (k0 := 0) hi_y_tick_bad_X12 rfl rfl 0 (by decide +kernel) (List.mem_of_getElem? (i := 1) rfl) rfl dX12_tick_31 ?_
      refine v_if_ne B (tgt := 54) dX12_tick_34 (by decide +kernel) (fun _ => ?_) (fun h => absurd h (by decide +kernel))
      refine v_iload_n B dX12_tick_54 rfl rfl ?_
      refine v_forget (wc := [(h, .inr (12, fsM q 1 0 0 0 0))]) (wr := []) (sp_pl [0] [] rfl rfl rfl rfl rfl) ?_
      exact v_iret B hr hlk () rfl rfl (by decide +kernel) (by decide +kernel) dX12_tick_55

def wp_y_tick_ok : List Cond := .code yX12_tick cX12_tick 4 (some .int) :: ([.fieldLink RX12 1 "LowEnergyModel" "thrown" "I", .methodLink RX12 675 yX12_one, .instanceMethod yX12_one, .selects RX12 yX12_one yX12_one, .initialized RX12, .code yX12_one cX12_one 2 none, .fieldLink RX12 429 "LowEnergyModel" "packets" "I", .fieldLink RX12 45 "LowEnergyModel" "state" "[I", .fieldLink RX12 152 "LowEnergyModel" "mine" "[Z", .methodLink RX12 662 yX12_isLinked, .instanceMethod yX12_isLinked, .selects RX12 yX12_isLinked yX12_isLinked, .code yX12_isLinked cX12_isLinked 2 (some .boolean), .fieldLink RX12 470 "LowEnergyModel" "t" "I"] ++ (wsX120 ++ ([])))
theorem hi_y_tick_ok_X12 : ∀ x ∈ u_ws RX12 TX12 123, x ∈ wp_y_tick_ok := fun _ h => List.mem_cons_of_mem _ (List.mem_append_right _ (List.mem_append_left _ h))
set_option maxRecDepth 100000 in
theorem gd_y_tick_ok_m_one_675 : GoodIn wp_y_tick_ok (wsV RX12 675 RX12 yX12_one wp_m_one) := goodIn_app (goodIn_r _ [2, 3, 4, 5] rfl rfl) (goodIn_ca (goodIn_r _ [6, 7, 8, 9, 10, 11, 12, 5, 13, 14] rfl rfl) (goodIn_app (goodIn_cls hi_y_tick_ok_X12 gw_X12) (goodIn_nil)))
set_option maxHeartbeats 4000000 in
set_option maxRecDepth 100000 in
theorem y_tick_ok (l : Launch) (D : va_G) (K : Nat → ClassId) (h : Nat) (q : Nat → Nat) (N : Nat) (h1 : 1 ≤ N) (h2 : N ≤ 1000) : MG l yX12_tick wp_y_tick_ok ({ frames := 2, cells := 0, slots := 0, locals := 42 }) D (tysA K) [.ref h, .int (nI N)] [(h, .inr (12, fsM q 0 0 0 0 0)), ((q 7), .inl (K 0, 2, .inl (gl [0, 0]))), ((q 42), .inl (K 3, 2, .inl (gl [0, 0])))] (Qi D (fun (r : Int32) (_ : Int32) => r = 0) (fun u => [(h, .inr (12, fsM q 0 0 u 0 0))])) 0 0 := by
  refine mg_of (cc := cX12_tick) (maxL := 4) (ret := (some .int)) (by decide +kernel) rfl (Nat.le_of_ble_eq_true rfl) ?_
  intro p e s m below meth c A B hr hlk hnam
  show V _ _ _ _ _ _ _ _ _ _ _ _ _ _ _ _ [(0, .ref h), (1, .int (nI N))] _ _
  refine v_aload_n B dX12_tick_0 rfl rfl ?_
  refine v_iload_n B dX12_tick_1 rfl rfl ?_
  refine v_iconst B (v := 1) dX12_tick_2 (by decide +kernel) ?_
  refine v_icmp_lt B (tgt := 13) dX12_tick_3 (by decide +kernel) (fun h => absurd h (nI_nlt h1 (by omega))) (fun _ => ?_)
  refine v_iload_n B dX12_tick_6 rfl rfl ?_
  refine v_sipush B (v := 1000) dX12_tick_7 (by decide +kernel) ?_
  refine v_icmp_le B (tgt := 17) dX12_tick_10 (by decide +kernel) (fun _ => ?_) (fun h => absurd (nI_le h2 (by decide +kernel)) h)
  refine v_iconst B (v := 0) dX12_tick_17 (by decide +kernel) ?_
  refine v_put B (C := RX12) (T := TX12) (N := 123) (ci := 12) (k0 := 0) hi_y_tick_ok_X12 rfl rfl 0 (by decide +kernel) tyX12 tyX12_ok nmX12 (List.mem_of_getElem? (i := 1) rfl) rfl (ty := .int) (tyX12_ok 0 (by decide +kernel)) rfl rfl (Nat.le_of_ble_eq_true rfl) (w' := [(h, .inr (12, fsM q 0 0 0 0 0)), ((q 7), .inl (K 0, 2, .inl (gl [0, 0]))), ((q 42), .inl (K 3, 2, .inl (gl [0, 0])))]) rfl dX12_tick_18 ?_
  refine v_iconst B (v := 0) dX12_tick_21 (by decide +kernel) ?_
  refine v_istore_n B (lv' := [(2, .int 0), (0, .ref h), (1, .int (nI N))]) dX12_tick_22 rfl (by decide +kernel) rfl ?_
  refine v_iconst B (v := 0) dX12_tick_23 (by decide +kernel) ?_
  refine v_istore_n B (lv' := [(3, .int 0), (2, .int 0), (0, .ref h), (1, .int (nI N))]) dX12_tick_24 rfl (by decide +kernel) rfl ?_
  refine v_nat (pc := 25) (α := Int32) (fun i _ => [(3, .int (nI i)), (2, .int 0), (0, .ref h), (1, .int (nI N))]) (fun _ t => [(h, .inr (12, fsM q 0 0 t 0 0)), ((q 7), .inl (K 0, 2, .inl (gl [0, 0]))), ((q 42), .inl (K 3, 2, .inl (gl [0, 0])))]) N ?_ ?_ 0 0 (Nat.zero_le N)
  · intro i t hi ih
    show V _ _ _ _ _ _ _ _ _ _ _ _ _ _ _ [(h, .inr (12, fsM q 0 0 t 0 0)), ((q 7), .inl (K 0, 2, .inl (gl [0, 0]))), ((q 42), .inl (K 3, 2, .inl (gl [0, 0])))] [(3, .int (nI i)), (2, .int 0), (0, .ref h), (1, .int (nI N))] _ _
    refine v_iload_n B dX12_tick_25 rfl rfl ?_
    refine v_iload_n B dX12_tick_26 rfl rfl ?_
    refine v_icmp_ge B (tgt := 54) dX12_tick_27 (by decide +kernel) (fun h => absurd h (nI_ge hi (by omega))) (fun _ => ?_)
    refine v_aload_n B dX12_tick_30 rfl rfl ?_
    refine v_get B (C := RX12) (T := TX12) (N := 123) (ci := 12) (k0 := 0) hi_y_tick_ok_X12 rfl rfl 0 (by decide +kernel) (List.mem_of_getElem? (i := 1) rfl) rfl dX12_tick_31 ?_
    refine v_if_ne B (tgt := 54) dX12_tick_34 (by decide +kernel) (fun h => absurd (by decide +kernel) h) (fun _ => ?_)
    refine v_aload_n B dX12_tick_37 rfl rfl ?_
    refine v_callVv B (b := h) (n := 0) (As := []) (rest := []) (wc := [(h, .inr (12, fsM q 0 0 t 0 0)), ((q 7), .inl (K 0, 2, .inl (gl [0, 0]))), ((q 42), .inl (K 3, 2, .inl (gl [0, 0])))]) (wr := []) (m_one l D K h q 0 0 t 0 0) gd_y_tick_ok_m_one_675 rfl rfl rfl (by decide +kernel) ⟨by decide +kernel, by decide +kernel⟩ 0 rfl rfl rfl (sp_pl [0, 1, 2] [] rfl rfl rfl rfl rfl) rfl rfl (Nat.le_of_ble_eq_true rfl) dX12_tick_38 ⟨by decide +kernel, by decide +kernel⟩ (fun u_1 hp_2 => ?_)
    show V _ _ _ _ _ _ _ _ _ _ _ _ _ _ (0, 0) [(h, .inr (12, fsM q 0 0 (t + 1) 0 0)), ((q 7), .inl (K 0, 2, .inl (gl [0, 0]))), ((q 42), .inl (K 3, 2, .inl (gl [0, 0])))] _ _ _
    refine v_iload_n B dX12_tick_41 rfl rfl ?_
    refine v_aload_n B dX12_tick_42 rfl rfl ?_
    refine v_get B (C := RX12) (T := TX12) (N := 123) (ci := 12) (k0 := 0) hi_y_tick_ok_X12 rfl rfl 51 (by decide +kernel) (List.mem_of_getElem? (i := 7) rfl) rfl dX12_tick_43 ?_
    refine v_iadd B (v := 0) dX12_tick_46 (by decide +kernel) ?_
    refine v_istore_n B (lv' := [(2, .int 0), (3, .int (nI i)), (0, .ref h), (1, .int (nI N))]) dX12_tick_47 rfl (by decide +kernel) rfl ?_
    refine v_iinc B (k := 1) (v := (nI (i + 1))) (lv' := [(3, .int (nI (i + 1))), (2, .int 0), (0, .ref h), (1, .int (nI N))]) dX12_tick_48 rfl (nI_1 i) (by decide +kernel) rfl ?_
    refine v_goto B (tgt := 25) dX12_tick_51 (by decide +kernel) ?_
    refine v_lv [0, 1, 2, 3] rfl ?_
    exact ih (t + 1)
  · intro t
    show V _ _ _ _ _ _ _ _ _ _ _ _ _ _ _ [(h, .inr (12, fsM q 0 0 t 0 0)), ((q 7), .inl (K 0, 2, .inl (gl [0, 0]))), ((q 42), .inl (K 3, 2, .inl (gl [0, 0])))] [(3, .int (nI N)), (2, .int 0), (0, .ref h), (1, .int (nI N))] _ _
    refine v_iload_n B dX12_tick_25 rfl rfl ?_
    refine v_iload_n B dX12_tick_26 rfl rfl ?_
    refine v_icmp_ge B (tgt := 54) dX12_tick_27 (by decide +kernel) (fun _ => ?_) (fun h => absurd (Int32.le_refl _) h)
    refine v_iload_n B dX12_tick_54 rfl rfl ?_
    refine v_forget (wc := [(h, .inr (12, fsM q 0 0 t 0 0))]) (wr := []) (sp_pl [0] [] rfl rfl rfl rfl rfl) ?_
    exact v_iret B hr hlk t rfl rfl (by decide +kernel) (by decide +kernel) dX12_tick_55

