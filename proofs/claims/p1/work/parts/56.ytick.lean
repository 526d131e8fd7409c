def wp_m_isLk_0 : List Cond := .code yX12_isLinked cX12_isLinked 2 (some .boolean) :: ([.fieldLink RX12 45 "LowEnergyModel" "state" "[I"] ++ (wsX120 ++ ([])))
theorem hi_m_isLk_0_X12 : ∀ x ∈ u_ws RX12 TX12 123, x ∈ wp_m_isLk_0 := fun _ h => List.mem_cons_of_mem _ (List.mem_append_right _ (List.mem_append_left _ h))
set_option maxHeartbeats 4000000 in
set_option maxRecDepth 100000 in
theorem m_isLk_0 (l : Launch) (D : va_G) (K : Nat → ClassId) (h : Nat) (q : Nat → Nat) (th : Int32) (tp : Int32) (t : Int32) (pk : Int32) (an : Int32) : MG l yX12_isLinked wp_m_isLk_0 ({ frames := 0, cells := 0, slots := 0, locals := 0 }) D (tysA K) [.ref h, .int 0] [(h, .inr (12, fsM q th tp t pk an)), ((q 7), .inl (K 0, 2, .inl (gl [0, 0])))] (Qi D (fun (r : Int32) (_ : Unit) => r = 0) (fun _ => [(h, .inr (12, fsM q th tp t pk an)), ((q 7), .inl (K 0, 2, .inl (gl [0, 0])))])) 0 0 := by
  refine mg_of (cc := cX12_isLinked) (maxL := 2) (ret := (some .boolean)) (by decide +kernel) rfl (Nat.le_of_ble_eq_true rfl) ?_
  intro p e s m below meth c A B hr hlk hnam
  show V _ _ _ _ _ _ _ _ _ _ _ _ _ _ _ _ [(0, .ref h), (1, .int 0)] _ _
  refine v_aload_n B dX12_isLinked_0 rfl rfl ?_
  refine v_get B (C := RX12) (T := TX12) (N := 123) (ci := 12) (k0 := 0) hi_m_isLk_0_X12 rfl rfl 7 (by decide +kernel) (List.mem_of_getElem? (i := 1) rfl) rfl dX12_isLinked_1 ?_
  refine v_iload_n B dX12_isLinked_4 rfl rfl ?_
  refine v_iald B (k0 := 1) (t0 := 0) (v := 0) rfl rfl (vpi (by decide +kernel)) rfl dX12_isLinked_5 ?_
  refine v_iconst B (v := 4) dX12_isLinked_6 (by decide +kernel) ?_
  refine v_icmp_eq B (tgt := 20) dX12_isLinked_7 (by decide +kernel) (fun h => absurd h (by decide +kernel)) (fun _ => ?_)
  refine v_aload_n B dX12_isLinked_10 rfl rfl ?_
  refine v_get B (C := RX12) (T := TX12) (N := 123) (ci := 12) (k0 := 0) hi_m_isLk_0_X12 rfl rfl 7 (by decide +kernel) (List.mem_of_getElem? (i := 1) rfl) rfl dX12_isLinked_11 ?_
  refine v_iload_n B dX12_isLinked_14 rfl rfl ?_
  refine v_iald B (k0 := 1) (t0 := 0) (v := 0) rfl rfl (vpi (by decide +kernel)) rfl dX12_isLinked_15 ?_
  refine v_iconst B (v := 5) dX12_isLinked_16 (by decide +kernel) ?_
  refine v_icmp_ne B (tgt := 24) dX12_isLinked_17 (by decide +kernel) (fun _ => ?_) (fun h => absurd h (by decide +kernel))
  refine v_iconst B (v := 0) dX12_isLinked_24 (by decide +kernel) ?_
  exact v_zret B hr hlk (by decide +kernel) () rfl rfl (by decide +kernel) (by decide +kernel) dX12_isLinked_25

def wp_m_isLk_1 : List Cond := .code yX12_isLinked cX12_isLinked 2 (some .boolean) :: ([.fieldLink RX12 45 "LowEnergyModel" "state" "[I"] ++ (wsX120 ++ ([])))
theorem hi_m_isLk_1_X12 : ∀ x ∈ u_ws RX12 TX12 123, x ∈ wp_m_isLk_1 := fun _ h => List.mem_cons_of_mem _ (List.mem_append_right _ (List.mem_append_left _ h))
set_option maxHeartbeats 4000000 in
set_option maxRecDepth 100000 in
theorem m_isLk_1 (l : Launch) (D : va_G) (K : Nat → ClassId) (h : Nat) (q : Nat → Nat) (th : Int32) (tp : Int32) (t : Int32) (pk : Int32) (an : Int32) : MG l yX12_isLinked wp_m_isLk_1 ({ frames := 0, cells := 0, slots := 0, locals := 0 }) D (tysA K) [.ref h, .int 1] [(h, .inr (12, fsM q th tp t pk an)), ((q 7), .inl (K 0, 2, .inl (gl [0, 0])))] (Qi D (fun (r : Int32) (_ : Unit) => r = 0) (fun _ => [(h, .inr (12, fsM q th tp t pk an)), ((q 7), .inl (K 0, 2, .inl (gl [0, 0])))])) 0 0 := by
  refine mg_of (cc := cX12_isLinked) (maxL := 2) (ret := (some .boolean)) (by decide +kernel) rfl (Nat.le_of_ble_eq_true rfl) ?_
  intro p e s m below meth c A B hr hlk hnam
  show V _ _ _ _ _ _ _ _ _ _ _ _ _ _ _ _ [(0, .ref h), (1, .int 1)] _ _
  refine v_aload_n B dX12_isLinked_0 rfl rfl ?_
  refine v_get B (C := RX12) (T := TX12) (N := 123) (ci := 12) (k0 := 0) hi_m_isLk_1_X12 rfl rfl 7 (by decide +kernel) (List.mem_of_getElem? (i := 1) rfl) rfl dX12_isLinked_1 ?_
  refine v_iload_n B dX12_isLinked_4 rfl rfl ?_
  refine v_iald B (k0 := 1) (t0 := 0) (v := 0) rfl rfl (vpi (by decide +kernel)) rfl dX12_isLinked_5 ?_
  refine v_iconst B (v := 4) dX12_isLinked_6 (by decide +kernel) ?_
  refine v_icmp_eq B (tgt := 20) dX12_isLinked_7 (by decide +kernel) (fun h => absurd h (by decide +kernel)) (fun _ => ?_)
  refine v_aload_n B dX12_isLinked_10 rfl rfl ?_
  refine v_get B (C := RX12) (T := TX12) (N := 123) (ci := 12) (k0 := 0) hi_m_isLk_1_X12 rfl rfl 7 (by decide +kernel) (List.mem_of_getElem? (i := 1) rfl) rfl dX12_isLinked_11 ?_
  refine v_iload_n B dX12_isLinked_14 rfl rfl ?_
  refine v_iald B (k0 := 1) (t0 := 0) (v := 0) rfl rfl (vpi (by decide +kernel)) rfl dX12_isLinked_15 ?_
  refine v_iconst B (v := 5) dX12_isLinked_16 (by decide +kernel) ?_
  refine v_icmp_ne B (tgt := 24) dX12_isLinked_17 (by decide +kernel) (fun _ => ?_) (fun h => absurd h (by decide +kernel))
  refine v_iconst B (v := 0) dX12_isLinked_24 (by decide +kernel) ?_
  exact v_zret B hr hlk (by decide +kernel) () rfl rfl (by decide +kernel) (by decide +kernel) dX12_isLinked_25

def wp_m_one : List Cond := .code yX12_one cX12_one 2 none :: ([.fieldLink RX12 429 "LowEnergyModel" "packets" "I", .fieldLink RX12 45 "LowEnergyModel" "state" "[I", .fieldLink RX12 152 "LowEnergyModel" "mine" "[Z", .methodLink RX12 662 yX12_isLinked, .instanceMethod yX12_isLinked, .selects RX12 yX12_isLinked yX12_isLinked, .initialized RX12, .code yX12_isLinked cX12_isLinked 2 (some .boolean), .fieldLink RX12 470 "LowEnergyModel" "t" "I"] ++ (wsX120 ++ ([])))
theorem hi_m_one_X12 : ∀ x ∈ u_ws RX12 TX12 123, x ∈ wp_m_one := fun _ h => List.mem_cons_of_mem _ (List.mem_append_right _ (List.mem_append_left _ h))
set_option maxRecDepth 100000 in
theorem gd_m_one_m_isLk_0_662 : GoodIn wp_m_one (wsV RX12 662 RX12 yX12_isLinked wp_m_isLk_0) := goodIn_app (goodIn_r _ [4, 5, 6, 7] rfl rfl) (goodIn_ca (goodIn_r _ [8, 2] rfl rfl) (goodIn_app (goodIn_cls hi_m_one_X12 gw_X12) (goodIn_nil)))
set_option maxRecDepth 100000 in
theorem gd_m_one_m_isLk_1_662 : GoodIn wp_m_one (wsV RX12 662 RX12 yX12_isLinked wp_m_isLk_1) := goodIn_app (goodIn_r _ [4, 5, 6, 7] rfl rfl) (goodIn_ca (goodIn_r _ [8, 2] rfl rfl) (goodIn_app (goodIn_cls hi_m_one_X12 gw_X12) (goodIn_nil)))
set_option maxHeartbeats 4000000 in
set_option maxRecDepth 100000 in
theorem m_one (l : Launch) (D : va_G) (K : Nat → ClassId) (h : Nat) (q : Nat → Nat) (th : Int32) (tp : Int32) (t : Int32) (pk : Int32) (an : Int32) : MG l yX12_one wp_m_one ({ frames := 1, cells := 0, slots := 0, locals := 21 }) D (tysA K) [.ref h] [(h, .inr (12, fsM q th tp t pk an)), ((q 7), .inl (K 0, 2, .inl (gl [0, 0]))), ((q 42), .inl (K 3, 2, .inl (gl [0, 0])))] (Qv D (fun _ : Unit => True) (fun _ => [(h, .inr (12, fsM q th tp (t + 1) 0 an)), ((q 7), .inl (K 0, 2, .inl (gl [0, 0]))), ((q 42), .inl (K 3, 2, .inl (gl [0, 0])))])) 0 0 := by
  refine mg_of (cc := cX12_one) (maxL := 2) (ret := none) (by decide +kernel) rfl (Nat.le_of_ble_eq_true rfl) ?_
  intro p e s m below meth c A B hr hlk hnam
  show V _ _ _ _ _ _ _ _ _ _ _ _ _ _ _ _ [(0, .ref h)] _ _
  refine v_aload_n B dX12_one_0 rfl rfl ?_
  refine v_iconst B (v := 0) dX12_one_1 (by decide +kernel) ?_
  refine v_put B (C := RX12) (T := TX12) (N := 123) (ci := 12) (k0 := 0) hi_m_one_X12 rfl rfl 51 (by decide +kernel) tyX12 tyX12_ok nmX12 (List.mem_of_getElem? (i := 1) rfl) rfl (ty := .int) (tyX12_ok 51 (by decide +kernel)) rfl rfl (Nat.le_of_ble_eq_true rfl) (w' := [(h, .inr (12, fsM q th tp t 0 an)), ((q 7), .inl (K 0, 2, .inl (gl [0, 0]))), ((q 42), .inl (K 3, 2, .inl (gl [0, 0])))]) rfl dX12_one_2 ?_
  refine v_iconst B (v := 0) dX12_one_5 (by decide +kernel) ?_
  refine v_istore_n B (lv' := [(1, .int 0), (0, .ref h)]) dX12_one_6 rfl (by decide +kernel) rfl ?_
  refine v_iload_n B dX12_one_7 rfl rfl ?_
  refine v_iconst B (v := 2) dX12_one_8 (by decide +kernel) ?_
  refine v_icmp_ge B (tgt := 46) dX12_one_9 (by decide +kernel) (fun h => absurd h (by decide +kernel)) (fun _ => ?_)
  refine v_aload_n B dX12_one_12 rfl rfl ?_
  refine v_get B (C := RX12) (T := TX12) (N := 123) (ci := 12) (k0 := 0) hi_m_one_X12 rfl rfl 7 (by decide +kernel) (List.mem_of_getElem? (i := 2) rfl) rfl dX12_one_13 ?_
  refine v_iload_n B dX12_one_16 rfl rfl ?_
  refine v_iald B (k0 := 1) (t0 := 0) (v := 0) rfl rfl (vpi (by decide +kernel)) rfl dX12_one_17 ?_
  refine v_iconst B (v := 1) dX12_one_18 (by decide +kernel) ?_
  refine v_icmp_ne B (tgt := 40) dX12_one_19 (by decide +kernel) (fun _ => ?_) (fun h => absurd h (by decide +kernel))
  refine v_iinc B (k := 0) (v := 1) (lv' := [(1, .int 1), (0, .ref h)]) dX12_one_40 rfl (by decide +kernel) (by decide +kernel) rfl ?_
  refine v_goto B (tgt := 7) dX12_one_43 (by decide +kernel) ?_
  refine v_iload_n B dX12_one_7 rfl rfl ?_
  refine v_iconst B (v := 2) dX12_one_8 (by decide +kernel) ?_
  refine v_icmp_ge B (tgt := 46) dX12_one_9 (by decide +kernel) (fun h => absurd h (by decide +kernel)) (fun _ => ?_)
  refine v_aload_n B dX12_one_12 rfl rfl ?_
  refine v_get B (C := RX12) (T := TX12) (N := 123) (ci := 12) (k0 := 0) hi_m_one_X12 rfl rfl 7 (by decide +kernel) (List.mem_of_getElem? (i := 2) rfl) rfl dX12_one_13 ?_
  refine v_iload_n B dX12_one_16 rfl rfl ?_
  refine v_iald B (k0 := 1) (t0 := 0) (v := 0) rfl rfl (vpi (by decide +kernel)) rfl dX12_one_17 ?_
  refine v_iconst B (v := 1) dX12_one_18 (by decide +kernel) ?_
  refine v_icmp_ne B (tgt := 40) dX12_one_19 (by decide +kernel) (fun _ => ?_) (fun h => absurd h (by decide +kernel))
  refine v_iinc B (k := 0) (v := 2) (lv' := [(1, .int 2), (0, .ref h)]) dX12_one_40 rfl (by decide +kernel) (by decide +kernel) rfl ?_
  refine v_goto B (tgt := 7) dX12_one_43 (by decide +kernel) ?_
  refine v_iload_n B dX12_one_7 rfl rfl ?_
  refine v_iconst B (v := 2) dX12_one_8 (by decide +kernel) ?_
  refine v_icmp_ge B (tgt := 46) dX12_one_9 (by decide +kernel) (fun _ => ?_) (fun h => absurd (by decide +kernel) h)
  refine v_iconst B (v := 0) dX12_one_46 (by decide +kernel) ?_
  refine v_istore_n B (lv' := [(1, .int 0), (0, .ref h)]) dX12_one_47 rfl (by decide +kernel) rfl ?_
  refine v_iload_n B dX12_one_48 rfl rfl ?_
  refine v_iconst B (v := 2) dX12_one_49 (by decide +kernel) ?_
  refine v_icmp_ge B (tgt := 105) dX12_one_50 (by decide +kernel) (fun h => absurd h (by decide +kernel)) (fun _ => ?_)
  refine v_aload_n B dX12_one_53 rfl rfl ?_
  refine v_get B (C := RX12) (T := TX12) (N := 123) (ci := 12) (k0 := 0) hi_m_one_X12 rfl rfl 42 (by decide +kernel) (List.mem_of_getElem? (i := 3) rfl) rfl dX12_one_54 ?_
  refine v_iload_n B dX12_one_57 rfl rfl ?_
  refine v_aload_n B dX12_one_58 rfl rfl ?_
  refine v_iload_n B dX12_one_59 rfl rfl ?_
  refine v_callVi B (b := h) (n := 1) (As := [.int 0]) (rest := [.int 0, .ref (q 42)]) (wc := [(h, .inr (12, fsM q th tp t 0 an)), ((q 7), .inl (K 0, 2, .inl (gl [0, 0])))]) (wr := [((q 42), .inl (K 3, 2, .inl (gl [0, 0])))]) (m_isLk_0 l D K h q th tp t 0 an) gd_m_one_m_isLk_0_662 rfl rfl rfl (by decide +kernel) ⟨by decide +kernel, by decide +kernel⟩ 0 rfl rfl rfl (sp_pl [0, 1] [2] rfl rfl rfl rfl rfl) rfl rfl (Nat.le_of_ble_eq_true rfl) dX12_one_60 ⟨by decide +kernel, by decide +kernel⟩ (fun r_3 u_1 hp_2 => ?_)
  subst hp_2
  show V _ _ _ _ _ _ _ _ _ _ _ _ _ _ (0, 0) [((q 42), .inl (K 3, 2, .inl (gl [0, 0]))), (h, .inr (12, fsM q th tp t 0 an)), ((q 7), .inl (K 0, 2, .inl (gl [0, 0])))] _ _ [.int 0, .int 0, .ref (q 42)]
  show V _ _ _ _ _ _ _ _ _ _ _ _ _ _ (0, 0) [((q 42), .inl (K 3, 2, .inl (gl [0, 0]))), (h, .inr (12, fsM q th tp t 0 an)), ((q 7), .inl (K 0, 2, .inl (gl [0, 0])))] _ _ _
  refine v_if_eq B (tgt := 83) dX12_one_63 (by decide +kernel) (fun _ => ?_) (fun h => absurd (by decide +kernel) h)
  refine v_iconst B (v := 0) dX12_one_83 (by decide +kernel) ?_
  refine v_zastL B (k0 := 0) (t0 := 3) (k := 0) (y := 0) (w' := [((q 42), .inl (K 3, 2, .inl (gl [0, 0]))), (h, .inr (12, fsM q th tp t 0 an)), ((q 7), .inl (K 0, 2, .inl (gl [0, 0])))]) rfl rfl (vpi (by decide +kernel)) (by decide +kernel) (Nat.le_of_ble_eq_true rfl) (by decide +kernel) rfl dX12_one_84 ?_
  refine v_aload_n B dX12_one_85 rfl rfl ?_
  refine v_get B (C := RX12) (T := TX12) (N := 123) (ci := 12) (k0 := 1) hi_m_one_X12 rfl rfl 42 (by decide +kernel) (List.mem_of_getElem? (i := 3) rfl) rfl dX12_one_86 ?_
  refine v_iload_n B dX12_one_89 rfl rfl ?_
  refine v_zald B (k0 := 0) (t0 := 3) (v := 0) rfl rfl (vpi (by decide +kernel)) rfl dX12_one_90 ?_
  refine v_if_eq B (tgt := 99) dX12_one_91 (by decide +kernel) (fun _ => ?_) (fun h => absurd (by decide +kernel) h)
  refine v_iinc B (k := 0) (v := 1) (lv' := [(1, .int 1), (0, .ref h)]) dX12_one_99 rfl (by decide +kernel) (by decide +kernel) rfl ?_
  refine v_goto B (tgt := 48) dX12_one_102 (by decide +kernel) ?_
  refine v_iload_n B dX12_one_48 rfl rfl ?_
  refine v_iconst B (v := 2) dX12_one_49 (by decide +kernel) ?_
  refine v_icmp_ge B (tgt := 105) dX12_one_50 (by decide +kernel) (fun h => absurd h (by decide +kernel)) (fun _ => ?_)
  refine v_aload_n B dX12_one_53 rfl rfl ?_
  refine v_get B (C := RX12) (T := TX12) (N := 123) (ci := 12) (k0 := 1) hi_m_one_X12 rfl rfl 42 (by decide +kernel) (List.mem_of_getElem? (i := 3) rfl) rfl dX12_one_54 ?_
  refine v_iload_n B dX12_one_57 rfl rfl ?_
  refine v_aload_n B dX12_one_58 rfl rfl ?_
  refine v_iload_n B dX12_one_59 rfl rfl ?_
  refine v_callVi B (b := h) (n := 1) (As := [.int 1]) (rest := [.int 1, .ref (q 42)]) (wc := [(h, .inr (12, fsM q th tp t 0 an)), ((q 7), .inl (K 0, 2, .inl (gl [0, 0])))]) (wr := [((q 42), .inl (K 3, 2, .inl (gl [0, 0])))]) (m_isLk_1 l D K h q th tp t 0 an) gd_m_one_m_isLk_1_662 rfl rfl rfl (by decide +kernel) ⟨by decide +kernel, by decide +kernel⟩ 0 rfl rfl rfl (sp_pl [1, 2] [0] rfl rfl rfl rfl rfl) rfl rfl (Nat.le_of_ble_eq_true rfl) dX12_one_60 ⟨by decide +kernel, by decide +kernel⟩ (fun r_6 u_4 hp_5 => ?_)
  subst hp_5
  show V _ _ _ _ _ _ _ _ _ _ _ _ _ _ (0, 0) [((q 42), .inl (K 3, 2, .inl (gl [0, 0]))), (h, .inr (12, fsM q th tp t 0 an)), ((q 7), .inl (K 0, 2, .inl (gl [0, 0])))] _ _ [.int 0, .int 1, .ref (q 42)]
  show V _ _ _ _ _ _ _ _ _ _ _ _ _ _ (0, 0) [((q 42), .inl (K 3, 2, .inl (gl [0, 0]))), (h, .inr (12, fsM q th tp t 0 an)), ((q 7), .inl (K 0, 2, .inl (gl [0, 0])))] _ _ _
  refine v_if_eq B (tgt := 83) dX12_one_63 (by decide +kernel) (fun _ => ?_) (fun h => absurd (by decide +kernel) h)
  refine v_iconst B (v := 0) dX12_one_83 (by decide +kernel) ?_
  refine v_zastL B (k0 := 0) (t0 := 3) (k := 1) (y := 0) (w' := [((q 42), .inl (K 3, 2, .inl (gl [0, 0]))), (h, .inr (12, fsM q th tp t 0 an)), ((q 7), .inl (K 0, 2, .inl (gl [0, 0])))]) rfl rfl (vpi (by decide +kernel)) (by decide +kernel) (Nat.le_of_ble_eq_true rfl) (by decide +kernel) rfl dX12_one_84 ?_
  refine v_aload_n B dX12_one_85 rfl rfl ?_
  refine v_get B (C := RX12) (T := TX12) (N := 123) (ci := 12) (k0 := 1) hi_m_one_X12 rfl rfl 42 (by decide +kernel) (List.mem_of_getElem? (i := 3) rfl) rfl dX12_one_86 ?_
  refine v_iload_n B dX12_one_89 rfl rfl ?_
  refine v_zald B (k0 := 0) (t0 := 3) (v := 0) rfl rfl (vpi (by decide +kernel)) rfl dX12_one_90 ?_
  refine v_if_eq B (tgt := 99) dX12_one_91 (by decide +kernel) (fun _ => ?_) (fun h => absurd (by decide +kernel) h)
  refine v_iinc B (k := 0) (v := 2) (lv' := [(1, .int 2), (0, .ref h)]) dX12_one_99 rfl (by decide +kernel) (by decide +kernel) rfl ?_
  refine v_goto B (tgt := 48) dX12_one_102 (by decide +kernel) ?_
  refine v_iload_n B dX12_one_48 rfl rfl ?_
  refine v_iconst B (v := 2) dX12_one_49 (by decide +kernel) ?_
  refine v_icmp_ge B (tgt := 105) dX12_one_50 (by decide +kernel) (fun _ => ?_) (fun h => absurd (by decide +kernel) h)
  refine v_iconst B (v := 0) dX12_one_105 (by decide +kernel) ?_
  refine v_istore_n B (lv' := [(1, .int 0), (0, .ref h)]) dX12_one_106 rfl (by decide +kernel) rfl ?_
  refine v_iload_n B dX12_one_107 rfl rfl ?_
  refine v_iconst B (v := 2) dX12_one_108 (by decide +kernel) ?_
  refine v_icmp_ge B (tgt := 142) dX12_one_109 (by decide +kernel) (fun h => absurd h (by decide +kernel)) (fun _ => ?_)
  refine v_aload_n B dX12_one_112 rfl rfl ?_
  refine v_get B (C := RX12) (T := TX12) (N := 123) (ci := 12) (k0 := 1) hi_m_one_X12 rfl rfl 42 (by decide +kernel) (List.mem_of_getElem? (i := 3) rfl) rfl dX12_one_113 ?_
  refine v_iload_n B dX12_one_116 rfl rfl ?_
  refine v_zald B (k0 := 0) (t0 := 3) (v := 0) rfl rfl (vpi (by decide +kernel)) rfl dX12_one_117 ?_
  refine v_if_eq B (tgt := 136) dX12_one_118 (by decide +kernel) (fun _ => ?_) (fun h => absurd (by decide +kernel) h)
  refine v_iinc B (k := 0) (v := 1) (lv' := [(1, .int 1), (0, .ref h)]) dX12_one_136 rfl (by decide +kernel) (by decide +kernel) rfl ?_
  refine v_goto B (tgt := 107) dX12_one_139 (by decide +kernel) ?_
  refine v_iload_n B dX12_one_107 rfl rfl ?_
  refine v_iconst B (v := 2) dX12_one_108 (by decide +kernel) ?_
  refine v_icmp_ge B (tgt := 142) dX12_one_109 (by decide +kernel) (fun h => absurd h (by decide +kernel)) (fun _ => ?_)
  refine v_aload_n B dX12_one_112 rfl rfl ?_
  refine v_get B (C := RX12) (T := TX12) (N := 123) (ci := 12) (k0 := 1) hi_m_one_X12 rfl rfl 42 (by decide +kernel) (List.mem_of_getElem? (i := 3) rfl) rfl dX12_one_113 ?_
  refine v_iload_n B dX12_one_116 rfl rfl ?_
  refine v_zald B (k0 := 0) (t0 := 3) (v := 0) rfl rfl (vpi (by decide +kernel)) rfl dX12_one_117 ?_
  refine v_if_eq B (tgt := 136) dX12_one_118 (by decide +kernel) (fun _ => ?_) (fun h => absurd (by decide +kernel) h)
  refine v_iinc B (k := 0) (v := 2) (lv' := [(1, .int 2), (0, .ref h)]) dX12_one_136 rfl (by decide +kernel) (by decide +kernel) rfl ?_
  refine v_goto B (tgt := 107) dX12_one_139 (by decide +kernel) ?_
  refine v_iload_n B dX12_one_107 rfl rfl ?_
  refine v_iconst B (v := 2) dX12_one_108 (by decide +kernel) ?_
  refine v_icmp_ge B (tgt := 142) dX12_one_109 (by decide +kernel) (fun _ => ?_) (fun h => absurd (by decide +kernel) h)
  refine v_iconst B (v := 0) dX12_one_142 (by decide +kernel) ?_
  refine v_istore_n B (lv' := [(1, .int 0), (0, .ref h)]) dX12_one_143 rfl (by decide +kernel) rfl ?_
  refine v_iload_n B dX12_one_144 rfl rfl ?_
  refine v_iconst B (v := 2) dX12_one_145 (by decide +kernel) ?_
  refine v_icmp_ge B (tgt := 200) dX12_one_146 (by decide +kernel) (fun h => absurd h (by decide +kernel)) (fun _ => ?_)
  refine v_aload_n B dX12_one_149 rfl rfl ?_
  refine v_get B (C := RX12) (T := TX12) (N := 123) (ci := 12) (k0 := 1) hi_m_one_X12 rfl rfl 42 (by decide +kernel) (List.mem_of_getElem? (i := 3) rfl) rfl dX12_one_150 ?_
  refine v_iload_n B dX12_one_153 rfl rfl ?_
  refine v_zald B (k0 := 0) (t0 := 3) (v := 0) rfl rfl (vpi (by decide +kernel)) rfl dX12_one_154 ?_
  refine v_if_ne B (tgt := 161) dX12_one_155 (by decide +kernel) (fun h => absurd (by decide +kernel) h) (fun _ => ?_)
  refine v_goto B (tgt := 194) dX12_one_158 (by decide +kernel) ?_
  refine v_iinc B (k := 0) (v := 1) (lv' := [(1, .int 1), (0, .ref h)]) dX12_one_194 rfl (by decide +kernel) (by decide +kernel) rfl ?_
  refine v_goto B (tgt := 144) dX12_one_197 (by decide +kernel) ?_
  refine v_iload_n B dX12_one_144 rfl rfl ?_
  refine v_iconst B (v := 2) dX12_one_145 (by decide +kernel) ?_
  refine v_icmp_ge B (tgt := 200) dX12_one_146 (by decide +kernel) (fun h => absurd h (by decide +kernel)) (fun _ => ?_)
  refine v_aload_n B dX12_one_149 rfl rfl ?_
  refine v_get B (C := RX12) (T := TX12) (N := 123) (ci := 12) (k0 := 1) hi_m_one_X12 rfl rfl 42 (by decide +kernel) (List.mem_of_getElem? (i := 3) rfl) rfl dX12_one_150 ?_
  refine v_iload_n B dX12_one_153 rfl rfl ?_
  refine v_zald B (k0 := 0) (t0 := 3) (v := 0) rfl rfl (vpi (by decide +kernel)) rfl dX12_one_154 ?_
  refine v_if_ne B (tgt := 161) dX12_one_155 (by decide +kernel) (fun h => absurd (by decide +kernel) h) (fun _ => ?_)
  refine v_goto B (tgt := 194) dX12_one_158 (by decide +kernel) ?_
  refine v_iinc B (k := 0) (v := 2) (lv' := [(1, .int 2), (0, .ref h)]) dX12_one_194 rfl (by decide +kernel) (by decide +kernel) rfl ?_
  refine v_goto B (tgt := 144) dX12_one_197 (by decide +kernel) ?_
  refine v_iload_n B dX12_one_144 rfl rfl ?_
  refine v_iconst B (v := 2) dX12_one_145 (by decide +kernel) ?_
  refine v_icmp_ge B (tgt := 200) dX12_one_146 (by decide +kernel) (fun _ => ?_) (fun h => absurd (by decide +kernel) h)
  refine v_iconst B (v := 0) dX12_one_200 (by decide +kernel) ?_
  refine v_istore_n B (lv' := [(1, .int 0), (0, .ref h)]) dX12_one_201 rfl (by decide +kernel) rfl ?_
  refine v_iload_n B dX12_one_202 rfl rfl ?_
  refine v_iconst B (v := 2) dX12_one_203 (by decide +kernel) ?_
  refine v_icmp_ge B (tgt := 226) dX12_one_204 (by decide +kernel) (fun h => absurd h (by decide +kernel)) (fun _ => ?_)
  refine v_aload_n B dX12_one_207 rfl rfl ?_
  refine v_iload_n B dX12_one_208 rfl rfl ?_
  refine v_callVi B (b := h) (n := 1) (As := [.int 0]) (rest := []) (wc := [(h, .inr (12, fsM q th tp t 0 an)), ((q 7), .inl (K 0, 2, .inl (gl [0, 0])))]) (wr := [((q 42), .inl (K 3, 2, .inl (gl [0, 0])))]) (m_isLk_0 l D K h q th tp t 0 an) gd_m_one_m_isLk_0_662 rfl rfl rfl (by decide +kernel) ⟨by decide +kernel, by decide +kernel⟩ 0 rfl rfl rfl (sp_pl [1, 2] [0] rfl rfl rfl rfl rfl) rfl rfl (Nat.le_of_ble_eq_true rfl) dX12_one_209 ⟨by decide +kernel, by decide +kernel⟩ (fun r_9 u_7 hp_8 => ?_)
  subst hp_8
  show V _ _ _ _ _ _ _ _ _ _ _ _ _ _ (0, 0) [((q 42), .inl (K 3, 2, .inl (gl [0, 0]))), (h, .inr (12, fsM q th tp t 0 an)), ((q 7), .inl (K 0, 2, .inl (gl [0, 0])))] _ _ [.int 0]
  show V _ _ _ _ _ _ _ _ _ _ _ _ _ _ (0, 0) [((q 42), .inl (K 3, 2, .inl (gl [0, 0]))), (h, .inr (12, fsM q th tp t 0 an)), ((q 7), .inl (K 0, 2, .inl (gl [0, 0])))] _ _ _
  refine v_if_eq B (tgt := 220) dX12_one_212 (by decide +kernel) (fun _ => ?_) (fun h => absurd (by decide +kernel) h)
  refine v_iinc B (k := 0) (v := 1) (lv' := [(1, .int 1), (0, .ref h)]) dX12_one_220 rfl (by decide +kernel) (by decide +kernel) rfl ?_
  refine v_goto B (tgt := 202) dX12_one_223 (by decide +kernel) ?_
  refine v_iload_n B dX12_one_202 rfl rfl ?_
  refine v_iconst B (v := 2) dX12_one_203 (by decide +kernel) ?_
  refine v_icmp_ge B (tgt := 226) dX12_one_204 (by decide +kernel) (fun h => absurd h (by decide +kernel)) (fun _ => ?_)
  refine v_aload_n B dX12_one_207 rfl rfl ?_
  refine v_iload_n B dX12_one_208 rfl rfl ?_
  refine v_callVi B (b := h) (n := 1) (As := [.int 1]) (rest := []) (wc := [(h, .inr (12, fsM q th tp t 0 an)), ((q 7), .inl (K 0, 2, .inl (gl [0, 0])))]) (wr := [((q 42), .inl (K 3, 2, .inl (gl [0, 0])))]) (m_isLk_1 l D K h q th tp t 0 an) gd_m_one_m_isLk_1_662 rfl rfl rfl (by decide +kernel) ⟨by decide +kernel, by decide +kernel⟩ 0 rfl rfl rfl (sp_pl [1, 2] [0] rfl rfl rfl rfl rfl) rfl rfl (Nat.le_of_ble_eq_true rfl) dX12_one_209 ⟨by decide +kernel, by decide +kernel⟩ (fun r_12 u_10 hp_11 => ?_)
  subst hp_11
  show V _ _ _ _ _ _ _ _ _ _ _ _ _ _ (0, 0) [((q 42), .inl (K 3, 2, .inl (gl [0, 0]))), (h, .inr (12, fsM q th tp t 0 an)), ((q 7), .inl (K 0, 2, .inl (gl [0, 0])))] _ _ [.int 0]
  show V _ _ _ _ _ _ _ _ _ _ _ _ _ _ (0, 0) [((q 42), .inl (K 3, 2, .inl (gl [0, 0]))), (h, .inr (12, fsM q th tp t 0 an)), ((q 7), .inl (K 0, 2, .inl (gl [0, 0])))] _ _ _
  refine v_if_eq B (tgt := 220) dX12_one_212 (by decide +kernel) (fun _ => ?_) (fun h => absurd (by decide +kernel) h)
  refine v_iinc B (k := 0) (v := 2) (lv' := [(1, .int 2), (0, .ref h)]) dX12_one_220 rfl (by decide +kernel) (by decide +kernel) rfl ?_
  refine v_goto B (tgt := 202) dX12_one_223 (by decide +kernel) ?_
  refine v_iload_n B dX12_one_202 rfl rfl ?_
  refine v_iconst B (v := 2) dX12_one_203 (by decide +kernel) ?_
  refine v_icmp_ge B (tgt := 226) dX12_one_204 (by decide +kernel) (fun _ => ?_) (fun h => absurd (by decide +kernel) h)
  refine v_aload_n B dX12_one_226 rfl rfl ?_
  refine v_dup B dX12_one_227 rfl ?_
  refine v_get B (C := RX12) (T := TX12) (N := 123) (ci := 12) (k0 := 1) hi_m_one_X12 rfl rfl 43 (by decide +kernel) (List.mem_of_getElem? (i := 9) rfl) rfl dX12_one_228 ?_
  refine v_iconst B (v := 1) dX12_one_231 (by decide +kernel) ?_
  refine v_iadd B (v := (t + 1)) dX12_one_232 rfl ?_
  refine v_put B (C := RX12) (T := TX12) (N := 123) (ci := 12) (k0 := 1) hi_m_one_X12 rfl rfl 43 (by decide +kernel) tyX12 tyX12_ok nmX12 (List.mem_of_getElem? (i := 9) rfl) rfl (ty := .int) (tyX12_ok 43 (by decide +kernel)) rfl rfl (Nat.le_of_ble_eq_true rfl) (w' := [((q 42), .inl (K 3, 2, .inl (gl [0, 0]))), (h, .inr (12, fsM q th tp (t + 1) 0 an)), ((q 7), .inl (K 0, 2, .inl (gl [0, 0])))]) rfl dX12_one_233 ?_
  refine v_forget (wc := [(h, .inr (12, fsM q th tp (t + 1) 0 an)), ((q 7), .inl (K 0, 2, .inl (gl [0, 0]))), ((q 42), .inl (K 3, 2, .inl (gl [0, 0])))]) (wr := []) (sp_pl [1, 2, 0] [] rfl rfl rfl rfl rfl) ?_
  exact v_vret B hr hlk () trivial rfl (by decide +kernel) (by decide +kernel) dX12_one_236

