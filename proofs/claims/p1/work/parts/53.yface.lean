def wp_m_copy0 : List Cond := .code yX12_copy cX12_copy 6 none :: ([] ++ ([]))
set_option maxHeartbeats 4000000 in
set_option maxRecDepth 100000 in
theorem m_copy0 (l : Launch) (D : va_G) (K : Nat → ClassId) (a : Nat) (b : Nat) (x : Int32) (y : Int32) : MG l yX12_copy wp_m_copy0 ({ frames := 0, cells := 0, slots := 0, locals := 0 }) D (tysA K) [.ref a, .int x, .ref b, .int y, .int 0] [] (Qv D (fun _ : Unit => True) (fun _ => [])) 0 0 := by
  refine mg_of (cc := cX12_copy) (maxL := 6) (ret := none) (by decide +kernel) rfl (Nat.le_of_ble_eq_true rfl) ?_
  intro p e s m below meth c A B hr hlk hnam
  show V _ _ _ _ _ _ _ _ _ _ _ _ _ _ _ _ [(0, .ref a), (1, .int x), (2, .ref b), (3, .int y), (4, .int 0)] _ _
  refine v_iconst B (v := 0) dX12_copy_0 (by decide +kernel) ?_
  refine v_istore B (lv' := [(5, .int 0), (0, .ref a), (1, .int x), (2, .ref b), (3, .int y), (4, .int 0)]) dX12_copy_1 (by decide +kernel) rfl ?_
  refine v_iload B dX12_copy_3 rfl ?_
  refine v_iload B dX12_copy_5 rfl ?_
  refine v_icmp_ge B (tgt := 28) dX12_copy_7 (by decide +kernel) (fun _ => ?_) (fun h => absurd (by decide +kernel) h)
  exact v_vret B hr hlk () trivial rfl (by decide +kernel) (by decide +kernel) dX12_copy_28

def wp_y_byteOf : List Cond := .code yX12_byteOf cX12_byteOf 4 (some .int) :: ([.fieldLink RX12 1 "LowEnergyModel" "thrown" "I", .methodLink RX12 413 yX12_in, .static yX12_in, .initialized RX12, .code yX12_in cX12_in 2 (some .boolean), .fieldLink RX12 91 "LowEnergyModel" "reportMany" "[I", .fieldLink RX12 245 "LowEnergyModel" "hasKey" "[Z", .fieldLink RX12 242 "LowEnergyModel" "hasSession" "[Z", .fieldLink RX12 7 "LowEnergyModel" "taped" "I"] ++ (wsX120 ++ ([])))
theorem hi_y_byteOf_X12 : ∀ x ∈ u_ws RX12 TX12 123, x ∈ wp_y_byteOf := fun _ h => List.mem_cons_of_mem _ (List.mem_append_right _ (List.mem_append_left _ h))
set_option maxRecDepth 100000 in
theorem gd_y_byteOf_m_in_T_413 : GoodIn wp_y_byteOf (va_wsS RX12 413 yX12_in wp_m_in_T) := goodIn_app (goodIn_r _ [2, 3, 4] rfl rfl) (goodIn_ca (goodIn_r _ [5] rfl rfl) (goodIn_nil))
set_option maxRecDepth 100000 in
theorem gd_y_byteOf_m_in_F1_413 : GoodIn wp_y_byteOf (va_wsS RX12 413 yX12_in wp_m_in_F1) := goodIn_app (goodIn_r _ [2, 3, 4] rfl rfl) (goodIn_ca (goodIn_r _ [5] rfl rfl) (goodIn_nil))
set_option maxRecDepth 100000 in
theorem gd_y_byteOf_m_in_F2_413 : GoodIn wp_y_byteOf (va_wsS RX12 413 yX12_in wp_m_in_F2) := goodIn_app (goodIn_r _ [2, 3, 4] rfl rfl) (goodIn_ca (goodIn_r _ [5] rfl rfl) (goodIn_nil))
set_option maxHeartbeats 4000000 in
set_option maxRecDepth 100000 in
theorem y_byteOf (l : Launch) (D : va_G) (K : Nat → ClassId) (h : Nat) (q : Nat → Nat) (fa : Int64) (sa : Int64) (d : Int32) (w : Int32) (i : Int32) : MG l yX12_byteOf wp_y_byteOf ({ frames := 1, cells := 0, slots := 0, locals := 21 }) D (tysA K) [.ref h, .int d, .int w, .int i] [(h, .inr (12, fsM q 0 0 0 0 0)), ((q 22), .inl (K 0, 2, .inl (gl [0, 0]))), ((q 75), .inl (K 3, 2, .inl (gl [0, 0]))), ((q 74), .inl (K 3, 2, .inl (gl [0, 0])))] (Qi D (fun (r : Int32) (_ : Unit) => r = an_byteOf d w i) (fun _ => [])) 0 0 := by
  refine mg_of (cc := cX12_byteOf) (maxL := 4) (ret := (some .int)) (by decide +kernel) rfl (Nat.le_of_ble_eq_true rfl) ?_
  intro p e s m below meth c A B hr hlk hnam
  show V _ _ _ _ _ _ _ _ _ _ _ _ _ _ _ _ [(0, .ref h), (1, .int d), (2, .int w), (3, .int i)] _ _
  by_cases h0 : d = 0
  · subst h0
    by_cases e_i : i < 0
    · skip
      refine v_aload_n B dX12_byteOf_0 rfl rfl ?_
      refine v_iconst B (v := 0) dX12_byteOf_1 (by decide +kernel) ?_
      refine v_put B (C := RX12) (T := TX12) (N := 123) (ci := 12) (k0 := 0) hi_y_byteOf_X12 rfl rfl 0 (by decide +kernel) tyX12 tyX12_ok nmX12 (List.mem_of_getElem? (i := 1) rfl) rfl (ty := .int) (tyX12_ok 0 (by decide +kernel)) rfl rfl (Nat.le_of_ble_eq_true rfl) (w' := [(h, .inr (12, fsM q 0 0 0 0 0)), ((q 22), .inl (K 0, 2, .inl (gl [0, 0]))), ((q 75), .inl (K 3, 2, .inl (gl [0, 0]))), ((q 74), .inl (K 3, 2, .inl (gl [0, 0])))]) rfl dX12_byteOf_2 ?_
      refine v_iload_n B dX12_byteOf_5 rfl rfl ?_
      refine v_iconst B (v := 2) dX12_byteOf_6 (by decide +kernel) ?_
      refine v_callSi B (n := 2) (As := [.int 0, .int 2]) (rest := []) (wc := []) (wr := [(h, .inr (12, fsM q 0 0 0 0 0)), ((q 22), .inl (K 0, 2, .inl (gl [0, 0]))), ((q 75), .inl (K 3, 2, .inl (gl [0, 0]))), ((q 74), .inl (K 3, 2, .inl (gl [0, 0])))]) (m_in_T l D K 0 2 (by decide +kernel) (by decide +kernel)) gd_y_byteOf_m_in_T_413 rfl rfl rfl (by decide +kernel) ⟨by decide +kernel, by decide +kernel⟩ (sp_pl [] [0, 1, 2, 3] rfl rfl rfl rfl rfl) rfl rfl (Nat.le_of_ble_eq_true rfl) dX12_byteOf_7 ⟨by decide +kernel, by decide +kernel⟩ (fun r_3 u_1 hp_2 => ?_)
      subst hp_2
      show V _ _ _ _ _ _ _ _ _ _ _ _ _ _ (0, 0) [(h, .inr (12, fsM q 0 0 0 0 0)), ((q 22), .inl (K 0, 2, .inl (gl [0, 0]))), ((q 75), .inl (K 3, 2, .inl (gl [0, 0]))), ((q 74), .inl (K 3, 2, .inl (gl [0, 0])))] _ _ [.int 1]
      show V _ _ _ _ _ _ _ _ _ _ _ _ _ _ (0, 0) [(h, .inr (12, fsM q 0 0 0 0 0)), ((q 22), .inl (K 0, 2, .inl (gl [0, 0]))), ((q 75), .inl (K 3, 2, .inl (gl [0, 0]))), ((q 74), .inl (K 3, 2, .inl (gl [0, 0])))] _ _ _
      refine v_if_eq B (tgt := 17) dX12_byteOf_10 (by decide +kernel) (fun h => absurd h (by decide +kernel)) (fun _ => ?_)
      refine v_iload_n B dX12_byteOf_13 rfl rfl ?_
      refine v_if_ge B (tgt := 19) dX12_byteOf_14 (by decide +kernel) (fun h => absurd h (rg_nge e_i (by decide +kernel))) (fun _ => ?_)
      refine v_iconst B (v := (-1)) dX12_byteOf_17 (by decide +kernel) ?_
      refine v_forget (wc := []) (wr := []) (sp_pl [] [] rfl rfl rfl rfl rfl) ?_
      exact v_iret B hr hlk () rfl rfl (by decide +kernel) (by decide +kernel) dX12_byteOf_18
    · skip
      rcases pk_ix w (n := 5) (by decide +kernel) with hw | hw | ⟨j, hj, rfl⟩
      · skip
        refine v_aload_n B dX12_byteOf_0 rfl rfl ?_
        refine v_iconst B (v := 0) dX12_byteOf_1 (by decide +kernel) ?_
        refine v_put B (C := RX12) (T := TX12) (N := 123) (ci := 12) (k0 := 0) hi_y_byteOf_X12 rfl rfl 0 (by decide +kernel) tyX12 tyX12_ok nmX12 (List.mem_of_getElem? (i := 1) rfl) rfl (ty := .int) (tyX12_ok 0 (by decide +kernel)) rfl rfl (Nat.le_of_ble_eq_true rfl) (w' := [(h, .inr (12, fsM q 0 0 0 0 0)), ((q 22), .inl (K 0, 2, .inl (gl [0, 0]))), ((q 75), .inl (K 3, 2, .inl (gl [0, 0]))), ((q 74), .inl (K 3, 2, .inl (gl [0, 0])))]) rfl dX12_byteOf_2 ?_
        refine v_iload_n B dX12_byteOf_5 rfl rfl ?_
        refine v_iconst B (v := 2) dX12_byteOf_6 (by decide +kernel) ?_
        refine v_callSi B (n := 2) (As := [.int 0, .int 2]) (rest := []) (wc := []) (wr := [(h, .inr (12, fsM q 0 0 0 0 0)), ((q 22), .inl (K 0, 2, .inl (gl [0, 0]))), ((q 75), .inl (K 3, 2, .inl (gl [0, 0]))), ((q 74), .inl (K 3, 2, .inl (gl [0, 0])))]) (m_in_T l D K 0 2 (by decide +kernel) (by decide +kernel)) gd_y_byteOf_m_in_T_413 rfl rfl rfl (by decide +kernel) ⟨by decide +kernel, by decide +kernel⟩ (sp_pl [] [0, 1, 2, 3] rfl rfl rfl rfl rfl) rfl rfl (Nat.le_of_ble_eq_true rfl) dX12_byteOf_7 ⟨by decide +kernel, by decide +kernel⟩ (fun r_6 u_4 hp_5 => ?_)
        subst hp_5
        show V _ _ _ _ _ _ _ _ _ _ _ _ _ _ (0, 0) [(h, .inr (12, fsM q 0 0 0 0 0)), ((q 22), .inl (K 0, 2, .inl (gl [0, 0]))), ((q 75), .inl (K 3, 2, .inl (gl [0, 0]))), ((q 74), .inl (K 3, 2, .inl (gl [0, 0])))] _ _ [.int 1]
        show V _ _ _ _ _ _ _ _ _ _ _ _ _ _ (0, 0) [(h, .inr (12, fsM q 0 0 0 0 0)), ((q 22), .inl (K 0, 2, .inl (gl [0, 0]))), ((q 75), .inl (K 3, 2, .inl (gl [0, 0]))), ((q 74), .inl (K 3, 2, .inl (gl [0, 0])))] _ _ _
        refine v_if_eq B (tgt := 17) dX12_byteOf_10 (by decide +kernel) (fun h => absurd h (by decide +kernel)) (fun _ => ?_)
        refine v_iload_n B dX12_byteOf_13 rfl rfl ?_
        refine v_if_ge B (tgt := 19) dX12_byteOf_14 (by decide +kernel) (fun _ => ?_) (fun h => absurd (rg_ge (Int32.not_lt.mp e_i) (by decide +kernel)) h)
        refine v_iload_n B dX12_byteOf_19 rfl rfl ?_
        refine v_iconst B (v := 4) dX12_byteOf_20 (by decide +kernel) ?_
        refine v_icmp_ne B (tgt := 47) dX12_byteOf_21 (by decide +kernel) (fun _ => ?_) (fun h => absurd h (rg_ne1 hw (by decide +kernel)))
        refine v_iload_n B dX12_byteOf_47 rfl rfl ?_
        refine v_tableOut B (tgt := 215) dX12_byteOf_48 (rg_o1 hw (by decide +kernel)) (by decide +kernel) ?_
        refine v_iconst B (v := (-1)) dX12_byteOf_215 (by decide +kernel) ?_
        refine v_forget (wc := []) (wr := []) (sp_pl [] [] rfl rfl rfl rfl rfl) ?_
        exact v_iret B hr hlk () rfl rfl (by decide +kernel) (by decide +kernel) dX12_byteOf_216
      · skip
        refine v_aload_n B dX12_byteOf_0 rfl rfl ?_
        refine v_iconst B (v := 0) dX12_byteOf_1 (by decide +kernel) ?_
        refine v_put B (C := RX12) (T := TX12) (N := 123) (ci := 12) (k0 := 0) hi_y_byteOf_X12 rfl rfl 0 (by decide +kernel) tyX12 tyX12_ok nmX12 (List.mem_of_getElem? (i := 1) rfl) rfl (ty := .int) (tyX12_ok 0 (by decide +kernel)) rfl rfl (Nat.le_of_ble_eq_true rfl) (w' := [(h, .inr (12, fsM q 0 0 0 0 0)), ((q 22), .inl (K 0, 2, .inl (gl [0, 0]))), ((q 75), .inl (K 3, 2, .inl (gl [0, 0]))), ((q 74), .inl (K 3, 2, .inl (gl [0, 0])))]) rfl dX12_byteOf_2 ?_
        refine v_iload_n B dX12_byteOf_5 rfl rfl ?_
        refine v_iconst B (v := 2) dX12_byteOf_6 (by decide +kernel) ?_
        refine v_callSi B (n := 2) (As := [.int 0, .int 2]) (rest := []) (wc := []) (wr := [(h, .inr (12, fsM q 0 0 0 0 0)), ((q 22), .inl (K 0, 2, .inl (gl [0, 0]))), ((q 75), .inl (K 3, 2, .inl (gl [0, 0]))), ((q 74), .inl (K 3, 2, .inl (gl [0, 0])))]) (m_in_T l D K 0 2 (by decide +kernel) (by decide +kernel)) gd_y_byteOf_m_in_T_413 rfl rfl rfl (by decide +kernel) ⟨by decide +kernel, by decide +kernel⟩ (sp_pl [] [0, 1, 2, 3] rfl rfl rfl rfl rfl) rfl rfl (Nat.le_of_ble_eq_true rfl) dX12_byteOf_7 ⟨by decide +kernel, by decide +kernel⟩ (fun r_9 u_7 hp_8 => ?_)
        subst hp_8
        show V _ _ _ _ _ _ _ _ _ _ _ _ _ _ (0, 0) [(h, .inr (12, fsM q 0 0 0 0 0)), ((q 22), .inl (K 0, 2, .inl (gl [0, 0]))), ((q 75), .inl (K 3, 2, .inl (gl [0, 0]))), ((q 74), .inl (K 3, 2, .inl (gl [0, 0])))] _ _ [.int 1]
        show V _ _ _ _ _ _ _ _ _ _ _ _ _ _ (0, 0) [(h, .inr (12, fsM q 0 0 0 0 0)), ((q 22), .inl (K 0, 2, .inl (gl [0, 0]))), ((q 75), .inl (K 3, 2, .inl (gl [0, 0]))), ((q 74), .inl (K 3, 2, .inl (gl [0, 0])))] _ _ _
        refine v_if_eq B (tgt := 17) dX12_byteOf_10 (by decide +kernel) (fun h => absurd h (by decide +kernel)) (fun _ => ?_)
        refine v_iload_n B dX12_byteOf_13 rfl rfl ?_
        refine v_if_ge B (tgt := 19) dX12_byteOf_14 (by decide +kernel) (fun _ => ?_) (fun h => absurd (rg_ge (Int32.not_lt.mp e_i) (by decide +kernel)) h)
        refine v_iload_n B dX12_byteOf_19 rfl rfl ?_
        refine v_iconst B (v := 4) dX12_byteOf_20 (by decide +kernel) ?_
        refine v_icmp_ne B (tgt := 47) dX12_byteOf_21 (by decide +kernel) (fun _ => ?_) (fun h => absurd h (rg_ne2 hw (by decide +kernel)))
        refine v_iload_n B dX12_byteOf_47 rfl rfl ?_
        refine v_tableOut B (tgt := 215) dX12_byteOf_48 (rg_o2 hw (by decide +kernel)) (by decide +kernel) ?_
        refine v_iconst B (v := (-1)) dX12_byteOf_215 (by decide +kernel) ?_
        refine v_forget (wc := []) (wr := []) (sp_pl [] [] rfl rfl rfl rfl rfl) ?_
        exact v_iret B hr hlk () rfl rfl (by decide +kernel) (by decide +kernel) dX12_byteOf_216
      · rcases (show j = 0 ∨ j = 1 ∨ j = 2 ∨ j = 3 ∨ j = 4 by omega) with rfl | rfl | rfl | rfl | rfl
        · show V _ _ _ _ _ _ _ _ _ _ _ _ _ _ _ _ [(0, .ref h), (1, .int 0), (2, .int 0), (3, .int i)] _ _
          refine v_aload_n B dX12_byteOf_0 rfl rfl ?_
          refine v_iconst B (v := 0) dX12_byteOf_1 (by decide +kernel) ?_
          refine v_put B (C := RX12) (T := TX12) (N := 123) (ci := 12) (k0 := 0) hi_y_byteOf_X12 rfl rfl 0 (by decide +kernel) tyX12 tyX12_ok nmX12 (List.mem_of_getElem? (i := 1) rfl) rfl (ty := .int) (tyX12_ok 0 (by decide +kernel)) rfl rfl (Nat.le_of_ble_eq_true rfl) (w' := [(h, .inr (12, fsM q 0 0 0 0 0)), ((q 22), .inl (K 0, 2, .inl (gl [0, 0]))), ((q 75), .inl (K 3, 2, .inl (gl [0, 0]))), ((q 74), .inl (K 3, 2, .inl (gl [0, 0])))]) rfl dX12_byteOf_2 ?_
          refine v_iload_n B dX12_byteOf_5 rfl rfl ?_
          refine v_iconst B (v := 2) dX12_byteOf_6 (by decide +kernel) ?_
          refine v_callSi B (n := 2) (As := [.int 0, .int 2]) (rest := []) (wc := []) (wr := [(h, .inr (12, fsM q 0 0 0 0 0)), ((q 22), .inl (K 0, 2, .inl (gl [0, 0]))), ((q 75), .inl (K 3, 2, .inl (gl [0, 0]))), ((q 74), .inl (K 3, 2, .inl (gl [0, 0])))]) (m_in_T l D K 0 2 (by decide +kernel) (by decide +kernel)) gd_y_byteOf_m_in_T_413 rfl rfl rfl (by decide +kernel) ⟨by decide +kernel, by decide +kernel⟩ (sp_pl [] [0, 1, 2, 3] rfl rfl rfl rfl rfl) rfl rfl (Nat.le_of_ble_eq_true rfl) dX12_byteOf_7 ⟨by decide +kernel, by decide +kernel⟩ (fun r_12 u_10 hp_11 => ?_)
          subst hp_11
          show V _ _ _ _ _ _ _ _ _ _ _ _ _ _ (0, 0) [(h, .inr (12, fsM q 0 0 0 0 0)), ((q 22), .inl (K 0, 2, .inl (gl [0, 0]))), ((q 75), .inl (K 3, 2, .inl (gl [0, 0]))), ((q 74), .inl (K 3, 2, .inl (gl [0, 0])))] _ _ [.int 1]
          show V _ _ _ _ _ _ _ _ _ _ _ _ _ _ (0, 0) [(h, .inr (12, fsM q 0 0 0 0 0)), ((q 22), .inl (K 0, 2, .inl (gl [0, 0]))), ((q 75), .inl (K 3, 2, .inl (gl [0, 0]))), ((q 74), .inl (K 3, 2, .inl (gl [0, 0])))] _ _ _
          refine v_if_eq B (tgt := 17) dX12_byteOf_10 (by decide +kernel) (fun h => absurd h (by decide +kernel)) (fun _ => ?_)
          refine v_iload_n B dX12_byteOf_13 rfl rfl ?_
          refine v_if_ge B (tgt := 19) dX12_byteOf_14 (by decide +kernel) (fun _ => ?_) (fun h => absurd (rg_ge (Int32.not_lt.mp e_i) (by decide +kernel)) h)
          refine v_iload_n B dX12_byteOf_19 rfl rfl ?_
          refine v_iconst B (v := 4) dX12_byteOf_20 (by decide +kernel) ?_
          refine v_icmp_ne B (tgt := 47) dX12_byteOf_21 (by decide +kernel) (fun _ => ?_) (fun h => absurd h (by decide +kernel))
          refine v_iload_n B dX12_byteOf_47 rfl rfl ?_
          refine v_tableIn B (off := 32) (tgt := 80) dX12_byteOf_48 (by decide +kernel) (by decide +kernel) (by decide +kernel) (by decide +kernel) ?_
          refine v_iload_n B dX12_byteOf_80 rfl rfl ?_
          refine v_aload_n B dX12_byteOf_81 rfl rfl ?_
          refine v_get B (C := RX12) (T := TX12) (N := 123) (ci := 12) (k0 := 0) hi_y_byteOf_X12 rfl rfl 22 (by decide +kernel) (List.mem_of_getElem? (i := 6) rfl) rfl dX12_byteOf_82 ?_
          refine v_iload_n B dX12_byteOf_85 rfl rfl ?_
          refine v_iald B (k0 := 1) (t0 := 0) (v := 0) rfl rfl (vpi (by decide +kernel)) rfl dX12_byteOf_86 ?_
          refine v_icmp_ge B (tgt := 108) dX12_byteOf_87 (by decide +kernel) (fun _ => ?_) (fun h => absurd (rg_ge (Int32.not_lt.mp e_i) (by decide +kernel)) h)
          refine v_iconst B (v := (-1)) dX12_byteOf_108 (by decide +kernel) ?_
          refine v_forget (wc := []) (wr := []) (sp_pl [] [] rfl rfl rfl rfl rfl) ?_
          exact v_iret B hr hlk () rfl rfl (by decide +kernel) (by decide +kernel) dX12_byteOf_109
        · show V _ _ _ _ _ _ _ _ _ _ _ _ _ _ _ _ [(0, .ref h), (1, .int 0), (2, .int 1), (3, .int i)] _ _
          refine v_aload_n B dX12_byteOf_0 rfl rfl ?_
          refine v_iconst B (v := 0) dX12_byteOf_1 (by decide +kernel) ?_
          refine v_put B (C := RX12) (T := TX12) (N := 123) (ci := 12) (k0 := 0) hi_y_byteOf_X12 rfl rfl 0 (by decide +kernel) tyX12 tyX12_ok nmX12 (List.mem_of_getElem? (i := 1) rfl) rfl (ty := .int) (tyX12_ok 0 (by decide +kernel)) rfl rfl (Nat.le_of_ble_eq_true rfl) (w' := [(h, .inr (12, fsM q 0 0 0 0 0)), ((q 22), .inl (K 0, 2, .inl (gl [0, 0]))), ((q 75), .inl (K 3, 2, .inl (gl [0, 0]))), ((q 74), .inl (K 3, 2, .inl (gl [0, 0])))]) rfl dX12_byteOf_2 ?_
          refine v_iload_n B dX12_byteOf_5 rfl rfl ?_
          refine v_iconst B (v := 2) dX12_byteOf_6 (by decide +kernel) ?_
          refine v_callSi B (n := 2) (As := [.int 0, .int 2]) (rest := []) (wc := []) (wr := [(h, .inr (12, fsM q 0 0 0 0 0)), ((q 22), .inl (K 0, 2, .inl (gl [0, 0]))), ((q 75), .inl (K 3, 2, .inl (gl [0, 0]))), ((q 74), .inl (K 3, 2, .inl (gl [0, 0])))]) (m_in_T l D K 0 2 (by decide +kernel) (by decide +kernel)) gd_y_byteOf_m_in_T_413 rfl rfl rfl (by decide +kernel) ⟨by decide +kernel, by decide +kernel⟩ (sp_pl [] [0, 1, 2, 3] rfl rfl rfl rfl rfl) rfl rfl (Nat.le_of_ble_eq_true rfl) dX12_byteOf_7 ⟨by decide +kernel, by decide +kernel⟩ (fun r_15 u_13 hp_14 => ?_)
          subst hp_14
          show V _ _ _ _ _ _ _ _ _ _ _ _ _ _ (0, 0) [(h, .inr (12, fsM q 0 0 0 0 0)), ((q 22), .inl (K 0, 2, .inl (gl [0, 0]))), ((q 75), .inl (K 3, 2, .inl (gl [0, 0]))), ((q 74), .inl (K 3, 2, .inl (gl [0, 0])))] _ _ [.int 1]
          show V _ _ _ _ _ _ _ _ _ _ _ _ _ _ (0, 0) [(h, .inr (12, fsM q 0 0 0 0 0)), ((q 22), .inl (K 0, 2, .inl (gl [0, 0]))), ((q 75), .inl (K 3, 2, .inl (gl [0, 0]))), ((q 74), .inl (K 3, 2, .inl (gl [0, 0])))] _ _ _
          refine v_if_eq B (tgt := 17) dX12_byteOf_10 (by decide +kernel) (fun h => absurd h (by decide +kernel)) (fun _ => ?_)
          refine v_iload_n B dX12_byteOf_13 rfl rfl ?_
          refine v_if_ge B (tgt := 19) dX12_byteOf_14 (by decide +kernel) (fun _ => ?_) (fun h => absurd (rg_ge (Int32.not_lt.mp e_i) (by decide +kernel)) h)
          refine v_iload_n B dX12_byteOf_19 rfl rfl ?_
          refine v_iconst B (v := 4) dX12_byteOf_20 (by decide +kernel) ?_
          refine v_icmp_ne B (tgt := 47) dX12_byteOf_21 (by decide +kernel) (fun _ => ?_) (fun h => absurd h (by decide +kernel))
          refine v_iload_n B dX12_byteOf_47 rfl rfl ?_
          refine v_tableIn B (off := 62) (tgt := 110) dX12_byteOf_48 (by decide +kernel) (by decide +kernel) (by decide +kernel) (by decide +kernel) ?_
          refine v_iload_n B dX12_byteOf_110 rfl rfl ?_
          refine v_bipush B (v := 16) dX12_byteOf_111 (by decide +kernel) ?_
          refine v_icmp_ge B (tgt := 143) dX12_byteOf_113 (by decide +kernel) (fun c_16 => ?_) (fun c_16 => ?_)
          · refine v_iconst B (v := (-1)) dX12_byteOf_143 (by decide +kernel) ?_
            refine v_forget (wc := []) (wr := []) (sp_pl [] [] rfl rfl rfl rfl rfl) ?_
            exact v_iret B hr hlk () rfl rfl (by decide +kernel) (by decide +kernel) dX12_byteOf_144
          · refine v_aload_n B dX12_byteOf_116 rfl rfl ?_
            refine v_get B (C := RX12) (T := TX12) (N := 123) (ci := 12) (k0 := 0) hi_y_byteOf_X12 rfl rfl 75 (by decide +kernel) (List.mem_of_getElem? (i := 7) rfl) rfl dX12_byteOf_117 ?_
            refine v_iload_n B dX12_byteOf_120 rfl rfl ?_
            refine v_zald B (k0 := 2) (t0 := 3) (v := 0) rfl rfl (vpi (by decide +kernel)) rfl dX12_byteOf_121 ?_
            refine v_if_eq B (tgt := 143) dX12_byteOf_122 (by decide +kernel) (fun _ => ?_) (fun h => absurd (by decide +kernel) h)
            refine v_iconst B (v := (-1)) dX12_byteOf_143 (by decide +kernel) ?_
            refine v_forget (wc := []) (wr := []) (sp_pl [] [] rfl rfl rfl rfl rfl) ?_
            exact v_iret B hr hlk () rfl rfl (by decide +kernel) (by decide +kernel) dX12_byteOf_144
        · show V _ _ _ _ _ _ _ _ _ _ _ _ _ _ _ _ [(0, .ref h), (1, .int 0), (2, .int 2), (3, .int i)] _ _
          refine v_aload_n B dX12_byteOf_0 rfl rfl ?_
          refine v_iconst B (v := 0) dX12_byteOf_1 (by decide +kernel) ?_
          refine v_put B (C := RX12) (T := TX12) (N := 123) (ci := 12) (k0 := 0) hi_y_byteOf_X12 rfl rfl 0 (by decide +kernel) tyX12 tyX12_ok nmX12 (List.mem_of_getElem? (i := 1) rfl) rfl (ty := .int) (tyX12_ok 0 (by decide +kernel)) rfl rfl (Nat.le_of_ble_eq_true rfl) (w' := [(h, .inr (12, fsM q 0 0 0 0 0)), ((q 22), .inl (K 0, 2, .inl (gl [0, 0]))), ((q 75), .inl (K 3, 2, .inl (gl [0, 0]))), ((q 74), .inl (K 3, 2, .inl (gl [0, 0])))]) rfl dX12_byteOf_2 ?_
          refine v_iload_n B dX12_byteOf_5 rfl rfl ?_
          refine v_iconst B (v := 2) dX12_byteOf_6 (by decide +kernel) ?_
          refine v_callSi B (n := 2) (As := [.int 0, .int 2]) (rest := []) (wc := []) (wr := [(h, .inr (12, fsM q 0 0 0 0 0)), ((q 22), .inl (K 0, 2, .inl (gl [0, 0]))), ((q 75), .inl (K 3, 2, .inl (gl [0, 0]))), ((q 74), .inl (K 3, 2, .inl (gl [0, 0])))]) (m_in_T l D K 0 2 (by decide +kernel) (by decide +kernel)) gd_y_byteOf_m_in_T_413 rfl rfl rfl (by decide +kernel) ⟨by decide +kernel, by decide +kernel⟩ (sp_pl [] [0, 1, 2, 3] rfl rfl rfl rfl rfl) rfl rfl (Nat.le_of_ble_eq_true rfl) dX12_byteOf_7 ⟨by decide +kernel, by decide +kernel⟩ (fun r_19 u_17 hp_18 => ?_)
          subst hp_18
          show V _ _ _ _ _ _ _ _ _ _ _ _ _ _ (0, 0) [(h, .inr (12, fsM q 0 0 0 0 0)), ((q 22), .inl (K 0, 2, .inl (gl [0, 0]))), ((q 75), .inl (K 3, 2, .inl (gl [0, 0]))), ((q 74), .inl (K 3, 2, .inl (gl [0, 0])))] _ _ [.int 1]
          show V _ _ _ _ _ _ _ _ _ _ _ _ _ _ (0, 0) [(h, .inr (12, fsM q 0 0 0 0 0)), ((q 22), .inl (K 0, 2, .inl (gl [0, 0]))), ((q 75), .inl (K 3, 2, .inl (gl [0, 0]))), ((q 74), .inl (K 3, 2, .inl (gl [0, 0])))] _ _ _
          refine v_if_eq B (tgt := 17) dX12_byteOf_10 (by decide +kernel) (fun h => absurd h (by decide +kernel)) (fun _ => ?_)
          refine v_iload_n B dX12_byteOf_13 rfl rfl ?_
          refine v_if_ge B (tgt := 19) dX12_byteOf_14 (by decide +kernel) (fun _ => ?_) (fun h => absurd (rg_ge (Int32.not_lt.mp e_i) (by decide +kernel)) h)
          refine v_iload_n B dX12_byteOf_19 rfl rfl ?_
          refine v_iconst B (v := 4) dX12_byteOf_20 (by decide +kernel) ?_
          refine v_icmp_ne B (tgt := 47) dX12_byteOf_21 (by decide +kernel) (fun _ => ?_) (fun h => absurd h (by decide +kernel))
          refine v_iload_n B dX12_byteOf_47 rfl rfl ?_
          refine v_tableIn B (off := 97) (tgt := 145) dX12_byteOf_48 (by decide +kernel) (by decide +kernel) (by decide +kernel) (by decide +kernel) ?_
          refine v_iload_n B dX12_byteOf_145 rfl rfl ?_
          refine v_bipush B (v := 16) dX12_byteOf_146 (by decide +kernel) ?_
          refine v_icmp_ge B (tgt := 178) dX12_byteOf_148 (by decide +kernel) (fun c_20 => ?_) (fun c_20 => ?_)
          · refine v_iconst B (v := (-1)) dX12_byteOf_178 (by decide +kernel) ?_
            refine v_forget (wc := []) (wr := []) (sp_pl [] [] rfl rfl rfl rfl rfl) ?_
            exact v_iret B hr hlk () rfl rfl (by decide +kernel) (by decide +kernel) dX12_byteOf_179
          · refine v_aload_n B dX12_byteOf_151 rfl rfl ?_
            refine v_get B (C := RX12) (T := TX12) (N := 123) (ci := 12) (k0 := 0) hi_y_byteOf_X12 rfl rfl 74 (by decide +kernel) (List.mem_of_getElem? (i := 8) rfl) rfl dX12_byteOf_152 ?_
            refine v_iload_n B dX12_byteOf_155 rfl rfl ?_
            refine v_zald B (k0 := 3) (t0 := 3) (v := 0) rfl rfl (vpi (by decide +kernel)) rfl dX12_byteOf_156 ?_
            refine v_if_eq B (tgt := 178) dX12_byteOf_157 (by decide +kernel) (fun _ => ?_) (fun h => absurd (by decide +kernel) h)
            refine v_iconst B (v := (-1)) dX12_byteOf_178 (by decide +kernel) ?_
            refine v_forget (wc := []) (wr := []) (sp_pl [] [] rfl rfl rfl rfl rfl) ?_
            exact v_iret B hr hlk () rfl rfl (by decide +kernel) (by decide +kernel) dX12_byteOf_179
        · show V _ _ _ _ _ _ _ _ _ _ _ _ _ _ _ _ [(0, .ref h), (1, .int 0), (2, .int 3), (3, .int i)] _ _
          refine v_aload_n B dX12_byteOf_0 rfl rfl ?_
          refine v_iconst B (v := 0) dX12_byteOf_1 (by decide +kernel) ?_
          refine v_put B (C := RX12) (T := TX12) (N := 123) (ci := 12) (k0 := 0) hi_y_byteOf_X12 rfl rfl 0 (by decide +kernel) tyX12 tyX12_ok nmX12 (List.mem_of_getElem? (i := 1) rfl) rfl (ty := .int) (tyX12_ok 0 (by decide +kernel)) rfl rfl (Nat.le_of_ble_eq_true rfl) (w' := [(h, .inr (12, fsM q 0 0 0 0 0)), ((q 22), .inl (K 0, 2, .inl (gl [0, 0]))), ((q 75), .inl (K 3, 2, .inl (gl [0, 0]))), ((q 74), .inl (K 3, 2, .inl (gl [0, 0])))]) rfl dX12_byteOf_2 ?_
          refine v_iload_n B dX12_byteOf_5 rfl rfl ?_
          refine v_iconst B (v := 2) dX12_byteOf_6 (by decide +kernel) ?_
          refine v_callSi B (n := 2) (As := [.int 0, .int 2]) (rest := []) (wc := []) (wr := [(h, .inr (12, fsM q 0 0 0 0 0)), ((q 22), .inl (K 0, 2, .inl (gl [0, 0]))), ((q 75), .inl (K 3, 2, .inl (gl [0, 0]))), ((q 74), .inl (K 3, 2, .inl (gl [0, 0])))]) (m_in_T l D K 0 2 (by decide +kernel) (by decide +kernel)) gd_y_byteOf_m_in_T_413 rfl rfl rfl (by decide +kernel) ⟨by decide +kernel, by decide +kernel⟩ (sp_pl [] [0, 1, 2, 3] rfl rfl rfl rfl rfl) rfl rfl (Nat.le_of_ble_eq_true rfl) dX12_byteOf_7 ⟨by decide +kernel, by decide +kernel⟩ (fun r_23 u_21 hp_22 => ?_)
          subst hp_22
          show V _ _ _ _ _ _ _ _ _ _ _ _ _ _ (0, 0) [(h, .inr (12, fsM q 0 0 0 0 0)), ((q 22), .inl (K 0, 2, .inl (gl [0, 0]))), ((q 75), .inl (K 3, 2, .inl (gl [0, 0]))), ((q 74), .inl (K 3, 2, .inl (gl [0, 0])))] _ _ [.int 1]
          show V _ _ _ _ _ _ _ _ _ _ _ _ _ _ (0, 0) [(h, .inr (12, fsM q 0 0 0 0 0)), ((q 22), .inl (K 0, 2, .inl (gl [0, 0]))), ((q 75), .inl (K 3, 2, .inl (gl [0, 0]))), ((q 74), .inl (K 3, 2, .inl (gl [0, 0])))] _ _ _
          refine v_if_eq B (tgt := 17) dX12_byteOf_10 (by decide +kernel) (fun h => absurd h (by decide +kernel)) (fun _ => ?_)
          refine v_iload_n B dX12_byteOf_13 rfl rfl ?_
          refine v_if_ge B (tgt := 19) dX12_byteOf_14 (by decide +kernel) (fun _ => ?_) (fun h => absurd (rg_ge (Int32.not_lt.mp e_i) (by decide +kernel)) h)
          refine v_iload_n B dX12_byteOf_19 rfl rfl ?_
          refine v_iconst B (v := 4) dX12_byteOf_20 (by decide +kernel) ?_
          refine v_icmp_ne B (tgt := 47) dX12_byteOf_21 (by decide +kernel) (fun _ => ?_) (fun h => absurd h (by decide +kernel))
          refine v_iload_n B dX12_byteOf_47 rfl rfl ?_
          refine v_tableIn B (off := 132) (tgt := 180) dX12_byteOf_48 (by decide +kernel) (by decide +kernel) (by decide +kernel) (by decide +kernel) ?_
          refine v_iload_n B dX12_byteOf_180 rfl rfl ?_
          refine v_bipush B (v := 8) dX12_byteOf_181 (by decide +kernel) ?_
          refine v_icmp_ge B (tgt := 213) dX12_byteOf_183 (by decide +kernel) (fun c_24 => ?_) (fun c_24 => ?_)
          · refine v_iconst B (v := (-1)) dX12_byteOf_213 (by decide +kernel) ?_
            refine v_forget (wc := []) (wr := []) (sp_pl [] [] rfl rfl rfl rfl rfl) ?_
            exact v_iret B hr hlk () rfl rfl (by decide +kernel) (by decide +kernel) dX12_byteOf_214
          · refine v_aload_n B dX12_byteOf_186 rfl rfl ?_
            refine v_get B (C := RX12) (T := TX12) (N := 123) (ci := 12) (k0 := 0) hi_y_byteOf_X12 rfl rfl 74 (by decide +kernel) (List.mem_of_getElem? (i := 8) rfl) rfl dX12_byteOf_187 ?_
            refine v_iload_n B dX12_byteOf_190 rfl rfl ?_
            refine v_zald B (k0 := 3) (t0 := 3) (v := 0) rfl rfl (vpi (by decide +kernel)) rfl dX12_byteOf_191 ?_
            refine v_if_eq B (tgt := 213) dX12_byteOf_192 (by decide +kernel) (fun _ => ?_) (fun h => absurd (by decide +kernel) h)
            refine v_iconst B (v := (-1)) dX12_byteOf_213 (by decide +kernel) ?_
            refine v_forget (wc := []) (wr := []) (sp_pl [] [] rfl rfl rfl rfl rfl) ?_
            exact v_iret B hr hlk () rfl rfl (by decide +kernel) (by decide +kernel) dX12_byteOf_214
        · show V _ _ _ _ _ _ _ _ _ _ _ _ _ _ _ _ [(0, .ref h), (1, .int 0), (2, .int 4), (3, .int i)] _ _
          refine v_aload_n B dX12_byteOf_0 rfl rfl ?_
          refine v_iconst B (v := 0) dX12_byteOf_1 (by decide +kernel) ?_
          refine v_put B (C := RX12) (T := TX12) (N := 123) (ci := 12) (k0 := 0) hi_y_byteOf_X12 rfl rfl 0 (by decide +kernel) tyX12 tyX12_ok nmX12 (List.mem_of_getElem? (i := 1) rfl) rfl (ty := .int) (tyX12_ok 0 (by decide +kernel)) rfl rfl (Nat.le_of_ble_eq_true rfl) (w' := [(h, .inr (12, fsM q 0 0 0 0 0)), ((q 22), .inl (K 0, 2, .inl (gl [0, 0]))), ((q 75), .inl (K 3, 2, .inl (gl [0, 0]))), ((q 74), .inl (K 3, 2, .inl (gl [0, 0])))]) rfl dX12_byteOf_2 ?_
          refine v_iload_n B dX12_byteOf_5 rfl rfl ?_
          refine v_iconst B (v := 2) dX12_byteOf_6 (by decide +kernel) ?_
          refine v_callSi B (n := 2) (As := [.int 0, .int 2]) (rest := []) (wc := []) (wr := [(h, .inr (12, fsM q 0 0 0 0 0)), ((q 22), .inl (K 0, 2, .inl (gl [0, 0]))), ((q 75), .inl (K 3, 2, .inl (gl [0, 0]))), ((q 74), .inl (K 3, 2, .inl (gl [0, 0])))]) (m_in_T l D K 0 2 (by decide +kernel) (by decide +kernel)) gd_y_byteOf_m_in_T_413 rfl rfl rfl (by decide +kernel) ⟨by decide +kernel, by decide +kernel⟩ (sp_pl [] [0, 1, 2, 3] rfl rfl rfl rfl rfl) rfl rfl (Nat.le_of_ble_eq_true rfl) dX12_byteOf_7 ⟨by decide +kernel, by decide +kernel⟩ (fun r_27 u_25 hp_26 => ?_)
          subst hp_26
          show V _ _ _ _ _ _ _ _ _ _ _ _ _ _ (0, 0) [(h, .inr (12, fsM q 0 0 0 0 0)), ((q 22), .inl (K 0, 2, .inl (gl [0, 0]))), ((q 75), .inl (K 3, 2, .inl (gl [0, 0]))), ((q 74), .inl (K 3, 2, .inl (gl [0, 0])))] _ _ [.int 1]
          show V _ _ _ _ _ _ _ _ _ _ _ _ _ _ (0, 0) [(h, .inr (12, fsM q 0 0 0 0 0)), ((q 22), .inl (K 0, 2, .inl (gl [0, 0]))), ((q 75), .inl (K 3, 2, .inl (gl [0, 0]))), ((q 74), .inl (K 3, 2, .inl (gl [0, 0])))] _ _ _
          refine v_if_eq B (tgt := 17) dX12_byteOf_10 (by decide +kernel) (fun h => absurd h (by decide +kernel)) (fun _ => ?_)
          refine v_iload_n B dX12_byteOf_13 rfl rfl ?_
          refine v_if_ge B (tgt := 19) dX12_byteOf_14 (by decide +kernel) (fun _ => ?_) (fun h => absurd (rg_ge (Int32.not_lt.mp e_i) (by decide +kernel)) h)
          refine v_iload_n B dX12_byteOf_19 rfl rfl ?_
          refine v_iconst B (v := 4) dX12_byteOf_20 (by decide +kernel) ?_
          refine v_icmp_ne B (tgt := 47) dX12_byteOf_21 (by decide +kernel) (fun h => absurd (by decide +kernel) h) (fun _ => ?_)
          refine v_iload_n B dX12_byteOf_24 rfl rfl ?_
          refine v_aload_n B dX12_byteOf_25 rfl rfl ?_
          refine v_get B (C := RX12) (T := TX12) (N := 123) (ci := 12) (k0 := 0) hi_y_byteOf_X12 rfl rfl 2 (by decide +kernel) (List.mem_of_getElem? (i := 9) rfl) rfl dX12_byteOf_26 ?_
          refine v_icmp_ge B (tgt := 45) dX12_byteOf_29 (by decide +kernel) (fun _ => ?_) (fun h => absurd (rg_ge (Int32.not_lt.mp e_i) (by decide +kernel)) h)
          refine v_iconst B (v := (-1)) dX12_byteOf_45 (by decide +kernel) ?_
          refine v_forget (wc := []) (wr := []) (sp_pl [] [] rfl rfl rfl rfl rfl) ?_
          exact v_iret B hr hlk () rfl rfl (by decide +kernel) (by decide +kernel) dX12_byteOf_46
  · skip
    by_cases h1 : d = 1
    · subst h1
      by_cases e_i : i < 0
      · skip
        refine v_aload_n B dX12_byteOf_0 rfl rfl ?_
        refine v_iconst B (v := 0) dX12_byteOf_1 (by decide +kernel) ?_
        refine v_put B (C := RX12) (T := TX12) (N := 123) (ci := 12) (k0 := 0) hi_y_byteOf_X12 rfl rfl 0 (by decide +kernel) tyX12 tyX12_ok nmX12 (List.mem_of_getElem? (i := 1) rfl) rfl (ty := .int) (tyX12_ok 0 (by decide +kernel)) rfl rfl (Nat.le_of_ble_eq_true rfl) (w' := [(h, .inr (12, fsM q 0 0 0 0 0)), ((q 22), .inl (K 0, 2, .inl (gl [0, 0]))), ((q 75), .inl (K 3, 2, .inl (gl [0, 0]))), ((q 74), .inl (K 3, 2, .inl (gl [0, 0])))]) rfl dX12_byteOf_2 ?_
        refine v_iload_n B dX12_byteOf_5 rfl rfl ?_
        refine v_iconst B (v := 2) dX12_byteOf_6 (by decide +kernel) ?_
        refine v_callSi B (n := 2) (As := [.int 1, .int 2]) (rest := []) (wc := []) (wr := [(h, .inr (12, fsM q 0 0 0 0 0)), ((q 22), .inl (K 0, 2, .inl (gl [0, 0]))), ((q 75), .inl (K 3, 2, .inl (gl [0, 0]))), ((q 74), .inl (K 3, 2, .inl (gl [0, 0])))]) (m_in_T l D K 1 2 (by decide +kernel) (by decide +kernel)) gd_y_byteOf_m_in_T_413 rfl rfl rfl (by decide +kernel) ⟨by decide +kernel, by decide +kernel⟩ (sp_pl [] [0, 1, 2, 3] rfl rfl rfl rfl rfl) rfl rfl (Nat.le_of_ble_eq_true rfl) dX12_byteOf_7 ⟨by decide +kernel, by decide +kernel⟩ (fun r_30 u_28 hp_29 => ?_)
        subst hp_29
        show V _ _ _ _ _ _ _ _ _ _ _ _ _ _ (0, 0) [(h, .inr (12, fsM q 0 0 0 0 0)), ((q 22), .inl (K 0, 2, .inl (gl [0, 0]))), ((q 75), .inl (K 3, 2, .inl (gl [0, 0]))), ((q 74), .inl (K 3, 2, .inl (gl [0, 0])))] _ _ [.int 1]
        show V _ _ _ _ _ _ _ _ _ _ _ _ _ _ (0, 0) [(h, .inr (12, fsM q 0 0 0 0 0)), ((q 22), .inl (K 0, 2, .inl (gl [0, 0]))), ((q 75), .inl (K 3, 2, .inl (gl [0, 0]))), ((q 74), .inl (K 3, 2, .inl (gl [0, 0])))] _ _ _
        refine v_if_eq B (tgt := 17) dX12_byteOf_10 (by decide +kernel) (fun h => absurd h (by decide +kernel)) (fun _ => ?_)
        refine v_iload_n B dX12_byteOf_13 rfl rfl ?_
        refine v_if_ge B (tgt := 19) dX12_byteOf_14 (by decide +kernel) (fun h => absurd h (rg_nge e_i (by decide +kernel))) (fun _ => ?_)
        refine v_iconst B (v := (-1)) dX12_byteOf_17 (by decide +kernel) ?_
        refine v_forget (wc := []) (wr := []) (sp_pl [] [] rfl rfl rfl rfl rfl) ?_
        exact v_iret B hr hlk () rfl rfl (by decide +kernel) (by decide +kernel) dX12_byteOf_18
      · skip
        rcases pk_ix w (n := 5) (by decide +kernel) with hw | hw | ⟨j, hj, rfl⟩
        · skip
          refine v_aload_n B dX12_byteOf_0 rfl rfl ?_
          refine v_iconst B (v := 0) dX12_byteOf_1 (by decide +kernel) ?_
          refine v_put B (C := RX12) (T := TX12) (N := 123) (ci := 12) (k0 := 0) hi_y_byteOf_X12 rfl rfl 0 (by decide +kernel) tyX12 tyX12_ok nmX12 (List.mem_of_getElem? (i := 1) rfl) rfl (ty := .int) (tyX12_ok 0 (by decide +kernel)) rfl rfl (Nat.le_of_ble_eq_true rfl) (w' := [(h, .inr (12, fsM q 0 0 0 0 0)), ((q 22), .inl (K 0, 2, .inl (gl [0, 0]))), ((q 75), .inl (K 3, 2, .inl (gl [0, 0]))), ((q 74), .inl (K 3, 2, .inl (gl [0, 0])))]) rfl dX12_byteOf_2 ?_
          refine v_iload_n B dX12_byteOf_5 rfl rfl ?_
          refine v_iconst B (v := 2) dX12_byteOf_6 (by decide +kernel) ?_
          refine v_callSi B (n := 2) (As := [.int 1, .int 2]) (rest := []) (wc := []) (wr := [(h, .inr (12, fsM q 0 0 0 0 0)), ((q 22), .inl (K 0, 2, .inl (gl [0, 0]))), ((q 75), .inl (K 3, 2, .inl (gl [0, 0]))), ((q 74), .inl (K 3, 2, .inl (gl [0, 0])))]) (m_in_T l D K 1 2 (by decide +kernel) (by decide +kernel)) gd_y_byteOf_m_in_T_413 rfl rfl rfl (by decide +kernel) ⟨by decide +kernel, by decide +kernel⟩ (sp_pl [] [0, 1, 2, 3] rfl rfl rfl rfl rfl) rfl rfl (Nat.le_of_ble_eq_true rfl) dX12_byteOf_7 ⟨by decide +kernel, by decide +kernel⟩ (fun r_33 u_31 hp_32 => ?_)
          subst hp_32
          show V _ _ _ _ _ _ _ _ _ _ _ _ _ _ (0, 0) [(h, .inr (12, fsM q 0 0 0 0 0)), ((q 22), .inl (K 0, 2, .inl (gl [0, 0]))), ((q 75), .inl (K 3, 2, .inl (gl [0, 0]))), ((q 74), .inl (K 3, 2, .inl (gl [0, 0])))] _ _ [.int 1]
          show V _ _ _ _ _ _ _ _ _ _ _ _ _ _ (0, 0) [(h, .inr (12, fsM q 0 0 0 0 0)), ((q 22), .inl (K 0, 2, .inl (gl [0, 0]))), ((q 75), .inl (K 3, 2, .inl (gl [0, 0]))), ((q 74), .inl (K 3, 2, .inl (gl [0, 0])))] _ _ _
          refine v_if_eq B (tgt := 17) dX12_byteOf_10 (by decide +kernel) (fun h => absurd h (by decide +kernel)) (fun _ => ?_)
          refine v_iload_n B dX12_byteOf_13 rfl rfl ?_
          refine v_if_ge B (tgt := 19) dX12_byteOf_14 (by decide +kernel) (fun _ => ?_) (fun h => absurd (rg_ge (Int32.not_lt.mp e_i) (by decide +kernel)) h)
          refine v_iload_n B dX12_byteOf_19 rfl rfl ?_
          refine v_iconst B (v := 4) dX12_byteOf_20 (by decide +kernel) ?_
          refine v_icmp_ne B (tgt := 47) dX12_byteOf_21 (by decide +kernel) (fun _ => ?_) (fun h => absurd h (rg_ne1 hw (by decide +kernel)))
          refine v_iload_n B dX12_byteOf_47 rfl rfl ?_
          refine v_tableOut B (tgt := 215) dX12_byteOf_48 (rg_o1 hw (by decide +kernel)) (by decide +kernel) ?_
          refine v_iconst B (v := (-1)) dX12_byteOf_215 (by decide +kernel) ?_
          refine v_forget (wc := []) (wr := []) (sp_pl [] [] rfl rfl rfl rfl rfl) ?_
          exact v_iret B hr hlk () rfl rfl (by decide +kernel) (by decide +kernel) dX12_byteOf_216
        · skip
          refine v_aload_n B dX12_byteOf_0 rfl rfl ?_
          refine v_iconst B (v := 0) dX12_byteOf_1 (by decide +kernel) ?_
          refine v_put B (C := RX12) (T := TX12) (N := 123) (ci := 12) (k0 := 0) hi_y_byteOf_X12 rfl rfl 0 (by decide +kernel) tyX12 tyX12_ok nmX12 (List.mem_of_getElem? (i := 1) rfl) rfl (ty := .int) (tyX12_ok 0 (by decide +kernel)) rfl rfl (Nat.le_of_ble_eq_true rfl) (w' := [(h, .inr (12, fsM q 0 0 0 0 0)), ((q 22), .inl (K 0, 2, .inl (gl [0, 0]))), ((q 75), .inl (K 3, 2, .inl (gl [0, 0]))), ((q 74), .inl (K 3, 2, .inl (gl [0, 0])))]) rfl dX12_byteOf_2 ?_
          refine v_iload_n B dX12_byteOf_5 rfl rfl ?_
          refine v_iconst B (v := 2) dX12_byteOf_6 (by decide +kernel) ?_
          refine v_callSi B (n := 2) (As := [.int 1, .int 2]) (rest := []) (wc := []) (wr := [(h, .inr (12, fsM q 0 0 0 0 0)), ((q 22), .inl (K 0, 2, .inl (gl [0, 0]))), ((q 75), .inl (K 3, 2, .inl (gl [0, 0]))), ((q 74), .inl (K 3, 2, .inl (gl [0, 0])))]) (m_in_T l D K 1 2 (by decide +kernel) (by decide +kernel)) gd_y_byteOf_m_in_T_413 rfl rfl rfl (by decide +kernel) ⟨by decide +kernel, by decide +kernel⟩ (sp_pl [] [0, 1, 2, 3] rfl rfl rfl rfl rfl) rfl rfl (Nat.le_of_ble_eq_true rfl) dX12_byteOf_7 ⟨by decide +kernel, by decide +kernel⟩ (fun r_36 u_34 hp_35 => ?_)
          subst hp_35
          show V _ _ _ _ _ _ _ _ _ _ _ _ _ _ (0, 0) [(h, .inr (12, fsM q 0 0 0 0 0)), ((q 22), .inl (K 0, 2, .inl (gl [0, 0]))), ((q 75), .inl (K 3, 2, .inl (gl [0, 0]))), ((q 74), .inl (K 3, 2, .inl (gl [0, 0])))] _ _ [.int 1]
          show V _ _ _ _ _ _ _ _ _ _ _ _ _ _ (0, 0) [(h, .inr (12, fsM q 0 0 0 0 0)), ((q 22), .inl (K 0, 2, .inl (gl [0, 0]))), ((q 75), .inl (K 3, 2, .inl (gl [0, 0]))), ((q 74), .inl (K 3, 2, .inl (gl [0, 0])))] _ _ _
          refine v_if_eq B (tgt := 17) dX12_byteOf_10 (by decide +kernel) (fun h => absurd h (by decide +kernel)) (fun _ => ?_)
          refine v_iload_n B dX12_byteOf_13 rfl rfl ?_
          refine v_if_ge B (tgt := 19) dX12_byteOf_14 (by decide +kernel) (fun _ => ?_) (fun h => absurd (rg_ge (Int32.not_lt.mp e_i) (by decide +kernel)) h)
          refine v_iload_n B dX12_byteOf_19 rfl rfl ?_
          refine v_iconst B (v := 4) dX12_byteOf_20 (by decide +kernel) ?_
          refine v_icmp_ne B (tgt := 47) dX12_byteOf_21 (by decide +kernel) (fun _ => ?_) (fun h => absurd h (rg_ne2 hw (by decide +kernel)))
          refine v_iload_n B dX12_byteOf_47 rfl rfl ?_
          refine v_tableOut B (tgt := 215) dX12_byteOf_48 (rg_o2 hw (by decide +kernel)) (by decide +kernel) ?_
          refine v_iconst B (v := (-1)) dX12_byteOf_215 (by decide +kernel) ?_
          refine v_forget (wc := []) (wr := []) (sp_pl [] [] rfl rfl rfl rfl rfl) ?_
          exact v_iret B hr hlk () rfl rfl (by decide +kernel) (by decide +kernel) dX12_byteOf_216
        · rcases (show j = 0 ∨ j = 1 ∨ j = 2 ∨ j = 3 ∨ j = 4 by omega) with rfl | rfl | rfl | rfl | rfl
          · show V _ _ _ _ _ _ _ _ _ _ _ _ _ _ _ _ [(0, .ref h), (1, .int 1), (2, .int 0), (3, .int i)] _ _
            refine v_aload_n B dX12_byteOf_0 rfl rfl ?_
            refine v_iconst B (v := 0) dX12_byteOf_1 (by decide +kernel) ?_
            refine v_put B (C := RX12) (T := TX12) (N := 123) (ci := 12) (k0 := 0) hi_y_byteOf_X12 rfl rfl 0 (by decide +kernel) tyX12 tyX12_ok nmX12 (List.mem_of_getElem? (i := 1) rfl) rfl (ty := .int) (tyX12_ok 0 (by decide +kernel)) rfl rfl (Nat.le_of_ble_eq_true rfl) (w' := [(h, .inr (12, fsM q 0 0 0 0 0)), ((q 22), .inl (K 0, 2, .inl (gl [0, 0]))), ((q 75), .inl (K 3, 2, .inl (gl [0, 0]))), ((q 74), .inl (K 3, 2, .inl (gl [0, 0])))]) rfl dX12_byteOf_2 ?_
            refine v_iload_n B dX12_byteOf_5 rfl rfl ?_
            refine v_iconst B (v := 2) dX12_byteOf_6 (by decide +kernel) ?_
            refine v_callSi B (n := 2) (As := [.int 1, .int 2]) (rest := []) (wc := []) (wr := [(h, .inr (12, fsM q 0 0 0 0 0)), ((q 22), .inl (K 0, 2, .inl (gl [0, 0]))), ((q 75), .inl (K 3, 2, .inl (gl [0, 0]))), ((q 74), .inl (K 3, 2, .inl (gl [0, 0])))]) (m_in_T l D K 1 2 (by decide +kernel) (by decide +kernel)) gd_y_byteOf_m_in_T_413 rfl rfl rfl (by decide +kernel) ⟨by decide +kernel, by decide +kernel⟩ (sp_pl [] [0, 1, 2, 3] rfl rfl rfl rfl rfl) rfl rfl (Nat.le_of_ble_eq_true rfl) dX12_byteOf_7 ⟨by decide +kernel, by decide +kernel⟩ (fun r_39 u_37 hp_38 => ?_)
            subst hp_38
            show V _ _ _ _ _ _ _ _ _ _ _ _ _ _ (0, 0) [(h, .inr (12, fsM q 0 0 0 0 0)), ((q 22), .inl (K 0, 2, .inl (gl [0, 0]))), ((q 75), .inl (K 3, 2, .inl (gl [0, 0]))), ((q 74), .inl (K 3, 2, .inl (gl [0, 0])))] _ _ [.int 1]
            show V _ _ _ _ _ _ _ _ _ _ _ _ _ _ (0, 0) [(h, .inr (12, fsM q 0 0 0 0 0)), ((q 22), .inl (K 0, 2, .inl (gl [0, 0]))), ((q 75), .inl (K 3, 2, .inl (gl [0, 0]))), ((q 74), .inl (K 3, 2, .inl (gl [0, 0])))] _ _ _
            refine v_if_eq B (tgt := 17) dX12_byteOf_10 (by decide +kernel) (fun h => absurd h (by decide +kernel)) (fun _ => ?_)
            refine v_iload_n B dX12_byteOf_13 rfl rfl ?_
            refine v_if_ge B (tgt := 19) dX12_byteOf_14 (by decide +kernel) (fun _ => ?_) (fun h => absurd (rg_ge (Int32.not_lt.mp e_i) (by decide +kernel)) h)
            refine v_iload_n B dX12_byteOf_19 rfl rfl ?_
            refine v_iconst B (v := 4) dX12_byteOf_20 (by decide +kernel) ?_
            refine v_icmp_ne B (tgt := 47) dX12_byteOf_21 (by decide +kernel) (fun _ => ?_) (fun h => absurd h (by decide +kernel))
            refine v_iload_n B dX12_byteOf_47 rfl rfl ?_
            refine v_tableIn B (off := 32) (tgt := 80) dX12_byteOf_48 (by decide +kernel) (by decide +kernel) (by decide +kernel) (by decide +kernel) ?_
            refine v_iload_n B dX12_byteOf_80 rfl rfl ?_
            refine v_aload_n B dX12_byteOf_81 rfl rfl ?_
            refine v_get B (C := RX12) (T := TX12) (N := 123) (ci := 12) (k0 := 0) hi_y_byteOf_X12 rfl rfl 22 (by decide +kernel) (List.mem_of_getElem? (i := 6) rfl) rfl dX12_byteOf_82 ?_
            refine v_iload_n B dX12_byteOf_85 rfl rfl ?_
            refine v_iald B (k0 := 1) (t0 := 0) (v := 0) rfl rfl (vpi (by decide +kernel)) rfl dX12_byteOf_86 ?_
            refine v_icmp_ge B (tgt := 108) dX12_byteOf_87 (by decide +kernel) (fun _ => ?_) (fun h => absurd (rg_ge (Int32.not_lt.mp e_i) (by decide +kernel)) h)
            refine v_iconst B (v := (-1)) dX12_byteOf_108 (by decide +kernel) ?_
            refine v_forget (wc := []) (wr := []) (sp_pl [] [] rfl rfl rfl rfl rfl) ?_
            exact v_iret B hr hlk () rfl rfl (by decide +kernel) (by decide +kernel) dX12_byteOf_109
          · show V _ _ _ _ _ _ _ _ _ _ _ _ _ _ _ _ [(0, .ref h), (1, .int 1), (2, .int 1), (3, .int i)] _ _
            refine v_aload_n B dX12_byteOf_0 rfl rfl ?_
            refine v_iconst B (v := 0) dX12_byteOf_1 (by decide +kernel) ?_
            refine v_put B (C := RX12) (T := TX12) (N := 123) (ci := 12) (k0 := 0) hi_y_byteOf_X12 rfl rfl 0 (by decide +kernel) tyX12 tyX12_ok nmX12 (List.mem_of_getElem? (i := 1) rfl) rfl (ty := .int) (tyX12_ok 0 (by decide +kernel)) rfl rfl (Nat.le_of_ble_eq_true rfl) (w' := [(h, .inr (12, fsM q 0 0 0 0 0)), ((q 22), .inl (K 0, 2, .inl (gl [0, 0]))), ((q 75), .inl (K 3, 2, .inl (gl [0, 0]))), ((q 74), .inl (K 3, 2, .inl (gl [0, 0])))]) rfl dX12_byteOf_2 ?_
            refine v_iload_n B dX12_byteOf_5 rfl rfl ?_
            refine v_iconst B (v := 2) dX12_byteOf_6 (by decide +kernel) ?_
            refine v_callSi B (n := 2) (As := [.int 1, .int 2]) (rest := []) (wc := []) (wr := [(h, .inr (12, fsM q 0 0 0 0 0)), ((q 22), .inl (K 0, 2, .inl (gl [0, 0]))), ((q 75), .inl (K 3, 2, .inl (gl [0, 0]))), ((q 74), .inl (K 3, 2, .inl (gl [0, 0])))]) (m_in_T l D K 1 2 (by decide +kernel) (by decide +kernel)) gd_y_byteOf_m_in_T_413 rfl rfl rfl (by decide +kernel) ⟨by decide +kernel, by decide +kernel⟩ (sp_pl [] [0, 1, 2, 3] rfl rfl rfl rfl rfl) rfl rfl (Nat.le_of_ble_eq_true rfl) dX12_byteOf_7 ⟨by decide +kernel, by decide +kernel⟩ (fun r_42 u_40 hp_41 => ?_)
            subst hp_41
            show V _ _ _ _ _ _ _ _ _ _ _ _ _ _ (0, 0) [(h, .inr (12, fsM q 0 0 0 0 0)), ((q 22), .inl (K 0, 2, .inl (gl [0, 0]))), ((q 75), .inl (K 3, 2, .inl (gl [0, 0]))), ((q 74), .inl (K 3, 2, .inl (gl [0, 0])))] _ _ [.int 1]
            show V _ _ _ _ _ _ _ _ _ _ _ _ _ _ (0, 0) [(h, .inr (12, fsM q 0 0 0 0 0)), ((q 22), .inl (K 0, 2, .inl (gl [0, 0]))), ((q 75), .inl (K 3, 2, .inl (gl [0, 0]))), ((q 74), .inl (K 3, 2, .inl (gl [0, 0])))] _ _ _
            refine v_if_eq B (tgt := 17) dX12_byteOf_10 (by decide +kernel) (fun h => absurd h (by decide +kernel)) (fun _ => ?_)
            refine v_iload_n B dX12_byteOf_13 rfl rfl ?_
            refine v_if_ge B (tgt := 19) dX12_byteOf_14 (by decide +kernel) (fun _ => ?_) (fun h => absurd (rg_ge (Int32.not_lt.mp e_i) (by decide +kernel)) h)
            refine v_iload_n B dX12_byteOf_19 rfl rfl ?_
            refine v_iconst B (v := 4) dX12_byteOf_20 (by decide +kernel) ?_
            refine v_icmp_ne B (tgt := 47) dX12_byteOf_21 (by decide +kernel) (fun _ => ?_) (fun h => absurd h (by decide +kernel))
            refine v_iload_n B dX12_byteOf_47 rfl rfl ?_
            refine v_tableIn B (off := 62) (tgt := 110) dX12_byteOf_48 (by decide +kernel) (by decide +kernel) (by decide +kernel) (by decide +kernel) ?_
            refine v_iload_n B dX12_byteOf_110 rfl rfl ?_
            refine v_bipush B (v := 16) dX12_byteOf_111 (by decide +kernel) ?_
            refine v_icmp_ge B (tgt := 143) dX12_byteOf_113 (by decide +kernel) (fun c_43 => ?_) (fun c_43 => ?_)
            · refine v_iconst B (v := (-1)) dX12_byteOf_143 (by decide +kernel) ?_
              refine v_forget (wc := []) (wr := []) (sp_pl [] [] rfl rfl rfl rfl rfl) ?_
              exact v_iret B hr hlk () rfl rfl (by decide +kernel) (by decide +kernel) dX12_byteOf_144
            · refine v_aload_n B dX12_byteOf_116 rfl rfl ?_
              refine v_get B (C := RX12) (T := TX12) (N := 123) (ci := 12) (k0 := 0) hi_y_byteOf_X12 rfl rfl 75 (by decide +kernel) (List.mem_of_getElem? (i := 7) rfl) rfl dX12_byteOf_117 ?_
              refine v_iload_n B dX12_byteOf_120 rfl rfl ?_
              refine v_zald B (k0 := 2) (t0 := 3) (v := 0) rfl rfl (vpi (by decide +kernel)) rfl dX12_byteOf_121 ?_
              refine v_if_eq B (tgt := 143) dX12_byteOf_122 (by decide +kernel) (fun _ => ?_) (fun h => absurd (by decide +kernel) h)
              refine v_iconst B (v := (-1)) dX12_byteOf_143 (by decide +kernel) ?_
              refine v_forget (wc := []) (wr := []) (sp_pl [] [] rfl rfl rfl rfl rfl) ?_
              exact v_iret B hr hlk () rfl rfl (by decide +kernel) (by decide +kernel) dX12_byteOf_144
          · show V _ _ _ _ _ _ _ _ _ _ _ _ _ _ _ _ [(0, .ref h), (1, .int 1), (2, .int 2), (3, .int i)] _ _
            refine v_aload_n B dX12_byteOf_0 rfl rfl ?_
            refine v_iconst B (v := 0) dX12_byteOf_1 (by decide +kernel) ?_
            refine v_put B (C := RX12) (T := TX12) (N := 123) (ci := 12) (k0 := 0) hi_y_byteOf_X12 rfl rfl 0 (by decide +kernel) tyX12 tyX12_ok nmX12 (List.mem_of_getElem? (i := 1) rfl) rfl (ty := .int) (tyX12_ok 0 (by decide +kernel)) rfl rfl (Nat.le_of_ble_eq_true rfl) (w' := [(h, .inr (12, fsM q 0 0 0 0 0)), ((q 22), .inl (K 0, 2, .inl (gl [0, 0]))), ((q 75), .inl (K 3, 2, .inl (gl [0, 0]))), ((q 74), .inl (K 3, 2, .inl (gl [0, 0])))]) rfl dX12_byteOf_2 ?_
            refine v_iload_n B dX12_byteOf_5 rfl rfl ?_
            refine v_iconst B (v := 2) dX12_byteOf_6 (by decide +kernel) ?_
            refine v_callSi B (n := 2) (As := [.int 1, .int 2]) (rest := []) (wc := []) (wr := [(h, .inr (12, fsM q 0 0 0 0 0)), ((q 22), .inl (K 0, 2, .inl (gl [0, 0]))), ((q 75), .inl (K 3, 2, .inl (gl [0, 0]))), ((q 74), .inl (K 3, 2, .inl (gl [0, 0])))]) (m_in_T l D K 1 2 (by decide +kernel) (by decide +kernel)) gd_y_byteOf_m_in_T_413 rfl rfl rfl (by decide +kernel) ⟨by decide +kernel, by decide +kernel⟩ (sp_pl [] [0, 1, 2, 3] rfl rfl rfl rfl rfl) rfl rfl (Nat.le_of_ble_eq_true rfl) dX12_byteOf_7 ⟨by decide +kernel, by decide +kernel⟩ (fun r_46 u_44 hp_45 => ?_)
            subst hp_45
            show V _ _ _ _ _ _ _ _ _ _ _ _ _ _ (0, 0) [(h, .inr (12, fsM q 0 0 0 0 0)), ((q 22), .inl (K 0, 2, .inl (gl [0, 0]))), ((q 75), .inl (K 3, 2, .inl (gl [0, 0]))), ((q 74), .inl (K 3, 2, .inl (gl [0, 0])))] _ _ [.int 1]
            show V _ _ _ _ _ _ _ _ _ _ _ _ _ _ (0, 0) [(h, .inr (12, fsM q 0 0 0 0 0)), ((q 22), .inl (K 0, 2, .inl (gl [0, 0]))), ((q 75), .inl (K 3, 2, .inl (gl [0, 0]))), ((q 74), .inl (K 3, 2, .inl (gl [0, 0])))] _ _ _
            refine v_if_eq B (tgt := 17) dX12_byteOf_10 (by decide +kernel) (fun h => absurd h (by decide +kernel)) (fun _ => ?_)
            refine v_iload_n B dX12_byteOf_13 rfl rfl ?_
            refine v_if_ge B (tgt := 19) dX12_byteOf_14 (by decide +kernel) (fun _ => ?_) (fun h => absurd (rg_ge (Int32.not_lt.mp e_i) (by decide +kernel)) h)
            refine v_iload_n B dX12_byteOf_19 rfl rfl ?_
            refine v_iconst B (v := 4) dX12_byteOf_20 (by decide +kernel) ?_
            refine v_icmp_ne B (tgt := 47) dX12_byteOf_21 (by decide +kernel) (fun _ => ?_) (fun h => absurd h (by decide +kernel))
            refine v_iload_n B dX12_byteOf_47 rfl rfl ?_
            refine v_tableIn B (off := 97) (tgt := 145) dX12_byteOf_48 (by decide +kernel) (by decide +kernel) (by decide +kernel) (by decide +kernel) ?_
            refine v_iload_n B dX12_byteOf_145 rfl rfl ?_
            refine v_bipush B (v := 16) dX12_byteOf_146 (by decide +kernel) ?_
            refine v_icmp_ge B (tgt := 178) dX12_byteOf_148 (by decide +kernel) (fun c_47 => ?_) (fun c_47 => ?_)
            · refine v_iconst B (v := (-1)) dX12_byteOf_178 (by decide +kernel) ?_
              refine v_forget (wc := []) (wr := []) (sp_pl [] [] rfl rfl rfl rfl rfl) ?_
              exact v_iret B hr hlk () rfl rfl (by decide +kernel) (by decide +kernel) dX12_byteOf_179
            · refine v_aload_n B dX12_byteOf_151 rfl rfl ?_
              refine v_get B (C := RX12) (T := TX12) (N := 123) (ci := 12) (k0 := 0) hi_y_byteOf_X12 rfl rfl 74 (by decide +kernel) (List.mem_of_getElem? (i := 8) rfl) rfl dX12_byteOf_152 ?_
              refine v_iload_n B dX12_byteOf_155 rfl rfl ?_
              refine v_zald B (k0 := 3) (t0 := 3) (v := 0) rfl rfl (vpi (by decide +kernel)) rfl dX12_byteOf_156 ?_
              refine v_if_eq B (tgt := 178) dX12_byteOf_157 (by decide +kernel) (fun _ => ?_) (fun h => absurd (by decide +kernel) h)
              refine v_iconst B (v := (-1)) dX12_byteOf_178 (by decide +kernel) ?_
              refine v_forget (wc := []) (wr := []) (sp_pl [] [] rfl rfl rfl rfl rfl) ?_
              exact v_iret B hr hlk () rfl rfl (by decide +kernel) (by decide +kernel) dX12_byteOf_179
          · show V _ _ _ _ _ _ _ _ _ _ _ _ _ _ _ _ [(0, .ref h), (1, .int 1), (2, .int 3), (3, .int i)] _ _
            refine v_aload_n B dX12_byteOf_0 rfl rfl ?_
            refine v_iconst B (v := 0) dX12_byteOf_1 (by decide +kernel) ?_
            refine v_put B (C := RX12) (T := TX12) (N := 123) (ci := 12) (k0 := 0) hi_y_byteOf_X12 rfl rfl 0 (by decide +kernel) tyX12 tyX12_ok nmX12 (List.mem_of_getElem? (i := 1) rfl) rfl (ty := .int) (tyX12_ok 0 (by decide +kernel)) rfl rfl (Nat.le_of_ble_eq_true rfl) (w' := [(h, .inr (12, fsM q 0 0 0 0 0)), ((q 22), .inl (K 0, 2, .inl (gl [0, 0]))), ((q 75), .inl (K 3, 2, .inl (gl [0, 0]))), ((q 74), .inl (K 3, 2, .inl (gl [0, 0])))]) rfl dX12_byteOf_2 ?_
            refine v_iload_n B dX12_byteOf_5 rfl rfl ?_
            refine v_iconst B (v := 2) dX12_byteOf_6 (by decide +kernel) ?_
            refine v_callSi B (n := 2) (As := [.int 1, .int 2]) (rest := []) (wc := []) (wr := [(h, .inr (12, fsM q 0 0 0 0 0)), ((q 22), .inl (K 0, 2, .inl (gl [0, 0]))), ((q 75), .inl (K 3, 2, .inl (gl [0, 0]))), ((q 74), .inl (K 3, 2, .inl (gl [0, 0])))]) (m_in_T l D K 1 2 (by decide +kernel) (by decide +kernel)) gd_y_byteOf_m_in_T_413 rfl rfl rfl (by decide +kernel) ⟨by decide +kernel, by decide +kernel⟩ (sp_pl [] [0, 1, 2, 3] rfl rfl rfl rfl rfl) rfl rfl (Nat.le_of_ble_eq_true rfl) dX12_byteOf_7 ⟨by decide +kernel, by decide +kernel⟩ (fun r_50 u_48 hp_49 => ?_)
            subst hp_49
            show V _ _ _ _ _ _ _ _ _ _ _ _ _ _ (0, 0) [(h, .inr (12, fsM q 0 0 0 0 0)), ((q 22), .inl (K 0, 2, .inl (gl [0, 0]))), ((q 75), .inl (K 3, 2, .inl (gl [0, 0]))), ((q 74), .inl (K 3, 2, .inl (gl [0, 0])))] _ _ [.int 1]
            show V _ _ _ _ _ _ _ _ _ _ _ _ _ _ (0, 0) [(h, .inr (12, fsM q 0 0 0 0 0)), ((q 22), .inl (K 0, 2, .inl (gl [0, 0]))), ((q 75), .inl (K 3, 2, .inl (gl [0, 0]))), ((q 74), .inl (K 3, 2, .inl (gl [0, 0])))] _ _ _
            refine v_if_eq B (tgt := 17) dX12_byteOf_10 (by decide +kernel) (fun h => absurd h (by decide +kernel)) (fun _ => ?_)
            refine v_iload_n B dX12_byteOf_13 rfl rfl ?_
            refine v_if_ge B (tgt := 19) dX12_byteOf_14 (by decide +kernel) (fun _ => ?_) (fun h => absurd (rg_ge (Int32.not_lt.mp e_i) (by decide +kernel)) h)
            refine v_iload_n B dX12_byteOf_19 rfl rfl ?_
            refine v_iconst B (v := 4) dX12_byteOf_20 (by decide +kernel) ?_
            refine v_icmp_ne B (tgt := 47) dX12_byteOf_21 (by decide +kernel) (fun _ => ?_) (fun h => absurd h (by decide +kernel))
            refine v_iload_n B dX12_byteOf_47 rfl rfl ?_
            refine v_tableIn B (off := 132) (tgt := 180) dX12_byteOf_48 (by decide +kernel) (by decide +kernel) (by decide +kernel) (by decide +kernel) ?_
            refine v_iload_n B dX12_byteOf_180 rfl rfl ?_
            refine v_bipush B (v := 8) dX12_byteOf_181 (by decide +kernel) ?_
            refine v_icmp_ge B (tgt := 213) dX12_byteOf_183 (by decide +kernel) (fun c_51 => ?_) (fun c_51 => ?_)
            · refine v_iconst B (v := (-1)) dX12_byteOf_213 (by decide +kernel) ?_
              refine v_forget (wc := []) (wr := []) (sp_pl [] [] rfl rfl rfl rfl rfl) ?_
              exact v_iret B hr hlk () rfl rfl (by decide +kernel) (by decide +kernel) dX12_byteOf_214
            · refine v_aload_n B dX12_byteOf_186 rfl rfl ?_
              refine v_get B (C := RX12) (T := TX12) (N := 123) (ci := 12) (k0 := 0) hi_y_byteOf_X12 rfl rfl 74 (by decide +kernel) (List.mem_of_getElem? (i := 8) rfl) rfl dX12_byteOf_187 ?_
              refine v_iload_n B dX12_byteOf_190 rfl rfl ?_
              refine v_zald B (k0 := 3) (t0 := 3) (v := 0) rfl rfl (vpi (by decide +kernel)) rfl dX12_byteOf_191 ?_
              refine v_if_eq B (tgt := 213) dX12_byteOf_192 (by decide +kernel) (fun _ => ?_) (fun h => absurd (by decide +kernel) h)
              refine v_iconst B (v := (-1)) dX12_byteOf_213 (by decide +kernel) ?_
              refine v_forget (wc := []) (wr := []) (sp_pl [] [] rfl rfl rfl rfl rfl) ?_
              exact v_iret B hr hlk () rfl rfl (by decide +kernel) (by decide +kernel) dX12_byteOf_214
          · show V _ _ _ _ _ _ _ _ _ _ _ _ _ _ _ _ [(0, .ref h), (1, .int 1), (2, .int 4), (3, .int i)] _ _
            refine v_aload_n B dX12_byteOf_0 rfl rfl ?_
            refine v_iconst B (v := 0) dX12_byteOf_1 (by decide +kernel) ?_
            refine v_put B (C := RX12) (T := TX12) (N := 123) (ci := 12) (k0 := 0) hi_y_byteOf_X12 rfl rfl 0 (by decide +kernel) tyX12 tyX12_ok nmX12 (List.mem_of_getElem? (i := 1) rfl) rfl (ty := .int) (tyX12_ok 0 (by decide +kernel)) rfl rfl (Nat.le_of_ble_eq_true rfl) (w' := [(h, .inr (12, fsM q 0 0 0 0 0)), ((q 22), .inl (K 0, 2, .inl (gl [0, 0]))), ((q 75), .inl (K 3, 2, .inl (gl [0, 0]))), ((q 74), .inl (K 3, 2, .inl (gl [0, 0])))]) rfl dX12_byteOf_2 ?_
            refine v_iload_n B dX12_byteOf_5 rfl rfl ?_
            refine v_iconst B (v := 2) dX12_byteOf_6 (by decide +kernel) ?_
            refine v_callSi B (n := 2) (As := [.int 1, .int 2]) (rest := []) (wc := []) (wr := [(h, .inr (12, fsM q 0 0 0 0 0)), ((q 22), .inl (K 0, 2, .inl (gl [0, 0]))), ((q 75), .inl (K 3, 2, .inl (gl [0, 0]))), ((q 74), .inl (K 3, 2, .inl (gl [0, 0])))]) (m_in_T l D K 1 2 (by decide +kernel) (by decide +kernel)) gd_y_byteOf_m_in_T_413 rfl rfl rfl (by decide +kernel) ⟨by decide +kernel, by decide +kernel⟩ (sp_pl [] [0, 1, 2, 3] rfl rfl rfl rfl rfl) rfl rfl (Nat.le_of_ble_eq_true rfl) dX12_byteOf_7 ⟨by decide +kernel, by decide +kernel⟩ (fun r_54 u_52 hp_53 => ?_)
            subst hp_53
            show V _ _ _ _ _ _ _ _ _ _ _ _ _ _ (0, 0) [(h, .inr (12, fsM q 0 0 0 0 0)), ((q 22), .inl (K 0, 2, .inl (gl [0, 0]))), ((q 75), .inl (K 3, 2, .inl (gl [0, 0]))), ((q 74), .inl (K 3, 2, .inl (gl [0, 0])))] _ _ [.int 1]
            show V _ _ _ _ _ _ _ _ _ _ _ _ _ _ (0, 0) [(h, .inr (12, fsM q 0 0 0 0 0)), ((q 22), .inl (K 0, 2, .inl (gl [0, 0]))), ((q 75), .inl (K 3, 2, .inl (gl [0, 0]))), ((q 74), .inl (K 3, 2, .inl (gl [0, 0])))] _ _ _
            refine v_if_eq B (tgt := 17) dX12_byteOf_10 (by decide +kernel) (fun h => absurd h (by decide +kernel)) (fun _ => ?_)
            refine v_iload_n B dX12_byteOf_13 rfl rfl ?_
            refine v_if_ge B (tgt := 19) dX12_byteOf_14 (by decide +kernel) (fun _ => ?_) (fun h => absurd (rg_ge (Int32.not_lt.mp e_i) (by decide +kernel)) h)
            refine v_iload_n B dX12_byteOf_19 rfl rfl ?_
            refine v_iconst B (v := 4) dX12_byteOf_20 (by decide +kernel) ?_
            refine v_icmp_ne B (tgt := 47) dX12_byteOf_21 (by decide +kernel) (fun h => absurd (by decide +kernel) h) (fun _ => ?_)
            refine v_iload_n B dX12_byteOf_24 rfl rfl ?_
            refine v_aload_n B dX12_byteOf_25 rfl rfl ?_
            refine v_get B (C := RX12) (T := TX12) (N := 123) (ci := 12) (k0 := 0) hi_y_byteOf_X12 rfl rfl 2 (by decide +kernel) (List.mem_of_getElem? (i := 9) rfl) rfl dX12_byteOf_26 ?_
            refine v_icmp_ge B (tgt := 45) dX12_byteOf_29 (by decide +kernel) (fun _ => ?_) (fun h => absurd (rg_ge (Int32.not_lt.mp e_i) (by decide +kernel)) h)
            refine v_iconst B (v := (-1)) dX12_byteOf_45 (by decide +kernel) ?_
            refine v_forget (wc := []) (wr := []) (sp_pl [] [] rfl rfl rfl rfl rfl) ?_
            exact v_iret B hr hlk () rfl rfl (by decide +kernel) (by decide +kernel) dX12_byteOf_46
    · skip
      by_cases e1 : d < 0
      · skip
        refine v_aload_n B dX12_byteOf_0 rfl rfl ?_
        refine v_iconst B (v := 0) dX12_byteOf_1 (by decide +kernel) ?_
        refine v_put B (C := RX12) (T := TX12) (N := 123) (ci := 12) (k0 := 0) hi_y_byteOf_X12 rfl rfl 0 (by decide +kernel) tyX12 tyX12_ok nmX12 (List.mem_of_getElem? (i := 1) rfl) rfl (ty := .int) (tyX12_ok 0 (by decide +kernel)) rfl rfl (Nat.le_of_ble_eq_true rfl) (w' := [(h, .inr (12, fsM q 0 0 0 0 0)), ((q 22), .inl (K 0, 2, .inl (gl [0, 0]))), ((q 75), .inl (K 3, 2, .inl (gl [0, 0]))), ((q 74), .inl (K 3, 2, .inl (gl [0, 0])))]) rfl dX12_byteOf_2 ?_
        refine v_iload_n B dX12_byteOf_5 rfl rfl ?_
        refine v_iconst B (v := 2) dX12_byteOf_6 (by decide +kernel) ?_
        refine v_callSi B (n := 2) (As := [.int d, .int 2]) (rest := []) (wc := []) (wr := [(h, .inr (12, fsM q 0 0 0 0 0)), ((q 22), .inl (K 0, 2, .inl (gl [0, 0]))), ((q 75), .inl (K 3, 2, .inl (gl [0, 0]))), ((q 74), .inl (K 3, 2, .inl (gl [0, 0])))]) (m_in_F1 l D K d 2 e1) gd_y_byteOf_m_in_F1_413 rfl rfl rfl (by decide +kernel) ⟨by decide +kernel, by decide +kernel⟩ (sp_pl [] [0, 1, 2, 3] rfl rfl rfl rfl rfl) rfl rfl (Nat.le_of_ble_eq_true rfl) dX12_byteOf_7 ⟨by decide +kernel, by decide +kernel⟩ (fun r_57 u_55 hp_56 => ?_)
        subst hp_56
        show V _ _ _ _ _ _ _ _ _ _ _ _ _ _ (0, 0) [(h, .inr (12, fsM q 0 0 0 0 0)), ((q 22), .inl (K 0, 2, .inl (gl [0, 0]))), ((q 75), .inl (K 3, 2, .inl (gl [0, 0]))), ((q 74), .inl (K 3, 2, .inl (gl [0, 0])))] _ _ [.int 0]
        show V _ _ _ _ _ _ _ _ _ _ _ _ _ _ (0, 0) [(h, .inr (12, fsM q 0 0 0 0 0)), ((q 22), .inl (K 0, 2, .inl (gl [0, 0]))), ((q 75), .inl (K 3, 2, .inl (gl [0, 0]))), ((q 74), .inl (K 3, 2, .inl (gl [0, 0])))] _ _ _
        refine v_if_eq B (tgt := 17) dX12_byteOf_10 (by decide +kernel) (fun _ => ?_) (fun h => absurd (by decide +kernel) h)
        refine v_iconst B (v := (-1)) dX12_byteOf_17 (by decide +kernel) ?_
        refine v_forget (wc := []) (wr := []) (sp_pl [] [] rfl rfl rfl rfl rfl) ?_
        exact v_iret B hr hlk () rfl rfl (by decide +kernel) (by decide +kernel) dX12_byteOf_18
      · skip
        refine v_aload_n B dX12_byteOf_0 rfl rfl ?_
        refine v_iconst B (v := 0) dX12_byteOf_1 (by decide +kernel) ?_
        refine v_put B (C := RX12) (T := TX12) (N := 123) (ci := 12) (k0 := 0) hi_y_byteOf_X12 rfl rfl 0 (by decide +kernel) tyX12 tyX12_ok nmX12 (List.mem_of_getElem? (i := 1) rfl) rfl (ty := .int) (tyX12_ok 0 (by decide +kernel)) rfl rfl (Nat.le_of_ble_eq_true rfl) (w' := [(h, .inr (12, fsM q 0 0 0 0 0)), ((q 22), .inl (K 0, 2, .inl (gl [0, 0]))), ((q 75), .inl (K 3, 2, .inl (gl [0, 0]))), ((q 74), .inl (K 3, 2, .inl (gl [0, 0])))]) rfl dX12_byteOf_2 ?_
        refine v_iload_n B dX12_byteOf_5 rfl rfl ?_
        refine v_iconst B (v := 2) dX12_byteOf_6 (by decide +kernel) ?_
        refine v_callSi B (n := 2) (As := [.int d, .int 2]) (rest := []) (wc := []) (wr := [(h, .inr (12, fsM q 0 0 0 0 0)), ((q 22), .inl (K 0, 2, .inl (gl [0, 0]))), ((q 75), .inl (K 3, 2, .inl (gl [0, 0]))), ((q 74), .inl (K 3, 2, .inl (gl [0, 0])))]) (m_in_F2 l D K d 2 (rg_nlt (i_ge2 h0 h1 e1) (by decide +kernel)) (rg_ge (i_ge2 h0 h1 e1) (by decide +kernel))) gd_y_byteOf_m_in_F2_413 rfl rfl rfl (by decide +kernel) ⟨by decide +kernel, by decide +kernel⟩ (sp_pl [] [0, 1, 2, 3] rfl rfl rfl rfl rfl) rfl rfl (Nat.le_of_ble_eq_true rfl) dX12_byteOf_7 ⟨by decide +kernel, by decide +kernel⟩ (fun r_60 u_58 hp_59 => ?_)
        subst hp_59
        show V _ _ _ _ _ _ _ _ _ _ _ _ _ _ (0, 0) [(h, .inr (12, fsM q 0 0 0 0 0)), ((q 22), .inl (K 0, 2, .inl (gl [0, 0]))), ((q 75), .inl (K 3, 2, .inl (gl [0, 0]))), ((q 74), .inl (K 3, 2, .inl (gl [0, 0])))] _ _ [.int 0]
        show V _ _ _ _ _ _ _ _ _ _ _ _ _ _ (0, 0) [(h, .inr (12, fsM q 0 0 0 0 0)), ((q 22), .inl (K 0, 2, .inl (gl [0, 0]))), ((q 75), .inl (K 3, 2, .inl (gl [0, 0]))), ((q 74), .inl (K 3, 2, .inl (gl [0, 0])))] _ _ _
        refine v_if_eq B (tgt := 17) dX12_byteOf_10 (by decide +kernel) (fun _ => ?_) (fun h => absurd (by decide +kernel) h)
        refine v_iconst B (v := (-1)) dX12_byteOf_17 (by decide +kernel) ?_
        refine v_forget (wc := []) (wr := []) (sp_pl [] [] rfl rfl rfl rfl rfl) ?_
        exact v_iret B hr hlk () rfl rfl (by decide +kernel) (by decide +kernel) dX12_byteOf_18

def wp_y_advertise : List Cond := .code yX12_advertise cX12_advertise 3 (some .boolean) :: ([.fieldLink RX12 1 "LowEnergyModel" "thrown" "I", .methodLink RX12 678 yX12_isStandby, .instanceMethod yX12_isStandby, .selects RX12 yX12_isStandby yX12_isStandby, .initialized RX12, .code yX12_isStandby cX12_isStandby 2 (some .boolean), .methodLink RX12 413 yX12_in, .static yX12_in, .code yX12_in cX12_in 2 (some .boolean), .fieldLink RX12 45 "LowEnergyModel" "state" "[I", .fieldLink RX12 7 "LowEnergyModel" "taped" "I", .fieldLink RX12 51 "LowEnergyModel" "interval" "[I", .fieldLink RX12 54 "LowEnergyModel" "next" "[I", .fieldLink RX12 470 "LowEnergyModel" "t" "I", .fieldLink RX12 57 "LowEnergyModel" "advertised" "[I", .fieldLink RX12 10 "LowEnergyModel" "tape" "[B", .fieldLink RX12 82 "LowEnergyModel" "data" "[B", .methodLink RX12 29 yX12_copy, .static yX12_copy, .code yX12_copy cX12_copy 6 none] ++ (wsX120 ++ ([])))
theorem hi_y_advertise_X12 : ∀ x ∈ u_ws RX12 TX12 123, x ∈ wp_y_advertise := fun _ h => List.mem_cons_of_mem _ (List.mem_append_right _ (List.mem_append_left _ h))
set_option maxRecDepth 100000 in
theorem gd_y_advertise_m_isStandby_0_678 : GoodIn wp_y_advertise (wsV RX12 678 RX12 yX12_isStandby wp_m_isStandby_0) := goodIn_app (goodIn_r _ [2, 3, 4, 5] rfl rfl) (goodIn_ca (goodIn_r _ [6, 7, 8, 5, 9, 10] rfl rfl) (goodIn_app (goodIn_cls hi_y_advertise_X12 gw_X12) (goodIn_nil)))
set_option maxRecDepth 100000 in
theorem gd_y_advertise_m_copy0_29 : GoodIn wp_y_advertise (va_wsS RX12 29 yX12_copy wp_m_copy0) := goodIn_app (goodIn_r _ [18, 19, 5] rfl rfl) (goodIn_ca (goodIn_r _ [20] rfl rfl) (goodIn_nil))
set_option maxRecDepth 100000 in
theorem gd_y_advertise_m_isStandby_1_678 : GoodIn wp_y_advertise (wsV RX12 678 RX12 yX12_isStandby wp_m_isStandby_1) := goodIn_app (goodIn_r _ [2, 3, 4, 5] rfl rfl) (goodIn_ca (goodIn_r _ [6, 7, 8, 5, 9, 10] rfl rfl) (goodIn_app (goodIn_cls hi_y_advertise_X12 gw_X12) (goodIn_nil)))
set_option maxRecDepth 100000 in
theorem gd_y_advertise_m_isStandby_n_678 : GoodIn wp_y_advertise (wsV RX12 678 RX12 yX12_isStandby wp_m_isStandby_n) := goodIn_app (goodIn_r _ [2, 3, 4, 5] rfl rfl) (goodIn_ca (goodIn_r _ [6, 7, 8, 5, 9] rfl rfl) (goodIn_nil))
set_option maxHeartbeats 4000000 in
set_option maxRecDepth 100000 in
theorem y_advertise (l : Launch) (D : va_G) (K : Nat → ClassId) (h : Nat) (q : Nat → Nat) (fa : Int64) (sa : Int64) (d : Int32) (iv : Int32) : MG l yX12_advertise wp_y_advertise ({ frames := 2, cells := 0, slots := 0, locals := 42 }) D (tysA K) [.ref h, .int d, .int iv] [(h, .inr (12, fsM q 0 0 0 0 0)), ((q 7), .inl (K 0, 2, .inl (gl [0, 0]))), ((q 9), .inl (K 0, 2, .inl (gl [0, 0]))), ((q 10), .inl (K 0, 2, .inl (gl [0, 0]))), ((q 11), .inl (K 0, 2, .inl (gl [0, 0])))] (Qi D (fun (r : Int32) (_ : Unit) => r = an_advertise d iv) (fun _ => [])) 0 0 := by
  refine mg_of (cc := cX12_advertise) (maxL := 3) (ret := (some .boolean)) (by decide +kernel) rfl (Nat.le_of_ble_eq_true rfl) ?_
  intro p e s m below meth c A B hr hlk hnam
  show V _ _ _ _ _ _ _ _ _ _ _ _ _ _ _ _ [(0, .ref h), (1, .int d), (2, .int iv)] _ _
  by_cases h0 : d = 0
  · subst h0
    refine v_aload_n B dX12_advertise_0 rfl rfl ?_
    refine v_iconst B (v := 0) dX12_advertise_1 (by decide +kernel) ?_
    refine v_put B (C := RX12) (T := TX12) (N := 123) (ci := 12) (k0 := 0) hi_y_advertise_X12 rfl rfl 0 (by decide +kernel) tyX12 tyX12_ok nmX12 (List.mem_of_getElem? (i := 1) rfl) rfl (ty := .int) (tyX12_ok 0 (by decide +kernel)) rfl rfl (Nat.le_of_ble_eq_true rfl) (w' := [(h, .inr (12, fsM q 0 0 0 0 0)), ((q 7), .inl (K 0, 2, .inl (gl [0, 0]))), ((q 9), .inl (K 0, 2, .inl (gl [0, 0]))), ((q 10), .inl (K 0, 2, .inl (gl [0, 0]))), ((q 11), .inl (K 0, 2, .inl (gl [0, 0])))]) rfl dX12_advertise_2 ?_
    refine v_aload_n B dX12_advertise_5 rfl rfl ?_
    refine v_iload_n B dX12_advertise_6 rfl rfl ?_
    refine v_callVi B (b := h) (n := 1) (As := [.int 0]) (rest := []) (wc := [(h, .inr (12, fsM q 0 0 0 0 0)), ((q 7), .inl (K 0, 2, .inl (gl [0, 0])))]) (wr := [((q 9), .inl (K 0, 2, .inl (gl [0, 0]))), ((q 10), .inl (K 0, 2, .inl (gl [0, 0]))), ((q 11), .inl (K 0, 2, .inl (gl [0, 0])))]) (m_isStandby_0 l D K h q fa sa) gd_y_advertise_m_isStandby_0_678 rfl rfl rfl (by decide +kernel) ⟨by decide +kernel, by decide +kernel⟩ 0 rfl rfl rfl (sp_pl [0, 1] [2, 3, 4] rfl rfl rfl rfl rfl) rfl rfl (Nat.le_of_ble_eq_true rfl) dX12_advertise_7 ⟨by decide +kernel, by decide +kernel⟩ (fun r_3 u_1 hp_2 => ?_)
    subst hp_2
    show V _ _ _ _ _ _ _ _ _ _ _ _ _ _ (0, 0) [((q 9), .inl (K 0, 2, .inl (gl [0, 0]))), ((q 10), .inl (K 0, 2, .inl (gl [0, 0]))), ((q 11), .inl (K 0, 2, .inl (gl [0, 0]))), (h, .inr (12, fsM q 0 0 0 0 0)), ((q 7), .inl (K 0, 2, .inl (gl [0, 0])))] _ _ [.int 1]
    show V _ _ _ _ _ _ _ _ _ _ _ _ _ _ (0, 0) [((q 9), .inl (K 0, 2, .inl (gl [0, 0]))), ((q 10), .inl (K 0, 2, .inl (gl [0, 0]))), ((q 11), .inl (K 0, 2, .inl (gl [0, 0]))), (h, .inr (12, fsM q 0 0 0 0 0)), ((q 7), .inl (K 0, 2, .inl (gl [0, 0])))] _ _ _
    refine v_if_eq B (tgt := 34) dX12_advertise_10 (by decide +kernel) (fun h => absurd h (by decide +kernel)) (fun _ => ?_)
    refine v_iload_n B dX12_advertise_13 rfl rfl ?_
    refine v_iconst B (v := 5) dX12_advertise_14 (by decide +kernel) ?_
    refine v_icmp_lt B (tgt := 34) dX12_advertise_15 (by decide +kernel) (fun c_4 => ?_) (fun c_4 => ?_)
    · refine v_iconst B (v := 0) dX12_advertise_34 (by decide +kernel) ?_
      refine v_forget (wc := []) (wr := []) (sp_pl [] [] rfl rfl rfl rfl rfl) ?_
      exact v_zret B hr hlk (by decide +kernel) () (by simp [an_advertise, c_4]) rfl (by decide +kernel) (by decide +kernel) dX12_advertise_35
    · refine v_iload_n B dX12_advertise_18 rfl rfl ?_
      refine v_sipush B (v := 1000) dX12_advertise_19 (by decide +kernel) ?_
      refine v_icmp_gt B (tgt := 34) dX12_advertise_22 (by decide +kernel) (fun c_5 => ?_) (fun c_5 => ?_)
      · refine v_iconst B (v := 0) dX12_advertise_34 (by decide +kernel) ?_
        refine v_forget (wc := []) (wr := []) (sp_pl [] [] rfl rfl rfl rfl rfl) ?_
        exact v_zret B hr hlk (by decide +kernel) () (by simp [an_advertise, c_4, c_5]) rfl (by decide +kernel) (by decide +kernel) dX12_advertise_35
      · refine v_aload_n B dX12_advertise_25 rfl rfl ?_
        refine v_get B (C := RX12) (T := TX12) (N := 123) (ci := 12) (k0 := 3) hi_y_advertise_X12 rfl rfl 2 (by decide +kernel) (List.mem_of_getElem? (i := 11) rfl) rfl dX12_advertise_26 ?_
        refine v_bipush B (v := 20) dX12_advertise_29 (by decide +kernel) ?_
        refine v_icmp_le B (tgt := 36) dX12_advertise_31 (by decide +kernel) (fun _ => ?_) (fun h => absurd (by decide +kernel) h)
        refine v_aload_n B dX12_advertise_36 rfl rfl ?_
        refine v_get B (C := RX12) (T := TX12) (N := 123) (ci := 12) (k0 := 3) hi_y_advertise_X12 rfl rfl 7 (by decide +kernel) (List.mem_of_getElem? (i := 10) rfl) rfl dX12_advertise_37 ?_
        refine v_iload_n B dX12_advertise_40 rfl rfl ?_
        refine v_iconst B (v := 1) dX12_advertise_41 (by decide +kernel) ?_
        refine v_iastL B (k0 := 4) (t0 := 0) (k := 0) (y := 1) (w' := [((q 9), .inl (K 0, 2, .inl (gl [0, 0]))), ((q 10), .inl (K 0, 2, .inl (gl [0, 0]))), ((q 11), .inl (K 0, 2, .inl (gl [0, 0]))), (h, .inr (12, fsM q 0 0 0 0 0)), ((q 7), .inl (K 0, 2, .inl (gl [1, 0])))]) rfl rfl (vpi (by decide +kernel)) (by decide +kernel) (Nat.le_of_ble_eq_true rfl) rfl rfl dX12_advertise_42 ?_
        refine v_aload_n B dX12_advertise_43 rfl rfl ?_
        refine v_get B (C := RX12) (T := TX12) (N := 123) (ci := 12) (k0 := 3) hi_y_advertise_X12 rfl rfl 9 (by decide +kernel) (List.mem_of_getElem? (i := 12) rfl) rfl dX12_advertise_44 ?_
        refine v_iload_n B dX12_advertise_47 rfl rfl ?_
        refine v_iload_n B dX12_advertise_48 rfl rfl ?_
        refine v_iastL B (k0 := 0) (t0 := 0) (k := 0) (y := iv) (w' := [((q 9), .inl (K 0, 2, .inl (gl [iv, 0]))), ((q 10), .inl (K 0, 2, .inl (gl [0, 0]))), ((q 11), .inl (K 0, 2, .inl (gl [0, 0]))), (h, .inr (12, fsM q 0 0 0 0 0)), ((q 7), .inl (K 0, 2, .inl (gl [1, 0])))]) rfl rfl (vpi (by decide +kernel)) (by decide +kernel) (Nat.le_of_ble_eq_true rfl) rfl rfl dX12_advertise_49 ?_
        refine v_aload_n B dX12_advertise_50 rfl rfl ?_
        refine v_get B (C := RX12) (T := TX12) (N := 123) (ci := 12) (k0 := 3) hi_y_advertise_X12 rfl rfl 10 (by decide +kernel) (List.mem_of_getElem? (i := 13) rfl) rfl dX12_advertise_51 ?_
        refine v_iload_n B dX12_advertise_54 rfl rfl ?_
        refine v_aload_n B dX12_advertise_55 rfl rfl ?_
        refine v_get B (C := RX12) (T := TX12) (N := 123) (ci := 12) (k0 := 3) hi_y_advertise_X12 rfl rfl 43 (by decide +kernel) (List.mem_of_getElem? (i := 14) rfl) rfl dX12_advertise_56 ?_
        refine v_iastL B (k0 := 1) (t0 := 0) (k := 0) (y := 0) (w' := [((q 9), .inl (K 0, 2, .inl (gl [iv, 0]))), ((q 10), .inl (K 0, 2, .inl (gl [0, 0]))), ((q 11), .inl (K 0, 2, .inl (gl [0, 0]))), (h, .inr (12, fsM q 0 0 0 0 0)), ((q 7), .inl (K 0, 2, .inl (gl [1, 0])))]) rfl rfl (vpi (by decide +kernel)) (by decide +kernel) (Nat.le_of_ble_eq_true rfl) rfl rfl dX12_advertise_59 ?_
        refine v_aload_n B dX12_advertise_60 rfl rfl ?_
        refine v_get B (C := RX12) (T := TX12) (N := 123) (ci := 12) (k0 := 3) hi_y_advertise_X12 rfl rfl 11 (by decide +kernel) (List.mem_of_getElem? (i := 15) rfl) rfl dX12_advertise_61 ?_
        refine v_iload_n B dX12_advertise_64 rfl rfl ?_
        refine v_aload_n B dX12_advertise_65 rfl rfl ?_
        refine v_get B (C := RX12) (T := TX12) (N := 123) (ci := 12) (k0 := 3) hi_y_advertise_X12 rfl rfl 2 (by decide +kernel) (List.mem_of_getElem? (i := 11) rfl) rfl dX12_advertise_66 ?_
        refine v_iastL B (k0 := 2) (t0 := 0) (k := 0) (y := 0) (w' := [((q 9), .inl (K 0, 2, .inl (gl [iv, 0]))), ((q 10), .inl (K 0, 2, .inl (gl [0, 0]))), ((q 11), .inl (K 0, 2, .inl (gl [0, 0]))), (h, .inr (12, fsM q 0 0 0 0 0)), ((q 7), .inl (K 0, 2, .inl (gl [1, 0])))]) rfl rfl (vpi (by decide +kernel)) (by decide +kernel) (Nat.le_of_ble_eq_true rfl) rfl rfl dX12_advertise_69 ?_
        refine v_aload_n B dX12_advertise_70 rfl rfl ?_
        refine v_get B (C := RX12) (T := TX12) (N := 123) (ci := 12) (k0 := 3) hi_y_advertise_X12 rfl rfl 1 (by decide +kernel) (List.mem_of_getElem? (i := 16) rfl) rfl dX12_advertise_71 ?_
        refine v_iconst B (v := 0) dX12_advertise_74 (by decide +kernel) ?_
        refine v_aload_n B dX12_advertise_75 rfl rfl ?_
        refine v_get B (C := RX12) (T := TX12) (N := 123) (ci := 12) (k0 := 3) hi_y_advertise_X12 rfl rfl 19 (by decide +kernel) (List.mem_of_getElem? (i := 17) rfl) rfl dX12_advertise_76 ?_
        refine v_bipush B (v := 20) dX12_advertise_79 (by decide +kernel) ?_
        refine v_iload_n B dX12_advertise_81 rfl rfl ?_
        refine v_imul B (v := 0) dX12_advertise_82 (by decide +kernel) ?_
        refine v_aload_n B dX12_advertise_83 rfl rfl ?_
        refine v_get B (C := RX12) (T := TX12) (N := 123) (ci := 12) (k0 := 3) hi_y_advertise_X12 rfl rfl 2 (by decide +kernel) (List.mem_of_getElem? (i := 11) rfl) rfl dX12_advertise_84 ?_
        refine v_callSv B (n := 5) (As := [.ref (q 1), .int 0, .ref (q 19), .int 0, .int 0]) (rest := []) (wc := []) (wr := [((q 9), .inl (K 0, 2, .inl (gl [iv, 0]))), ((q 10), .inl (K 0, 2, .inl (gl [0, 0]))), ((q 11), .inl (K 0, 2, .inl (gl [0, 0]))), (h, .inr (12, fsM q 0 0 0 0 0)), ((q 7), .inl (K 0, 2, .inl (gl [1, 0])))]) (m_copy0 l D K (q 1) (q 19) 0 0) gd_y_advertise_m_copy0_29 rfl rfl rfl (by decide +kernel) ⟨by decide +kernel, by decide +kernel⟩ (sp_pl [] [0, 1, 2, 3, 4] rfl rfl rfl rfl rfl) rfl rfl (Nat.le_of_ble_eq_true rfl) dX12_advertise_87 ⟨by decide +kernel, by decide +kernel⟩ (fun u_6 hp_7 => ?_)
        show V _ _ _ _ _ _ _ _ _ _ _ _ _ _ (0, 0) [((q 9), .inl (K 0, 2, .inl (gl [iv, 0]))), ((q 10), .inl (K 0, 2, .inl (gl [0, 0]))), ((q 11), .inl (K 0, 2, .inl (gl [0, 0]))), (h, .inr (12, fsM q 0 0 0 0 0)), ((q 7), .inl (K 0, 2, .inl (gl [1, 0])))] _ _ _
        refine v_aload_n B dX12_advertise_90 rfl rfl ?_
        refine v_iconst B (v := 0) dX12_advertise_91 (by decide +kernel) ?_
        refine v_put B (C := RX12) (T := TX12) (N := 123) (ci := 12) (k0 := 3) hi_y_advertise_X12 rfl rfl 2 (by decide +kernel) tyX12 tyX12_ok nmX12 (List.mem_of_getElem? (i := 11) rfl) rfl (ty := .int) (tyX12_ok 2 (by decide +kernel)) rfl rfl (Nat.le_of_ble_eq_true rfl) (w' := [((q 9), .inl (K 0, 2, .inl (gl [iv, 0]))), ((q 10), .inl (K 0, 2, .inl (gl [0, 0]))), ((q 11), .inl (K 0, 2, .inl (gl [0, 0]))), (h, .inr (12, fsM q 0 0 0 0 0)), ((q 7), .inl (K 0, 2, .inl (gl [1, 0])))]) rfl dX12_advertise_92 ?_
        refine v_iconst B (v := 1) dX12_advertise_95 (by decide +kernel) ?_
        refine v_forget (wc := []) (wr := []) (sp_pl [] [] rfl rfl rfl rfl rfl) ?_
        exact v_zret B hr hlk (by decide +kernel) () (by simp [an_advertise, c_4, c_5]) rfl (by decide +kernel) (by decide +kernel) dX12_advertise_96
  · skip
    by_cases h1 : d = 1
    · subst h1
      refine v_aload_n B dX12_advertise_0 rfl rfl ?_
      refine v_iconst B (v := 0) dX12_advertise_1 (by decide +kernel) ?_
      refine v_put B (C := RX12) (T := TX12) (N := 123) (ci := 12) (k0 := 0) hi_y_advertise_X12 rfl rfl 0 (by decide +kernel) tyX12 tyX12_ok nmX12 (List.mem_of_getElem? (i := 1) rfl) rfl (ty := .int) (tyX12_ok 0 (by decide +kernel)) rfl rfl (Nat.le_of_ble_eq_true rfl) (w' := [(h, .inr (12, fsM q 0 0 0 0 0)), ((q 7), .inl (K 0, 2, .inl (gl [0, 0]))), ((q 9), .inl (K 0, 2, .inl (gl [0, 0]))), ((q 10), .inl (K 0, 2, .inl (gl [0, 0]))), ((q 11), .inl (K 0, 2, .inl (gl [0, 0])))]) rfl dX12_advertise_2 ?_
      refine v_aload_n B dX12_advertise_5 rfl rfl ?_
      refine v_iload_n B dX12_advertise_6 rfl rfl ?_
      refine v_callVi B (b := h) (n := 1) (As := [.int 1]) (rest := []) (wc := [(h, .inr (12, fsM q 0 0 0 0 0)), ((q 7), .inl (K 0, 2, .inl (gl [0, 0])))]) (wr := [((q 9), .inl (K 0, 2, .inl (gl [0, 0]))), ((q 10), .inl (K 0, 2, .inl (gl [0, 0]))), ((q 11), .inl (K 0, 2, .inl (gl [0, 0])))]) (m_isStandby_1 l D K h q fa sa) gd_y_advertise_m_isStandby_1_678 rfl rfl rfl (by decide +kernel) ⟨by decide +kernel, by decide +kernel⟩ 0 rfl rfl rfl (sp_pl [0, 1] [2, 3, 4] rfl rfl rfl rfl rfl) rfl rfl (Nat.le_of_ble_eq_true rfl) dX12_advertise_7 ⟨by decide +kernel, by decide +kernel⟩ (fun r_11 u_9 hp_10 => ?_)
      subst hp_10
      show V _ _ _ _ _ _ _ _ _ _ _ _ _ _ (0, 0) [((q 9), .inl (K 0, 2, .inl (gl [0, 0]))), ((q 10), .inl (K 0, 2, .inl (gl [0, 0]))), ((q 11), .inl (K 0, 2, .inl (gl [0, 0]))), (h, .inr (12, fsM q 0 0 0 0 0)), ((q 7), .inl (K 0, 2, .inl (gl [0, 0])))] _ _ [.int 1]
      show V _ _ _ _ _ _ _ _ _ _ _ _ _ _ (0, 0) [((q 9), .inl (K 0, 2, .inl (gl [0, 0]))), ((q 10), .inl (K 0, 2, .inl (gl [0, 0]))), ((q 11), .inl (K 0, 2, .inl (gl [0, 0]))), (h, .inr (12, fsM q 0 0 0 0 0)), ((q 7), .inl (K 0, 2, .inl (gl [0, 0])))] _ _ _
      refine v_if_eq B (tgt := 34) dX12_advertise_10 (by decide +kernel) (fun h => absurd h (by decide +kernel)) (fun _ => ?_)
      refine v_iload_n B dX12_advertise_13 rfl rfl ?_
      refine v_iconst B (v := 5) dX12_advertise_14 (by decide +kernel) ?_
      refine v_icmp_lt B (tgt := 34) dX12_advertise_15 (by decide +kernel) (fun c_12 => ?_) (fun c_12 => ?_)
      · refine v_iconst B (v := 0) dX12_advertise_34 (by decide +kernel) ?_
        refine v_forget (wc := []) (wr := []) (sp_pl [] [] rfl rfl rfl rfl rfl) ?_
        exact v_zret B hr hlk (by decide +kernel) () (by simp [an_advertise, c_12]) rfl (by decide +kernel) (by decide +kernel) dX12_advertise_35
      · refine v_iload_n B dX12_advertise_18 rfl rfl ?_
        refine v_sipush B (v := 1000) dX12_advertise_19 (by decide +kernel) ?_
        refine v_icmp_gt B (tgt := 34) dX12_advertise_22 (by decide +kernel) (fun c_13 => ?_) (fun c_13 => ?_)
        · refine v_iconst B (v := 0) dX12_advertise_34 (by decide +kernel) ?_
          refine v_forget (wc := []) (wr := []) (sp_pl [] [] rfl rfl rfl rfl rfl) ?_
          exact v_zret B hr hlk (by decide +kernel) () (by simp [an_advertise, c_12, c_13]) rfl (by decide +kernel) (by decide +kernel) dX12_advertise_35
        · refine v_aload_n B dX12_advertise_25 rfl rfl ?_
          refine v_get B (C := RX12) (T := TX12) (N := 123) (ci := 12) (k0 := 3) hi_y_advertise_X12 rfl rfl 2 (by decide +kernel) (List.mem_of_getElem? (i := 11) rfl) rfl dX12_advertise_26 ?_
          refine v_bipush B (v := 20) dX12_advertise_29 (by decide +kernel) ?_
          refine v_icmp_le B (tgt := 36) dX12_advertise_31 (by decide +kernel) (fun _ => ?_) (fun h => absurd (by decide +kernel) h)
          refine v_aload_n B dX12_advertise_36 rfl rfl ?_
          refine v_get B (C := RX12) (T := TX12) (N := 123) (ci := 12) (k0 := 3) hi_y_advertise_X12 rfl rfl 7 (by decide +kernel) (List.mem_of_getElem? (i := 10) rfl) rfl dX12_advertise_37 ?_
          refine v_iload_n B dX12_advertise_40 rfl rfl ?_
          refine v_iconst B (v := 1) dX12_advertise_41 (by decide +kernel) ?_
          refine v_iastL B (k0 := 4) (t0 := 0) (k := 1) (y := 1) (w' := [((q 9), .inl (K 0, 2, .inl (gl [0, 0]))), ((q 10), .inl (K 0, 2, .inl (gl [0, 0]))), ((q 11), .inl (K 0, 2, .inl (gl [0, 0]))), (h, .inr (12, fsM q 0 0 0 0 0)), ((q 7), .inl (K 0, 2, .inl (gl [0, 1])))]) rfl rfl (vpi (by decide +kernel)) (by decide +kernel) (Nat.le_of_ble_eq_true rfl) rfl rfl dX12_advertise_42 ?_
          refine v_aload_n B dX12_advertise_43 rfl rfl ?_
          refine v_get B (C := RX12) (T := TX12) (N := 123) (ci := 12) (k0 := 3) hi_y_advertise_X12 rfl rfl 9 (by decide +kernel) (List.mem_of_getElem? (i := 12) rfl) rfl dX12_advertise_44 ?_
          refine v_iload_n B dX12_advertise_47 rfl rfl ?_
          refine v_iload_n B dX12_advertise_48 rfl rfl ?_
          refine v_iastL B (k0 := 0) (t0 := 0) (k := 1) (y := iv) (w' := [((q 9), .inl (K 0, 2, .inl (gl [0, iv]))), ((q 10), .inl (K 0, 2, .inl (gl [0, 0]))), ((q 11), .inl (K 0, 2, .inl (gl [0, 0]))), (h, .inr (12, fsM q 0 0 0 0 0)), ((q 7), .inl (K 0, 2, .inl (gl [0, 1])))]) rfl rfl (vpi (by decide +kernel)) (by decide +kernel) (Nat.le_of_ble_eq_true rfl) rfl rfl dX12_advertise_49 ?_
          refine v_aload_n B dX12_advertise_50 rfl rfl ?_
          refine v_get B (C := RX12) (T := TX12) (N := 123) (ci := 12) (k0 := 3) hi_y_advertise_X12 rfl rfl 10 (by decide +kernel) (List.mem_of_getElem? (i := 13) rfl) rfl dX12_advertise_51 ?_
          refine v_iload_n B dX12_advertise_54 rfl rfl ?_
          refine v_aload_n B dX12_advertise_55 rfl rfl ?_
          refine v_get B (C := RX12) (T := TX12) (N := 123) (ci := 12) (k0 := 3) hi_y_advertise_X12 rfl rfl 43 (by decide +kernel) (List.mem_of_getElem? (i := 14) rfl) rfl dX12_advertise_56 ?_
          refine v_iastL B (k0 := 1) (t0 := 0) (k := 1) (y := 0) (w' := [((q 9), .inl (K 0, 2, .inl (gl [0, iv]))), ((q 10), .inl (K 0, 2, .inl (gl [0, 0]))), ((q 11), .inl (K 0, 2, .inl (gl [0, 0]))), (h, .inr (12, fsM q 0 0 0 0 0)), ((q 7), .inl (K 0, 2, .inl (gl [0, 1])))]) rfl rfl (vpi (by decide +kernel)) (by decide +kernel) (Nat.le_of_ble_eq_true rfl) rfl rfl dX12_advertise_59 ?_
          refine v_aload_n B dX12_advertise_60 rfl rfl ?_
          refine v_get B (C := RX12) (T := TX12) (N := 123) (ci := 12) (k0 := 3) hi_y_advertise_X12 rfl rfl 11 (by decide +kernel) (List.mem_of_getElem? (i := 15) rfl) rfl dX12_advertise_61 ?_
          refine v_iload_n B dX12_advertise_64 rfl rfl ?_
          refine v_aload_n B dX12_advertise_65 rfl rfl ?_
          refine v_get B (C := RX12) (T := TX12) (N := 123) (ci := 12) (k0 := 3) hi_y_advertise_X12 rfl rfl 2 (by decide +kernel) (List.mem_of_getElem? (i := 11) rfl) rfl dX12_advertise_66 ?_
          refine v_iastL B (k0 := 2) (t0 := 0) (k := 1) (y := 0) (w' := [((q 9), .inl (K 0, 2, .inl (gl [0, iv]))), ((q 10), .inl (K 0, 2, .inl (gl [0, 0]))), ((q 11), .inl (K 0, 2, .inl (gl [0, 0]))), (h, .inr (12, fsM q 0 0 0 0 0)), ((q 7), .inl (K 0, 2, .inl (gl [0, 1])))]) rfl rfl (vpi (by decide +kernel)) (by decide +kernel) (Nat.le_of_ble_eq_true rfl) rfl rfl dX12_advertise_69 ?_
          refine v_aload_n B dX12_advertise_70 rfl rfl ?_
          refine v_get B (C := RX12) (T := TX12) (N := 123) (ci := 12) (k0 := 3) hi_y_advertise_X12 rfl rfl 1 (by decide +kernel) (List.mem_of_getElem? (i := 16) rfl) rfl dX12_advertise_71 ?_
          refine v_iconst B (v := 0) dX12_advertise_74 (by decide +kernel) ?_
          refine v_aload_n B dX12_advertise_75 rfl rfl ?_
          refine v_get B (C := RX12) (T := TX12) (N := 123) (ci := 12) (k0 := 3) hi_y_advertise_X12 rfl rfl 19 (by decide +kernel) (List.mem_of_getElem? (i := 17) rfl) rfl dX12_advertise_76 ?_
          refine v_bipush B (v := 20) dX12_advertise_79 (by decide +kernel) ?_
          refine v_iload_n B dX12_advertise_81 rfl rfl ?_
          refine v_imul B (v := 20) dX12_advertise_82 (by decide +kernel) ?_
          refine v_aload_n B dX12_advertise_83 rfl rfl ?_
          refine v_get B (C := RX12) (T := TX12) (N := 123) (ci := 12) (k0 := 3) hi_y_advertise_X12 rfl rfl 2 (by decide +kernel) (List.mem_of_getElem? (i := 11) rfl) rfl dX12_advertise_84 ?_
          refine v_callSv B (n := 5) (As := [.ref (q 1), .int 0, .ref (q 19), .int 20, .int 0]) (rest := []) (wc := []) (wr := [((q 9), .inl (K 0, 2, .inl (gl [0, iv]))), ((q 10), .inl (K 0, 2, .inl (gl [0, 0]))), ((q 11), .inl (K 0, 2, .inl (gl [0, 0]))), (h, .inr (12, fsM q 0 0 0 0 0)), ((q 7), .inl (K 0, 2, .inl (gl [0, 1])))]) (m_copy0 l D K (q 1) (q 19) 0 20) gd_y_advertise_m_copy0_29 rfl rfl rfl (by decide +kernel) ⟨by decide +kernel, by decide +kernel⟩ (sp_pl [] [0, 1, 2, 3, 4] rfl rfl rfl rfl rfl) rfl rfl (Nat.le_of_ble_eq_true rfl) dX12_advertise_87 ⟨by decide +kernel, by decide +kernel⟩ (fun u_14 hp_15 => ?_)
          show V _ _ _ _ _ _ _ _ _ _ _ _ _ _ (0, 0) [((q 9), .inl (K 0, 2, .inl (gl [0, iv]))), ((q 10), .inl (K 0, 2, .inl (gl [0, 0]))), ((q 11), .inl (K 0, 2, .inl (gl [0, 0]))), (h, .inr (12, fsM q 0 0 0 0 0)), ((q 7), .inl (K 0, 2, .inl (gl [0, 1])))] _ _ _
          refine v_aload_n B dX12_advertise_90 rfl rfl ?_
          refine v_iconst B (v := 0) dX12_advertise_91 (by decide +kernel) ?_
          refine v_put B (C := RX12) (T := TX12) (N := 123) (ci := 12) (k0 := 3) hi_y_advertise_X12 rfl rfl 2 (by decide +kernel) tyX12 tyX12_ok nmX12 (List.mem_of_getElem? (i := 11) rfl) rfl (ty := .int) (tyX12_ok 2 (by decide +kernel)) rfl rfl (Nat.le_of_ble_eq_true rfl) (w' := [((q 9), .inl (K 0, 2, .inl (gl [0, iv]))), ((q 10), .inl (K 0, 2, .inl (gl [0, 0]))), ((q 11), .inl (K 0, 2, .inl (gl [0, 0]))), (h, .inr (12, fsM q 0 0 0 0 0)), ((q 7), .inl (K 0, 2, .inl (gl [0, 1])))]) rfl dX12_advertise_92 ?_
          refine v_iconst B (v := 1) dX12_advertise_95 (by decide +kernel) ?_
          refine v_forget (wc := []) (wr := []) (sp_pl [] [] rfl rfl rfl rfl rfl) ?_
          exact v_zret B hr hlk (by decide +kernel) () (by simp [an_advertise, c_12, c_13]) rfl (by decide +kernel) (by decide +kernel) dX12_advertise_96
    · skip
      by_cases e1 : d < 0
      · skip
        refine v_aload_n B dX12_advertise_0 rfl rfl ?_
        refine v_iconst B (v := 0) dX12_advertise_1 (by decide +kernel) ?_
        refine v_put B (C := RX12) (T := TX12) (N := 123) (ci := 12) (k0 := 0) hi_y_advertise_X12 rfl rfl 0 (by decide +kernel) tyX12 tyX12_ok nmX12 (List.mem_of_getElem? (i := 1) rfl) rfl (ty := .int) (tyX12_ok 0 (by decide +kernel)) rfl rfl (Nat.le_of_ble_eq_true rfl) (w' := [(h, .inr (12, fsM q 0 0 0 0 0)), ((q 7), .inl (K 0, 2, .inl (gl [0, 0]))), ((q 9), .inl (K 0, 2, .inl (gl [0, 0]))), ((q 10), .inl (K 0, 2, .inl (gl [0, 0]))), ((q 11), .inl (K 0, 2, .inl (gl [0, 0])))]) rfl dX12_advertise_2 ?_
        refine v_aload_n B dX12_advertise_5 rfl rfl ?_
        refine v_iload_n B dX12_advertise_6 rfl rfl ?_
        refine v_callVi B (b := h) (n := 1) (As := [.int d]) (rest := []) (wc := [(h, .inr (12, fsM q 0 0 0 0 0))]) (wr := [((q 7), .inl (K 0, 2, .inl (gl [0, 0]))), ((q 9), .inl (K 0, 2, .inl (gl [0, 0]))), ((q 10), .inl (K 0, 2, .inl (gl [0, 0]))), ((q 11), .inl (K 0, 2, .inl (gl [0, 0])))]) (m_isStandby_n l D K h q fa sa d h0 h1) gd_y_advertise_m_isStandby_n_678 rfl rfl rfl (by decide +kernel) ⟨by decide +kernel, by decide +kernel⟩ 0 rfl rfl rfl (sp_pl [0] [1, 2, 3, 4] rfl rfl rfl rfl rfl) rfl rfl (Nat.le_of_ble_eq_true rfl) dX12_advertise_7 ⟨by decide +kernel, by decide +kernel⟩ (fun r_19 u_17 hp_18 => ?_)
        subst hp_18
        show V _ _ _ _ _ _ _ _ _ _ _ _ _ _ (0, 0) [((q 7), .inl (K 0, 2, .inl (gl [0, 0]))), ((q 9), .inl (K 0, 2, .inl (gl [0, 0]))), ((q 10), .inl (K 0, 2, .inl (gl [0, 0]))), ((q 11), .inl (K 0, 2, .inl (gl [0, 0]))), (h, .inr (12, fsM q 0 0 0 0 0))] _ _ [.int 0]
        show V _ _ _ _ _ _ _ _ _ _ _ _ _ _ (0, 0) [((q 7), .inl (K 0, 2, .inl (gl [0, 0]))), ((q 9), .inl (K 0, 2, .inl (gl [0, 0]))), ((q 10), .inl (K 0, 2, .inl (gl [0, 0]))), ((q 11), .inl (K 0, 2, .inl (gl [0, 0]))), (h, .inr (12, fsM q 0 0 0 0 0))] _ _ _
        refine v_if_eq B (tgt := 34) dX12_advertise_10 (by decide +kernel) (fun _ => ?_) (fun h => absurd (by decide +kernel) h)
        refine v_iconst B (v := 0) dX12_advertise_34 (by decide +kernel) ?_
        refine v_forget (wc := []) (wr := []) (sp_pl [] [] rfl rfl rfl rfl rfl) ?_
        exact v_zret B hr hlk (by decide +kernel) () (by simp [an_advertise, h0, h1]) rfl (by decide +kernel) (by decide +kernel) dX12_advertise_35
      · skip
        refine v_aload_n B dX12_advertise_0 rfl rfl ?_
        refine v_iconst B (v := 0) dX12_advertise_1 (by decide +kernel) ?_
        refine v_put B (C := RX12) (T := TX12) (N := 123) (ci := 12) (k0 := 0) hi_y_advertise_X12 rfl rfl 0 (by decide +kernel) tyX12 tyX12_ok nmX12 (List.mem_of_getElem? (i := 1) rfl) rfl (ty := .int) (tyX12_ok 0 (by decide +kernel)) rfl rfl (Nat.le_of_ble_eq_true rfl) (w' := [(h, .inr (12, fsM q 0 0 0 0 0)), ((q 7), .inl (K 0, 2, .inl (gl [0, 0]))), ((q 9), .inl (K 0, 2, .inl (gl [0, 0]))), ((q 10), .inl (K 0, 2, .inl (gl [0, 0]))), ((q 11), .inl (K 0, 2, .inl (gl [0, 0])))]) rfl dX12_advertise_2 ?_
        refine v_aload_n B dX12_advertise_5 rfl rfl ?_
        refine v_iload_n B dX12_advertise_6 rfl rfl ?_
        refine v_callVi B (b := h) (n := 1) (As := [.int d]) (rest := []) (wc := [(h, .inr (12, fsM q 0 0 0 0 0))]) (wr := [((q 7), .inl (K 0, 2, .inl (gl [0, 0]))), ((q 9), .inl (K 0, 2, .inl (gl [0, 0]))), ((q 10), .inl (K 0, 2, .inl (gl [0, 0]))), ((q 11), .inl (K 0, 2, .inl (gl [0, 0])))]) (m_isStandby_n l D K h q fa sa d h0 h1) gd_y_advertise_m_isStandby_n_678 rfl rfl rfl (by decide +kernel) ⟨by decide +kernel, by decide +kernel⟩ 0 rfl rfl rfl (sp_pl [0] [1, 2, 3, 4] rfl rfl rfl rfl rfl) rfl rfl (Nat.le_of_ble_eq_true rfl) dX12_advertise_7 ⟨by decide +kernel, by decide +kernel⟩ (fun r_22 u_20 hp_21 => ?_)
        subst hp_21
        show V _ _ _ _ _ _ _ _ _ _ _ _ _ _ (0, 0) [((q 7), .inl (K 0, 2, .inl (gl [0, 0]))), ((q 9), .inl (K 0, 2, .inl (gl [0, 0]))), ((q 10), .inl (K 0, 2, .inl (gl [0, 0]))), ((q 11), .inl (K 0, 2, .inl (gl [0, 0]))), (h, .inr (12, fsM q 0 0 0 0 0))] _ _ [.int 0]
        show V _ _ _ _ _ _ _ _ _ _ _ _ _ _ (0, 0) [((q 7), .inl (K 0, 2, .inl (gl [0, 0]))), ((q 9), .inl (K 0, 2, .inl (gl [0, 0]))), ((q 10), .inl (K 0, 2, .inl (gl [0, 0]))), ((q 11), .inl (K 0, 2, .inl (gl [0, 0]))), (h, .inr (12, fsM q 0 0 0 0 0))] _ _ _
        refine v_if_eq B (tgt := 34) dX12_advertise_10 (by decide +kernel) (fun _ => ?_) (fun h => absurd (by decide +kernel) h)
        refine v_iconst B (v := 0) dX12_advertise_34 (by decide +kernel) ?_
        refine v_forget (wc := []) (wr := []) (sp_pl [] [] rfl rfl rfl rfl rfl) ?_
        exact v_zret B hr hlk (by decide +kernel) () (by simp [an_advertise, h0, h1]) rfl (by decide +kernel) (by decide +kernel) dX12_advertise_35
