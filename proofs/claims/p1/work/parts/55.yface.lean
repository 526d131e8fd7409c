def wp_y_thrown : List Cond := .code yX12_thrown cX12_thrown 1 (some .int) :: ([.fieldLink RX12 1 "LowEnergyModel" "thrown" "I"] ++ (wsX120 ++ ([])))
theorem hi_y_thrown_X12 : ∀ x ∈ u_ws RX12 TX12 123, x ∈ wp_y_thrown := fun _ h => List.mem_cons_of_mem _ (List.mem_append_right _ (List.mem_append_left _ h))
set_option maxHeartbeats 4000000 in
set_option maxRecDepth 100000 in
theorem y_thrown (l : Launch) (D : va_G) (K : Nat → ClassId) (h : Nat) (q : Nat → Nat) (th : Int32) (tp : Int32) (t : Int32) (pk : Int32) (an : Int32) : MG l yX12_thrown wp_y_thrown ({ frames := 0, cells := 0, slots := 0, locals := 0 }) D (tysA K) [.ref h] [(h, .inr (12, fsM q th tp t pk an))] (Qi D (fun (r : Int32) (_ : Unit) => r = th) (fun _ => [(h, .inr (12, fsM q th tp t pk an))])) 0 0 := by
  refine mg_of (cc := cX12_thrown) (maxL := 1) (ret := (some .int)) (by decide +kernel) rfl (Nat.le_of_ble_eq_true rfl) ?_
  intro p e s m below meth c A B hr hlk hnam
  show V _ _ _ _ _ _ _ _ _ _ _ _ _ _ _ _ [(0, .ref h)] _ _
  refine v_aload_n B dX12_thrown_0 rfl rfl ?_
  refine v_get B (C := RX12) (T := TX12) (N := 123) (ci := 12) (k0 := 0) hi_y_thrown_X12 rfl rfl 0 (by decide +kernel) (List.mem_of_getElem? (i := 1) rfl) rfl dX12_thrown_1 ?_
  exact v_iret B hr hlk () rfl rfl (by decide +kernel) (by decide +kernel) dX12_thrown_4

def wp_y_feed : List Cond := .code yX12_feed cX12_feed 8 (some .int) :: ([.fieldLink RX12 1 "LowEnergyModel" "thrown" "I", .fieldLink RX12 7 "LowEnergyModel" "taped" "I", .fieldLink RX12 10 "LowEnergyModel" "tape" "[B"] ++ (wsX120 ++ ([])))
theorem hi_y_feed_X12 : ∀ x ∈ u_ws RX12 TX12 123, x ∈ wp_y_feed := fun _ h => List.mem_cons_of_mem _ (List.mem_append_right _ (List.mem_append_left _ h))
set_option maxHeartbeats 4000000 in
set_option maxRecDepth 100000 in
theorem y_feed (l : Launch) (D : va_G) (K : Nat → ClassId) (h : Nat) (q : Nat → Nat) (fa : Int64) (sa : Int64) (a : Int32) (b : Int32) (c9 : Int32) (d : Int32) (e9 : Int32) : MG l yX12_feed wp_y_feed ({ frames := 0, cells := 0, slots := 0, locals := 0 }) D (tysA K) [.ref h, .int a, .int b, .int c9, .int d, .int e9] [(h, .inr (12, fsM q 0 0 0 0 0)), ((q 1), .inl (K 2, 100, .inl (fun _ => 0)))] (Qi D (fun (r : Int32) (_ : Unit) => r = an_feed a b c9 d e9) (fun _ => [])) 0 0 := by
  refine mg_of (cc := cX12_feed) (maxL := 8) (ret := (some .int)) (by decide +kernel) rfl (Nat.le_of_ble_eq_true rfl) ?_
  intro p e s m below meth c A B hr hlk hnam
  show V _ _ _ _ _ _ _ _ _ _ _ _ _ _ _ _ [(0, .ref h), (1, .int a), (2, .int b), (3, .int c9), (4, .int d), (5, .int e9)] _ _
  refine v_aload_n B dX12_feed_0 rfl rfl ?_
  refine v_iconst B (v := 0) dX12_feed_1 (by decide +kernel) ?_
  refine v_put B (C := RX12) (T := TX12) (N := 123) (ci := 12) (k0 := 0) hi_y_feed_X12 rfl rfl 0 (by decide +kernel) tyX12 tyX12_ok nmX12 (List.mem_of_getElem? (i := 1) rfl) rfl (ty := .int) (tyX12_ok 0 (by decide +kernel)) rfl rfl (Nat.le_of_ble_eq_true rfl) (w' := [(h, .inr (12, fsM q 0 0 0 0 0)), ((q 1), .inl (K 2, 100, .inl (fun _ => 0)))]) rfl dX12_feed_2 ?_
  refine v_aload_n B dX12_feed_5 rfl rfl ?_
  refine v_get B (C := RX12) (T := TX12) (N := 123) (ci := 12) (k0 := 0) hi_y_feed_X12 rfl rfl 2 (by decide +kernel) (List.mem_of_getElem? (i := 2) rfl) rfl dX12_feed_6 ?_
  refine v_bipush B (v := 20) dX12_feed_9 (by decide +kernel) ?_
  refine v_iadd B (v := 20) dX12_feed_11 (by decide +kernel) ?_
  refine v_bipush B (v := 100) dX12_feed_12 (by decide +kernel) ?_
  refine v_icmp_le B (tgt := 19) dX12_feed_14 (by decide +kernel) (fun _ => ?_) (fun h => absurd (by decide +kernel) h)
  refine v_iconst B (v := 0) dX12_feed_19 (by decide +kernel) ?_
  refine v_istore B (lv' := [(6, .int 0), (0, .ref h), (1, .int a), (2, .int b), (3, .int c9), (4, .int d), (5, .int e9)]) dX12_feed_20 (by decide +kernel) rfl ?_
  refine v_iload B dX12_feed_22 rfl ?_
  refine v_bipush B (v := 20) dX12_feed_24 (by decide +kernel) ?_
  refine v_icmp_ge B (tgt := 109) dX12_feed_26 (by decide +kernel) (fun h => absurd h (by decide +kernel)) (fun _ => ?_)
  refine v_iload B dX12_feed_29 rfl ?_
  refine v_iconst B (v := 4) dX12_feed_31 (by decide +kernel) ?_
  refine v_icmp_ge B (tgt := 39) dX12_feed_32 (by decide +kernel) (fun h => absurd h (by decide +kernel)) (fun _ => ?_)
  refine v_iload_n B dX12_feed_35 rfl rfl ?_
  refine v_goto B (tgt := 75) dX12_feed_36 (by decide +kernel) ?_
  refine v_istore B (lv' := [(7, .int a), (6, .int 0), (0, .ref h), (1, .int a), (2, .int b), (3, .int c9), (4, .int d), (5, .int e9)]) dX12_feed_75 (by decide +kernel) rfl ?_
  refine v_aload_n B dX12_feed_77 rfl rfl ?_
  refine v_get B (C := RX12) (T := TX12) (N := 123) (ci := 12) (k0 := 0) hi_y_feed_X12 rfl rfl 1 (by decide +kernel) (List.mem_of_getElem? (i := 3) rfl) rfl dX12_feed_78 ?_
  refine v_aload_n B dX12_feed_81 rfl rfl ?_
  refine v_get B (C := RX12) (T := TX12) (N := 123) (ci := 12) (k0 := 0) hi_y_feed_X12 rfl rfl 2 (by decide +kernel) (List.mem_of_getElem? (i := 2) rfl) rfl dX12_feed_82 ?_
  refine v_iload B dX12_feed_85 rfl ?_
  refine v_iadd B (v := 0) dX12_feed_87 (by decide +kernel) ?_
  refine v_iload B dX12_feed_88 rfl ?_
  refine v_bipush B (v := 24) dX12_feed_90 (by decide +kernel) ?_
  refine v_bipush B (v := 8) dX12_feed_92 (by decide +kernel) ?_
  refine v_iload B dX12_feed_94 rfl ?_
  refine v_iconst B (v := 3) dX12_feed_96 (by decide +kernel) ?_
  refine v_iand B (v := 0) dX12_feed_97 (by decide +kernel) ?_
  refine v_imul B (v := 0) dX12_feed_98 (by decide +kernel) ?_
  refine v_isub B (v := 24) dX12_feed_99 (by decide +kernel) ?_
  refine v_ishr B (v := (a >>> ((24 : Int32) &&& 31))) dX12_feed_100 rfl ?_
  refine v_i2b B (v := ((a >>> ((24 : Int32) &&& 31)) : Int32).toInt8.toInt32) dX12_feed_101 rfl ?_
  refine v_bast B (k0 := 1) (t0 := 2) (y := vp_nar .byte (((a >>> ((24 : Int32) &&& 31)) : Int32).toInt8.toInt32)) (w' := [(h, .inr (12, fsM q 0 0 0 0 0)), ((q 1), .inl (K 2, 100, .inl (upd (fun _ => 0) (0 : Int32).toNatClampNeg (vp_nar .byte (((a >>> ((24 : Int32) &&& 31)) : Int32).toInt8.toInt32)))))]) rfl rfl (vpi (by decide +kernel)) rfl rfl dX12_feed_102 ?_
  generalize upd (fun _ => 0) (0 : Int32).toNatClampNeg (vp_nar .byte (((a >>> ((24 : Int32) &&& 31)) : Int32).toInt8.toInt32)) = g_1
  refine v_iinc B (k := 1) (v := 1) (lv' := [(6, .int 1), (7, .int a), (0, .ref h), (1, .int a), (2, .int b), (3, .int c9), (4, .int d), (5, .int e9)]) dX12_feed_103 rfl (by decide +kernel) (by decide +kernel) rfl ?_
  refine v_goto B (tgt := 22) dX12_feed_106 (by decide +kernel) ?_
  refine v_iload B dX12_feed_22 rfl ?_
  refine v_bipush B (v := 20) dX12_feed_24 (by decide +kernel) ?_
  refine v_icmp_ge B (tgt := 109) dX12_feed_26 (by decide +kernel) (fun h => absurd h (by decide +kernel)) (fun _ => ?_)
  refine v_iload B dX12_feed_29 rfl ?_
  refine v_iconst B (v := 4) dX12_feed_31 (by decide +kernel) ?_
  refine v_icmp_ge B (tgt := 39) dX12_feed_32 (by decide +kernel) (fun h => absurd h (by decide +kernel)) (fun _ => ?_)
  refine v_iload_n B dX12_feed_35 rfl rfl ?_
  refine v_goto B (tgt := 75) dX12_feed_36 (by decide +kernel) ?_
  refine v_istore B (lv' := [(7, .int a), (6, .int 1), (0, .ref h), (1, .int a), (2, .int b), (3, .int c9), (4, .int d), (5, .int e9)]) dX12_feed_75 (by decide +kernel) rfl ?_
  refine v_aload_n B dX12_feed_77 rfl rfl ?_
  refine v_get B (C := RX12) (T := TX12) (N := 123) (ci := 12) (k0 := 0) hi_y_feed_X12 rfl rfl 1 (by decide +kernel) (List.mem_of_getElem? (i := 3) rfl) rfl dX12_feed_78 ?_
  refine v_aload_n B dX12_feed_81 rfl rfl ?_
  refine v_get B (C := RX12) (T := TX12) (N := 123) (ci := 12) (k0 := 0) hi_y_feed_X12 rfl rfl 2 (by decide +kernel) (List.mem_of_getElem? (i := 2) rfl) rfl dX12_feed_82 ?_
  refine v_iload B dX12_feed_85 rfl ?_
  refine v_iadd B (v := 1) dX12_feed_87 (by decide +kernel) ?_
  refine v_iload B dX12_feed_88 rfl ?_
  refine v_bipush B (v := 24) dX12_feed_90 (by decide +kernel) ?_
  refine v_bipush B (v := 8) dX12_feed_92 (by decide +kernel) ?_
  refine v_iload B dX12_feed_94 rfl ?_
  refine v_iconst B (v := 3) dX12_feed_96 (by decide +kernel) ?_
  refine v_iand B (v := 1) dX12_feed_97 (by decide +kernel) ?_
  refine v_imul B (v := 8) dX12_feed_98 (by decide +kernel) ?_
  refine v_isub B (v := 16) dX12_feed_99 (by decide +kernel) ?_
  refine v_ishr B (v := (a >>> ((16 : Int32) &&& 31))) dX12_feed_100 rfl ?_
  refine v_i2b B (v := ((a >>> ((16 : Int32) &&& 31)) : Int32).toInt8.toInt32) dX12_feed_101 rfl ?_
  refine v_bast B (k0 := 1) (t0 := 2) (y := vp_nar .byte (((a >>> ((16 : Int32) &&& 31)) : Int32).toInt8.toInt32)) (w' := [(h, .inr (12, fsM q 0 0 0 0 0)), ((q 1), .inl (K 2, 100, .inl (upd g_1 (1 : Int32).toNatClampNeg (vp_nar .byte (((a >>> ((16 : Int32) &&& 31)) : Int32).toInt8.toInt32)))))]) rfl rfl (vpi (by decide +kernel)) rfl rfl dX12_feed_102 ?_
  generalize upd g_1 (1 : Int32).toNatClampNeg (vp_nar .byte (((a >>> ((16 : Int32) &&& 31)) : Int32).toInt8.toInt32)) = g_2
  refine v_iinc B (k := 1) (v := 2) (lv' := [(6, .int 2), (7, .int a), (0, .ref h), (1, .int a), (2, .int b), (3, .int c9), (4, .int d), (5, .int e9)]) dX12_feed_103 rfl (by decide +kernel) (by decide +kernel) rfl ?_
  refine v_goto B (tgt := 22) dX12_feed_106 (by decide +kernel) ?_
  refine v_iload B dX12_feed_22 rfl ?_
  refine v_bipush B (v := 20) dX12_feed_24 (by decide +kernel) ?_
  refine v_icmp_ge B (tgt := 109) dX12_feed_26 (by decide +kernel) (fun h => absurd h (by decide +kernel)) (fun _ => ?_)
  refine v_iload B dX12_feed_29 rfl ?_
  refine v_iconst B (v := 4) dX12_feed_31 (by decide +kernel) ?_
  refine v_icmp_ge B (tgt := 39) dX12_feed_32 (by decide +kernel) (fun h => absurd h (by decide +kernel)) (fun _ => ?_)
  refine v_iload_n B dX12_feed_35 rfl rfl ?_
  refine v_goto B (tgt := 75) dX12_feed_36 (by decide +kernel) ?_
  refine v_istore B (lv' := [(7, .int a), (6, .int 2), (0, .ref h), (1, .int a), (2, .int b), (3, .int c9), (4, .int d), (5, .int e9)]) dX12_feed_75 (by decide +kernel) rfl ?_
  refine v_aload_n B dX12_feed_77 rfl rfl ?_
  refine v_get B (C := RX12) (T := TX12) (N := 123) (ci := 12) (k0 := 0) hi_y_feed_X12 rfl rfl 1 (by decide +kernel) (List.mem_of_getElem? (i := 3) rfl) rfl dX12_feed_78 ?_
  refine v_aload_n B dX12_feed_81 rfl rfl ?_
  refine v_get B (C := RX12) (T := TX12) (N := 123) (ci := 12) (k0 := 0) hi_y_feed_X12 rfl rfl 2 (by decide +kernel) (List.mem_of_getElem? (i := 2) rfl) rfl dX12_feed_82 ?_
  refine v_iload B dX12_feed_85 rfl ?_
  refine v_iadd B (v := 2) dX12_feed_87 (by decide +kernel) ?_
  refine v_iload B dX12_feed_88 rfl ?_
  refine v_bipush B (v := 24) dX12_feed_90 (by decide +kernel) ?_
  refine v_bipush B (v := 8) dX12_feed_92 (by decide +kernel) ?_
  refine v_iload B dX12_feed_94 rfl ?_
  refine v_iconst B (v := 3) dX12_feed_96 (by decide +kernel) ?_
  refine v_iand B (v := 2) dX12_feed_97 (by decide +kernel) ?_
  refine v_imul B (v := 16) dX12_feed_98 (by decide +kernel) ?_
  refine v_isub B (v := 8) dX12_feed_99 (by decide +kernel) ?_
  refine v_ishr B (v := (a >>> ((8 : Int32) &&& 31))) dX12_feed_100 rfl ?_
  refine v_i2b B (v := ((a >>> ((8 : Int32) &&& 31)) : Int32).toInt8.toInt32) dX12_feed_101 rfl ?_
  refine v_bast B (k0 := 1) (t0 := 2) (y := vp_nar .byte (((a >>> ((8 : Int32) &&& 31)) : Int32).toInt8.toInt32)) (w' := [(h, .inr (12, fsM q 0 0 0 0 0)), ((q 1), .inl (K 2, 100, .inl (upd g_2 (2 : Int32).toNatClampNeg (vp_nar .byte (((a >>> ((8 : Int32) &&& 31)) : Int32).toInt8.toInt32)))))]) rfl rfl (vpi (by decide +kernel)) rfl rfl dX12_feed_102 ?_
  generalize upd g_2 (2 : Int32).toNatClampNeg (vp_nar .byte (((a >>> ((8 : Int32) &&& 31)) : Int32).toInt8.toInt32)) = g_3
  refine v_iinc B (k := 1) (v := 3) (lv' := [(6, .int 3), (7, .int a), (0, .ref h), (1, .int a), (2, .int b), (3, .int c9), (4, .int d), (5, .int e9)]) dX12_feed_103 rfl (by decide +kernel) (by decide +kernel) rfl ?_
  refine v_goto B (tgt := 22) dX12_feed_106 (by decide +kernel) ?_
  refine v_iload B dX12_feed_22 rfl ?_
  refine v_bipush B (v := 20) dX12_feed_24 (by decide +kernel) ?_
  refine v_icmp_ge B (tgt := 109) dX12_feed_26 (by decide +kernel) (fun h => absurd h (by decide +kernel)) (fun _ => ?_)
  refine v_iload B dX12_feed_29 rfl ?_
  refine v_iconst B (v := 4) dX12_feed_31 (by decide +kernel) ?_
  refine v_icmp_ge B (tgt := 39) dX12_feed_32 (by decide +kernel) (fun h => absurd h (by decide +kernel)) (fun _ => ?_)
  refine v_iload_n B dX12_feed_35 rfl rfl ?_
  refine v_goto B (tgt := 75) dX12_feed_36 (by decide +kernel) ?_
  refine v_istore B (lv' := [(7, .int a), (6, .int 3), (0, .ref h), (1, .int a), (2, .int b), (3, .int c9), (4, .int d), (5, .int e9)]) dX12_feed_75 (by decide +kernel) rfl ?_
  refine v_aload_n B dX12_feed_77 rfl rfl ?_
  refine v_get B (C := RX12) (T := TX12) (N := 123) (ci := 12) (k0 := 0) hi_y_feed_X12 rfl rfl 1 (by decide +kernel) (List.mem_of_getElem? (i := 3) rfl) rfl dX12_feed_78 ?_
  refine v_aload_n B dX12_feed_81 rfl rfl ?_
  refine v_get B (C := RX12) (T := TX12) (N := 123) (ci := 12) (k0 := 0) hi_y_feed_X12 rfl rfl 2 (by decide +kernel) (List.mem_of_getElem? (i := 2) rfl) rfl dX12_feed_82 ?_
  refine v_iload B dX12_feed_85 rfl ?_
  refine v_iadd B (v := 3) dX12_feed_87 (by decide +kernel) ?_
  refine v_iload B dX12_feed_88 rfl ?_
  refine v_bipush B (v := 24) dX12_feed_90 (by decide +kernel) ?_
  refine v_bipush B (v := 8) dX12_feed_92 (by decide +kernel) ?_
  refine v_iload B dX12_feed_94 rfl ?_
  refine v_iconst B (v := 3) dX12_feed_96 (by decide +kernel) ?_
  refine v_iand B (v := 3) dX12_feed_97 (by decide +kernel) ?_
  refine v_imul B (v := 24) dX12_feed_98 (by decide +kernel) ?_
  refine v_isub B (v := 0) dX12_feed_99 (by decide +kernel) ?_
  refine v_ishr B (v := (a >>> ((0 : Int32) &&& 31))) dX12_feed_100 rfl ?_
  refine v_i2b B (v := ((a >>> ((0 : Int32) &&& 31)) : Int32).toInt8.toInt32) dX12_feed_101 rfl ?_
  refine v_bast B (k0 := 1) (t0 := 2) (y := vp_nar .byte (((a >>> ((0 : Int32) &&& 31)) : Int32).toInt8.toInt32)) (w' := [(h, .inr (12, fsM q 0 0 0 0 0)), ((q 1), .inl (K 2, 100, .inl (upd g_3 (3 : Int32).toNatClampNeg (vp_nar .byte (((a >>> ((0 : Int32) &&& 31)) : Int32).toInt8.toInt32)))))]) rfl rfl (vpi (by decide +kernel)) rfl rfl dX12_feed_102 ?_
  generalize upd g_3 (3 : Int32).toNatClampNeg (vp_nar .byte (((a >>> ((0 : Int32) &&& 31)) : Int32).toInt8.toInt32)) = g_4
  refine v_iinc B (k := 1) (v := 4) (lv' := [(6, .int 4), (7, .int a), (0, .ref h), (1, .int a), (2, .int b), (3, .int c9), (4, .int d), (5, .int e9)]) dX12_feed_103 rfl (by decide +kernel) (by decide +kernel) rfl ?_
  refine v_goto B (tgt := 22) dX12_feed_106 (by decide +kernel) ?_
  refine v_iload B dX12_feed_22 rfl ?_
  refine v_bipush B (v := 20) dX12_feed_24 (by decide +kernel) ?_
  refine v_icmp_ge B (tgt := 109) dX12_feed_26 (by decide +kernel) (fun h => absurd h (by decide +kernel)) (fun _ => ?_)
  refine v_iload B dX12_feed_29 rfl ?_
  refine v_iconst B (v := 4) dX12_feed_31 (by decide +kernel) ?_
  refine v_icmp_ge B (tgt := 39) dX12_feed_32 (by decide +kernel) (fun _ => ?_) (fun h => absurd (by decide +kernel) h)
  refine v_iload B dX12_feed_39 rfl ?_
  refine v_bipush B (v := 8) dX12_feed_41 (by decide +kernel) ?_
  refine v_icmp_ge B (tgt := 50) dX12_feed_43 (by decide +kernel) (fun h => absurd h (by decide +kernel)) (fun _ => ?_)
  refine v_iload_n B dX12_feed_46 rfl rfl ?_
  refine v_goto B (tgt := 75) dX12_feed_47 (by decide +kernel) ?_
  refine v_istore B (lv' := [(7, .int b), (6, .int 4), (0, .ref h), (1, .int a), (2, .int b), (3, .int c9), (4, .int d), (5, .int e9)]) dX12_feed_75 (by decide +kernel) rfl ?_
  refine v_aload_n B dX12_feed_77 rfl rfl ?_
  refine v_get B (C := RX12) (T := TX12) (N := 123) (ci := 12) (k0 := 0) hi_y_feed_X12 rfl rfl 1 (by decide +kernel) (List.mem_of_getElem? (i := 3) rfl) rfl dX12_feed_78 ?_
  refine v_aload_n B dX12_feed_81 rfl rfl ?_
  refine v_get B (C := RX12) (T := TX12) (N := 123) (ci := 12) (k0 := 0) hi_y_feed_X12 rfl rfl 2 (by decide +kernel) (List.mem_of_getElem? (i := 2) rfl) rfl dX12_feed_82 ?_
  refine v_iload B dX12_feed_85 rfl ?_
  refine v_iadd B (v := 4) dX12_feed_87 (by decide +kernel) ?_
  refine v_iload B dX12_feed_88 rfl ?_
  refine v_bipush B (v := 24) dX12_feed_90 (by decide +kernel) ?_
  refine v_bipush B (v := 8) dX12_feed_92 (by decide +kernel) ?_
  refine v_iload B dX12_feed_94 rfl ?_
  refine v_iconst B (v := 3) dX12_feed_96 (by decide +kernel) ?_
  refine v_iand B (v := 0) dX12_feed_97 (by decide +kernel) ?_
  refine v_imul B (v := 0) dX12_feed_98 (by decide +kernel) ?_
  refine v_isub B (v := 24) dX12_feed_99 (by decide +kernel) ?_
  refine v_ishr B (v := (b >>> ((24 : Int32) &&& 31))) dX12_feed_100 rfl ?_
  refine v_i2b B (v := ((b >>> ((24 : Int32) &&& 31)) : Int32).toInt8.toInt32) dX12_feed_101 rfl ?_
  refine v_bast B (k0 := 1) (t0 := 2) (y := vp_nar .byte (((b >>> ((24 : Int32) &&& 31)) : Int32).toInt8.toInt32)) (w' := [(h, .inr (12, fsM q 0 0 0 0 0)), ((q 1), .inl (K 2, 100, .inl (upd g_4 (4 : Int32).toNatClampNeg (vp_nar .byte (((b >>> ((24 : Int32) &&& 31)) : Int32).toInt8.toInt32)))))]) rfl rfl (vpi (by decide +kernel)) rfl rfl dX12_feed_102 ?_
  generalize upd g_4 (4 : Int32).toNatClampNeg (vp_nar .byte (((b >>> ((24 : Int32) &&& 31)) : Int32).toInt8.toInt32)) = g_5
  refine v_iinc B (k := 1) (v := 5) (lv' := [(6, .int 5), (7, .int b), (0, .ref h), (1, .int a), (2, .int b), (3, .int c9), (4, .int d), (5, .int e9)]) dX12_feed_103 rfl (by decide +kernel) (by decide +kernel) rfl ?_
  refine v_goto B (tgt := 22) dX12_feed_106 (by decide +kernel) ?_
  refine v_iload B dX12_feed_22 rfl ?_
  refine v_bipush B (v := 20) dX12_feed_24 (by decide +kernel) ?_
  refine v_icmp_ge B (tgt := 109) dX12_feed_26 (by decide +kernel) (fun h => absurd h (by decide +kernel)) (fun _ => ?_)
  refine v_iload B dX12_feed_29 rfl ?_
  refine v_iconst B (v := 4) dX12_feed_31 (by decide +kernel) ?_
  refine v_icmp_ge B (tgt := 39) dX12_feed_32 (by decide +kernel) (fun _ => ?_) (fun h => absurd (by decide +kernel) h)
  refine v_iload B dX12_feed_39 rfl ?_
  refine v_bipush B (v := 8) dX12_feed_41 (by decide +kernel) ?_
  refine v_icmp_ge B (tgt := 50) dX12_feed_43 (by decide +kernel) (fun h => absurd h (by decide +kernel)) (fun _ => ?_)
  refine v_iload_n B dX12_feed_46 rfl rfl ?_
  refine v_goto B (tgt := 75) dX12_feed_47 (by decide +kernel) ?_
  refine v_istore B (lv' := [(7, .int b), (6, .int 5), (0, .ref h), (1, .int a), (2, .int b), (3, .int c9), (4, .int d), (5, .int e9)]) dX12_feed_75 (by decide +kernel) rfl ?_
  refine v_aload_n B dX12_feed_77 rfl rfl ?_
  refine v_get B (C := RX12) (T := TX12) (N := 123) (ci := 12) (k0 := 0) hi_y_feed_X12 rfl rfl 1 (by decide +kernel) (List.mem_of_getElem? (i := 3) rfl) rfl dX12_feed_78 ?_
  refine v_aload_n B dX12_feed_81 rfl rfl ?_
  refine v_get B (C := RX12) (T := TX12) (N := 123) (ci := 12) (k0 := 0) hi_y_feed_X12 rfl rfl 2 (by decide +kernel) (List.mem_of_getElem? (i := 2) rfl) rfl dX12_feed_82 ?_
  refine v_iload B dX12_feed_85 rfl ?_
  refine v_iadd B (v := 5) dX12_feed_87 (by decide +kernel) ?_
  refine v_iload B dX12_feed_88 rfl ?_
  refine v_bipush B (v := 24) dX12_feed_90 (by decide +kernel) ?_
  refine v_bipush B (v := 8) dX12_feed_92 (by decide +kernel) ?_
  refine v_iload B dX12_feed_94 rfl ?_
  refine v_iconst B (v := 3) dX12_feed_96 (by decide +kernel) ?_
  refine v_iand B (v := 1) dX12_feed_97 (by decide +kernel) ?_
  refine v_imul B (v := 8) dX12_feed_98 (by decide +kernel) ?_
  refine v_isub B (v := 16) dX12_feed_99 (by decide +kernel) ?_
  refine v_ishr B (v := (b >>> ((16 : Int32) &&& 31))) dX12_feed_100 rfl ?_
  refine v_i2b B (v := ((b >>> ((16 : Int32) &&& 31)) : Int32).toInt8.toInt32) dX12_feed_101 rfl ?_
  refine v_bast B (k0 := 1) (t0 := 2) (y := vp_nar .byte (((b >>> ((16 : Int32) &&& 31)) : Int32).toInt8.toInt32)) (w' := [(h, .inr (12, fsM q 0 0 0 0 0)), ((q 1), .inl (K 2, 100, .inl (upd g_5 (5 : Int32).toNatClampNeg (vp_nar .byte (((b >>> ((16 : Int32) &&& 31)) : Int32).toInt8.toInt32)))))]) rfl rfl (vpi (by decide +kernel)) rfl rfl dX12_feed_102 ?_
  generalize upd g_5 (5 : Int32).toNatClampNeg (vp_nar .byte (((b >>> ((16 : Int32) &&& 31)) : Int32).toInt8.toInt32)) = g_6
  refine v_iinc B (k := 1) (v := 6) (lv' := [(6, .int 6), (7, .int b), (0, .ref h), (1, .int a), (2, .int b), (3, .int c9), (4, .int d), (5, .int e9)]) dX12_feed_103 rfl (by decide +kernel) (by decide +kernel) rfl ?_
  refine v_goto B (tgt := 22) dX12_feed_106 (by decide +kernel) ?_
  refine v_iload B dX12_feed_22 rfl ?_
  refine v_bipush B (v := 20) dX12_feed_24 (by decide +kernel) ?_
  refine v_icmp_ge B (tgt := 109) dX12_feed_26 (by decide +kernel) (fun h => absurd h (by decide +kernel)) (fun _ => ?_)
  refine v_iload B dX12_feed_29 rfl ?_
  refine v_iconst B (v := 4) dX12_feed_31 (by decide +kernel) ?_
  refine v_icmp_ge B (tgt := 39) dX12_feed_32 (by decide +kernel) (fun _ => ?_) (fun h => absurd (by decide +kernel) h)
  refine v_iload B dX12_feed_39 rfl ?_
  refine v_bipush B (v := 8) dX12_feed_41 (by decide +kernel) ?_
  refine v_icmp_ge B (tgt := 50) dX12_feed_43 (by decide +kernel) (fun h => absurd h (by decide +kernel)) (fun _ => ?_)
  refine v_iload_n B dX12_feed_46 rfl rfl ?_
  refine v_goto B (tgt := 75) dX12_feed_47 (by decide +kernel) ?_
  refine v_istore B (lv' := [(7, .int b), (6, .int 6), (0, .ref h), (1, .int a), (2, .int b), (3, .int c9), (4, .int d), (5, .int e9)]) dX12_feed_75 (by decide +kernel) rfl ?_
  refine v_aload_n B dX12_feed_77 rfl rfl ?_
  refine v_get B (C := RX12) (T := TX12) (N := 123) (ci := 12) (k0 := 0) hi_y_feed_X12 rfl rfl 1 (by decide +kernel) (List.mem_of_getElem? (i := 3) rfl) rfl dX12_feed_78 ?_
  refine v_aload_n B dX12_feed_81 rfl rfl ?_
  refine v_get B (C := RX12) (T := TX12) (N := 123) (ci := 12) (k0 := 0) hi_y_feed_X12 rfl rfl 2 (by decide +kernel) (List.mem_of_getElem? (i := 2) rfl) rfl dX12_feed_82 ?_
  refine v_iload B dX12_feed_85 rfl ?_
  refine v_iadd B (v := 6) dX12_feed_87 (by decide +kernel) ?_
  refine v_iload B dX12_feed_88 rfl ?_
  refine v_bipush B (v := 24) dX12_feed_90 (by decide +kernel) ?_
  refine v_bipush B (v := 8) dX12_feed_92 (by decide +kernel) ?_
  refine v_iload B dX12_feed_94 rfl ?_
  refine v_iconst B (v := 3) dX12_feed_96 (by decide +kernel) ?_
  refine v_iand B (v := 2) dX12_feed_97 (by decide +kernel) ?_
  refine v_imul B (v := 16) dX12_feed_98 (by decide +kernel) ?_
  refine v_isub B (v := 8) dX12_feed_99 (by decide +kernel) ?_
  refine v_ishr B (v := (b >>> ((8 : Int32) &&& 31))) dX12_feed_100 rfl ?_
  refine v_i2b B (v := ((b >>> ((8 : Int32) &&& 31)) : Int32).toInt8.toInt32) dX12_feed_101 rfl ?_
  refine v_bast B (k0 := 1) (t0 := 2) (y := vp_nar .byte (((b >>> ((8 : Int32) &&& 31)) : Int32).toInt8.toInt32)) (w' := [(h, .inr (12, fsM q 0 0 0 0 0)), ((q 1), .inl (K 2, 100, .inl (upd g_6 (6 : Int32).toNatClampNeg (vp_nar .byte (((b >>> ((8 : Int32) &&& 31)) : Int32).toInt8.toInt32)))))]) rfl rfl (vpi (by decide +kernel)) rfl rfl dX12_feed_102 ?_
  generalize upd g_6 (6 : Int32).toNatClampNeg (vp_nar .byte (((b >>> ((8 : Int32) &&& 31)) : Int32).toInt8.toInt32)) = g_7
  refine v_iinc B (k := 1) (v := 7) (lv' := [(6, .int 7), (7, .int b), (0, .ref h), (1, .int a), (2, .int b), (3, .int c9), (4, .int d), (5, .int e9)]) dX12_feed_103 rfl (by decide +kernel) (by decide +kernel) rfl ?_
  refine v_goto B (tgt := 22) dX12_feed_106 (by decide +kernel) ?_
  refine v_iload B dX12_feed_22 rfl ?_
  refine v_bipush B (v := 20) dX12_feed_24 (by decide +kernel) ?_
  refine v_icmp_ge B (tgt := 109) dX12_feed_26 (by decide +kernel) (fun h => absurd h (by decide +kernel)) (fun _ => ?_)
  refine v_iload B dX12_feed_29 rfl ?_
  refine v_iconst B (v := 4) dX12_feed_31 (by decide +kernel) ?_
  refine v_icmp_ge B (tgt := 39) dX12_feed_32 (by decide +kernel) (fun _ => ?_) (fun h => absurd (by decide +kernel) h)
  refine v_iload B dX12_feed_39 rfl ?_
  refine v_bipush B (v := 8) dX12_feed_41 (by decide +kernel) ?_
  refine v_icmp_ge B (tgt := 50) dX12_feed_43 (by decide +kernel) (fun h => absurd h (by decide +kernel)) (fun _ => ?_)
  refine v_iload_n B dX12_feed_46 rfl rfl ?_
  refine v_goto B (tgt := 75) dX12_feed_47 (by decide +kernel) ?_
  refine v_istore B (lv' := [(7, .int b), (6, .int 7), (0, .ref h), (1, .int a), (2, .int b), (3, .int c9), (4, .int d), (5, .int e9)]) dX12_feed_75 (by decide +kernel) rfl ?_
  refine v_aload_n B dX12_feed_77 rfl rfl ?_
  refine v_get B (C := RX12) (T := TX12) (N := 123) (ci := 12) (k0 := 0) hi_y_feed_X12 rfl rfl 1 (by decide +kernel) (List.mem_of_getElem? (i := 3) rfl) rfl dX12_feed_78 ?_
  refine v_aload_n B dX12_feed_81 rfl rfl ?_
  refine v_get B (C := RX12) (T := TX12) (N := 123) (ci := 12) (k0 := 0) hi_y_feed_X12 rfl rfl 2 (by decide +kernel) (List.mem_of_getElem? (i := 2) rfl) rfl dX12_feed_82 ?_
  refine v_iload B dX12_feed_85 rfl ?_
  refine v_iadd B (v := 7) dX12_feed_87 (by decide +kernel) ?_
  refine v_iload B dX12_feed_88 rfl ?_
  refine v_bipush B (v := 24) dX12_feed_90 (by decide +kernel) ?_
  refine v_bipush B (v := 8) dX12_feed_92 (by decide +kernel) ?_
  refine v_iload B dX12_feed_94 rfl ?_
  refine v_iconst B (v := 3) dX12_feed_96 (by decide +kernel) ?_
  refine v_iand B (v := 3) dX12_feed_97 (by decide +kernel) ?_
  refine v_imul B (v := 24) dX12_feed_98 (by decide +kernel) ?_
  refine v_isub B (v := 0) dX12_feed_99 (by decide +kernel) ?_
  refine v_ishr B (v := (b >>> ((0 : Int32) &&& 31))) dX12_feed_100 rfl ?_
  refine v_i2b B (v := ((b >>> ((0 : Int32) &&& 31)) : Int32).toInt8.toInt32) dX12_feed_101 rfl ?_
  refine v_bast B (k0 := 1) (t0 := 2) (y := vp_nar .byte (((b >>> ((0 : Int32) &&& 31)) : Int32).toInt8.toInt32)) (w' := [(h, .inr (12, fsM q 0 0 0 0 0)), ((q 1), .inl (K 2, 100, .inl (upd g_7 (7 : Int32).toNatClampNeg (vp_nar .byte (((b >>> ((0 : Int32) &&& 31)) : Int32).toInt8.toInt32)))))]) rfl rfl (vpi (by decide +kernel)) rfl rfl dX12_feed_102 ?_
  generalize upd g_7 (7 : Int32).toNatClampNeg (vp_nar .byte (((b >>> ((0 : Int32) &&& 31)) : Int32).toInt8.toInt32)) = g_8
  refine v_iinc B (k := 1) (v := 8) (lv' := [(6, .int 8), (7, .int b), (0, .ref h), (1, .int a), (2, .int b), (3, .int c9), (4, .int d), (5, .int e9)]) dX12_feed_103 rfl (by decide +kernel) (by decide +kernel) rfl ?_
  refine v_goto B (tgt := 22) dX12_feed_106 (by decide +kernel) ?_
  refine v_iload B dX12_feed_22 rfl ?_
  refine v_bipush B (v := 20) dX12_feed_24 (by decide +kernel) ?_
  refine v_icmp_ge B (tgt := 109) dX12_feed_26 (by decide +kernel) (fun h => absurd h (by decide +kernel)) (fun _ => ?_)
  refine v_iload B dX12_feed_29 rfl ?_
  refine v_iconst B (v := 4) dX12_feed_31 (by decide +kernel) ?_
  refine v_icmp_ge B (tgt := 39) dX12_feed_32 (by decide +kernel) (fun _ => ?_) (fun h => absurd (by decide +kernel) h)
  refine v_iload B dX12_feed_39 rfl ?_
  refine v_bipush B (v := 8) dX12_feed_41 (by decide +kernel) ?_
  refine v_icmp_ge B (tgt := 50) dX12_feed_43 (by decide +kernel) (fun _ => ?_) (fun h => absurd (by decide +kernel) h)
  refine v_iload B dX12_feed_50 rfl ?_
  refine v_bipush B (v := 12) dX12_feed_52 (by decide +kernel) ?_
  refine v_icmp_ge B (tgt := 61) dX12_feed_54 (by decide +kernel) (fun h => absurd h (by decide +kernel)) (fun _ => ?_)
  refine v_iload_n B dX12_feed_57 rfl rfl ?_
  refine v_goto B (tgt := 75) dX12_feed_58 (by decide +kernel) ?_
  refine v_istore B (lv' := [(7, .int c9), (6, .int 8), (0, .ref h), (1, .int a), (2, .int b), (3, .int c9), (4, .int d), (5, .int e9)]) dX12_feed_75 (by decide +kernel) rfl ?_
  refine v_aload_n B dX12_feed_77 rfl rfl ?_
  refine v_get B (C := RX12) (T := TX12) (N := 123) (ci := 12) (k0 := 0) hi_y_feed_X12 rfl rfl 1 (by decide +kernel) (List.mem_of_getElem? (i := 3) rfl) rfl dX12_feed_78 ?_
  refine v_aload_n B dX12_feed_81 rfl rfl ?_
  refine v_get B (C := RX12) (T := TX12) (N := 123) (ci := 12) (k0 := 0) hi_y_feed_X12 rfl rfl 2 (by decide +kernel) (List.mem_of_getElem? (i := 2) rfl) rfl dX12_feed_82 ?_
  refine v_iload B dX12_feed_85 rfl ?_
  refine v_iadd B (v := 8) dX12_feed_87 (by decide +kernel) ?_
  refine v_iload B dX12_feed_88 rfl ?_
  refine v_bipush B (v := 24) dX12_feed_90 (by decide +kernel) ?_
  refine v_bipush B (v := 8) dX12_feed_92 (by decide +kernel) ?_
  refine v_iload B dX12_feed_94 rfl ?_
  refine v_iconst B (v := 3) dX12_feed_96 (by decide +kernel) ?_
  refine v_iand B (v := 0) dX12_feed_97 (by decide +kernel) ?_
  refine v_imul B (v := 0) dX12_feed_98 (by decide +kernel) ?_
  refine v_isub B (v := 24) dX12_feed_99 (by decide +kernel) ?_
  refine v_ishr B (v := (c9 >>> ((24 : Int32) &&& 31))) dX12_feed_100 rfl ?_
  refine v_i2b B (v := ((c9 >>> ((24 : Int32) &&& 31)) : Int32).toInt8.toInt32) dX12_feed_101 rfl ?_
  refine v_bast B (k0 := 1) (t0 := 2) (y := vp_nar .byte (((c9 >>> ((24 : Int32) &&& 31)) : Int32).toInt8.toInt32)) (w' := [(h, .inr (12, fsM q 0 0 0 0 0)), ((q 1), .inl (K 2, 100, .inl (upd g_8 (8 : Int32).toNatClampNeg (vp_nar .byte (((c9 >>> ((24 : Int32) &&& 31)) : Int32).toInt8.toInt32)))))]) rfl rfl (vpi (by decide +kernel)) rfl rfl dX12_feed_102 ?_
  generalize upd g_8 (8 : Int32).toNatClampNeg (vp_nar .byte (((c9 >>> ((24 : Int32) &&& 31)) : Int32).toInt8.toInt32)) = g_9
  refine v_iinc B (k := 1) (v := 9) (lv' := [(6, .int 9), (7, .int c9), (0, .ref h), (1, .int a), (2, .int b), (3, .int c9), (4, .int d), (5, .int e9)]) dX12_feed_103 rfl (by decide +kernel) (by decide +kernel) rfl ?_
  refine v_goto B (tgt := 22) dX12_feed_106 (by decide +kernel) ?_
  refine v_iload B dX12_feed_22 rfl ?_
  refine v_bipush B (v := 20) dX12_feed_24 (by decide +kernel) ?_
  refine v_icmp_ge B (tgt := 109) dX12_feed_26 (by decide +kernel) (fun h => absurd h (by decide +kernel)) (fun _ => ?_)
  refine v_iload B dX12_feed_29 rfl ?_
  refine v_iconst B (v := 4) dX12_feed_31 (by decide +kernel) ?_
  refine v_icmp_ge B (tgt := 39) dX12_feed_32 (by decide +kernel) (fun _ => ?_) (fun h => absurd (by decide +kernel) h)
  refine v_iload B dX12_feed_39 rfl ?_
  refine v_bipush B (v := 8) dX12_feed_41 (by decide +kernel) ?_
  refine v_icmp_ge B (tgt := 50) dX12_feed_43 (by decide +kernel) (fun _ => ?_) (fun h => absurd (by decide +kernel) h)
  refine v_iload B dX12_feed_50 rfl ?_
  refine v_bipush B (v := 12) dX12_feed_52 (by decide +kernel) ?_
  refine v_icmp_ge B (tgt := 61) dX12_feed_54 (by decide +kernel) (fun h => absurd h (by decide +kernel)) (fun _ => ?_)
  refine v_iload_n B dX12_feed_57 rfl rfl ?_
  refine v_goto B (tgt := 75) dX12_feed_58 (by decide +kernel) ?_
  refine v_istore B (lv' := [(7, .int c9), (6, .int 9), (0, .ref h), (1, .int a), (2, .int b), (3, .int c9), (4, .int d), (5, .int e9)]) dX12_feed_75 (by decide +kernel) rfl ?_
  refine v_aload_n B dX12_feed_77 rfl rfl ?_
  refine v_get B (C := RX12) (T := TX12) (N := 123) (ci := 12) (k0 := 0) hi_y_feed_X12 rfl rfl 1 (by decide +kernel) (List.mem_of_getElem? (i := 3) rfl) rfl dX12_feed_78 ?_
  refine v_aload_n B dX12_feed_81 rfl rfl ?_
  refine v_get B (C := RX12) (T := TX12) (N := 123) (ci := 12) (k0 := 0) hi_y_feed_X12 rfl rfl 2 (by decide +kernel) (List.mem_of_getElem? (i := 2) rfl) rfl dX12_feed_82 ?_
  refine v_iload B dX12_feed_85 rfl ?_
  refine v_iadd B (v := 9) dX12_feed_87 (by decide +kernel) ?_
  refine v_iload B dX12_feed_88 rfl ?_
  refine v_bipush B (v := 24) dX12_feed_90 (by decide +kernel) ?_
  refine v_bipush B (v := 8) dX12_feed_92 (by decide +kernel) ?_
  refine v_iload B dX12_feed_94 rfl ?_
  refine v_iconst B (v := 3) dX12_feed_96 (by decide +kernel) ?_
  refine v_iand B (v := 1) dX12_feed_97 (by decide +kernel) ?_
  refine v_imul B (v := 8) dX12_feed_98 (by decide +kernel) ?_
  refine v_isub B (v := 16) dX12_feed_99 (by decide +kernel) ?_
  refine v_ishr B (v := (c9 >>> ((16 : Int32) &&& 31))) dX12_feed_100 rfl ?_
  refine v_i2b B (v := ((c9 >>> ((16 : Int32) &&& 31)) : Int32).toInt8.toInt32) dX12_feed_101 rfl ?_
  refine v_bast B (k0 := 1) (t0 := 2) (y := vp_nar .byte (((c9 >>> ((16 : Int32) &&& 31)) : Int32).toInt8.toInt32)) (w' := [(h, .inr (12, fsM q 0 0 0 0 0)), ((q 1), .inl (K 2, 100, .inl (upd g_9 (9 : Int32).toNatClampNeg (vp_nar .byte (((c9 >>> ((16 : Int32) &&& 31)) : Int32).toInt8.toInt32)))))]) rfl rfl (vpi (by decide +kernel)) rfl rfl dX12_feed_102 ?_
  generalize upd g_9 (9 : Int32).toNatClampNeg (vp_nar .byte (((c9 >>> ((16 : Int32) &&& 31)) : Int32).toInt8.toInt32)) = g_10
  refine v_iinc B (k := 1) (v := 10) (lv' := [(6, .int 10), (7, .int c9), (0, .ref h), (1, .int a), (2, .int b), (3, .int c9), (4, .int d), (5, .int e9)]) dX12_feed_103 rfl (by decide +kernel) (by decide +kernel) rfl ?_
  refine v_goto B (tgt := 22) dX12_feed_106 (by decide +kernel) ?_
  refine v_iload B dX12_feed_22 rfl ?_
  refine v_bipush B (v := 20) dX12_feed_24 (by decide +kernel) ?_
  refine v_icmp_ge B (tgt := 109) dX12_feed_26 (by decide +kernel) (fun h => absurd h (by decide +kernel)) (fun _ => ?_)
  refine v_iload B dX12_feed_29 rfl ?_
  refine v_iconst B (v := 4) dX12_feed_31 (by decide +kernel) ?_
  refine v_icmp_ge B (tgt := 39) dX12_feed_32 (by decide +kernel) (fun _ => ?_) (fun h => absurd (by decide +kernel) h)
  refine v_iload B dX12_feed_39 rfl ?_
  refine v_bipush B (v := 8) dX12_feed_41 (by decide +kernel) ?_
  refine v_icmp_ge B (tgt := 50) dX12_feed_43 (by decide +kernel) (fun _ => ?_) (fun h => absurd (by decide +kernel) h)
  refine v_iload B dX12_feed_50 rfl ?_
  refine v_bipush B (v := 12) dX12_feed_52 (by decide +kernel) ?_
  refine v_icmp_ge B (tgt := 61) dX12_feed_54 (by decide +kernel) (fun h => absurd h (by decide +kernel)) (fun _ => ?_)
  refine v_iload_n B dX12_feed_57 rfl rfl ?_
  refine v_goto B (tgt := 75) dX12_feed_58 (by decide +kernel) ?_
  refine v_istore B (lv' := [(7, .int c9), (6, .int 10), (0, .ref h), (1, .int a), (2, .int b), (3, .int c9), (4, .int d), (5, .int e9)]) dX12_feed_75 (by decide +kernel) rfl ?_
  refine v_aload_n B dX12_feed_77 rfl rfl ?_
  refine v_get B (C := RX12) (T := TX12) (N := 123) (ci := 12) (k0 := 0) hi_y_feed_X12 rfl rfl 1 (by decide +kernel) (List.mem_of_getElem? (i := 3) rfl) rfl dX12_feed_78 ?_
  refine v_aload_n B dX12_feed_81 rfl rfl ?_
  refine v_get B (C := RX12) (T := TX12) (N := 123) (ci := 12) (k0 := 0) hi_y_feed_X12 rfl rfl 2 (by decide +kernel) (List.mem_of_getElem? (i := 2) rfl) rfl dX12_feed_82 ?_
  refine v_iload B dX12_feed_85 rfl ?_
  refine v_iadd B (v := 10) dX12_feed_87 (by decide +kernel) ?_
  refine v_iload B dX12_feed_88 rfl ?_
  refine v_bipush B (v := 24) dX12_feed_90 (by decide +kernel) ?_
  refine v_bipush B (v := 8) dX12_feed_92 (by decide +kernel) ?_
  refine v_iload B dX12_feed_94 rfl ?_
  refine v_iconst B (v := 3) dX12_feed_96 (by decide +kernel) ?_
  refine v_iand B (v := 2) dX12_feed_97 (by decide +kernel) ?_
  refine v_imul B (v := 16) dX12_feed_98 (by decide +kernel) ?_
  refine v_isub B (v := 8) dX12_feed_99 (by decide +kernel) ?_
  refine v_ishr B (v := (c9 >>> ((8 : Int32) &&& 31))) dX12_feed_100 rfl ?_
  refine v_i2b B (v := ((c9 >>> ((8 : Int32) &&& 31)) : Int32).toInt8.toInt32) dX12_feed_101 rfl ?_
  refine v_bast B (k0 := 1) (t0 := 2) (y := vp_nar .byte (((c9 >>> ((8 : Int32) &&& 31)) : Int32).toInt8.toInt32)) (w' := [(h, .inr (12, fsM q 0 0 0 0 0)), ((q 1), .inl (K 2, 100, .inl (upd g_10 (10 : Int32).toNatClampNeg (vp_nar .byte (((c9 >>> ((8 : Int32) &&& 31)) : Int32).toInt8.toInt32)))))]) rfl rfl (vpi (by decide +kernel)) rfl rfl dX12_feed_102 ?_
  generalize upd g_10 (10 : Int32).toNatClampNeg (vp_nar .byte (((c9 >>> ((8 : Int32) &&& 31)) : Int32).toInt8.toInt32)) = g_11
  refine v_iinc B (k := 1) (v := 11) (lv' := [(6, .int 11), (7, .int c9), (0, .ref h), (1, .int a), (2, .int b), (3, .int c9), (4, .int d), (5, .int e9)]) dX12_feed_103 rfl (by decide +kernel) (by decide +kernel) rfl ?_
  refine v_goto B (tgt := 22) dX12_feed_106 (by decide +kernel) ?_
  refine v_iload B dX12_feed_22 rfl ?_
  refine v_bipush B (v := 20) dX12_feed_24 (by decide +kernel) ?_
  refine v_icmp_ge B (tgt := 109) dX12_feed_26 (by decide +kernel) (fun h => absurd h (by decide +kernel)) (fun _ => ?_)
  refine v_iload B dX12_feed_29 rfl ?_
  refine v_iconst B (v := 4) dX12_feed_31 (by decide +kernel) ?_
  refine v_icmp_ge B (tgt := 39) dX12_feed_32 (by decide +kernel) (fun _ => ?_) (fun h => absurd (by decide +kernel) h)
  refine v_iload B dX12_feed_39 rfl ?_
  refine v_bipush B (v := 8) dX12_feed_41 (by decide +kernel) ?_
  refine v_icmp_ge B (tgt := 50) dX12_feed_43 (by decide +kernel) (fun _ => ?_) (fun h => absurd (by decide +kernel) h)
  refine v_iload B dX12_feed_50 rfl ?_
  refine v_bipush B (v := 12) dX12_feed_52 (by decide +kernel) ?_
  refine v_icmp_ge B (tgt := 61) dX12_feed_54 (by decide +kernel) (fun h => absurd h (by decide +kernel)) (fun _ => ?_)
  refine v_iload_n B dX12_feed_57 rfl rfl ?_
  refine v_goto B (tgt := 75) dX12_feed_58 (by decide +kernel) ?_
  refine v_istore B (lv' := [(7, .int c9), (6, .int 11), (0, .ref h), (1, .int a), (2, .int b), (3, .int c9), (4, .int d), (5, .int e9)]) dX12_feed_75 (by decide +kernel) rfl ?_
  refine v_aload_n B dX12_feed_77 rfl rfl ?_
  refine v_get B (C := RX12) (T := TX12) (N := 123) (ci := 12) (k0 := 0) hi_y_feed_X12 rfl rfl 1 (by decide +kernel) (List.mem_of_getElem? (i := 3) rfl) rfl dX12_feed_78 ?_
  refine v_aload_n B dX12_feed_81 rfl rfl ?_
  refine v_get B (C := RX12) (T := TX12) (N := 123) (ci := 12) (k0 := 0) hi_y_feed_X12 rfl rfl 2 (by decide +kernel) (List.mem_of_getElem? (i := 2) rfl) rfl dX12_feed_82 ?_
  refine v_iload B dX12_feed_85 rfl ?_
  refine v_iadd B (v := 11) dX12_feed_87 (by decide +kernel) ?_
  refine v_iload B dX12_feed_88 rfl ?_
  refine v_bipush B (v := 24) dX12_feed_90 (by decide +kernel) ?_
  refine v_bipush B (v := 8) dX12_feed_92 (by decide +kernel) ?_
  refine v_iload B dX12_feed_94 rfl ?_
  refine v_iconst B (v := 3) dX12_feed_96 (by decide +kernel) ?_
  refine v_iand B (v := 3) dX12_feed_97 (by decide +kernel) ?_
  refine v_imul B (v := 24) dX12_feed_98 (by decide +kernel) ?_
  refine v_isub B (v := 0) dX12_feed_99 (by decide +kernel) ?_
  refine v_ishr B (v := (c9 >>> ((0 : Int32) &&& 31))) dX12_feed_100 rfl ?_
  refine v_i2b B (v := ((c9 >>> ((0 : Int32) &&& 31)) : Int32).toInt8.toInt32) dX12_feed_101 rfl ?_
  refine v_bast B (k0 := 1) (t0 := 2) (y := vp_nar .byte (((c9 >>> ((0 : Int32) &&& 31)) : Int32).toInt8.toInt32)) (w' := [(h, .inr (12, fsM q 0 0 0 0 0)), ((q 1), .inl (K 2, 100, .inl (upd g_11 (11 : Int32).toNatClampNeg (vp_nar .byte (((c9 >>> ((0 : Int32) &&& 31)) : Int32).toInt8.toInt32)))))]) rfl rfl (vpi (by decide +kernel)) rfl rfl dX12_feed_102 ?_
  generalize upd g_11 (11 : Int32).toNatClampNeg (vp_nar .byte (((c9 >>> ((0 : Int32) &&& 31)) : Int32).toInt8.toInt32)) = g_12
  refine v_iinc B (k := 1) (v := 12) (lv' := [(6, .int 12), (7, .int c9), (0, .ref h), (1, .int a), (2, .int b), (3, .int c9), (4, .int d), (5, .int e9)]) dX12_feed_103 rfl (by decide +kernel) (by decide +kernel) rfl ?_
  refine v_goto B (tgt := 22) dX12_feed_106 (by decide +kernel) ?_
  refine v_iload B dX12_feed_22 rfl ?_
  refine v_bipush B (v := 20) dX12_feed_24 (by decide +kernel) ?_
  refine v_icmp_ge B (tgt := 109) dX12_feed_26 (by decide +kernel) (fun h => absurd h (by decide +kernel)) (fun _ => ?_)
  refine v_iload B dX12_feed_29 rfl ?_
  refine v_iconst B (v := 4) dX12_feed_31 (by decide +kernel) ?_
  refine v_icmp_ge B (tgt := 39) dX12_feed_32 (by decide +kernel) (fun _ => ?_) (fun h => absurd (by decide +kernel) h)
  refine v_iload B dX12_feed_39 rfl ?_
  refine v_bipush B (v := 8) dX12_feed_41 (by decide +kernel) ?_
  refine v_icmp_ge B (tgt := 50) dX12_feed_43 (by decide +kernel) (fun _ => ?_) (fun h => absurd (by decide +kernel) h)
  refine v_iload B dX12_feed_50 rfl ?_
  refine v_bipush B (v := 12) dX12_feed_52 (by decide +kernel) ?_
  refine v_icmp_ge B (tgt := 61) dX12_feed_54 (by decide +kernel) (fun _ => ?_) (fun h => absurd (by decide +kernel) h)
  refine v_iload B dX12_feed_61 rfl ?_
  refine v_bipush B (v := 16) dX12_feed_63 (by decide +kernel) ?_
  refine v_icmp_ge B (tgt := 73) dX12_feed_65 (by decide +kernel) (fun h => absurd h (by decide +kernel)) (fun _ => ?_)
  refine v_iload B dX12_feed_68 rfl ?_
  refine v_goto B (tgt := 75) dX12_feed_70 (by decide +kernel) ?_
  refine v_istore B (lv' := [(7, .int d), (6, .int 12), (0, .ref h), (1, .int a), (2, .int b), (3, .int c9), (4, .int d), (5, .int e9)]) dX12_feed_75 (by decide +kernel) rfl ?_
  refine v_aload_n B dX12_feed_77 rfl rfl ?_
  refine v_get B (C := RX12) (T := TX12) (N := 123) (ci := 12) (k0 := 0) hi_y_feed_X12 rfl rfl 1 (by decide +kernel) (List.mem_of_getElem? (i := 3) rfl) rfl dX12_feed_78 ?_
  refine v_aload_n B dX12_feed_81 rfl rfl ?_
  refine v_get B (C := RX12) (T := TX12) (N := 123) (ci := 12) (k0 := 0) hi_y_feed_X12 rfl rfl 2 (by decide +kernel) (List.mem_of_getElem? (i := 2) rfl) rfl dX12_feed_82 ?_
  refine v_iload B dX12_feed_85 rfl ?_
  refine v_iadd B (v := 12) dX12_feed_87 (by decide +kernel) ?_
  refine v_iload B dX12_feed_88 rfl ?_
  refine v_bipush B (v := 24) dX12_feed_90 (by decide +kernel) ?_
  refine v_bipush B (v := 8) dX12_feed_92 (by decide +kernel) ?_
  refine v_iload B dX12_feed_94 rfl ?_
  refine v_iconst B (v := 3) dX12_feed_96 (by decide +kernel) ?_
  refine v_iand B (v := 0) dX12_feed_97 (by decide +kernel) ?_
  refine v_imul B (v := 0) dX12_feed_98 (by decide +kernel) ?_
  refine v_isub B (v := 24) dX12_feed_99 (by decide +kernel) ?_
  refine v_ishr B (v := (d >>> ((24 : Int32) &&& 31))) dX12_feed_100 rfl ?_
  refine v_i2b B (v := ((d >>> ((24 : Int32) &&& 31)) : Int32).toInt8.toInt32) dX12_feed_101 rfl ?_
  refine v_bast B (k0 := 1) (t0 := 2) (y := vp_nar .byte (((d >>> ((24 : Int32) &&& 31)) : Int32).toInt8.toInt32)) (w' := [(h, .inr (12, fsM q 0 0 0 0 0)), ((q 1), .inl (K 2, 100, .inl (upd g_12 (12 : Int32).toNatClampNeg (vp_nar .byte (((d >>> ((24 : Int32) &&& 31)) : Int32).toInt8.toInt32)))))]) rfl rfl (vpi (by decide +kernel)) rfl rfl dX12_feed_102 ?_
  generalize upd g_12 (12 : Int32).toNatClampNeg (vp_nar .byte (((d >>> ((24 : Int32) &&& 31)) : Int32).toInt8.toInt32)) = g_13
  refine v_iinc B (k := 1) (v := 13) (lv' := [(6, .int 13), (7, .int d), (0, .ref h), (1, .int a), (2, .int b), (3, .int c9), (4, .int d), (5, .int e9)]) dX12_feed_103 rfl (by decide +kernel) (by decide +kernel) rfl ?_
  refine v_goto B (tgt := 22) dX12_feed_106 (by decide +kernel) ?_
  refine v_iload B dX12_feed_22 rfl ?_
  refine v_bipush B (v := 20) dX12_feed_24 (by decide +kernel) ?_
  refine v_icmp_ge B (tgt := 109) dX12_feed_26 (by decide +kernel) (fun h => absurd h (by decide +kernel)) (fun _ => ?_)
  refine v_iload B dX12_feed_29 rfl ?_
  refine v_iconst B (v := 4) dX12_feed_31 (by decide +kernel) ?_
  refine v_icmp_ge B (tgt := 39) dX12_feed_32 (by decide +kernel) (fun _ => ?_) (fun h => absurd (by decide +kernel) h)
  refine v_iload B dX12_feed_39 rfl ?_
  refine v_bipush B (v := 8) dX12_feed_41 (by decide +kernel) ?_
  refine v_icmp_ge B (tgt := 50) dX12_feed_43 (by decide +kernel) (fun _ => ?_) (fun h => absurd (by decide +kernel) h)
  refine v_iload B dX12_feed_50 rfl ?_
  refine v_bipush B (v := 12) dX12_feed_52 (by decide +kernel) ?_
  refine v_icmp_ge B (tgt := 61) dX12_feed_54 (by decide +kernel) (fun _ => ?_) (fun h => absurd (by decide +kernel) h)
  refine v_iload B dX12_feed_61 rfl ?_
  refine v_bipush B (v := 16) dX12_feed_63 (by decide +kernel) ?_
  refine v_icmp_ge B (tgt := 73) dX12_feed_65 (by decide +kernel) (fun h => absurd h (by decide +kernel)) (fun _ => ?_)
  refine v_iload B dX12_feed_68 rfl ?_
  refine v_goto B (tgt := 75) dX12_feed_70 (by decide +kernel) ?_
  refine v_istore B (lv' := [(7, .int d), (6, .int 13), (0, .ref h), (1, .int a), (2, .int b), (3, .int c9), (4, .int d), (5, .int e9)]) dX12_feed_75 (by decide +kernel) rfl ?_
  refine v_aload_n B dX12_feed_77 rfl rfl ?_
  refine v_get B (C := RX12) (T := TX12) (N := 123) (ci := 12) (k0 := 0) hi_y_feed_X12 rfl rfl 1 (by decide +kernel) (List.mem_of_getElem? (i := 3) rfl) rfl dX12_feed_78 ?_
  refine v_aload_n B dX12_feed_81 rfl rfl ?_
  refine v_get B (C := RX12) (T := TX12) (N := 123) (ci := 12) (k0 := 0) hi_y_feed_X12 rfl rfl 2 (by decide +kernel) (List.mem_of_getElem? (i := 2) rfl) rfl dX12_feed_82 ?_
  refine v_iload B dX12_feed_85 rfl ?_
  refine v_iadd B (v := 13) dX12_feed_87 (by decide +kernel) ?_
  refine v_iload B dX12_feed_88 rfl ?_
  refine v_bipush B (v := 24) dX12_feed_90 (by decide +kernel) ?_
  refine v_bipush B (v := 8) dX12_feed_92 (by decide +kernel) ?_
  refine v_iload B dX12_feed_94 rfl ?_
  refine v_iconst B (v := 3) dX12_feed_96 (by decide +kernel) ?_
  refine v_iand B (v := 1) dX12_feed_97 (by decide +kernel) ?_
  refine v_imul B (v := 8) dX12_feed_98 (by decide +kernel) ?_
  refine v_isub B (v := 16) dX12_feed_99 (by decide +kernel) ?_
  refine v_ishr B (v := (d >>> ((16 : Int32) &&& 31))) dX12_feed_100 rfl ?_
  refine v_i2b B (v := ((d >>> ((16 : Int32) &&& 31)) : Int32).toInt8.toInt32) dX12_feed_101 rfl ?_
  refine v_bast B (k0 := 1) (t0 := 2) (y := vp_nar .byte (((d >>> ((16 : Int32) &&& 31)) : Int32).toInt8.toInt32)) (w' := [(h, .inr (12, fsM q 0 0 0 0 0)), ((q 1), .inl (K 2, 100, .inl (upd g_13 (13 : Int32).toNatClampNeg (vp_nar .byte (((d >>> ((16 : Int32) &&& 31)) : Int32).toInt8.toInt32)))))]) rfl rfl (vpi (by decide +kernel)) rfl rfl dX12_feed_102 ?_
  generalize upd g_13 (13 : Int32).toNatClampNeg (vp_nar .byte (((d >>> ((16 : Int32) &&& 31)) : Int32).toInt8.toInt32)) = g_14
  refine v_iinc B (k := 1) (v := 14) (lv' := [(6, .int 14), (7, .int d), (0, .ref h), (1, .int a), (2, .int b), (3, .int c9), (4, .int d), (5, .int e9)]) dX12_feed_103 rfl (by decide +kernel) (by decide +kernel) rfl ?_
  refine v_goto B (tgt := 22) dX12_feed_106 (by decide +kernel) ?_
  refine v_iload B dX12_feed_22 rfl ?_
  refine v_bipush B (v := 20) dX12_feed_24 (by decide +kernel) ?_
  refine v_icmp_ge B (tgt := 109) dX12_feed_26 (by decide +kernel) (fun h => absurd h (by decide +kernel)) (fun _ => ?_)
  refine v_iload B dX12_feed_29 rfl ?_
  refine v_iconst B (v := 4) dX12_feed_31 (by decide +kernel) ?_
  refine v_icmp_ge B (tgt := 39) dX12_feed_32 (by decide +kernel) (fun _ => ?_) (fun h => absurd (by decide +kernel) h)
  refine v_iload B dX12_feed_39 rfl ?_
  refine v_bipush B (v := 8) dX12_feed_41 (by decide +kernel) ?_
  refine v_icmp_ge B (tgt := 50) dX12_feed_43 (by decide +kernel) (fun _ => ?_) (fun h => absurd (by decide +kernel) h)
  refine v_iload B dX12_feed_50 rfl ?_
  refine v_bipush B (v := 12) dX12_feed_52 (by decide +kernel) ?_
  refine v_icmp_ge B (tgt := 61) dX12_feed_54 (by decide +kernel) (fun _ => ?_) (fun h => absurd (by decide +kernel) h)
  refine v_iload B dX12_feed_61 rfl ?_
  refine v_bipush B (v := 16) dX12_feed_63 (by decide +kernel) ?_
  refine v_icmp_ge B (tgt := 73) dX12_feed_65 (by decide +kernel) (fun h => absurd h (by decide +kernel)) (fun _ => ?_)
  refine v_iload B dX12_feed_68 rfl ?_
  refine v_goto B (tgt := 75) dX12_feed_70 (by decide +kernel) ?_
  refine v_istore B (lv' := [(7, .int d), (6, .int 14), (0, .ref h), (1, .int a), (2, .int b), (3, .int c9), (4, .int d), (5, .int e9)]) dX12_feed_75 (by decide +kernel) rfl ?_
  refine v_aload_n B dX12_feed_77 rfl rfl ?_
  refine v_get B (C := RX12) (T := TX12) (N := 123) (ci := 12) (k0 := 0) hi_y_feed_X12 rfl rfl 1 (by decide +kernel) (List.mem_of_getElem? (i := 3) rfl) rfl dX12_feed_78 ?_
  refine v_aload_n B dX12_feed_81 rfl rfl ?_
  refine v_get B (C := RX12) (T := TX12) (N := 123) (ci := 12) (k0 := 0) hi_y_feed_X12 rfl rfl 2 (by decide +kernel) (List.mem_of_getElem? (i := 2) rfl) rfl dX12_feed_82 ?_
  refine v_iload B dX12_feed_85 rfl ?_
  refine v_iadd B (v := 14) dX12_feed_87 (by decide +kernel) ?_
  refine v_iload B dX12_feed_88 rfl ?_
  refine v_bipush B (v := 24) dX12_feed_90 (by decide +kernel) ?_
  refine v_bipush B (v := 8) dX12_feed_92 (by decide +kernel) ?_
  refine v_iload B dX12_feed_94 rfl ?_
  refine v_iconst B (v := 3) dX12_feed_96 (by decide +kernel) ?_
  refine v_iand B (v := 2) dX12_feed_97 (by decide +kernel) ?_
  refine v_imul B (v := 16) dX12_feed_98 (by decide +kernel) ?_
  refine v_isub B (v := 8) dX12_feed_99 (by decide +kernel) ?_
  refine v_ishr B (v := (d >>> ((8 : Int32) &&& 31))) dX12_feed_100 rfl ?_
  refine v_i2b B (v := ((d >>> ((8 : Int32) &&& 31)) : Int32).toInt8.toInt32) dX12_feed_101 rfl ?_
  refine v_bast B (k0 := 1) (t0 := 2) (y := vp_nar .byte (((d >>> ((8 : Int32) &&& 31)) : Int32).toInt8.toInt32)) (w' := [(h, .inr (12, fsM q 0 0 0 0 0)), ((q 1), .inl (K 2, 100, .inl (upd g_14 (14 : Int32).toNatClampNeg (vp_nar .byte (((d >>> ((8 : Int32) &&& 31)) : Int32).toInt8.toInt32)))))]) rfl rfl (vpi (by decide +kernel)) rfl rfl dX12_feed_102 ?_
  generalize upd g_14 (14 : Int32).toNatClampNeg (vp_nar .byte (((d >>> ((8 : Int32) &&& 31)) : Int32).toInt8.toInt32)) = g_15
  refine v_iinc B (k := 1) (v := 15) (lv' := [(6, .int 15), (7, .int d), (0, .ref h), (1, .int a), (2, .int b), (3, .int c9), (4, .int d), (5, .int e9)]) dX12_feed_103 rfl (by decide +kernel) (by decide +kernel) rfl ?_
  refine v_goto B (tgt := 22) dX12_feed_106 (by decide +kernel) ?_
  refine v_iload B dX12_feed_22 rfl ?_
  refine v_bipush B (v := 20) dX12_feed_24 (by decide +kernel) ?_
  refine v_icmp_ge B (tgt := 109) dX12_feed_26 (by decide +kernel) (fun h => absurd h (by decide +kernel)) (fun _ => ?_)
  refine v_iload B dX12_feed_29 rfl ?_
  refine v_iconst B (v := 4) dX12_feed_31 (by decide +kernel) ?_
  refine v_icmp_ge B (tgt := 39) dX12_feed_32 (by decide +kernel) (fun _ => ?_) (fun h => absurd (by decide +kernel) h)
  refine v_iload B dX12_feed_39 rfl ?_
  refine v_bipush B (v := 8) dX12_feed_41 (by decide +kernel) ?_
  refine v_icmp_ge B (tgt := 50) dX12_feed_43 (by decide +kernel) (fun _ => ?_) (fun h => absurd (by decide +kernel) h)
  refine v_iload B dX12_feed_50 rfl ?_
  refine v_bipush B (v := 12) dX12_feed_52 (by decide +kernel) ?_
  refine v_icmp_ge B (tgt := 61) dX12_feed_54 (by decide +kernel) (fun _ => ?_) (fun h => absurd (by decide +kernel) h)
  refine v_iload B dX12_feed_61 rfl ?_
  refine v_bipush B (v := 16) dX12_feed_63 (by decide +kernel) ?_
  refine v_icmp_ge B (tgt := 73) dX12_feed_65 (by decide +kernel) (fun h => absurd h (by decide +kernel)) (fun _ => ?_)
  refine v_iload B dX12_feed_68 rfl ?_
  refine v_goto B (tgt := 75) dX12_feed_70 (by decide +kernel) ?_
  refine v_istore B (lv' := [(7, .int d), (6, .int 15), (0, .ref h), (1, .int a), (2, .int b), (3, .int c9), (4, .int d), (5, .int e9)]) dX12_feed_75 (by decide +kernel) rfl ?_
  refine v_aload_n B dX12_feed_77 rfl rfl ?_
  refine v_get B (C := RX12) (T := TX12) (N := 123) (ci := 12) (k0 := 0) hi_y_feed_X12 rfl rfl 1 (by decide +kernel) (List.mem_of_getElem? (i := 3) rfl) rfl dX12_feed_78 ?_
  refine v_aload_n B dX12_feed_81 rfl rfl ?_
  refine v_get B (C := RX12) (T := TX12) (N := 123) (ci := 12) (k0 := 0) hi_y_feed_X12 rfl rfl 2 (by decide +kernel) (List.mem_of_getElem? (i := 2) rfl) rfl dX12_feed_82 ?_
  refine v_iload B dX12_feed_85 rfl ?_
  refine v_iadd B (v := 15) dX12_feed_87 (by decide +kernel) ?_
  refine v_iload B dX12_feed_88 rfl ?_
  refine v_bipush B (v := 24) dX12_feed_90 (by decide +kernel) ?_
  refine v_bipush B (v := 8) dX12_feed_92 (by decide +kernel) ?_
  refine v_iload B dX12_feed_94 rfl ?_
  refine v_iconst B (v := 3) dX12_feed_96 (by decide +kernel) ?_
  refine v_iand B (v := 3) dX12_feed_97 (by decide +kernel) ?_
  refine v_imul B (v := 24) dX12_feed_98 (by decide +kernel) ?_
  refine v_isub B (v := 0) dX12_feed_99 (by decide +kernel) ?_
  refine v_ishr B (v := (d >>> ((0 : Int32) &&& 31))) dX12_feed_100 rfl ?_
  refine v_i2b B (v := ((d >>> ((0 : Int32) &&& 31)) : Int32).toInt8.toInt32) dX12_feed_101 rfl ?_
  refine v_bast B (k0 := 1) (t0 := 2) (y := vp_nar .byte (((d >>> ((0 : Int32) &&& 31)) : Int32).toInt8.toInt32)) (w' := [(h, .inr (12, fsM q 0 0 0 0 0)), ((q 1), .inl (K 2, 100, .inl (upd g_15 (15 : Int32).toNatClampNeg (vp_nar .byte (((d >>> ((0 : Int32) &&& 31)) : Int32).toInt8.toInt32)))))]) rfl rfl (vpi (by decide +kernel)) rfl rfl dX12_feed_102 ?_
  generalize upd g_15 (15 : Int32).toNatClampNeg (vp_nar .byte (((d >>> ((0 : Int32) &&& 31)) : Int32).toInt8.toInt32)) = g_16
  refine v_iinc B (k := 1) (v := 16) (lv' := [(6, .int 16), (7, .int d), (0, .ref h), (1, .int a), (2, .int b), (3, .int c9), (4, .int d), (5, .int e9)]) dX12_feed_103 rfl (by decide +kernel) (by decide +kernel) rfl ?_
  refine v_goto B (tgt := 22) dX12_feed_106 (by decide +kernel) ?_
  refine v_iload B dX12_feed_22 rfl ?_
  refine v_bipush B (v := 20) dX12_feed_24 (by decide +kernel) ?_
  refine v_icmp_ge B (tgt := 109) dX12_feed_26 (by decide +kernel) (fun h => absurd h (by decide +kernel)) (fun _ => ?_)
  refine v_iload B dX12_feed_29 rfl ?_
  refine v_iconst B (v := 4) dX12_feed_31 (by decide +kernel) ?_
  refine v_icmp_ge B (tgt := 39) dX12_feed_32 (by decide +kernel) (fun _ => ?_) (fun h => absurd (by decide +kernel) h)
  refine v_iload B dX12_feed_39 rfl ?_
  refine v_bipush B (v := 8) dX12_feed_41 (by decide +kernel) ?_
  refine v_icmp_ge B (tgt := 50) dX12_feed_43 (by decide +kernel) (fun _ => ?_) (fun h => absurd (by decide +kernel) h)
  refine v_iload B dX12_feed_50 rfl ?_
  refine v_bipush B (v := 12) dX12_feed_52 (by decide +kernel) ?_
  refine v_icmp_ge B (tgt := 61) dX12_feed_54 (by decide +kernel) (fun _ => ?_) (fun h => absurd (by decide +kernel) h)
  refine v_iload B dX12_feed_61 rfl ?_
  refine v_bipush B (v := 16) dX12_feed_63 (by decide +kernel) ?_
  refine v_icmp_ge B (tgt := 73) dX12_feed_65 (by decide +kernel) (fun _ => ?_) (fun h => absurd (by decide +kernel) h)
  refine v_iload B dX12_feed_73 rfl ?_
  refine v_istore B (lv' := [(7, .int e9), (6, .int 16), (0, .ref h), (1, .int a), (2, .int b), (3, .int c9), (4, .int d), (5, .int e9)]) dX12_feed_75 (by decide +kernel) rfl ?_
  refine v_aload_n B dX12_feed_77 rfl rfl ?_
  refine v_get B (C := RX12) (T := TX12) (N := 123) (ci := 12) (k0 := 0) hi_y_feed_X12 rfl rfl 1 (by decide +kernel) (List.mem_of_getElem? (i := 3) rfl) rfl dX12_feed_78 ?_
  refine v_aload_n B dX12_feed_81 rfl rfl ?_
  refine v_get B (C := RX12) (T := TX12) (N := 123) (ci := 12) (k0 := 0) hi_y_feed_X12 rfl rfl 2 (by decide +kernel) (List.mem_of_getElem? (i := 2) rfl) rfl dX12_feed_82 ?_
  refine v_iload B dX12_feed_85 rfl ?_
  refine v_iadd B (v := 16) dX12_feed_87 (by decide +kernel) ?_
  refine v_iload B dX12_feed_88 rfl ?_
  refine v_bipush B (v := 24) dX12_feed_90 (by decide +kernel) ?_
  refine v_bipush B (v := 8) dX12_feed_92 (by decide +kernel) ?_
  refine v_iload B dX12_feed_94 rfl ?_
  refine v_iconst B (v := 3) dX12_feed_96 (by decide +kernel) ?_
  refine v_iand B (v := 0) dX12_feed_97 (by decide +kernel) ?_
  refine v_imul B (v := 0) dX12_feed_98 (by decide +kernel) ?_
  refine v_isub B (v := 24) dX12_feed_99 (by decide +kernel) ?_
  refine v_ishr B (v := (e9 >>> ((24 : Int32) &&& 31))) dX12_feed_100 rfl ?_
  refine v_i2b B (v := ((e9 >>> ((24 : Int32) &&& 31)) : Int32).toInt8.toInt32) dX12_feed_101 rfl ?_
  refine v_bast B (k0 := 1) (t0 := 2) (y := vp_nar .byte (((e9 >>> ((24 : Int32) &&& 31)) : Int32).toInt8.toInt32)) (w' := [(h, .inr (12, fsM q 0 0 0 0 0)), ((q 1), .inl (K 2, 100, .inl (upd g_16 (16 : Int32).toNatClampNeg (vp_nar .byte (((e9 >>> ((24 : Int32) &&& 31)) : Int32).toInt8.toInt32)))))]) rfl rfl (vpi (by decide +kernel)) rfl rfl dX12_feed_102 ?_
  generalize upd g_16 (16 : Int32).toNatClampNeg (vp_nar .byte (((e9 >>> ((24 : Int32) &&& 31)) : Int32).toInt8.toInt32)) = g_17
  refine v_iinc B (k := 1) (v := 17) (lv' := [(6, .int 17), (7, .int e9), (0, .ref h), (1, .int a), (2, .int b), (3, .int c9), (4, .int d), (5, .int e9)]) dX12_feed_103 rfl (by decide +kernel) (by decide +kernel) rfl ?_
  refine v_goto B (tgt := 22) dX12_feed_106 (by decide +kernel) ?_
  refine v_iload B dX12_feed_22 rfl ?_
  refine v_bipush B (v := 20) dX12_feed_24 (by decide +kernel) ?_
  refine v_icmp_ge B (tgt := 109) dX12_feed_26 (by decide +kernel) (fun h => absurd h (by decide +kernel)) (fun _ => ?_)
  refine v_iload B dX12_feed_29 rfl ?_
  refine v_iconst B (v := 4) dX12_feed_31 (by decide +kernel) ?_
  refine v_icmp_ge B (tgt := 39) dX12_feed_32 (by decide +kernel) (fun _ => ?_) (fun h => absurd (by decide +kernel) h)
  refine v_iload B dX12_feed_39 rfl ?_
  refine v_bipush B (v := 8) dX12_feed_41 (by decide +kernel) ?_
  refine v_icmp_ge B (tgt := 50) dX12_feed_43 (by decide +kernel) (fun _ => ?_) (fun h => absurd (by decide +kernel) h)
  refine v_iload B dX12_feed_50 rfl ?_
  refine v_bipush B (v := 12) dX12_feed_52 (by decide +kernel) ?_
  refine v_icmp_ge B (tgt := 61) dX12_feed_54 (by decide +kernel) (fun _ => ?_) (fun h => absurd (by decide +kernel) h)
  refine v_iload B dX12_feed_61 rfl ?_
  refine v_bipush B (v := 16) dX12_feed_63 (by decide +kernel) ?_
  refine v_icmp_ge B (tgt := 73) dX12_feed_65 (by decide +kernel) (fun _ => ?_) (fun h => absurd (by decide +kernel) h)
  refine v_iload B dX12_feed_73 rfl ?_
  refine v_istore B (lv' := [(7, .int e9), (6, .int 17), (0, .ref h), (1, .int a), (2, .int b), (3, .int c9), (4, .int d), (5, .int e9)]) dX12_feed_75 (by decide +kernel) rfl ?_
  refine v_aload_n B dX12_feed_77 rfl rfl ?_
  refine v_get B (C := RX12) (T := TX12) (N := 123) (ci := 12) (k0 := 0) hi_y_feed_X12 rfl rfl 1 (by decide +kernel) (List.mem_of_getElem? (i := 3) rfl) rfl dX12_feed_78 ?_
  refine v_aload_n B dX12_feed_81 rfl rfl ?_
  refine v_get B (C := RX12) (T := TX12) (N := 123) (ci := 12) (k0 := 0) hi_y_feed_X12 rfl rfl 2 (by decide +kernel) (List.mem_of_getElem? (i := 2) rfl) rfl dX12_feed_82 ?_
  refine v_iload B dX12_feed_85 rfl ?_
  refine v_iadd B (v := 17) dX12_feed_87 (by decide +kernel) ?_
  refine v_iload B dX12_feed_88 rfl ?_
  refine v_bipush B (v := 24) dX12_feed_90 (by decide +kernel) ?_
  refine v_bipush B (v := 8) dX12_feed_92 (by decide +kernel) ?_
  refine v_iload B dX12_feed_94 rfl ?_
  refine v_iconst B (v := 3) dX12_feed_96 (by decide +kernel) ?_
  refine v_iand B (v := 1) dX12_feed_97 (by decide +kernel) ?_
  refine v_imul B (v := 8) dX12_feed_98 (by decide +kernel) ?_
  refine v_isub B (v := 16) dX12_feed_99 (by decide +kernel) ?_
  refine v_ishr B (v := (e9 >>> ((16 : Int32) &&& 31))) dX12_feed_100 rfl ?_
  refine v_i2b B (v := ((e9 >>> ((16 : Int32) &&& 31)) : Int32).toInt8.toInt32) dX12_feed_101 rfl ?_
  refine v_bast B (k0 := 1) (t0 := 2) (y := vp_nar .byte (((e9 >>> ((16 : Int32) &&& 31)) : Int32).toInt8.toInt32)) (w' := [(h, .inr (12, fsM q 0 0 0 0 0)), ((q 1), .inl (K 2, 100, .inl (upd g_17 (17 : Int32).toNatClampNeg (vp_nar .byte (((e9 >>> ((16 : Int32) &&& 31)) : Int32).toInt8.toInt32)))))]) rfl rfl (vpi (by decide +kernel)) rfl rfl dX12_feed_102 ?_
  generalize upd g_17 (17 : Int32).toNatClampNeg (vp_nar .byte (((e9 >>> ((16 : Int32) &&& 31)) : Int32).toInt8.toInt32)) = g_18
  refine v_iinc B (k := 1) (v := 18) (lv' := [(6, .int 18), (7, .int e9), (0, .ref h), (1, .int a), (2, .int b), (3, .int c9), (4, .int d), (5, .int e9)]) dX12_feed_103 rfl (by decide +kernel) (by decide +kernel) rfl ?_
  refine v_goto B (tgt := 22) dX12_feed_106 (by decide +kernel) ?_
  refine v_iload B dX12_feed_22 rfl ?_
  refine v_bipush B (v := 20) dX12_feed_24 (by decide +kernel) ?_
  refine v_icmp_ge B (tgt := 109) dX12_feed_26 (by decide +kernel) (fun h => absurd h (by decide +kernel)) (fun _ => ?_)
  refine v_iload B dX12_feed_29 rfl ?_
  refine v_iconst B (v := 4) dX12_feed_31 (by decide +kernel) ?_
  refine v_icmp_ge B (tgt := 39) dX12_feed_32 (by decide +kernel) (fun _ => ?_) (fun h => absurd (by decide +kernel) h)
  refine v_iload B dX12_feed_39 rfl ?_
  refine v_bipush B (v := 8) dX12_feed_41 (by decide +kernel) ?_
  refine v_icmp_ge B (tgt := 50) dX12_feed_43 (by decide +kernel) (fun _ => ?_) (fun h => absurd (by decide +kernel) h)
  refine v_iload B dX12_feed_50 rfl ?_
  refine v_bipush B (v := 12) dX12_feed_52 (by decide +kernel) ?_
  refine v_icmp_ge B (tgt := 61) dX12_feed_54 (by decide +kernel) (fun _ => ?_) (fun h => absurd (by decide +kernel) h)
  refine v_iload B dX12_feed_61 rfl ?_
  refine v_bipush B (v := 16) dX12_feed_63 (by decide +kernel) ?_
  refine v_icmp_ge B (tgt := 73) dX12_feed_65 (by decide +kernel) (fun _ => ?_) (fun h => absurd (by decide +kernel) h)
  refine v_iload B dX12_feed_73 rfl ?_
  refine v_istore B (lv' := [(7, .int e9), (6, .int 18), (0, .ref h), (1, .int a), (2, .int b), (3, .int c9), (4, .int d), (5, .int e9)]) dX12_feed_75 (by decide +kernel) rfl ?_
  refine v_aload_n B dX12_feed_77 rfl rfl ?_
  refine v_get B (C := RX12) (T := TX12) (N := 123) (ci := 12) (k0 := 0) hi_y_feed_X12 rfl rfl 1 (by decide +kernel) (List.mem_of_getElem? (i := 3) rfl) rfl dX12_feed_78 ?_
  refine v_aload_n B dX12_feed_81 rfl rfl ?_
  refine v_get B (C := RX12) (T := TX12) (N := 123) (ci := 12) (k0 := 0) hi_y_feed_X12 rfl rfl 2 (by decide +kernel) (List.mem_of_getElem? (i := 2) rfl) rfl dX12_feed_82 ?_
  refine v_iload B dX12_feed_85 rfl ?_
  refine v_iadd B (v := 18) dX12_feed_87 (by decide +kernel) ?_
  refine v_iload B dX12_feed_88 rfl ?_
  refine v_bipush B (v := 24) dX12_feed_90 (by decide +kernel) ?_
  refine v_bipush B (v := 8) dX12_feed_92 (by decide +kernel) ?_
  refine v_iload B dX12_feed_94 rfl ?_
  refine v_iconst B (v := 3) dX12_feed_96 (by decide +kernel) ?_
  refine v_iand B (v := 2) dX12_feed_97 (by decide +kernel) ?_
  refine v_imul B (v := 16) dX12_feed_98 (by decide +kernel) ?_
  refine v_isub B (v := 8) dX12_feed_99 (by decide +kernel) ?_
  refine v_ishr B (v := (e9 >>> ((8 : Int32) &&& 31))) dX12_feed_100 rfl ?_
  refine v_i2b B (v := ((e9 >>> ((8 : Int32) &&& 31)) : Int32).toInt8.toInt32) dX12_feed_101 rfl ?_
  refine v_bast B (k0 := 1) (t0 := 2) (y := vp_nar .byte (((e9 >>> ((8 : Int32) &&& 31)) : Int32).toInt8.toInt32)) (w' := [(h, .inr (12, fsM q 0 0 0 0 0)), ((q 1), .inl (K 2, 100, .inl (upd g_18 (18 : Int32).toNatClampNeg (vp_nar .byte (((e9 >>> ((8 : Int32) &&& 31)) : Int32).toInt8.toInt32)))))]) rfl rfl (vpi (by decide +kernel)) rfl rfl dX12_feed_102 ?_
  generalize upd g_18 (18 : Int32).toNatClampNeg (vp_nar .byte (((e9 >>> ((8 : Int32) &&& 31)) : Int32).toInt8.toInt32)) = g_19
  refine v_iinc B (k := 1) (v := 19) (lv' := [(6, .int 19), (7, .int e9), (0, .ref h), (1, .int a), (2, .int b), (3, .int c9), (4, .int d), (5, .int e9)]) dX12_feed_103 rfl (by decide +kernel) (by decide +kernel) rfl ?_
  refine v_goto B (tgt := 22) dX12_feed_106 (by decide +kernel) ?_
  refine v_iload B dX12_feed_22 rfl ?_
  refine v_bipush B (v := 20) dX12_feed_24 (by decide +kernel) ?_
  refine v_icmp_ge B (tgt := 109) dX12_feed_26 (by decide +kernel) (fun h => absurd h (by decide +kernel)) (fun _ => ?_)
  refine v_iload B dX12_feed_29 rfl ?_
  refine v_iconst B (v := 4) dX12_feed_31 (by decide +kernel) ?_
  refine v_icmp_ge B (tgt := 39) dX12_feed_32 (by decide +kernel) (fun _ => ?_) (fun h => absurd (by decide +kernel) h)
  refine v_iload B dX12_feed_39 rfl ?_
  refine v_bipush B (v := 8) dX12_feed_41 (by decide +kernel) ?_
  refine v_icmp_ge B (tgt := 50) dX12_feed_43 (by decide +kernel) (fun _ => ?_) (fun h => absurd (by decide +kernel) h)
  refine v_iload B dX12_feed_50 rfl ?_
  refine v_bipush B (v := 12) dX12_feed_52 (by decide +kernel) ?_
  refine v_icmp_ge B (tgt := 61) dX12_feed_54 (by decide +kernel) (fun _ => ?_) (fun h => absurd (by decide +kernel) h)
  refine v_iload B dX12_feed_61 rfl ?_
  refine v_bipush B (v := 16) dX12_feed_63 (by decide +kernel) ?_
  refine v_icmp_ge B (tgt := 73) dX12_feed_65 (by decide +kernel) (fun _ => ?_) (fun h => absurd (by decide +kernel) h)
  refine v_iload B dX12_feed_73 rfl ?_
  refine v_istore B (lv' := [(7, .int e9), (6, .int 19), (0, .ref h), (1, .int a), (2, .int b), (3, .int c9), (4, .int d), (5, .int e9)]) dX12_feed_75 (by decide +kernel) rfl ?_
  refine v_aload_n B dX12_feed_77 rfl rfl ?_
  refine v_get B (C := RX12) (T := TX12) (N := 123) (ci := 12) (k0 := 0) hi_y_feed_X12 rfl rfl 1 (by decide +kernel) (List.mem_of_getElem? (i := 3) rfl) rfl dX12_feed_78 ?_
  refine v_aload_n B dX12_feed_81 rfl rfl ?_
  refine v_get B (C := RX12) (T := TX12) (N := 123) (ci := 12) (k0 := 0) hi_y_feed_X12 rfl rfl 2 (by decide +kernel) (List.mem_of_getElem? (i := 2) rfl) rfl dX12_feed_82 ?_
  refine v_iload B dX12_feed_85 rfl ?_
  refine v_iadd B (v := 19) dX12_feed_87 (by decide +kernel) ?_
  refine v_iload B dX12_feed_88 rfl ?_
  refine v_bipush B (v := 24) dX12_feed_90 (by decide +kernel) ?_
  refine v_bipush B (v := 8) dX12_feed_92 (by decide +kernel) ?_
  refine v_iload B dX12_feed_94 rfl ?_
  refine v_iconst B (v := 3) dX12_feed_96 (by decide +kernel) ?_
  refine v_iand B (v := 3) dX12_feed_97 (by decide +kernel) ?_
  refine v_imul B (v := 24) dX12_feed_98 (by decide +kernel) ?_
  refine v_isub B (v := 0) dX12_feed_99 (by decide +kernel) ?_
  refine v_ishr B (v := (e9 >>> ((0 : Int32) &&& 31))) dX12_feed_100 rfl ?_
  refine v_i2b B (v := ((e9 >>> ((0 : Int32) &&& 31)) : Int32).toInt8.toInt32) dX12_feed_101 rfl ?_
  refine v_bast B (k0 := 1) (t0 := 2) (y := vp_nar .byte (((e9 >>> ((0 : Int32) &&& 31)) : Int32).toInt8.toInt32)) (w' := [(h, .inr (12, fsM q 0 0 0 0 0)), ((q 1), .inl (K 2, 100, .inl (upd g_19 (19 : Int32).toNatClampNeg (vp_nar .byte (((e9 >>> ((0 : Int32) &&& 31)) : Int32).toInt8.toInt32)))))]) rfl rfl (vpi (by decide +kernel)) rfl rfl dX12_feed_102 ?_
  generalize upd g_19 (19 : Int32).toNatClampNeg (vp_nar .byte (((e9 >>> ((0 : Int32) &&& 31)) : Int32).toInt8.toInt32)) = g_20
  refine v_iinc B (k := 1) (v := 20) (lv' := [(6, .int 20), (7, .int e9), (0, .ref h), (1, .int a), (2, .int b), (3, .int c9), (4, .int d), (5, .int e9)]) dX12_feed_103 rfl (by decide +kernel) (by decide +kernel) rfl ?_
  refine v_goto B (tgt := 22) dX12_feed_106 (by decide +kernel) ?_
  refine v_iload B dX12_feed_22 rfl ?_
  refine v_bipush B (v := 20) dX12_feed_24 (by decide +kernel) ?_
  refine v_icmp_ge B (tgt := 109) dX12_feed_26 (by decide +kernel) (fun _ => ?_) (fun h => absurd (by decide +kernel) h)
  refine v_aload_n B dX12_feed_109 rfl rfl ?_
  refine v_dup B dX12_feed_110 rfl ?_
  refine v_get B (C := RX12) (T := TX12) (N := 123) (ci := 12) (k0 := 0) hi_y_feed_X12 rfl rfl 2 (by decide +kernel) (List.mem_of_getElem? (i := 2) rfl) rfl dX12_feed_111 ?_
  refine v_bipush B (v := 20) dX12_feed_114 (by decide +kernel) ?_
  refine v_iadd B (v := 20) dX12_feed_116 (by decide +kernel) ?_
  refine v_put B (C := RX12) (T := TX12) (N := 123) (ci := 12) (k0 := 0) hi_y_feed_X12 rfl rfl 2 (by decide +kernel) tyX12 tyX12_ok nmX12 (List.mem_of_getElem? (i := 2) rfl) rfl (ty := .int) (tyX12_ok 2 (by decide +kernel)) rfl rfl (Nat.le_of_ble_eq_true rfl) (w' := [(h, .inr (12, fsM q 0 20 0 0 0)), ((q 1), .inl (K 2, 100, .inl g_20))]) rfl dX12_feed_117 ?_
  refine v_aload_n B dX12_feed_120 rfl rfl ?_
  refine v_get B (C := RX12) (T := TX12) (N := 123) (ci := 12) (k0 := 0) hi_y_feed_X12 rfl rfl 2 (by decide +kernel) (List.mem_of_getElem? (i := 2) rfl) rfl dX12_feed_121 ?_
  refine v_forget (wc := []) (wr := []) (sp_pl [] [] rfl rfl rfl rfl rfl) ?_
  exact v_iret B hr hlk () rfl rfl (by decide +kernel) (by decide +kernel) dX12_feed_124
