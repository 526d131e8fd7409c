def wp_m_fillBox : List Cond := .code yX12_fillBox cX12_fillBox 5 none :: ([.methodLink RX12 18 yX12_times, .static yX12_times, .initialized RX12, .code yX12_times cX12_times 5 (some .int), .methodLink RX12 14 yX12_twice, .static yX12_twice, .code yX12_twice cX12_twice 1 (some .int), .fieldLink RX12 22 "LowEnergyModel" "box" "[I"] ++ (wsX120 ++ ([])))
theorem hi_m_fillBox_X12 : ∀ x ∈ u_ws RX12 TX12 123, x ∈ wp_m_fillBox := fun _ h => List.mem_cons_of_mem _ (List.mem_append_right _ (List.mem_append_left _ h))
set_option maxRecDepth 100000 in
theorem gd_m_fillBox_m_times_18 : GoodIn wp_m_fillBox (va_wsS RX12 18 yX12_times wp_m_times) := goodIn_app (goodIn_r _ [1, 2, 3] rfl rfl) (goodIn_ca (goodIn_r _ [4, 5, 6, 3, 7] rfl rfl) (goodIn_nil))
set_option maxHeartbeats 4000000 in
set_option maxRecDepth 100000 in
/-- fillBox: some numbers in the box -/
theorem m_fillBox (l : Launch) (D : va_G) (K : Nat → ClassId) (h : Nat) (q : Nat → Nat) (th : Int32) (tp : Int32) (t : Int32) (pk : Int32) (an : Int32) (f : Nat → Int32) : MG l yX12_fillBox wp_m_fillBox ({ frames := 2, cells := 0, slots := 0, locals := 44 }) D (tysA K) [.ref h] [(h, .inr (12, fsM q th tp t pk an)), ((q 3), .inl (K 0, 256, .inl f))] (Qv D (fun _ : (Nat → Int32) => True) (fun u => [(h, .inr (12, fsM q th tp t pk an)), ((q 3), .inl (K 0, 256, .inl u))])) 0 0 := by
  refine mg_of (cc := cX12_fillBox) (maxL := 5) (ret := none) (by decide +kernel) rfl (Nat.le_of_ble_eq_true rfl) ?_
  intro p e s m below meth c A B hr hlk hnam
  show V _ _ _ _ _ _ _ _ _ _ _ _ _ _ _ _ [(0, .ref h)] _ _
  refine v_iconst B (v := 0) dX12_fillBox_0 (by decide +kernel) ?_
  refine v_istore_n B (lv' := [(1, .int 0), (0, .ref h)]) dX12_fillBox_1 rfl (by decide +kernel) rfl ?_
  refine v_nat (pc := 2) (α := Nat → Int32) (fun i _ => [(1, .int (nI i)), (0, .ref h)]) (fun _ f => [(h, .inr (12, fsM q th tp t pk an)), ((q 3), .inl (K 0, 256, .inl f))]) 256 ?_ ?_ 0 f (by decide +kernel)
  · intro i f hi ih
    show V _ _ _ _ _ _ _ _ _ _ _ _ _ _ _ [(h, .inr (12, fsM q th tp t pk an)), ((q 3), .inl (K 0, 256, .inl f))] [(1, .int (nI i)), (0, .ref h)] _ _
    refine v_iload_n B dX12_fillBox_2 rfl rfl ?_
    refine v_sipush B (v := 256) dX12_fillBox_3 (by decide +kernel) ?_
    refine v_icmp_ge B (tgt := 89) dX12_fillBox_6 (by decide +kernel) (fun h => absurd h (nI_lt_not hi (by decide +kernel))) (fun _ => ?_)
    refine v_iconst B (v := 0) dX12_fillBox_9 (by decide +kernel) ?_
    refine v_istore_n B (lv' := [(2, .int 0), (1, .int (nI i)), (0, .ref h)]) dX12_fillBox_10 rfl (by decide +kernel) rfl ?_
    refine v_iconst B (v := 1) dX12_fillBox_11 (by decide +kernel) ?_
    refine v_istore_n B (lv' := [(3, .int 1), (2, .int 0), (1, .int (nI i)), (0, .ref h)]) dX12_fillBox_12 rfl (by decide +kernel) rfl ?_
    refine v_nat (pc := 13) (α := Int32) (fun j x => [(3, .int (nI j)), (2, .int x), (1, .int (nI i)), (0, .ref h)]) (fun _ _ => [(h, .inr (12, fsM q th tp t pk an)), ((q 3), .inl (K 0, 256, .inl f))]) 256 ?_ ?_ 1 0 (by decide +kernel)
    · intro j x hj jh
      show V _ _ _ _ _ _ _ _ _ _ _ _ _ _ _ _ [(3, .int (nI j)), (2, .int x), (1, .int (nI i)), (0, .ref h)] _ _
      refine v_iload_n B dX12_fillBox_13 rfl rfl ?_
      refine v_sipush B (v := 256) dX12_fillBox_14 (by decide +kernel) ?_
      refine v_icmp_ge B (tgt := 37) dX12_fillBox_17 (by decide +kernel) (fun h => absurd h (nI_lt_not hj (by decide +kernel))) (fun _ => ?_)
      refine v_iload_n B dX12_fillBox_20 rfl rfl ?_
      refine v_iload_n B dX12_fillBox_21 rfl rfl ?_
      refine v_callSi B (n := 2) (As := [.int (nI i), .int (nI j)]) (rest := []) (wc := []) (wr := [(h, .inr (12, fsM q th tp t pk an)), ((q 3), .inl (K 0, 256, .inl f))]) (m_times l D K (nI i) (nI j)) gd_m_fillBox_m_times_18 rfl rfl rfl (by decide +kernel) ⟨by decide +kernel, by decide +kernel⟩ (sp_pl [] [0, 1] rfl rfl rfl rfl rfl) rfl rfl (Nat.le_of_ble_eq_true rfl) dX12_fillBox_22 ⟨by decide +kernel, by decide +kernel⟩ (fun r_3 u_1 hp_2 => ?_)
      have B := B; show V _ _ _ _ _ _ _ _ _ _ _ _ _ _ (0, 0) [(h, .inr (12, fsM q th tp t pk an)), ((q 3), .inl (K 0, 256, .inl f))] _ _ _
      refine v_iconst B (v := 1) dX12_fillBox_25 (by decide +kernel) ?_
      refine v_icmp_ne B (tgt := 31) dX12_fillBox_26 (by decide +kernel) (fun c_4 => ?_) (fun c_4 => ?_)
      · refine v_iinc B (k := 0) (v := (nI (j + 1))) (lv' := [(3, .int (nI (j + 1))), (2, .int x), (1, .int (nI i)), (0, .ref h)]) dX12_fillBox_31 rfl (nI_1 j) (by decide +kernel) rfl ?_
        refine v_goto B (tgt := 13) dX12_fillBox_34 (by decide +kernel) ?_
        refine v_lv [0, 1, 2, 3] rfl ?_
        exact jh x
      · refine v_iload_n B dX12_fillBox_29 rfl rfl ?_
        refine v_istore_n B (lv' := [(2, .int (nI j)), (3, .int (nI j)), (1, .int (nI i)), (0, .ref h)]) dX12_fillBox_30 rfl (by decide +kernel) rfl ?_
        refine v_iinc B (k := 1) (v := (nI (j + 1))) (lv' := [(3, .int (nI (j + 1))), (2, .int (nI j)), (1, .int (nI i)), (0, .ref h)]) dX12_fillBox_31 rfl (nI_1 j) (by decide +kernel) rfl ?_
        refine v_goto B (tgt := 13) dX12_fillBox_34 (by decide +kernel) ?_
        refine v_lv [0, 1, 2, 3] rfl ?_
        exact jh (nI j)
    · intro x
      show V _ _ _ _ _ _ _ _ _ _ _ _ _ _ _ _ [(3, .int 256), (2, .int x), (1, .int (nI i)), (0, .ref h)] _ _
      refine v_iload_n B dX12_fillBox_13 rfl rfl ?_
      refine v_sipush B (v := 256) dX12_fillBox_14 (by decide +kernel) ?_
      refine v_icmp_ge B (tgt := 37) dX12_fillBox_17 (by decide +kernel) (fun _ => ?_) (fun h => absurd (by decide +kernel) h)
      refine v_iload_n B dX12_fillBox_37 rfl rfl ?_
      refine v_istore_n B (lv' := [(3, .int x), (2, .int x), (1, .int (nI i)), (0, .ref h)]) dX12_fillBox_38 rfl (by decide +kernel) rfl ?_
      refine v_iconst B (v := 1) dX12_fillBox_39 (by decide +kernel) ?_
      refine v_istore B (lv' := [(4, .int 1), (3, .int x), (2, .int x), (1, .int (nI i)), (0, .ref h)]) dX12_fillBox_40 (by decide +kernel) rfl ?_
      refine v_iload B dX12_fillBox_42 rfl ?_
      refine v_iconst B (v := 5) dX12_fillBox_44 (by decide +kernel) ?_
      refine v_icmp_ge B (tgt := 73) dX12_fillBox_45 (by decide +kernel) (fun h => absurd h (by decide +kernel)) (fun _ => ?_)
      refine v_iload_n B dX12_fillBox_48 rfl rfl ?_
      refine v_iload_n B dX12_fillBox_49 rfl rfl ?_
      refine v_iload B dX12_fillBox_50 rfl ?_
      refine v_ishl B (v := (x <<< ((1 : Int32) &&& 31))) dX12_fillBox_52 rfl ?_
      refine v_iload_n B dX12_fillBox_53 rfl rfl ?_
      refine v_bipush B (v := 8) dX12_fillBox_54 (by decide +kernel) ?_
      refine v_iload B dX12_fillBox_56 rfl ?_
      refine v_isub B (v := 7) dX12_fillBox_58 (by decide +kernel) ?_
      refine v_ishr B (v := (x >>> ((7 : Int32) &&& 31))) dX12_fillBox_59 rfl ?_
      refine v_ior B (v := ((x <<< ((1 : Int32) &&& 31)) ||| (x >>> ((7 : Int32) &&& 31)))) dX12_fillBox_60 rfl ?_
      refine v_sipush B (v := 255) dX12_fillBox_61 (by decide +kernel) ?_
      refine v_iand B (v := (((x <<< ((1 : Int32) &&& 31)) ||| (x >>> ((7 : Int32) &&& 31))) &&& 255)) dX12_fillBox_64 rfl ?_
      refine v_ixor B (v := (x ^^^ (((x <<< ((1 : Int32) &&& 31)) ||| (x >>> ((7 : Int32) &&& 31))) &&& 255))) dX12_fillBox_65 rfl ?_
      refine v_istore_n B (lv' := [(3, .int (x ^^^ (((x <<< ((1 : Int32) &&& 31)) ||| (x >>> ((7 : Int32) &&& 31))) &&& 255))), (4, .int 1), (2, .int x), (1, .int (nI i)), (0, .ref h)]) dX12_fillBox_66 rfl (by decide +kernel) rfl ?_
      refine v_iinc B (k := 1) (v := 2) (lv' := [(4, .int 2), (3, .int (x ^^^ (((x <<< ((1 : Int32) &&& 31)) ||| (x >>> ((7 : Int32) &&& 31))) &&& 255))), (2, .int x), (1, .int (nI i)), (0, .ref h)]) dX12_fillBox_67 rfl (by decide +kernel) (by decide +kernel) rfl ?_
      refine v_goto B (tgt := 42) dX12_fillBox_70 (by decide +kernel) ?_
      refine v_iload B dX12_fillBox_42 rfl ?_
      refine v_iconst B (v := 5) dX12_fillBox_44 (by decide +kernel) ?_
      refine v_icmp_ge B (tgt := 73) dX12_fillBox_45 (by decide +kernel) (fun h => absurd h (by decide +kernel)) (fun _ => ?_)
      refine v_iload_n B dX12_fillBox_48 rfl rfl ?_
      refine v_iload_n B dX12_fillBox_49 rfl rfl ?_
      refine v_iload B dX12_fillBox_50 rfl ?_
      refine v_ishl B (v := (x <<< ((2 : Int32) &&& 31))) dX12_fillBox_52 rfl ?_
      refine v_iload_n B dX12_fillBox_53 rfl rfl ?_
      refine v_bipush B (v := 8) dX12_fillBox_54 (by decide +kernel) ?_
      refine v_iload B dX12_fillBox_56 rfl ?_
      refine v_isub B (v := 6) dX12_fillBox_58 (by decide +kernel) ?_
      refine v_ishr B (v := (x >>> ((6 : Int32) &&& 31))) dX12_fillBox_59 rfl ?_
      refine v_ior B (v := ((x <<< ((2 : Int32) &&& 31)) ||| (x >>> ((6 : Int32) &&& 31)))) dX12_fillBox_60 rfl ?_
      refine v_sipush B (v := 255) dX12_fillBox_61 (by decide +kernel) ?_
      refine v_iand B (v := (((x <<< ((2 : Int32) &&& 31)) ||| (x >>> ((6 : Int32) &&& 31))) &&& 255)) dX12_fillBox_64 rfl ?_
      refine v_ixor B (v := ((x ^^^ (((x <<< ((1 : Int32) &&& 31)) ||| (x >>> ((7 : Int32) &&& 31))) &&& 255)) ^^^ (((x <<< ((2 : Int32) &&& 31)) ||| (x >>> ((6 : Int32) &&& 31))) &&& 255))) dX12_fillBox_65 rfl ?_
      refine v_istore_n B (lv' := [(3, .int ((x ^^^ (((x <<< ((1 : Int32) &&& 31)) ||| (x >>> ((7 : Int32) &&& 31))) &&& 255)) ^^^ (((x <<< ((2 : Int32) &&& 31)) ||| (x >>> ((6 : Int32) &&& 31))) &&& 255))), (4, .int 2), (2, .int x), (1, .int (nI i)), (0, .ref h)]) dX12_fillBox_66 rfl (by decide +kernel) rfl ?_
      refine v_iinc B (k := 1) (v := 3) (lv' := [(4, .int 3), (3, .int ((x ^^^ (((x <<< ((1 : Int32) &&& 31)) ||| (x >>> ((7 : Int32) &&& 31))) &&& 255)) ^^^ (((x <<< ((2 : Int32) &&& 31)) ||| (x >>> ((6 : Int32) &&& 31))) &&& 255))), (2, .int x), (1, .int (nI i)), (0, .ref h)]) dX12_fillBox_67 rfl (by decide +kernel) (by decide +kernel) rfl ?_
      refine v_goto B (tgt := 42) dX12_fillBox_70 (by decide +kernel) ?_
      refine v_iload B dX12_fillBox_42 rfl ?_
      refine v_iconst B (v := 5) dX12_fillBox_44 (by decide +kernel) ?_
      refine v_icmp_ge B (tgt := 73) dX12_fillBox_45 (by decide +kernel) (fun h => absurd h (by decide +kernel)) (fun _ => ?_)
      refine v_iload_n B dX12_fillBox_48 rfl rfl ?_
      refine v_iload_n B dX12_fillBox_49 rfl rfl ?_
      refine v_iload B dX12_fillBox_50 rfl ?_
      refine v_ishl B (v := (x <<< ((3 : Int32) &&& 31))) dX12_fillBox_52 rfl ?_
      refine v_iload_n B dX12_fillBox_53 rfl rfl ?_
      refine v_bipush B (v := 8) dX12_fillBox_54 (by decide +kernel) ?_
      refine v_iload B dX12_fillBox_56 rfl ?_
      refine v_isub B (v := 5) dX12_fillBox_58 (by decide +kernel) ?_
      refine v_ishr B (v := (x >>> ((5 : Int32) &&& 31))) dX12_fillBox_59 rfl ?_
      refine v_ior B (v := ((x <<< ((3 : Int32) &&& 31)) ||| (x >>> ((5 : Int32) &&& 31)))) dX12_fillBox_60 rfl ?_
      refine v_sipush B (v := 255) dX12_fillBox_61 (by decide +kernel) ?_
      refine v_iand B (v := (((x <<< ((3 : Int32) &&& 31)) ||| (x >>> ((5 : Int32) &&& 31))) &&& 255)) dX12_fillBox_64 rfl ?_
      refine v_ixor B (v := (((x ^^^ (((x <<< ((1 : Int32) &&& 31)) ||| (x >>> ((7 : Int32) &&& 31))) &&& 255)) ^^^ (((x <<< ((2 : Int32) &&& 31)) ||| (x >>> ((6 : Int32) &&& 31))) &&& 255)) ^^^ (((x <<< ((3 : Int32) &&& 31)) ||| (x >>> ((5 : Int32) &&& 31))) &&& 255))) dX12_fillBox_65 rfl ?_
      refine v_istore_n B (lv' := [(3, .int (((x ^^^ (((x <<< ((1 : Int32) &&& 31)) ||| (x >>> ((7 : Int32) &&& 31))) &&& 255)) ^^^ (((x <<< ((2 : Int32) &&& 31)) ||| (x >>> ((6 : Int32) &&& 31))) &&& 255)) ^^^ (((x <<< ((3 : Int32) &&& 31)) ||| (x >>> ((5 : Int32) &&& 31))) &&& 255))), (4, .int 3), (2, .int x), (1, .int (nI i)), (0, .ref h)]) dX12_fillBox_66 rfl (by decide +kernel) rfl ?_
      refine v_iinc B (k := 1) (v := 4) (lv' := [(4, .int 4), (3, .int (((x ^^^ (((x <<< ((1 : Int32) &&& 31)) ||| (x >>> ((7 : Int32) &&& 31))) &&& 255)) ^^^ (((x <<< ((2 : Int32) &&& 31)) ||| (x >>> ((6 : Int32) &&& 31))) &&& 255)) ^^^ (((x <<< ((3 : Int32) &&& 31)) ||| (x >>> ((5 : Int32) &&& 31))) &&& 255))), (2, .int x), (1, .int (nI i)), (0, .ref h)]) dX12_fillBox_67 rfl (by decide +kernel) (by decide +kernel) rfl ?_
      refine v_goto B (tgt := 42) dX12_fillBox_70 (by decide +kernel) ?_
      refine v_iload B dX12_fillBox_42 rfl ?_
      refine v_iconst B (v := 5) dX12_fillBox_44 (by decide +kernel) ?_
      refine v_icmp_ge B (tgt := 73) dX12_fillBox_45 (by decide +kernel) (fun h => absurd h (by decide +kernel)) (fun _ => ?_)
      refine v_iload_n B dX12_fillBox_48 rfl rfl ?_
      refine v_iload_n B dX12_fillBox_49 rfl rfl ?_
      refine v_iload B dX12_fillBox_50 rfl ?_
      refine v_ishl B (v := (x <<< ((4 : Int32) &&& 31))) dX12_fillBox_52 rfl ?_
      refine v_iload_n B dX12_fillBox_53 rfl rfl ?_
      refine v_bipush B (v := 8) dX12_fillBox_54 (by decide +kernel) ?_
      refine v_iload B dX12_fillBox_56 rfl ?_
      refine v_isub B (v := 4) dX12_fillBox_58 (by decide +kernel) ?_
      refine v_ishr B (v := (x >>> ((4 : Int32) &&& 31))) dX12_fillBox_59 rfl ?_
      refine v_ior B (v := ((x <<< ((4 : Int32) &&& 31)) ||| (x >>> ((4 : Int32) &&& 31)))) dX12_fillBox_60 rfl ?_
      refine v_sipush B (v := 255) dX12_fillBox_61 (by decide +kernel) ?_
      refine v_iand B (v := (((x <<< ((4 : Int32) &&& 31)) ||| (x >>> ((4 : Int32) &&& 31))) &&& 255)) dX12_fillBox_64 rfl ?_
      refine v_ixor B (v := ((((x ^^^ (((x <<< ((1 : Int32) &&& 31)) ||| (x >>> ((7 : Int32) &&& 31))) &&& 255)) ^^^ (((x <<< ((2 : Int32) &&& 31)) ||| (x >>> ((6 : Int32) &&& 31))) &&& 255)) ^^^ (((x <<< ((3 : Int32) &&& 31)) ||| (x >>> ((5 : Int32) &&& 31))) &&& 255)) ^^^ (((x <<< ((4 : Int32) &&& 31)) ||| (x >>> ((4 : Int32) &&& 31))) &&& 255))) dX12_fillBox_65 rfl ?_
      refine v_istore_n B (lv' := [(3, .int ((((x ^^^ (((x <<< ((1 : Int32) &&& 31)) ||| (x >>> ((7 : Int32) &&& 31))) &&& 255)) ^^^ (((x <<< ((2 : Int32) &&& 31)) ||| (x >>> ((6 : Int32) &&& 31))) &&& 255)) ^^^ (((x <<< ((3 : Int32) &&& 31)) ||| (x >>> ((5 : Int32) &&& 31))) &&& 255)) ^^^ (((x <<< ((4 : Int32) &&& 31)) ||| (x >>> ((4 : Int32) &&& 31))) &&& 255))), (4, .int 4), (2, .int x), (1, .int (nI i)), (0, .ref h)]) dX12_fillBox_66 rfl (by decide +kernel) rfl ?_
      refine v_iinc B (k := 1) (v := 5) (lv' := [(4, .int 5), (3, .int ((((x ^^^ (((x <<< ((1 : Int32) &&& 31)) ||| (x >>> ((7 : Int32) &&& 31))) &&& 255)) ^^^ (((x <<< ((2 : Int32) &&& 31)) ||| (x >>> ((6 : Int32) &&& 31))) &&& 255)) ^^^ (((x <<< ((3 : Int32) &&& 31)) ||| (x >>> ((5 : Int32) &&& 31))) &&& 255)) ^^^ (((x <<< ((4 : Int32) &&& 31)) ||| (x >>> ((4 : Int32) &&& 31))) &&& 255))), (2, .int x), (1, .int (nI i)), (0, .ref h)]) dX12_fillBox_67 rfl (by decide +kernel) (by decide +kernel) rfl ?_
      refine v_goto B (tgt := 42) dX12_fillBox_70 (by decide +kernel) ?_
      refine v_iload B dX12_fillBox_42 rfl ?_
      refine v_iconst B (v := 5) dX12_fillBox_44 (by decide +kernel) ?_
      refine v_icmp_ge B (tgt := 73) dX12_fillBox_45 (by decide +kernel) (fun _ => ?_) (fun h => absurd (by decide +kernel) h)
      refine v_aload_n B dX12_fillBox_73 rfl rfl ?_
      refine v_get B (C := RX12) (T := TX12) (N := 123) (ci := 12) (k0 := 0) hi_m_fillBox_X12 rfl rfl 3 (by decide +kernel) (List.mem_of_getElem? (i := 8) rfl) rfl dX12_fillBox_74 ?_
      refine v_iload_n B dX12_fillBox_77 rfl rfl ?_
      refine v_iload_n B dX12_fillBox_78 rfl rfl ?_
      refine v_bipush B (v := 99) dX12_fillBox_79 (by decide +kernel) ?_
      refine v_ixor B (v := (((((x ^^^ (((x <<< ((1 : Int32) &&& 31)) ||| (x >>> ((7 : Int32) &&& 31))) &&& 255)) ^^^ (((x <<< ((2 : Int32) &&& 31)) ||| (x >>> ((6 : Int32) &&& 31))) &&& 255)) ^^^ (((x <<< ((3 : Int32) &&& 31)) ||| (x >>> ((5 : Int32) &&& 31))) &&& 255)) ^^^ (((x <<< ((4 : Int32) &&& 31)) ||| (x >>> ((4 : Int32) &&& 31))) &&& 255)) ^^^ 99)) dX12_fillBox_81 rfl ?_
      refine v_iast B (k0 := 1) (t0 := 0) (w' := [(h, .inr (12, fsM q th tp t pk an)), ((q 3), .inl (K 0, 256, .inl (upd f ((nI i) : Int32).toNatClampNeg (((((x ^^^ (((x <<< ((1 : Int32) &&& 31)) ||| (x >>> ((7 : Int32) &&& 31))) &&& 255)) ^^^ (((x <<< ((2 : Int32) &&& 31)) ||| (x >>> ((6 : Int32) &&& 31))) &&& 255)) ^^^ (((x <<< ((3 : Int32) &&& 31)) ||| (x >>> ((5 : Int32) &&& 31))) &&& 255)) ^^^ (((x <<< ((4 : Int32) &&& 31)) ||| (x >>> ((4 : Int32) &&& 31))) &&& 255)) ^^^ 99))))]) rfl rfl (vp_in_nI hi (by decide +kernel)) rfl dX12_fillBox_82 ?_
      refine v_iinc B (k := 3) (v := (nI (i + 1))) (lv' := [(1, .int (nI (i + 1))), (4, .int 5), (3, .int ((((x ^^^ (((x <<< ((1 : Int32) &&& 31)) ||| (x >>> ((7 : Int32) &&& 31))) &&& 255)) ^^^ (((x <<< ((2 : Int32) &&& 31)) ||| (x >>> ((6 : Int32) &&& 31))) &&& 255)) ^^^ (((x <<< ((3 : Int32) &&& 31)) ||| (x >>> ((5 : Int32) &&& 31))) &&& 255)) ^^^ (((x <<< ((4 : Int32) &&& 31)) ||| (x >>> ((4 : Int32) &&& 31))) &&& 255))), (2, .int x), (0, .ref h)]) dX12_fillBox_83 rfl (nI_1 i) (by decide +kernel) rfl ?_
      refine v_goto B (tgt := 2) dX12_fillBox_86 (by decide +kernel) ?_
      refine v_lv [0, 4] rfl ?_
      exact ih _
  · intro f
    show V _ _ _ _ _ _ _ _ _ _ _ _ _ _ _ [(h, .inr (12, fsM q th tp t pk an)), ((q 3), .inl (K 0, 256, .inl f))] [(1, .int 256), (0, .ref h)] _ _
    refine v_iload_n B dX12_fillBox_2 rfl rfl ?_
    refine v_sipush B (v := 256) dX12_fillBox_3 (by decide +kernel) ?_
    refine v_icmp_ge B (tgt := 89) dX12_fillBox_6 (by decide +kernel) (fun _ => ?_) (fun h => absurd (by decide +kernel) h)
    exact v_vret B hr hlk f trivial rfl (by decide +kernel) (by decide +kernel) dX12_fillBox_89
