def wp_c_Diary_init : List Cond := .code yX4_init cX4_init 2 none :: ([.methodLink RX4 3 objectInit, .instanceMethod objectInit, .code objectInit ⟨#[0xb1]⟩ 1 none, .arrayClass .int, .fieldLink RX4 11 "LowEnergy$Diary" "kinds" "[I", .classLink RX4 15 "[[I", .fieldLink RX4 17 "LowEnergy$Diary" "numbers" "[[I", .classLink RX4 20 RX9, .fieldLink RX4 22 "LowEnergy$Diary" "rows" "[LLowEnergy$Row;", .instantiable RX9 2, .initialized RX9, .methodLink RX4 26 yX9_init, .instanceMethod yX9_init, .code yX9_init cX9_init 2 none, .methodLink RX9 3 objectInit, .methodLink RX9 9 Lib.Math.max.name, .static Lib.Math.max.name, .initialized "java/lang/Math", .code Lib.Math.max.name Lib.Math.max.code 2 (some .int), .fieldLink RX9 15 "LowEnergy$Row" "bytes" "[I"] ++ (wsX40 ++ (wsX90 ++ ([]))))
theorem hi_c_Diary_init_X4 : ∀ x ∈ u_ws RX4 TX4 6, x ∈ wp_c_Diary_init := fun _ h => List.mem_cons_of_mem _ (List.mem_append_right _ (List.mem_append_left _ h))
theorem hi_c_Diary_init_X9 : ∀ x ∈ u_ws RX9 TX9 2, x ∈ wp_c_Diary_init := fun _ h => List.mem_cons_of_mem _ (List.mem_append_right _ (List.mem_append_right _ (List.mem_append_left _ h)))
set_option maxRecDepth 100000 in
theorem gd_c_Diary_init_c_RowN_init_40_26 : GoodIn wp_c_Diary_init (wp_c_RowN_init_40) := goodIn_ca (goodIn_r _ [14, 15, 2, 3, 16, 17, 18, 19, 4, 20] rfl rfl) (goodIn_app (goodIn_cls hi_c_Diary_init_X9 gw_X9) (goodIn_nil))
set_option maxHeartbeats 4000000 in
set_option maxRecDepth 100000 in
/-- a new Diary, empty -/
theorem c_Diary_init (l : Launch) (D : va_G) (K : Nat → ClassId) (h : Nat) : MG l yX4_init wp_c_Diary_init ({ frames := 2, cells := 99, slots := 1536, locals := 35 }) D (tysA K) [.ref h] [(h, .inr (4, [.null, .null, .null, .int 0, .int 0, .int 0]))] (Qv D (fun _ : Nat × Nat × Nat => True) (fun u => [(h, .inr (4, [.ref u.1, .ref u.2.1, .ref u.2.2, .int 0, .int 0, .int 0]))])) 99 1536 := by
  refine mg_of (cc := cX4_init) (maxL := 2) (ret := none) (by decide +kernel) rfl (Nat.le_of_ble_eq_true rfl) ?_
  intro p e s m below meth c A B hr hlk hnam
  show V _ _ _ _ _ _ _ _ _ _ _ _ _ _ _ _ [(0, .ref h)] _ _
  refine v_aload_n B dX4_init_0 rfl rfl ?_
  refine v_objInit B (List.mem_of_getElem? (i := 1) rfl) (List.mem_of_getElem? (i := 2) rfl) (List.mem_of_getElem? (i := 3) rfl) dX4_init_1 (by decide +kernel) (Nat.le_of_ble_eq_true rfl) ?_
  refine v_aload_n B dX4_init_4 rfl rfl ?_
  refine v_bipush B (v := 32) dX4_init_5 (by decide +kernel) ?_
  refine v_newa_int B (cA := K 0) (t0 := 0) (N' := 32) (List.mem_of_getElem? (i := 4) rfl) rfl (by decide +kernel) (by decide +kernel) (by decide +kernel) (by decide +kernel) (by decide +kernel) dX4_init_7 (fun q_1 => ?_)
  show V _ _ _ _ _ _ _ _ _ _ _ _ _ _ (1, 32) [(h, .inr (4, [.null, .null, .null, .int 0, .int 0, .int 0])), (q_1, .inl (K 0, 32, .inl (fun _ => 0)))] _ _ _
  refine v_putF B (C := RX4) (T := TX4) (N := 6) (ci := 4) (k0 := 0) hi_c_Diary_init_X4 rfl rfl 0 (by decide +kernel) tyX4 tyX4_ok nmX4 (List.mem_of_getElem? (i := 5) rfl) rfl hnam rfl (ty := .array .int) (tyX4_ok 0 (by decide +kernel)) rfl rfl (Nat.le_of_ble_eq_true rfl) (w' := [(h, .inr (4, [.ref q_1, .null, .null, .int 0, .int 0, .int 0])), (q_1, .inl (K 0, 32, .inl (fun _ => 0)))]) rfl dX4_init_9 ?_
  refine v_aload_n B dX4_init_12 rfl rfl ?_
  refine v_bipush B (v := 32) dX4_init_13 (by decide +kernel) ?_
  refine v_iconst B (v := 3) dX4_init_15 (by decide +kernel) ?_
  refine v_mna B (N' := 32) (K' := 3) (z := (3, .inl (fun _ => 0))) (t0 := 0) (t1 := 6) (cA := K 6) (cI := K 0) (List.mem_of_getElem? (i := 6) rfl) (List.mem_of_getElem? (i := 4) rfl) rfl rfl (by decide +kernel) (by decide +kernel) (by decide +kernel) (by decide +kernel) (by decide +kernel) (by decide +kernel) (by decide +kernel) (by decide +kernel) (by decide +kernel) (fun _ => rfl) dX4_init_16 (fun q_2 r_3 _ => ?_)
  refine v_forget (sp_app _ _) ?_
  generalize (fun i => if i < 32 then some (r_3 i) else none) = f_4
  show V _ _ _ _ _ _ _ _ _ _ _ _ _ _ (34, 160) [(h, .inr (4, [.ref q_1, .null, .null, .int 0, .int 0, .int 0])), (q_1, .inl (K 0, 32, .inl (fun _ => 0))), (q_2, .inl (K 6, 32, .inr (.inr (.inr (.inr f_4)))))] _ _ _
  refine v_putF B (C := RX4) (T := TX4) (N := 6) (ci := 4) (k0 := 0) hi_c_Diary_init_X4 rfl rfl 1 (by decide +kernel) tyX4 tyX4_ok nmX4 (List.mem_of_getElem? (i := 7) rfl) rfl hnam rfl (ty := .array (.array .int)) (tyX4_ok 1 (by decide +kernel)) rfl rfl (Nat.le_of_ble_eq_true rfl) (w' := [(h, .inr (4, [.ref q_1, .ref q_2, .null, .int 0, .int 0, .int 0])), (q_1, .inl (K 0, 32, .inl (fun _ => 0))), (q_2, .inl (K 6, 32, .inr (.inr (.inr (.inr f_4)))))]) rfl dX4_init_20 ?_
  refine v_aload_n B dX4_init_23 rfl rfl ?_
  refine v_bipush B (v := 32) dX4_init_24 (by decide +kernel) ?_
  refine v_newq B (C := RX9) (cA := K 4) (t0 := 4) (N' := 32) (List.mem_of_getElem? (i := 8) rfl) B.2.2.2.2.2.1.2.2.1 rfl (by decide +kernel) (by decide +kernel) (by decide +kernel) (by decide +kernel) (by decide +kernel) dX4_init_26 (fun q_5 => ?_)
  show V _ _ _ _ _ _ _ _ _ _ _ _ _ _ (35, 192) [(h, .inr (4, [.ref q_1, .ref q_2, .null, .int 0, .int 0, .int 0])), (q_1, .inl (K 0, 32, .inl (fun _ => 0))), (q_2, .inl (K 6, 32, .inr (.inr (.inr (.inr f_4))))), (q_5, .inl (K 4, 32, .inr (.inr (.inr (.inr (fun _ => none))))))] _ _ _
  refine v_putF B (C := RX4) (T := TX4) (N := 6) (ci := 4) (k0 := 0) hi_c_Diary_init_X4 rfl rfl 2 (by decide +kernel) tyX4 tyX4_ok nmX4 (List.mem_of_getElem? (i := 9) rfl) rfl hnam rfl (ty := .array (.object "LowEnergy$Row")) (tyX4_ok 2 (by decide +kernel)) rfl rfl (Nat.le_of_ble_eq_true rfl) (w' := [(h, .inr (4, [.ref q_1, .ref q_2, .ref q_5, .int 0, .int 0, .int 0])), (q_1, .inl (K 0, 32, .inl (fun _ => 0))), (q_2, .inl (K 6, 32, .inr (.inr (.inr (.inr f_4))))), (q_5, .inl (K 4, 32, .inr (.inr (.inr (.inr (fun _ => none))))))]) rfl dX4_init_29 ?_
  refine v_iconst B (v := 0) dX4_init_32 (by decide +kernel) ?_
  refine v_istore_n B (lv' := [(1, .int 0), (0, .ref h)]) dX4_init_33 rfl (by decide +kernel) rfl ?_
  refine v_iload_n B dX4_init_34 rfl rfl ?_
  refine v_aload_n B dX4_init_35 rfl rfl ?_
  refine v_get B (C := RX4) (T := TX4) (N := 6) (ci := 4) (k0 := 0) hi_c_Diary_init_X4 rfl rfl 2 (by decide +kernel) (List.mem_of_getElem? (i := 9) rfl) rfl dX4_init_36 ?_
  refine v_alen B (k0 := 3) (t0 := 4) (v := 32) rfl rfl rfl dX4_init_39 ?_
  refine v_icmp_ge B (tgt := 64) dX4_init_40 (by decide +kernel) (fun h => absurd h (by decide +kernel)) (fun _ => ?_)
  refine v_aload_n B dX4_init_43 rfl rfl ?_
  refine v_get B (C := RX4) (T := TX4) (N := 6) (ci := 4) (k0 := 0) hi_c_Diary_init_X4 rfl rfl 2 (by decide +kernel) (List.mem_of_getElem? (i := 9) rfl) rfl dX4_init_44 ?_
  refine v_iload_n B dX4_init_47 rfl rfl ?_
  refine v_new B (C := RX9) (T := TX9) (N := 2) (ci := 9) (fs := [.null, .int 0]) hi_c_Diary_init_X9 tyX9 tyX9_ok (List.mem_of_getElem? (i := 8) rfl) (List.mem_of_getElem? (i := 10) rfl) (List.mem_of_getElem? (i := 11) rfl) rfl (by decide +kernel) (by decide +kernel) (by decide +kernel) dX4_init_48 (fun q_6 => ?_)
  show V _ _ _ _ _ _ _ _ _ _ _ _ _ _ (36, 194) [(h, .inr (4, [.ref q_1, .ref q_2, .ref q_5, .int 0, .int 0, .int 0])), (q_1, .inl (K 0, 32, .inl (fun _ => 0))), (q_2, .inl (K 6, 32, .inr (.inr (.inr (.inr f_4))))), (q_5, .inl (K 4, 32, .inr (.inr (.inr (.inr (fun _ => none)))))), (q_6, .inr (9, [.null, .int 0]))] _ _ _
  refine v_dup B dX4_init_51 rfl ?_
  refine v_bipush B (v := 40) dX4_init_52 (by decide +kernel) ?_
  refine v_callIv B (b := q_6) (n := 1) (As := [.int 40]) (rest := [.ref q_6, .int 0, .ref q_5]) (wc := [(q_6, .inr (9, [.null, .int 0]))]) (wr := [(h, .inr (4, [.ref q_1, .ref q_2, .ref q_5, .int 0, .int 0, .int 0])), (q_1, .inl (K 0, 32, .inl (fun _ => 0))), (q_2, .inl (K 6, 32, .inr (.inr (.inr (.inr f_4))))), (q_5, .inl (K 4, 32, .inr (.inr (.inr (.inr (fun _ => none))))))]) (c_RowN_init_40 l D K q_6) gd_c_Diary_init_c_RowN_init_40_26 rfl rfl rfl (by decide +kernel) ⟨by decide +kernel, by decide +kernel⟩ (List.mem_of_getElem? (i := 11) rfl) (List.mem_of_getElem? (i := 12) rfl) (List.mem_of_getElem? (i := 13) rfl) rfl (sp_pl [4] [0, 1, 2, 3] rfl rfl rfl rfl rfl) rfl rfl (Nat.le_of_ble_eq_true rfl) dX4_init_54 ⟨by decide +kernel, by decide +kernel⟩ (fun u_7 hp_8 => ?_)
  obtain ⟨a_10, rfl⟩ : ∃ z, z = u_7 := ⟨_, rfl⟩
  show V _ _ _ _ _ _ _ _ _ _ _ _ _ _ (37, 234) [(h, .inr (4, [.ref q_1, .ref q_2, .ref q_5, .int 0, .int 0, .int 0])), (q_1, .inl (K 0, 32, .inl (fun _ => 0))), (q_2, .inl (K 6, 32, .inr (.inr (.inr (.inr f_4))))), (q_5, .inl (K 4, 32, .inr (.inr (.inr (.inr (fun _ => none)))))), (q_6, .inr (9, [.ref a_10, .int 0]))] _ _ _
  refine v_aast B (k0 := 3) (t0 := 4) (k1 := 4) (r := (RX9, TX9, 2)) (w' := [(h, .inr (4, [.ref q_1, .ref q_2, .ref q_5, .int 0, .int 0, .int 0])), (q_1, .inl (K 0, 32, .inl (fun _ => 0))), (q_2, .inl (K 6, 32, .inr (.inr (.inr (.inr f_4))))), (q_5, .inl (K 4, 32, .inr (.inr (.inr (.inr (va_up (fun _ => none) (0 : Int32).toNatClampNeg (some q_6))))))), (q_6, .inr (9, [.ref a_10, .int 0]))]) rfl rfl rfl rfl (vpi (by decide +kernel)) rfl dX4_init_57 ?_
  generalize va_up (fun _ => none) (0 : Int32).toNatClampNeg (some q_6) = f_11
  refine v_forget (wc := [(h, .inr (4, [.ref q_1, .ref q_2, .ref q_5, .int 0, .int 0, .int 0])), (q_5, .inl (K 4, 32, .inr (.inr (.inr (.inr f_11)))))]) (wr := []) (sp_pl [0, 3] [] rfl rfl rfl rfl rfl) ?_
  refine v_iinc B (k := 0) (v := 1) (lv' := [(1, .int 1), (0, .ref h)]) dX4_init_58 rfl (by decide +kernel) (by decide +kernel) rfl ?_
  refine v_goto B (tgt := 34) dX4_init_61 (by decide +kernel) ?_
  refine v_iload_n B dX4_init_34 rfl rfl ?_
  refine v_aload_n B dX4_init_35 rfl rfl ?_
  refine v_get B (C := RX4) (T := TX4) (N := 6) (ci := 4) (k0 := 0) hi_c_Diary_init_X4 rfl rfl 2 (by decide +kernel) (List.mem_of_getElem? (i := 9) rfl) rfl dX4_init_36 ?_
  refine v_alen B (k0 := 1) (t0 := 4) (v := 32) rfl rfl rfl dX4_init_39 ?_
  refine v_icmp_ge B (tgt := 64) dX4_init_40 (by decide +kernel) (fun h => absurd h (by decide +kernel)) (fun _ => ?_)
  refine v_aload_n B dX4_init_43 rfl rfl ?_
  refine v_get B (C := RX4) (T := TX4) (N := 6) (ci := 4) (k0 := 0) hi_c_Diary_init_X4 rfl rfl 2 (by decide +kernel) (List.mem_of_getElem? (i := 9) rfl) rfl dX4_init_44 ?_
  refine v_iload_n B dX4_init_47 rfl rfl ?_
  refine v_new B (C := RX9) (T := TX9) (N := 2) (ci := 9) (fs := [.null, .int 0]) hi_c_Diary_init_X9 tyX9 tyX9_ok (List.mem_of_getElem? (i := 8) rfl) (List.mem_of_getElem? (i := 10) rfl) (List.mem_of_getElem? (i := 11) rfl) rfl (by decide +kernel) (by decide +kernel) (by decide +kernel) dX4_init_48 (fun q_12 => ?_)
  show V _ _ _ _ _ _ _ _ _ _ _ _ _ _ (38, 236) [(h, .inr (4, [.ref q_1, .ref q_2, .ref q_5, .int 0, .int 0, .int 0])), (q_5, .inl (K 4, 32, .inr (.inr (.inr (.inr f_11))))), (q_12, .inr (9, [.null, .int 0]))] _ _ _
  refine v_dup B dX4_init_51 rfl ?_
  refine v_bipush B (v := 40) dX4_init_52 (by decide +kernel) ?_
  refine v_callIv B (b := q_12) (n := 1) (As := [.int 40]) (rest := [.ref q_12, .int 1, .ref q_5]) (wc := [(q_12, .inr (9, [.null, .int 0]))]) (wr := [(h, .inr (4, [.ref q_1, .ref q_2, .ref q_5, .int 0, .int 0, .int 0])), (q_5, .inl (K 4, 32, .inr (.inr (.inr (.inr f_11)))))]) (c_RowN_init_40 l D K q_12) gd_c_Diary_init_c_RowN_init_40_26 rfl rfl rfl (by decide +kernel) ⟨by decide +kernel, by decide +kernel⟩ (List.mem_of_getElem? (i := 11) rfl) (List.mem_of_getElem? (i := 12) rfl) (List.mem_of_getElem? (i := 13) rfl) rfl (sp_pl [2] [0, 1] rfl rfl rfl rfl rfl) rfl rfl (Nat.le_of_ble_eq_true rfl) dX4_init_54 ⟨by decide +kernel, by decide +kernel⟩ (fun u_13 hp_14 => ?_)
  obtain ⟨a_16, rfl⟩ : ∃ z, z = u_13 := ⟨_, rfl⟩
  show V _ _ _ _ _ _ _ _ _ _ _ _ _ _ (39, 276) [(h, .inr (4, [.ref q_1, .ref q_2, .ref q_5, .int 0, .int 0, .int 0])), (q_5, .inl (K 4, 32, .inr (.inr (.inr (.inr f_11))))), (q_12, .inr (9, [.ref a_16, .int 0]))] _ _ _
  refine v_aast B (k0 := 1) (t0 := 4) (k1 := 2) (r := (RX9, TX9, 2)) (w' := [(h, .inr (4, [.ref q_1, .ref q_2, .ref q_5, .int 0, .int 0, .int 0])), (q_5, .inl (K 4, 32, .inr (.inr (.inr (.inr (va_up f_11 (1 : Int32).toNatClampNeg (some q_12))))))), (q_12, .inr (9, [.ref a_16, .int 0]))]) rfl rfl rfl rfl (vpi (by decide +kernel)) rfl dX4_init_57 ?_
  generalize va_up f_11 (1 : Int32).toNatClampNeg (some q_12) = f_17
  refine v_forget (wc := [(h, .inr (4, [.ref q_1, .ref q_2, .ref q_5, .int 0, .int 0, .int 0])), (q_5, .inl (K 4, 32, .inr (.inr (.inr (.inr f_17)))))]) (wr := []) (sp_pl [0, 1] [] rfl rfl rfl rfl rfl) ?_
  refine v_iinc B (k := 0) (v := 2) (lv' := [(1, .int 2), (0, .ref h)]) dX4_init_58 rfl (by decide +kernel) (by decide +kernel) rfl ?_
  refine v_goto B (tgt := 34) dX4_init_61 (by decide +kernel) ?_
  refine v_iload_n B dX4_init_34 rfl rfl ?_
  refine v_aload_n B dX4_init_35 rfl rfl ?_
  refine v_get B (C := RX4) (T := TX4) (N := 6) (ci := 4) (k0 := 0) hi_c_Diary_init_X4 rfl rfl 2 (by decide +kernel) (List.mem_of_getElem? (i := 9) rfl) rfl dX4_init_36 ?_
  refine v_alen B (k0 := 1) (t0 := 4) (v := 32) rfl rfl rfl dX4_init_39 ?_
  refine v_icmp_ge B (tgt := 64) dX4_init_40 (by decide +kernel) (fun h => absurd h (by decide +kernel)) (fun _ => ?_)
  refine v_aload_n B dX4_init_43 rfl rfl ?_
  refine v_get B (C := RX4) (T := TX4) (N := 6) (ci := 4) (k0 := 0) hi_c_Diary_init_X4 rfl rfl 2 (by decide +kernel) (List.mem_of_getElem? (i := 9) rfl) rfl dX4_init_44 ?_
  refine v_iload_n B dX4_init_47 rfl rfl ?_
  refine v_new B (C := RX9) (T := TX9) (N := 2) (ci := 9) (fs := [.null, .int 0]) hi_c_Diary_init_X9 tyX9 tyX9_ok (List.mem_of_getElem? (i := 8) rfl) (List.mem_of_getElem? (i := 10) rfl) (List.mem_of_getElem? (i := 11) rfl) rfl (by decide +kernel) (by decide +kernel) (by decide +kernel) dX4_init_48 (fun q_18 => ?_)
  show V _ _ _ _ _ _ _ _ _ _ _ _ _ _ (40, 278) [(h, .inr (4, [.ref q_1, .ref q_2, .ref q_5, .int 0, .int 0, .int 0])), (q_5, .inl (K 4, 32, .inr (.inr (.inr (.inr f_17))))), (q_18, .inr (9, [.null, .int 0]))] _ _ _
  refine v_dup B dX4_init_51 rfl ?_
  refine v_bipush B (v := 40) dX4_init_52 (by decide +kernel) ?_
  refine v_callIv B (b := q_18) (n := 1) (As := [.int 40]) (rest := [.ref q_18, .int 2, .ref q_5]) (wc := [(q_18, .inr (9, [.null, .int 0]))]) (wr := [(h, .inr (4, [.ref q_1, .ref q_2, .ref q_5, .int 0, .int 0, .int 0])), (q_5, .inl (K 4, 32, .inr (.inr (.inr (.inr f_17)))))]) (c_RowN_init_40 l D K q_18) gd_c_Diary_init_c_RowN_init_40_26 rfl rfl rfl (by decide +kernel) ⟨by decide +kernel, by decide +kernel⟩ (List.mem_of_getElem? (i := 11) rfl) (List.mem_of_getElem? (i := 12) rfl) (List.mem_of_getElem? (i := 13) rfl) rfl (sp_pl [2] [0, 1] rfl rfl rfl rfl rfl) rfl rfl (Nat.le_of_ble_eq_true rfl) dX4_init_54 ⟨by decide +kernel, by decide +kernel⟩ (fun u_19 hp_20 => ?_)
  obtain ⟨a_22, rfl⟩ : ∃ z, z = u_19 := ⟨_, rfl⟩
  show V _ _ _ _ _ _ _ _ _ _ _ _ _ _ (41, 318) [(h, .inr (4, [.ref q_1, .ref q_2, .ref q_5, .int 0, .int 0, .int 0])), (q_5, .inl (K 4, 32, .inr (.inr (.inr (.inr f_17))))), (q_18, .inr (9, [.ref a_22, .int 0]))] _ _ _
  refine v_aast B (k0 := 1) (t0 := 4) (k1 := 2) (r := (RX9, TX9, 2)) (w' := [(h, .inr (4, [.ref q_1, .ref q_2, .ref q_5, .int 0, .int 0, .int 0])), (q_5, .inl (K 4, 32, .inr (.inr (.inr (.inr (va_up f_17 (2 : Int32).toNatClampNeg (some q_18))))))), (q_18, .inr (9, [.ref a_22, .int 0]))]) rfl rfl rfl rfl (vpi (by decide +kernel)) rfl dX4_init_57 ?_
  generalize va_up f_17 (2 : Int32).toNatClampNeg (some q_18) = f_23
  refine v_forget (wc := [(h, .inr (4, [.ref q_1, .ref q_2, .ref q_5, .int 0, .int 0, .int 0])), (q_5, .inl (K 4, 32, .inr (.inr (.inr (.inr f_23)))))]) (wr := []) (sp_pl [0, 1] [] rfl rfl rfl rfl rfl) ?_
  refine v_iinc B (k := 0) (v := 3) (lv' := [(1, .int 3), (0, .ref h)]) dX4_init_58 rfl (by decide +kernel) (by decide +kernel) rfl ?_
  refine v_goto B (tgt := 34) dX4_init_61 (by decide +kernel) ?_
  refine v_iload_n B dX4_init_34 rfl rfl ?_
  refine v_aload_n B dX4_init_35 rfl rfl ?_
  refine v_get B (C := RX4) (T := TX4) (N := 6) (ci := 4) (k0 := 0) hi_c_Diary_init_X4 rfl rfl 2 (by decide +kernel) (List.mem_of_getElem? (i := 9) rfl) rfl dX4_init_36 ?_
  refine v_alen B (k0 := 1) (t0 := 4) (v := 32) rfl rfl rfl dX4_init_39 ?_
  refine v_icmp_ge B (tgt := 64) dX4_init_40 (by decide +kernel) (fun h => absurd h (by decide +kernel)) (fun _ => ?_)
  refine v_aload_n B dX4_init_43 rfl rfl ?_
  refine v_get B (C := RX4) (T := TX4) (N := 6) (ci := 4) (k0 := 0) hi_c_Diary_init_X4 rfl rfl 2 (by decide +kernel) (List.mem_of_getElem? (i := 9) rfl) rfl dX4_init_44 ?_
  refine v_iload_n B dX4_init_47 rfl rfl ?_
  refine v_new B (C := RX9) (T := TX9) (N := 2) (ci := 9) (fs := [.null, .int 0]) hi_c_Diary_init_X9 tyX9 tyX9_ok (List.mem_of_getElem? (i := 8) rfl) (List.mem_of_getElem? (i := 10) rfl) (List.mem_of_getElem? (i := 11) rfl) rfl (by decide +kernel) (by decide +kernel) (by decide +kernel) dX4_init_48 (fun q_24 => ?_)
  show V _ _ _ _ _ _ _ _ _ _ _ _ _ _ (42, 320) [(h, .inr (4, [.ref q_1, .ref q_2, .ref q_5, .int 0, .int 0, .int 0])), (q_5, .inl (K 4, 32, .inr (.inr (.inr (.inr f_23))))), (q_24, .inr (9, [.null, .int 0]))] _ _ _
  refine v_dup B dX4_init_51 rfl ?_
  refine v_bipush B (v := 40) dX4_init_52 (by decide +kernel) ?_
  refine v_callIv B (b := q_24) (n := 1) (As := [.int 40]) (rest := [.ref q_24, .int 3, .ref q_5]) (wc := [(q_24, .inr (9, [.null, .int 0]))]) (wr := [(h, .inr (4, [.ref q_1, .ref q_2, .ref q_5, .int 0, .int 0, .int 0])), (q_5, .inl (K 4, 32, .inr (.inr (.inr (.inr f_23)))))]) (c_RowN_init_40 l D K q_24) gd_c_Diary_init_c_RowN_init_40_26 rfl rfl rfl (by decide +kernel) ⟨by decide +kernel, by decide +kernel⟩ (List.mem_of_getElem? (i := 11) rfl) (List.mem_of_getElem? (i := 12) rfl) (List.mem_of_getElem? (i := 13) rfl) rfl (sp_pl [2] [0, 1] rfl rfl rfl rfl rfl) rfl rfl (Nat.le_of_ble_eq_true rfl) dX4_init_54 ⟨by decide +kernel, by decide +kernel⟩ (fun u_25 hp_26 => ?_)
  obtain ⟨a_28, rfl⟩ : ∃ z, z = u_25 := ⟨_, rfl⟩
  show V _ _ _ _ _ _ _ _ _ _ _ _ _ _ (43, 360) [(h, .inr (4, [.ref q_1, .ref q_2, .ref q_5, .int 0, .int 0, .int 0])), (q_5, .inl (K 4, 32, .inr (.inr (.inr (.inr f_23))))), (q_24, .inr (9, [.ref a_28, .int 0]))] _ _ _
  refine v_aast B (k0 := 1) (t0 := 4) (k1 := 2) (r := (RX9, TX9, 2)) (w' := [(h, .inr (4, [.ref q_1, .ref q_2, .ref q_5, .int 0, .int 0, .int 0])), (q_5, .inl (K 4, 32, .inr (.inr (.inr (.inr (va_up f_23 (3 : Int32).toNatClampNeg (some q_24))))))), (q_24, .inr (9, [.ref a_28, .int 0]))]) rfl rfl rfl rfl (vpi (by decide +kernel)) rfl dX4_init_57 ?_
  generalize va_up f_23 (3 : Int32).toNatClampNeg (some q_24) = f_29
  refine v_forget (wc := [(h, .inr (4, [.ref q_1, .ref q_2, .ref q_5, .int 0, .int 0, .int 0])), (q_5, .inl (K 4, 32, .inr (.inr (.inr (.inr f_29)))))]) (wr := []) (sp_pl [0, 1] [] rfl rfl rfl rfl rfl) ?_
  refine v_iinc B (k := 0) (v := 4) (lv' := [(1, .int 4), (0, .ref h)]) dX4_init_58 rfl (by decide +kernel) (by decide +kernel) rfl ?_
  refine v_goto B (tgt := 34) dX4_init_61 (by decide +kernel) ?_
  refine v_iload_n B dX4_init_34 rfl rfl ?_
  refine v_aload_n B dX4_init_35 rfl rfl ?_
  refine v_get B (C := RX4) (T := TX4) (N := 6) (ci := 4) (k0 := 0) hi_c_Diary_init_X4 rfl rfl 2 (by decide +kernel) (List.mem_of_getElem? (i := 9) rfl) rfl dX4_init_36 ?_
  refine v_alen B (k0 := 1) (t0 := 4) (v := 32) rfl rfl rfl dX4_init_39 ?_
  refine v_icmp_ge B (tgt := 64) dX4_init_40 (by decide +kernel) (fun h => absurd h (by decide +kernel)) (fun _ => ?_)
  refine v_aload_n B dX4_init_43 rfl rfl ?_
  refine v_get B (C := RX4) (T := TX4) (N := 6) (ci := 4) (k0 := 0) hi_c_Diary_init_X4 rfl rfl 2 (by decide +kernel) (List.mem_of_getElem? (i := 9) rfl) rfl dX4_init_44 ?_
  refine v_iload_n B dX4_init_47 rfl rfl ?_
  refine v_new B (C := RX9) (T := TX9) (N := 2) (ci := 9) (fs := [.null, .int 0]) hi_c_Diary_init_X9 tyX9 tyX9_ok (List.mem_of_getElem? (i := 8) rfl) (List.mem_of_getElem? (i := 10) rfl) (List.mem_of_getElem? (i := 11) rfl) rfl (by decide +kernel) (by decide +kernel) (by decide +kernel) dX4_init_48 (fun q_30 => ?_)
  show V _ _ _ _ _ _ _ _ _ _ _ _ _ _ (44, 362) [(h, .inr (4, [.ref q_1, .ref q_2, .ref q_5, .int 0, .int 0, .int 0])), (q_5, .inl (K 4, 32, .inr (.inr (.inr (.inr f_29))))), (q_30, .inr (9, [.null, .int 0]))] _ _ _
  refine v_dup B dX4_init_51 rfl ?_
  refine v_bipush B (v := 40) dX4_init_52 (by decide +kernel) ?_
  refine v_callIv B (b := q_30) (n := 1) (As := [.int 40]) (rest := [.ref q_30, .int 4, .ref q_5]) (wc := [(q_30, .inr (9, [.null, .int 0]))]) (wr := [(h, .inr (4, [.ref q_1, .ref q_2, .ref q_5, .int 0, .int 0, .int 0])), (q_5, .inl (K 4, 32, .inr (.inr (.inr (.inr f_29)))))]) (c_RowN_init_40 l D K q_30) gd_c_Diary_init_c_RowN_init_40_26 rfl rfl rfl (by decide +kernel) ⟨by decide +kernel, by decide +kernel⟩ (List.mem_of_getElem? (i := 11) rfl) (List.mem_of_getElem? (i := 12) rfl) (List.mem_of_getElem? (i := 13) rfl) rfl (sp_pl [2] [0, 1] rfl rfl rfl rfl rfl) rfl rfl (Nat.le_of_ble_eq_true rfl) dX4_init_54 ⟨by decide +kernel, by decide +kernel⟩ (fun u_31 hp_32 => ?_)
  obtain ⟨a_34, rfl⟩ : ∃ z, z = u_31 := ⟨_, rfl⟩
  show V _ _ _ _ _ _ _ _ _ _ _ _ _ _ (45, 402) [(h, .inr (4, [.ref q_1, .ref q_2, .ref q_5, .int 0, .int 0, .int 0])), (q_5, .inl (K 4, 32, .inr (.inr (.inr (.inr f_29))))), (q_30, .inr (9, [.ref a_34, .int 0]))] _ _ _
  refine v_aast B (k0 := 1) (t0 := 4) (k1 := 2) (r := (RX9, TX9, 2)) (w' := [(h, .inr (4, [.ref q_1, .ref q_2, .ref q_5, .int 0, .int 0, .int 0])), (q_5, .inl (K 4, 32, .inr (.inr (.inr (.inr (va_up f_29 (4 : Int32).toNatClampNeg (some q_30))))))), (q_30, .inr (9, [.ref a_34, .int 0]))]) rfl rfl rfl rfl (vpi (by decide +kernel)) rfl dX4_init_57 ?_
  generalize va_up f_29 (4 : Int32).toNatClampNeg (some q_30) = f_35
  refine v_forget (wc := [(h, .inr (4, [.ref q_1, .ref q_2, .ref q_5, .int 0, .int 0, .int 0])), (q_5, .inl (K 4, 32, .inr (.inr (.inr (.inr f_35)))))]) (wr := []) (sp_pl [0, 1] [] rfl rfl rfl rfl rfl) ?_
  refine v_iinc B (k := 0) (v := 5) (lv' := [(1, .int 5), (0, .ref h)]) dX4_init_58 rfl (by decide +kernel) (by decide +kernel) rfl ?_
  refine v_goto B (tgt := 34) dX4_init_61 (by decide +kernel) ?_
  refine v_iload_n B dX4_init_34 rfl rfl ?_
  refine v_aload_n B dX4_init_35 rfl rfl ?_
  refine v_get B (C := RX4) (T := TX4) (N := 6) (ci := 4) (k0 := 0) hi_c_Diary_init_X4 rfl rfl 2 (by decide +kernel) (List.mem_of_getElem? (i := 9) rfl) rfl dX4_init_36 ?_
  refine v_alen B (k0 := 1) (t0 := 4) (v := 32) rfl rfl rfl dX4_init_39 ?_
  refine v_icmp_ge B (tgt := 64) dX4_init_40 (by decide +kernel) (fun h => absurd h (by decide +kernel)) (fun _ => ?_)
  refine v_aload_n B dX4_init_43 rfl rfl ?_
  refine v_get B (C := RX4) (T := TX4) (N := 6) (ci := 4) (k0 := 0) hi_c_Diary_init_X4 rfl rfl 2 (by decide +kernel) (List.mem_of_getElem? (i := 9) rfl) rfl dX4_init_44 ?_
  refine v_iload_n B dX4_init_47 rfl rfl ?_
  refine v_new B (C := RX9) (T := TX9) (N := 2) (ci := 9) (fs := [.null, .int 0]) hi_c_Diary_init_X9 tyX9 tyX9_ok (List.mem_of_getElem? (i := 8) rfl) (List.mem_of_getElem? (i := 10) rfl) (List.mem_of_getElem? (i := 11) rfl) rfl (by decide +kernel) (by decide +kernel) (by decide +kernel) dX4_init_48 (fun q_36 => ?_)
  show V _ _ _ _ _ _ _ _ _ _ _ _ _ _ (46, 404) [(h, .inr (4, [.ref q_1, .ref q_2, .ref q_5, .int 0, .int 0, .int 0])), (q_5, .inl (K 4, 32, .inr (.inr (.inr (.inr f_35))))), (q_36, .inr (9, [.null, .int 0]))] _ _ _
  refine v_dup B dX4_init_51 rfl ?_
  refine v_bipush B (v := 40) dX4_init_52 (by decide +kernel) ?_
  refine v_callIv B (b := q_36) (n := 1) (As := [.int 40]) (rest := [.ref q_36, .int 5, .ref q_5]) (wc := [(q_36, .inr (9, [.null, .int 0]))]) (wr := [(h, .inr (4, [.ref q_1, .ref q_2, .ref q_5, .int 0, .int 0, .int 0])), (q_5, .inl (K 4, 32, .inr (.inr (.inr (.inr f_35)))))]) (c_RowN_init_40 l D K q_36) gd_c_Diary_init_c_RowN_init_40_26 rfl rfl rfl (by decide +kernel) ⟨by decide +kernel, by decide +kernel⟩ (List.mem_of_getElem? (i := 11) rfl) (List.mem_of_getElem? (i := 12) rfl) (List.mem_of_getElem? (i := 13) rfl) rfl (sp_pl [2] [0, 1] rfl rfl rfl rfl rfl) rfl rfl (Nat.le_of_ble_eq_true rfl) dX4_init_54 ⟨by decide +kernel, by decide +kernel⟩ (fun u_37 hp_38 => ?_)
  obtain ⟨a_40, rfl⟩ : ∃ z, z = u_37 := ⟨_, rfl⟩
  show V _ _ _ _ _ _ _ _ _ _ _ _ _ _ (47, 444) [(h, .inr (4, [.ref q_1, .ref q_2, .ref q_5, .int 0, .int 0, .int 0])), (q_5, .inl (K 4, 32, .inr (.inr (.inr (.inr f_35))))), (q_36, .inr (9, [.ref a_40, .int 0]))] _ _ _
  refine v_aast B (k0 := 1) (t0 := 4) (k1 := 2) (r := (RX9, TX9, 2)) (w' := [(h, .inr (4, [.ref q_1, .ref q_2, .ref q_5, .int 0, .int 0, .int 0])), (q_5, .inl (K 4, 32, .inr (.inr (.inr (.inr (va_up f_35 (5 : Int32).toNatClampNeg (some q_36))))))), (q_36, .inr (9, [.ref a_40, .int 0]))]) rfl rfl rfl rfl (vpi (by decide +kernel)) rfl dX4_init_57 ?_
  generalize va_up f_35 (5 : Int32).toNatClampNeg (some q_36) = f_41
  refine v_forget (wc := [(h, .inr (4, [.ref q_1, .ref q_2, .ref q_5, .int 0, .int 0, .int 0])), (q_5, .inl (K 4, 32, .inr (.inr (.inr (.inr f_41)))))]) (wr := []) (sp_pl [0, 1] [] rfl rfl rfl rfl rfl) ?_
  refine v_iinc B (k := 0) (v := 6) (lv' := [(1, .int 6), (0, .ref h)]) dX4_init_58 rfl (by decide +kernel) (by decide +kernel) rfl ?_
  refine v_goto B (tgt := 34) dX4_init_61 (by decide +kernel) ?_
  refine v_iload_n B dX4_init_34 rfl rfl ?_
  refine v_aload_n B dX4_init_35 rfl rfl ?_
  refine v_get B (C := RX4) (T := TX4) (N := 6) (ci := 4) (k0 := 0) hi_c_Diary_init_X4 rfl rfl 2 (by decide +kernel) (List.mem_of_getElem? (i := 9) rfl) rfl dX4_init_36 ?_
  refine v_alen B (k0 := 1) (t0 := 4) (v := 32) rfl rfl rfl dX4_init_39 ?_
  refine v_icmp_ge B (tgt := 64) dX4_init_40 (by decide +kernel) (fun h => absurd h (by decide +kernel)) (fun _ => ?_)
  refine v_aload_n B dX4_init_43 rfl rfl ?_
  refine v_get B (C := RX4) (T := TX4) (N := 6) (ci := 4) (k0 := 0) hi_c_Diary_init_X4 rfl rfl 2 (by decide +kernel) (List.mem_of_getElem? (i := 9) rfl) rfl dX4_init_44 ?_
  refine v_iload_n B dX4_init_47 rfl rfl ?_
  refine v_new B (C := RX9) (T := TX9) (N := 2) (ci := 9) (fs := [.null, .int 0]) hi_c_Diary_init_X9 tyX9 tyX9_ok (List.mem_of_getElem? (i := 8) rfl) (List.mem_of_getElem? (i := 10) rfl) (List.mem_of_getElem? (i := 11) rfl) rfl (by decide +kernel) (by decide +kernel) (by decide +kernel) dX4_init_48 (fun q_42 => ?_)
  show V _ _ _ _ _ _ _ _ _ _ _ _ _ _ (48, 446) [(h, .inr (4, [.ref q_1, .ref q_2, .ref q_5, .int 0, .int 0, .int 0])), (q_5, .inl (K 4, 32, .inr (.inr (.inr (.inr f_41))))), (q_42, .inr (9, [.null, .int 0]))] _ _ _
  refine v_dup B dX4_init_51 rfl ?_
  refine v_bipush B (v := 40) dX4_init_52 (by decide +kernel) ?_
  refine v_callIv B (b := q_42) (n := 1) (As := [.int 40]) (rest := [.ref q_42, .int 6, .ref q_5]) (wc := [(q_42, .inr (9, [.null, .int 0]))]) (wr := [(h, .inr (4, [.ref q_1, .ref q_2, .ref q_5, .int 0, .int 0, .int 0])), (q_5, .inl (K 4, 32, .inr (.inr (.inr (.inr f_41)))))]) (c_RowN_init_40 l D K q_42) gd_c_Diary_init_c_RowN_init_40_26 rfl rfl rfl (by decide +kernel) ⟨by decide +kernel, by decide +kernel⟩ (List.mem_of_getElem? (i := 11) rfl) (List.mem_of_getElem? (i := 12) rfl) (List.mem_of_getElem? (i := 13) rfl) rfl (sp_pl [2] [0, 1] rfl rfl rfl rfl rfl) rfl rfl (Nat.le_of_ble_eq_true rfl) dX4_init_54 ⟨by decide +kernel, by decide +kernel⟩ (fun u_43 hp_44 => ?_)
  obtain ⟨a_46, rfl⟩ : ∃ z, z = u_43 := ⟨_, rfl⟩
  show V _ _ _ _ _ _ _ _ _ _ _ _ _ _ (49, 486) [(h, .inr (4, [.ref q_1, .ref q_2, .ref q_5, .int 0, .int 0, .int 0])), (q_5, .inl (K 4, 32, .inr (.inr (.inr (.inr f_41))))), (q_42, .inr (9, [.ref a_46, .int 0]))] _ _ _
  refine v_aast B (k0 := 1) (t0 := 4) (k1 := 2) (r := (RX9, TX9, 2)) (w' := [(h, .inr (4, [.ref q_1, .ref q_2, .ref q_5, .int 0, .int 0, .int 0])), (q_5, .inl (K 4, 32, .inr (.inr (.inr (.inr (va_up f_41 (6 : Int32).toNatClampNeg (some q_42))))))), (q_42, .inr (9, [.ref a_46, .int 0]))]) rfl rfl rfl rfl (vpi (by decide +kernel)) rfl dX4_init_57 ?_
  generalize va_up f_41 (6 : Int32).toNatClampNeg (some q_42) = f_47
  refine v_forget (wc := [(h, .inr (4, [.ref q_1, .ref q_2, .ref q_5, .int 0, .int 0, .int 0])), (q_5, .inl (K 4, 32, .inr (.inr (.inr (.inr f_47)))))]) (wr := []) (sp_pl [0, 1] [] rfl rfl rfl rfl rfl) ?_
  refine v_iinc B (k := 0) (v := 7) (lv' := [(1, .int 7), (0, .ref h)]) dX4_init_58 rfl (by decide +kernel) (by decide +kernel) rfl ?_
  refine v_goto B (tgt := 34) dX4_init_61 (by decide +kernel) ?_
  refine v_iload_n B dX4_init_34 rfl rfl ?_
  refine v_aload_n B dX4_init_35 rfl rfl ?_
  refine v_get B (C := RX4) (T := TX4) (N := 6) (ci := 4) (k0 := 0) hi_c_Diary_init_X4 rfl rfl 2 (by decide +kernel) (List.mem_of_getElem? (i := 9) rfl) rfl dX4_init_36 ?_
  refine v_alen B (k0 := 1) (t0 := 4) (v := 32) rfl rfl rfl dX4_init_39 ?_
  refine v_icmp_ge B (tgt := 64) dX4_init_40 (by decide +kernel) (fun h => absurd h (by decide +kernel)) (fun _ => ?_)
  refine v_aload_n B dX4_init_43 rfl rfl ?_
  refine v_get B (C := RX4) (T := TX4) (N := 6) (ci := 4) (k0 := 0) hi_c_Diary_init_X4 rfl rfl 2 (by decide +kernel) (List.mem_of_getElem? (i := 9) rfl) rfl dX4_init_44 ?_
  refine v_iload_n B dX4_init_47 rfl rfl ?_
  refine v_new B (C := RX9) (T := TX9) (N := 2) (ci := 9) (fs := [.null, .int 0]) hi_c_Diary_init_X9 tyX9 tyX9_ok (List.mem_of_getElem? (i := 8) rfl) (List.mem_of_getElem? (i := 10) rfl) (List.mem_of_getElem? (i := 11) rfl) rfl (by decide +kernel) (by decide +kernel) (by decide +kernel) dX4_init_48 (fun q_48 => ?_)
  show V _ _ _ _ _ _ _ _ _ _ _ _ _ _ (50, 488) [(h, .inr (4, [.ref q_1, .ref q_2, .ref q_5, .int 0, .int 0, .int 0])), (q_5, .inl (K 4, 32, .inr (.inr (.inr (.inr f_47))))), (q_48, .inr (9, [.null, .int 0]))] _ _ _
  refine v_dup B dX4_init_51 rfl ?_
  refine v_bipush B (v := 40) dX4_init_52 (by decide +kernel) ?_
  refine v_callIv B (b := q_48) (n := 1) (As := [.int 40]) (rest := [.ref q_48, .int 7, .ref q_5]) (wc := [(q_48, .inr (9, [.null, .int 0]))]) (wr := [(h, .inr (4, [.ref q_1, .ref q_2, .ref q_5, .int 0, .int 0, .int 0])), (q_5, .inl (K 4, 32, .inr (.inr (.inr (.inr f_47)))))]) (c_RowN_init_40 l D K q_48) gd_c_Diary_init_c_RowN_init_40_26 rfl rfl rfl (by decide +kernel) ⟨by decide +kernel, by decide +kernel⟩ (List.mem_of_getElem? (i := 11) rfl) (List.mem_of_getElem? (i := 12) rfl) (List.mem_of_getElem? (i := 13) rfl) rfl (sp_pl [2] [0, 1] rfl rfl rfl rfl rfl) rfl rfl (Nat.le_of_ble_eq_true rfl) dX4_init_54 ⟨by decide +kernel, by decide +kernel⟩ (fun u_49 hp_50 => ?_)
  obtain ⟨a_52, rfl⟩ : ∃ z, z = u_49 := ⟨_, rfl⟩
  show V _ _ _ _ _ _ _ _ _ _ _ _ _ _ (51, 528) [(h, .inr (4, [.ref q_1, .ref q_2, .ref q_5, .int 0, .int 0, .int 0])), (q_5, .inl (K 4, 32, .inr (.inr (.inr (.inr f_47))))), (q_48, .inr (9, [.ref a_52, .int 0]))] _ _ _
  refine v_aast B (k0 := 1) (t0 := 4) (k1 := 2) (r := (RX9, TX9, 2)) (w' := [(h, .inr (4, [.ref q_1, .ref q_2, .ref q_5, .int 0, .int 0, .int 0])), (q_5, .inl (K 4, 32, .inr (.inr (.inr (.inr (va_up f_47 (7 : Int32).toNatClampNeg (some q_48))))))), (q_48, .inr (9, [.ref a_52, .int 0]))]) rfl rfl rfl rfl (vpi (by decide +kernel)) rfl dX4_init_57 ?_
  generalize va_up f_47 (7 : Int32).toNatClampNeg (some q_48) = f_53
  refine v_forget (wc := [(h, .inr (4, [.ref q_1, .ref q_2, .ref q_5, .int 0, .int 0, .int 0])), (q_5, .inl (K 4, 32, .inr (.inr (.inr (.inr f_53)))))]) (wr := []) (sp_pl [0, 1] [] rfl rfl rfl rfl rfl) ?_
  refine v_iinc B (k := 0) (v := 8) (lv' := [(1, .int 8), (0, .ref h)]) dX4_init_58 rfl (by decide +kernel) (by decide +kernel) rfl ?_
  refine v_goto B (tgt := 34) dX4_init_61 (by decide +kernel) ?_
  refine v_iload_n B dX4_init_34 rfl rfl ?_
  refine v_aload_n B dX4_init_35 rfl rfl ?_
  refine v_get B (C := RX4) (T := TX4) (N := 6) (ci := 4) (k0 := 0) hi_c_Diary_init_X4 rfl rfl 2 (by decide +kernel) (List.mem_of_getElem? (i := 9) rfl) rfl dX4_init_36 ?_
  refine v_alen B (k0 := 1) (t0 := 4) (v := 32) rfl rfl rfl dX4_init_39 ?_
  refine v_icmp_ge B (tgt := 64) dX4_init_40 (by decide +kernel) (fun h => absurd h (by decide +kernel)) (fun _ => ?_)
  refine v_aload_n B dX4_init_43 rfl rfl ?_
  refine v_get B (C := RX4) (T := TX4) (N := 6) (ci := 4) (k0 := 0) hi_c_Diary_init_X4 rfl rfl 2 (by decide +kernel) (List.mem_of_getElem? (i := 9) rfl) rfl dX4_init_44 ?_
  refine v_iload_n B dX4_init_47 rfl rfl ?_
  refine v_new B (C := RX9) (T := TX9) (N := 2) (ci := 9) (fs := [.null, .int 0]) hi_c_Diary_init_X9 tyX9 tyX9_ok (List.mem_of_getElem? (i := 8) rfl) (List.mem_of_getElem? (i := 10) rfl) (List.mem_of_getElem? (i := 11) rfl) rfl (by decide +kernel) (by decide +kernel) (by decide +kernel) dX4_init_48 (fun q_54 => ?_)
  show V _ _ _ _ _ _ _ _ _ _ _ _ _ _ (52, 530) [(h, .inr (4, [.ref q_1, .ref q_2, .ref q_5, .int 0, .int 0, .int 0])), (q_5, .inl (K 4, 32, .inr (.inr (.inr (.inr f_53))))), (q_54, .inr (9, [.null, .int 0]))] _ _ _
  refine v_dup B dX4_init_51 rfl ?_
  refine v_bipush B (v := 40) dX4_init_52 (by decide +kernel) ?_
  refine v_callIv B (b := q_54) (n := 1) (As := [.int 40]) (rest := [.ref q_54, .int 8, .ref q_5]) (wc := [(q_54, .inr (9, [.null, .int 0]))]) (wr := [(h, .inr (4, [.ref q_1, .ref q_2, .ref q_5, .int 0, .int 0, .int 0])), (q_5, .inl (K 4, 32, .inr (.inr (.inr (.inr f_53)))))]) (c_RowN_init_40 l D K q_54) gd_c_Diary_init_c_RowN_init_40_26 rfl rfl rfl (by decide +kernel) ⟨by decide +kernel, by decide +kernel⟩ (List.mem_of_getElem? (i := 11) rfl) (List.mem_of_getElem? (i := 12) rfl) (List.mem_of_getElem? (i := 13) rfl) rfl (sp_pl [2] [0, 1] rfl rfl rfl rfl rfl) rfl rfl (Nat.le_of_ble_eq_true rfl) dX4_init_54 ⟨by decide +kernel, by decide +kernel⟩ (fun u_55 hp_56 => ?_)
  obtain ⟨a_58, rfl⟩ : ∃ z, z = u_55 := ⟨_, rfl⟩
  show V _ _ _ _ _ _ _ _ _ _ _ _ _ _ (53, 570) [(h, .inr (4, [.ref q_1, .ref q_2, .ref q_5, .int 0, .int 0, .int 0])), (q_5, .inl (K 4, 32, .inr (.inr (.inr (.inr f_53))))), (q_54, .inr (9, [.ref a_58, .int 0]))] _ _ _
  refine v_aast B (k0 := 1) (t0 := 4) (k1 := 2) (r := (RX9, TX9, 2)) (w' := [(h, .inr (4, [.ref q_1, .ref q_2, .ref q_5, .int 0, .int 0, .int 0])), (q_5, .inl (K 4, 32, .inr (.inr (.inr (.inr (va_up f_53 (8 : Int32).toNatClampNeg (some q_54))))))), (q_54, .inr (9, [.ref a_58, .int 0]))]) rfl rfl rfl rfl (vpi (by decide +kernel)) rfl dX4_init_57 ?_
  generalize va_up f_53 (8 : Int32).toNatClampNeg (some q_54) = f_59
  refine v_forget (wc := [(h, .inr (4, [.ref q_1, .ref q_2, .ref q_5, .int 0, .int 0, .int 0])), (q_5, .inl (K 4, 32, .inr (.inr (.inr (.inr f_59)))))]) (wr := []) (sp_pl [0, 1] [] rfl rfl rfl rfl rfl) ?_
  refine v_iinc B (k := 0) (v := 9) (lv' := [(1, .int 9), (0, .ref h)]) dX4_init_58 rfl (by decide +kernel) (by decide +kernel) rfl ?_
  refine v_goto B (tgt := 34) dX4_init_61 (by decide +kernel) ?_
  refine v_iload_n B dX4_init_34 rfl rfl ?_
  refine v_aload_n B dX4_init_35 rfl rfl ?_
  refine v_get B (C := RX4) (T := TX4) (N := 6) (ci := 4) (k0 := 0) hi_c_Diary_init_X4 rfl rfl 2 (by decide +kernel) (List.mem_of_getElem? (i := 9) rfl) rfl dX4_init_36 ?_
  refine v_alen B (k0 := 1) (t0 := 4) (v := 32) rfl rfl rfl dX4_init_39 ?_
  refine v_icmp_ge B (tgt := 64) dX4_init_40 (by decide +kernel) (fun h => absurd h (by decide +kernel)) (fun _ => ?_)
  refine v_aload_n B dX4_init_43 rfl rfl ?_
  refine v_get B (C := RX4) (T := TX4) (N := 6) (ci := 4) (k0 := 0) hi_c_Diary_init_X4 rfl rfl 2 (by decide +kernel) (List.mem_of_getElem? (i := 9) rfl) rfl dX4_init_44 ?_
  refine v_iload_n B dX4_init_47 rfl rfl ?_
  refine v_new B (C := RX9) (T := TX9) (N := 2) (ci := 9) (fs := [.null, .int 0]) hi_c_Diary_init_X9 tyX9 tyX9_ok (List.mem_of_getElem? (i := 8) rfl) (List.mem_of_getElem? (i := 10) rfl) (List.mem_of_getElem? (i := 11) rfl) rfl (by decide +kernel) (by decide +kernel) (by decide +kernel) dX4_init_48 (fun q_60 => ?_)
  show V _ _ _ _ _ _ _ _ _ _ _ _ _ _ (54, 572) [(h, .inr (4, [.ref q_1, .ref q_2, .ref q_5, .int 0, .int 0, .int 0])), (q_5, .inl (K 4, 32, .inr (.inr (.inr (.inr f_59))))), (q_60, .inr (9, [.null, .int 0]))] _ _ _
  refine v_dup B dX4_init_51 rfl ?_
  refine v_bipush B (v := 40) dX4_init_52 (by decide +kernel) ?_
  refine v_callIv B (b := q_60) (n := 1) (As := [.int 40]) (rest := [.ref q_60, .int 9, .ref q_5]) (wc := [(q_60, .inr (9, [.null, .int 0]))]) (wr := [(h, .inr (4, [.ref q_1, .ref q_2, .ref q_5, .int 0, .int 0, .int 0])), (q_5, .inl (K 4, 32, .inr (.inr (.inr (.inr f_59)))))]) (c_RowN_init_40 l D K q_60) gd_c_Diary_init_c_RowN_init_40_26 rfl rfl rfl (by decide +kernel) ⟨by decide +kernel, by decide +kernel⟩ (List.mem_of_getElem? (i := 11) rfl) (List.mem_of_getElem? (i := 12) rfl) (List.mem_of_getElem? (i := 13) rfl) rfl (sp_pl [2] [0, 1] rfl rfl rfl rfl rfl) rfl rfl (Nat.le_of_ble_eq_true rfl) dX4_init_54 ⟨by decide +kernel, by decide +kernel⟩ (fun u_61 hp_62 => ?_)
  obtain ⟨a_64, rfl⟩ : ∃ z, z = u_61 := ⟨_, rfl⟩
  show V _ _ _ _ _ _ _ _ _ _ _ _ _ _ (55, 612) [(h, .inr (4, [.ref q_1, .ref q_2, .ref q_5, .int 0, .int 0, .int 0])), (q_5, .inl (K 4, 32, .inr (.inr (.inr (.inr f_59))))), (q_60, .inr (9, [.ref a_64, .int 0]))] _ _ _
  refine v_aast B (k0 := 1) (t0 := 4) (k1 := 2) (r := (RX9, TX9, 2)) (w' := [(h, .inr (4, [.ref q_1, .ref q_2, .ref q_5, .int 0, .int 0, .int 0])), (q_5, .inl (K 4, 32, .inr (.inr (.inr (.inr (va_up f_59 (9 : Int32).toNatClampNeg (some q_60))))))), (q_60, .inr (9, [.ref a_64, .int 0]))]) rfl rfl rfl rfl (vpi (by decide +kernel)) rfl dX4_init_57 ?_
  generalize va_up f_59 (9 : Int32).toNatClampNeg (some q_60) = f_65
  refine v_forget (wc := [(h, .inr (4, [.ref q_1, .ref q_2, .ref q_5, .int 0, .int 0, .int 0])), (q_5, .inl (K 4, 32, .inr (.inr (.inr (.inr f_65)))))]) (wr := []) (sp_pl [0, 1] [] rfl rfl rfl rfl rfl) ?_
  refine v_iinc B (k := 0) (v := 10) (lv' := [(1, .int 10), (0, .ref h)]) dX4_init_58 rfl (by decide +kernel) (by decide +kernel) rfl ?_
  refine v_goto B (tgt := 34) dX4_init_61 (by decide +kernel) ?_
  refine v_iload_n B dX4_init_34 rfl rfl ?_
  refine v_aload_n B dX4_init_35 rfl rfl ?_
  refine v_get B (C := RX4) (T := TX4) (N := 6) (ci := 4) (k0 := 0) hi_c_Diary_init_X4 rfl rfl 2 (by decide +kernel) (List.mem_of_getElem? (i := 9) rfl) rfl dX4_init_36 ?_
  refine v_alen B (k0 := 1) (t0 := 4) (v := 32) rfl rfl rfl dX4_init_39 ?_
  refine v_icmp_ge B (tgt := 64) dX4_init_40 (by decide +kernel) (fun h => absurd h (by decide +kernel)) (fun _ => ?_)
  refine v_aload_n B dX4_init_43 rfl rfl ?_
  refine v_get B (C := RX4) (T := TX4) (N := 6) (ci := 4) (k0 := 0) hi_c_Diary_init_X4 rfl rfl 2 (by decide +kernel) (List.mem_of_getElem? (i := 9) rfl) rfl dX4_init_44 ?_
  refine v_iload_n B dX4_init_47 rfl rfl ?_
  refine v_new B (C := RX9) (T := TX9) (N := 2) (ci := 9) (fs := [.null, .int 0]) hi_c_Diary_init_X9 tyX9 tyX9_ok (List.mem_of_getElem? (i := 8) rfl) (List.mem_of_getElem? (i := 10) rfl) (List.mem_of_getElem? (i := 11) rfl) rfl (by decide +kernel) (by decide +kernel) (by decide +kernel) dX4_init_48 (fun q_66 => ?_)
  show V _ _ _ _ _ _ _ _ _ _ _ _ _ _ (56, 614) [(h, .inr (4, [.ref q_1, .ref q_2, .ref q_5, .int 0, .int 0, .int 0])), (q_5, .inl (K 4, 32, .inr (.inr (.inr (.inr f_65))))), (q_66, .inr (9, [.null, .int 0]))] _ _ _
  refine v_dup B dX4_init_51 rfl ?_
  refine v_bipush B (v := 40) dX4_init_52 (by decide +kernel) ?_
  refine v_callIv B (b := q_66) (n := 1) (As := [.int 40]) (rest := [.ref q_66, .int 10, .ref q_5]) (wc := [(q_66, .inr (9, [.null, .int 0]))]) (wr := [(h, .inr (4, [.ref q_1, .ref q_2, .ref q_5, .int 0, .int 0, .int 0])), (q_5, .inl (K 4, 32, .inr (.inr (.inr (.inr f_65)))))]) (c_RowN_init_40 l D K q_66) gd_c_Diary_init_c_RowN_init_40_26 rfl rfl rfl (by decide +kernel) ⟨by decide +kernel, by decide +kernel⟩ (List.mem_of_getElem? (i := 11) rfl) (List.mem_of_getElem? (i := 12) rfl) (List.mem_of_getElem? (i := 13) rfl) rfl (sp_pl [2] [0, 1] rfl rfl rfl rfl rfl) rfl rfl (Nat.le_of_ble_eq_true rfl) dX4_init_54 ⟨by decide +kernel, by decide +kernel⟩ (fun u_67 hp_68 => ?_)
  obtain ⟨a_70, rfl⟩ : ∃ z, z = u_67 := ⟨_, rfl⟩
  show V _ _ _ _ _ _ _ _ _ _ _ _ _ _ (57, 654) [(h, .inr (4, [.ref q_1, .ref q_2, .ref q_5, .int 0, .int 0, .int 0])), (q_5, .inl (K 4, 32, .inr (.inr (.inr (.inr f_65))))), (q_66, .inr (9, [.ref a_70, .int 0]))] _ _ _
  refine v_aast B (k0 := 1) (t0 := 4) (k1 := 2) (r := (RX9, TX9, 2)) (w' := [(h, .inr (4, [.ref q_1, .ref q_2, .ref q_5, .int 0, .int 0, .int 0])), (q_5, .inl (K 4, 32, .inr (.inr (.inr (.inr (va_up f_65 (10 : Int32).toNatClampNeg (some q_66))))))), (q_66, .inr (9, [.ref a_70, .int 0]))]) rfl rfl rfl rfl (vpi (by decide +kernel)) rfl dX4_init_57 ?_
  generalize va_up f_65 (10 : Int32).toNatClampNeg (some q_66) = f_71
  refine v_forget (wc := [(h, .inr (4, [.ref q_1, .ref q_2, .ref q_5, .int 0, .int 0, .int 0])), (q_5, .inl (K 4, 32, .inr (.inr (.inr (.inr f_71)))))]) (wr := []) (sp_pl [0, 1] [] rfl rfl rfl rfl rfl) ?_
  refine v_iinc B (k := 0) (v := 11) (lv' := [(1, .int 11), (0, .ref h)]) dX4_init_58 rfl (by decide +kernel) (by decide +kernel) rfl ?_
  refine v_goto B (tgt := 34) dX4_init_61 (by decide +kernel) ?_
  refine v_iload_n B dX4_init_34 rfl rfl ?_
  refine v_aload_n B dX4_init_35 rfl rfl ?_
  refine v_get B (C := RX4) (T := TX4) (N := 6) (ci := 4) (k0 := 0) hi_c_Diary_init_X4 rfl rfl 2 (by decide +kernel) (List.mem_of_getElem? (i := 9) rfl) rfl dX4_init_36 ?_
  refine v_alen B (k0 := 1) (t0 := 4) (v := 32) rfl rfl rfl dX4_init_39 ?_
  refine v_icmp_ge B (tgt := 64) dX4_init_40 (by decide +kernel) (fun h => absurd h (by decide +kernel)) (fun _ => ?_)
  refine v_aload_n B dX4_init_43 rfl rfl ?_
  refine v_get B (C := RX4) (T := TX4) (N := 6) (ci := 4) (k0 := 0) hi_c_Diary_init_X4 rfl rfl 2 (by decide +kernel) (List.mem_of_getElem? (i := 9) rfl) rfl dX4_init_44 ?_
  refine v_iload_n B dX4_init_47 rfl rfl ?_
  refine v_new B (C := RX9) (T := TX9) (N := 2) (ci := 9) (fs := [.null, .int 0]) hi_c_Diary_init_X9 tyX9 tyX9_ok (List.mem_of_getElem? (i := 8) rfl) (List.mem_of_getElem? (i := 10) rfl) (List.mem_of_getElem? (i := 11) rfl) rfl (by decide +kernel) (by decide +kernel) (by decide +kernel) dX4_init_48 (fun q_72 => ?_)
  show V _ _ _ _ _ _ _ _ _ _ _ _ _ _ (58, 656) [(h, .inr (4, [.ref q_1, .ref q_2, .ref q_5, .int 0, .int 0, .int 0])), (q_5, .inl (K 4, 32, .inr (.inr (.inr (.inr f_71))))), (q_72, .inr (9, [.null, .int 0]))] _ _ _
  refine v_dup B dX4_init_51 rfl ?_
  refine v_bipush B (v := 40) dX4_init_52 (by decide +kernel) ?_
  refine v_callIv B (b := q_72) (n := 1) (As := [.int 40]) (rest := [.ref q_72, .int 11, .ref q_5]) (wc := [(q_72, .inr (9, [.null, .int 0]))]) (wr := [(h, .inr (4, [.ref q_1, .ref q_2, .ref q_5, .int 0, .int 0, .int 0])), (q_5, .inl (K 4, 32, .inr (.inr (.inr (.inr f_71)))))]) (c_RowN_init_40 l D K q_72) gd_c_Diary_init_c_RowN_init_40_26 rfl rfl rfl (by decide +kernel) ⟨by decide +kernel, by decide +kernel⟩ (List.mem_of_getElem? (i := 11) rfl) (List.mem_of_getElem? (i := 12) rfl) (List.mem_of_getElem? (i := 13) rfl) rfl (sp_pl [2] [0, 1] rfl rfl rfl rfl rfl) rfl rfl (Nat.le_of_ble_eq_true rfl) dX4_init_54 ⟨by decide +kernel, by decide +kernel⟩ (fun u_73 hp_74 => ?_)
  obtain ⟨a_76, rfl⟩ : ∃ z, z = u_73 := ⟨_, rfl⟩
  show V _ _ _ _ _ _ _ _ _ _ _ _ _ _ (59, 696) [(h, .inr (4, [.ref q_1, .ref q_2, .ref q_5, .int 0, .int 0, .int 0])), (q_5, .inl (K 4, 32, .inr (.inr (.inr (.inr f_71))))), (q_72, .inr (9, [.ref a_76, .int 0]))] _ _ _
  refine v_aast B (k0 := 1) (t0 := 4) (k1 := 2) (r := (RX9, TX9, 2)) (w' := [(h, .inr (4, [.ref q_1, .ref q_2, .ref q_5, .int 0, .int 0, .int 0])), (q_5, .inl (K 4, 32, .inr (.inr (.inr (.inr (va_up f_71 (11 : Int32).toNatClampNeg (some q_72))))))), (q_72, .inr (9, [.ref a_76, .int 0]))]) rfl rfl rfl rfl (vpi (by decide +kernel)) rfl dX4_init_57 ?_
  generalize va_up f_71 (11 : Int32).toNatClampNeg (some q_72) = f_77
  refine v_forget (wc := [(h, .inr (4, [.ref q_1, .ref q_2, .ref q_5, .int 0, .int 0, .int 0])), (q_5, .inl (K 4, 32, .inr (.inr (.inr (.inr f_77)))))]) (wr := []) (sp_pl [0, 1] [] rfl rfl rfl rfl rfl) ?_
  refine v_iinc B (k := 0) (v := 12) (lv' := [(1, .int 12), (0, .ref h)]) dX4_init_58 rfl (by decide +kernel) (by decide +kernel) rfl ?_
  refine v_goto B (tgt := 34) dX4_init_61 (by decide +kernel) ?_
  refine v_iload_n B dX4_init_34 rfl rfl ?_
  refine v_aload_n B dX4_init_35 rfl rfl ?_
  refine v_get B (C := RX4) (T := TX4) (N := 6) (ci := 4) (k0 := 0) hi_c_Diary_init_X4 rfl rfl 2 (by decide +kernel) (List.mem_of_getElem? (i := 9) rfl) rfl dX4_init_36 ?_
  refine v_alen B (k0 := 1) (t0 := 4) (v := 32) rfl rfl rfl dX4_init_39 ?_
  refine v_icmp_ge B (tgt := 64) dX4_init_40 (by decide +kernel) (fun h => absurd h (by decide +kernel)) (fun _ => ?_)
  refine v_aload_n B dX4_init_43 rfl rfl ?_
  refine v_get B (C := RX4) (T := TX4) (N := 6) (ci := 4) (k0 := 0) hi_c_Diary_init_X4 rfl rfl 2 (by decide +kernel) (List.mem_of_getElem? (i := 9) rfl) rfl dX4_init_44 ?_
  refine v_iload_n B dX4_init_47 rfl rfl ?_
  refine v_new B (C := RX9) (T := TX9) (N := 2) (ci := 9) (fs := [.null, .int 0]) hi_c_Diary_init_X9 tyX9 tyX9_ok (List.mem_of_getElem? (i := 8) rfl) (List.mem_of_getElem? (i := 10) rfl) (List.mem_of_getElem? (i := 11) rfl) rfl (by decide +kernel) (by decide +kernel) (by decide +kernel) dX4_init_48 (fun q_78 => ?_)
  show V _ _ _ _ _ _ _ _ _ _ _ _ _ _ (60, 698) [(h, .inr (4, [.ref q_1, .ref q_2, .ref q_5, .int 0, .int 0, .int 0])), (q_5, .inl (K 4, 32, .inr (.inr (.inr (.inr f_77))))), (q_78, .inr (9, [.null, .int 0]))] _ _ _
  refine v_dup B dX4_init_51 rfl ?_
  refine v_bipush B (v := 40) dX4_init_52 (by decide +kernel) ?_
  refine v_callIv B (b := q_78) (n := 1) (As := [.int 40]) (rest := [.ref q_78, .int 12, .ref q_5]) (wc := [(q_78, .inr (9, [.null, .int 0]))]) (wr := [(h, .inr (4, [.ref q_1, .ref q_2, .ref q_5, .int 0, .int 0, .int 0])), (q_5, .inl (K 4, 32, .inr (.inr (.inr (.inr f_77)))))]) (c_RowN_init_40 l D K q_78) gd_c_Diary_init_c_RowN_init_40_26 rfl rfl rfl (by decide +kernel) ⟨by decide +kernel, by decide +kernel⟩ (List.mem_of_getElem? (i := 11) rfl) (List.mem_of_getElem? (i := 12) rfl) (List.mem_of_getElem? (i := 13) rfl) rfl (sp_pl [2] [0, 1] rfl rfl rfl rfl rfl) rfl rfl (Nat.le_of_ble_eq_true rfl) dX4_init_54 ⟨by decide +kernel, by decide +kernel⟩ (fun u_79 hp_80 => ?_)
  obtain ⟨a_82, rfl⟩ : ∃ z, z = u_79 := ⟨_, rfl⟩
  show V _ _ _ _ _ _ _ _ _ _ _ _ _ _ (61, 738) [(h, .inr (4, [.ref q_1, .ref q_2, .ref q_5, .int 0, .int 0, .int 0])), (q_5, .inl (K 4, 32, .inr (.inr (.inr (.inr f_77))))), (q_78, .inr (9, [.ref a_82, .int 0]))] _ _ _
  refine v_aast B (k0 := 1) (t0 := 4) (k1 := 2) (r := (RX9, TX9, 2)) (w' := [(h, .inr (4, [.ref q_1, .ref q_2, .ref q_5, .int 0, .int 0, .int 0])), (q_5, .inl (K 4, 32, .inr (.inr (.inr (.inr (va_up f_77 (12 : Int32).toNatClampNeg (some q_78))))))), (q_78, .inr (9, [.ref a_82, .int 0]))]) rfl rfl rfl rfl (vpi (by decide +kernel)) rfl dX4_init_57 ?_
  generalize va_up f_77 (12 : Int32).toNatClampNeg (some q_78) = f_83
  refine v_forget (wc := [(h, .inr (4, [.ref q_1, .ref q_2, .ref q_5, .int 0, .int 0, .int 0])), (q_5, .inl (K 4, 32, .inr (.inr (.inr (.inr f_83)))))]) (wr := []) (sp_pl [0, 1] [] rfl rfl rfl rfl rfl) ?_
  refine v_iinc B (k := 0) (v := 13) (lv' := [(1, .int 13), (0, .ref h)]) dX4_init_58 rfl (by decide +kernel) (by decide +kernel) rfl ?_
  refine v_goto B (tgt := 34) dX4_init_61 (by decide +kernel) ?_
  refine v_iload_n B dX4_init_34 rfl rfl ?_
  refine v_aload_n B dX4_init_35 rfl rfl ?_
  refine v_get B (C := RX4) (T := TX4) (N := 6) (ci := 4) (k0 := 0) hi_c_Diary_init_X4 rfl rfl 2 (by decide +kernel) (List.mem_of_getElem? (i := 9) rfl) rfl dX4_init_36 ?_
  refine v_alen B (k0 := 1) (t0 := 4) (v := 32) rfl rfl rfl dX4_init_39 ?_
  refine v_icmp_ge B (tgt := 64) dX4_init_40 (by decide +kernel) (fun h => absurd h (by decide +kernel)) (fun _ => ?_)
  refine v_aload_n B dX4_init_43 rfl rfl ?_
  refine v_get B (C := RX4) (T := TX4) (N := 6) (ci := 4) (k0 := 0) hi_c_Diary_init_X4 rfl rfl 2 (by decide +kernel) (List.mem_of_getElem? (i := 9) rfl) rfl dX4_init_44 ?_
  refine v_iload_n B dX4_init_47 rfl rfl ?_
  refine v_new B (C := RX9) (T := TX9) (N := 2) (ci := 9) (fs := [.null, .int 0]) hi_c_Diary_init_X9 tyX9 tyX9_ok (List.mem_of_getElem? (i := 8) rfl) (List.mem_of_getElem? (i := 10) rfl) (List.mem_of_getElem? (i := 11) rfl) rfl (by decide +kernel) (by decide +kernel) (by decide +kernel) dX4_init_48 (fun q_84 => ?_)
  show V _ _ _ _ _ _ _ _ _ _ _ _ _ _ (62, 740) [(h, .inr (4, [.ref q_1, .ref q_2, .ref q_5, .int 0, .int 0, .int 0])), (q_5, .inl (K 4, 32, .inr (.inr (.inr (.inr f_83))))), (q_84, .inr (9, [.null, .int 0]))] _ _ _
  refine v_dup B dX4_init_51 rfl ?_
  refine v_bipush B (v := 40) dX4_init_52 (by decide +kernel) ?_
  refine v_callIv B (b := q_84) (n := 1) (As := [.int 40]) (rest := [.ref q_84, .int 13, .ref q_5]) (wc := [(q_84, .inr (9, [.null, .int 0]))]) (wr := [(h, .inr (4, [.ref q_1, .ref q_2, .ref q_5, .int 0, .int 0, .int 0])), (q_5, .inl (K 4, 32, .inr (.inr (.inr (.inr f_83)))))]) (c_RowN_init_40 l D K q_84) gd_c_Diary_init_c_RowN_init_40_26 rfl rfl rfl (by decide +kernel) ⟨by decide +kernel, by decide +kernel⟩ (List.mem_of_getElem? (i := 11) rfl) (List.mem_of_getElem? (i := 12) rfl) (List.mem_of_getElem? (i := 13) rfl) rfl (sp_pl [2] [0, 1] rfl rfl rfl rfl rfl) rfl rfl (Nat.le_of_ble_eq_true rfl) dX4_init_54 ⟨by decide +kernel, by decide +kernel⟩ (fun u_85 hp_86 => ?_)
  obtain ⟨a_88, rfl⟩ : ∃ z, z = u_85 := ⟨_, rfl⟩
  show V _ _ _ _ _ _ _ _ _ _ _ _ _ _ (63, 780) [(h, .inr (4, [.ref q_1, .ref q_2, .ref q_5, .int 0, .int 0, .int 0])), (q_5, .inl (K 4, 32, .inr (.inr (.inr (.inr f_83))))), (q_84, .inr (9, [.ref a_88, .int 0]))] _ _ _
  refine v_aast B (k0 := 1) (t0 := 4) (k1 := 2) (r := (RX9, TX9, 2)) (w' := [(h, .inr (4, [.ref q_1, .ref q_2, .ref q_5, .int 0, .int 0, .int 0])), (q_5, .inl (K 4, 32, .inr (.inr (.inr (.inr (va_up f_83 (13 : Int32).toNatClampNeg (some q_84))))))), (q_84, .inr (9, [.ref a_88, .int 0]))]) rfl rfl rfl rfl (vpi (by decide +kernel)) rfl dX4_init_57 ?_
  generalize va_up f_83 (13 : Int32).toNatClampNeg (some q_84) = f_89
  refine v_forget (wc := [(h, .inr (4, [.ref q_1, .ref q_2, .ref q_5, .int 0, .int 0, .int 0])), (q_5, .inl (K 4, 32, .inr (.inr (.inr (.inr f_89)))))]) (wr := []) (sp_pl [0, 1] [] rfl rfl rfl rfl rfl) ?_
  refine v_iinc B (k := 0) (v := 14) (lv' := [(1, .int 14), (0, .ref h)]) dX4_init_58 rfl (by decide +kernel) (by decide +kernel) rfl ?_
  refine v_goto B (tgt := 34) dX4_init_61 (by decide +kernel) ?_
  refine v_iload_n B dX4_init_34 rfl rfl ?_
  refine v_aload_n B dX4_init_35 rfl rfl ?_
  refine v_get B (C := RX4) (T := TX4) (N := 6) (ci := 4) (k0 := 0) hi_c_Diary_init_X4 rfl rfl 2 (by decide +kernel) (List.mem_of_getElem? (i := 9) rfl) rfl dX4_init_36 ?_
  refine v_alen B (k0 := 1) (t0 := 4) (v := 32) rfl rfl rfl dX4_init_39 ?_
  refine v_icmp_ge B (tgt := 64) dX4_init_40 (by decide +kernel) (fun h => absurd h (by decide +kernel)) (fun _ => ?_)
  refine v_aload_n B dX4_init_43 rfl rfl ?_
  refine v_get B (C := RX4) (T := TX4) (N := 6) (ci := 4) (k0 := 0) hi_c_Diary_init_X4 rfl rfl 2 (by decide +kernel) (List.mem_of_getElem? (i := 9) rfl) rfl dX4_init_44 ?_
  refine v_iload_n B dX4_init_47 rfl rfl ?_
  refine v_new B (C := RX9) (T := TX9) (N := 2) (ci := 9) (fs := [.null, .int 0]) hi_c_Diary_init_X9 tyX9 tyX9_ok (List.mem_of_getElem? (i := 8) rfl) (List.mem_of_getElem? (i := 10) rfl) (List.mem_of_getElem? (i := 11) rfl) rfl (by decide +kernel) (by decide +kernel) (by decide +kernel) dX4_init_48 (fun q_90 => ?_)
  show V _ _ _ _ _ _ _ _ _ _ _ _ _ _ (64, 782) [(h, .inr (4, [.ref q_1, .ref q_2, .ref q_5, .int 0, .int 0, .int 0])), (q_5, .inl (K 4, 32, .inr (.inr (.inr (.inr f_89))))), (q_90, .inr (9, [.null, .int 0]))] _ _ _
  refine v_dup B dX4_init_51 rfl ?_
  refine v_bipush B (v := 40) dX4_init_52 (by decide +kernel) ?_
  refine v_callIv B (b := q_90) (n := 1) (As := [.int 40]) (rest := [.ref q_90, .int 14, .ref q_5]) (wc := [(q_90, .inr (9, [.null, .int 0]))]) (wr := [(h, .inr (4, [.ref q_1, .ref q_2, .ref q_5, .int 0, .int 0, .int 0])), (q_5, .inl (K 4, 32, .inr (.inr (.inr (.inr f_89)))))]) (c_RowN_init_40 l D K q_90) gd_c_Diary_init_c_RowN_init_40_26 rfl rfl rfl (by decide +kernel) ⟨by decide +kernel, by decide +kernel⟩ (List.mem_of_getElem? (i := 11) rfl) (List.mem_of_getElem? (i := 12) rfl) (List.mem_of_getElem? (i := 13) rfl) rfl (sp_pl [2] [0, 1] rfl rfl rfl rfl rfl) rfl rfl (Nat.le_of_ble_eq_true rfl) dX4_init_54 ⟨by decide +kernel, by decide +kernel⟩ (fun u_91 hp_92 => ?_)
  obtain ⟨a_94, rfl⟩ : ∃ z, z = u_91 := ⟨_, rfl⟩
  show V _ _ _ _ _ _ _ _ _ _ _ _ _ _ (65, 822) [(h, .inr (4, [.ref q_1, .ref q_2, .ref q_5, .int 0, .int 0, .int 0])), (q_5, .inl (K 4, 32, .inr (.inr (.inr (.inr f_89))))), (q_90, .inr (9, [.ref a_94, .int 0]))] _ _ _
  refine v_aast B (k0 := 1) (t0 := 4) (k1 := 2) (r := (RX9, TX9, 2)) (w' := [(h, .inr (4, [.ref q_1, .ref q_2, .ref q_5, .int 0, .int 0, .int 0])), (q_5, .inl (K 4, 32, .inr (.inr (.inr (.inr (va_up f_89 (14 : Int32).toNatClampNeg (some q_90))))))), (q_90, .inr (9, [.ref a_94, .int 0]))]) rfl rfl rfl rfl (vpi (by decide +kernel)) rfl dX4_init_57 ?_
  generalize va_up f_89 (14 : Int32).toNatClampNeg (some q_90) = f_95
  refine v_forget (wc := [(h, .inr (4, [.ref q_1, .ref q_2, .ref q_5, .int 0, .int 0, .int 0])), (q_5, .inl (K 4, 32, .inr (.inr (.inr (.inr f_95)))))]) (wr := []) (sp_pl [0, 1] [] rfl rfl rfl rfl rfl) ?_
  refine v_iinc B (k := 0) (v := 15) (lv' := [(1, .int 15), (0, .ref h)]) dX4_init_58 rfl (by decide +kernel) (by decide +kernel) rfl ?_
  refine v_goto B (tgt := 34) dX4_init_61 (by decide +kernel) ?_
  refine v_iload_n B dX4_init_34 rfl rfl ?_
  refine v_aload_n B dX4_init_35 rfl rfl ?_
  refine v_get B (C := RX4) (T := TX4) (N := 6) (ci := 4) (k0 := 0) hi_c_Diary_init_X4 rfl rfl 2 (by decide +kernel) (List.mem_of_getElem? (i := 9) rfl) rfl dX4_init_36 ?_
  refine v_alen B (k0 := 1) (t0 := 4) (v := 32) rfl rfl rfl dX4_init_39 ?_
  refine v_icmp_ge B (tgt := 64) dX4_init_40 (by decide +kernel) (fun h => absurd h (by decide +kernel)) (fun _ => ?_)
  refine v_aload_n B dX4_init_43 rfl rfl ?_
  refine v_get B (C := RX4) (T := TX4) (N := 6) (ci := 4) (k0 := 0) hi_c_Diary_init_X4 rfl rfl 2 (by decide +kernel) (List.mem_of_getElem? (i := 9) rfl) rfl dX4_init_44 ?_
  refine v_iload_n B dX4_init_47 rfl rfl ?_
  refine v_new B (C := RX9) (T := TX9) (N := 2) (ci := 9) (fs := [.null, .int 0]) hi_c_Diary_init_X9 tyX9 tyX9_ok (List.mem_of_getElem? (i := 8) rfl) (List.mem_of_getElem? (i := 10) rfl) (List.mem_of_getElem? (i := 11) rfl) rfl (by decide +kernel) (by decide +kernel) (by decide +kernel) dX4_init_48 (fun q_96 => ?_)
  show V _ _ _ _ _ _ _ _ _ _ _ _ _ _ (66, 824) [(h, .inr (4, [.ref q_1, .ref q_2, .ref q_5, .int 0, .int 0, .int 0])), (q_5, .inl (K 4, 32, .inr (.inr (.inr (.inr f_95))))), (q_96, .inr (9, [.null, .int 0]))] _ _ _
  refine v_dup B dX4_init_51 rfl ?_
  refine v_bipush B (v := 40) dX4_init_52 (by decide +kernel) ?_
  refine v_callIv B (b := q_96) (n := 1) (As := [.int 40]) (rest := [.ref q_96, .int 15, .ref q_5]) (wc := [(q_96, .inr (9, [.null, .int 0]))]) (wr := [(h, .inr (4, [.ref q_1, .ref q_2, .ref q_5, .int 0, .int 0, .int 0])), (q_5, .inl (K 4, 32, .inr (.inr (.inr (.inr f_95)))))]) (c_RowN_init_40 l D K q_96) gd_c_Diary_init_c_RowN_init_40_26 rfl rfl rfl (by decide +kernel) ⟨by decide +kernel, by decide +kernel⟩ (List.mem_of_getElem? (i := 11) rfl) (List.mem_of_getElem? (i := 12) rfl) (List.mem_of_getElem? (i := 13) rfl) rfl (sp_pl [2] [0, 1] rfl rfl rfl rfl rfl) rfl rfl (Nat.le_of_ble_eq_true rfl) dX4_init_54 ⟨by decide +kernel, by decide +kernel⟩ (fun u_97 hp_98 => ?_)
  obtain ⟨a_100, rfl⟩ : ∃ z, z = u_97 := ⟨_, rfl⟩
  show V _ _ _ _ _ _ _ _ _ _ _ _ _ _ (67, 864) [(h, .inr (4, [.ref q_1, .ref q_2, .ref q_5, .int 0, .int 0, .int 0])), (q_5, .inl (K 4, 32, .inr (.inr (.inr (.inr f_95))))), (q_96, .inr (9, [.ref a_100, .int 0]))] _ _ _
  refine v_aast B (k0 := 1) (t0 := 4) (k1 := 2) (r := (RX9, TX9, 2)) (w' := [(h, .inr (4, [.ref q_1, .ref q_2, .ref q_5, .int 0, .int 0, .int 0])), (q_5, .inl (K 4, 32, .inr (.inr (.inr (.inr (va_up f_95 (15 : Int32).toNatClampNeg (some q_96))))))), (q_96, .inr (9, [.ref a_100, .int 0]))]) rfl rfl rfl rfl (vpi (by decide +kernel)) rfl dX4_init_57 ?_
  generalize va_up f_95 (15 : Int32).toNatClampNeg (some q_96) = f_101
  refine v_forget (wc := [(h, .inr (4, [.ref q_1, .ref q_2, .ref q_5, .int 0, .int 0, .int 0])), (q_5, .inl (K 4, 32, .inr (.inr (.inr (.inr f_101)))))]) (wr := []) (sp_pl [0, 1] [] rfl rfl rfl rfl rfl) ?_
  refine v_iinc B (k := 0) (v := 16) (lv' := [(1, .int 16), (0, .ref h)]) dX4_init_58 rfl (by decide +kernel) (by decide +kernel) rfl ?_
  refine v_goto B (tgt := 34) dX4_init_61 (by decide +kernel) ?_
  refine v_iload_n B dX4_init_34 rfl rfl ?_
  refine v_aload_n B dX4_init_35 rfl rfl ?_
  refine v_get B (C := RX4) (T := TX4) (N := 6) (ci := 4) (k0 := 0) hi_c_Diary_init_X4 rfl rfl 2 (by decide +kernel) (List.mem_of_getElem? (i := 9) rfl) rfl dX4_init_36 ?_
  refine v_alen B (k0 := 1) (t0 := 4) (v := 32) rfl rfl rfl dX4_init_39 ?_
  refine v_icmp_ge B (tgt := 64) dX4_init_40 (by decide +kernel) (fun h => absurd h (by decide +kernel)) (fun _ => ?_)
  refine v_aload_n B dX4_init_43 rfl rfl ?_
  refine v_get B (C := RX4) (T := TX4) (N := 6) (ci := 4) (k0 := 0) hi_c_Diary_init_X4 rfl rfl 2 (by decide +kernel) (List.mem_of_getElem? (i := 9) rfl) rfl dX4_init_44 ?_
  refine v_iload_n B dX4_init_47 rfl rfl ?_
  refine v_new B (C := RX9) (T := TX9) (N := 2) (ci := 9) (fs := [.null, .int 0]) hi_c_Diary_init_X9 tyX9 tyX9_ok (List.mem_of_getElem? (i := 8) rfl) (List.mem_of_getElem? (i := 10) rfl) (List.mem_of_getElem? (i := 11) rfl) rfl (by decide +kernel) (by decide +kernel) (by decide +kernel) dX4_init_48 (fun q_102 => ?_)
  show V _ _ _ _ _ _ _ _ _ _ _ _ _ _ (68, 866) [(h, .inr (4, [.ref q_1, .ref q_2, .ref q_5, .int 0, .int 0, .int 0])), (q_5, .inl (K 4, 32, .inr (.inr (.inr (.inr f_101))))), (q_102, .inr (9, [.null, .int 0]))] _ _ _
  refine v_dup B dX4_init_51 rfl ?_
  refine v_bipush B (v := 40) dX4_init_52 (by decide +kernel) ?_
  refine v_callIv B (b := q_102) (n := 1) (As := [.int 40]) (rest := [.ref q_102, .int 16, .ref q_5]) (wc := [(q_102, .inr (9, [.null, .int 0]))]) (wr := [(h, .inr (4, [.ref q_1, .ref q_2, .ref q_5, .int 0, .int 0, .int 0])), (q_5, .inl (K 4, 32, .inr (.inr (.inr (.inr f_101)))))]) (c_RowN_init_40 l D K q_102) gd_c_Diary_init_c_RowN_init_40_26 rfl rfl rfl (by decide +kernel) ⟨by decide +kernel, by decide +kernel⟩ (List.mem_of_getElem? (i := 11) rfl) (List.mem_of_getElem? (i := 12) rfl) (List.mem_of_getElem? (i := 13) rfl) rfl (sp_pl [2] [0, 1] rfl rfl rfl rfl rfl) rfl rfl (Nat.le_of_ble_eq_true rfl) dX4_init_54 ⟨by decide +kernel, by decide +kernel⟩ (fun u_103 hp_104 => ?_)
  obtain ⟨a_106, rfl⟩ : ∃ z, z = u_103 := ⟨_, rfl⟩
  show V _ _ _ _ _ _ _ _ _ _ _ _ _ _ (69, 906) [(h, .inr (4, [.ref q_1, .ref q_2, .ref q_5, .int 0, .int 0, .int 0])), (q_5, .inl (K 4, 32, .inr (.inr (.inr (.inr f_101))))), (q_102, .inr (9, [.ref a_106, .int 0]))] _ _ _
  refine v_aast B (k0 := 1) (t0 := 4) (k1 := 2) (r := (RX9, TX9, 2)) (w' := [(h, .inr (4, [.ref q_1, .ref q_2, .ref q_5, .int 0, .int 0, .int 0])), (q_5, .inl (K 4, 32, .inr (.inr (.inr (.inr (va_up f_101 (16 : Int32).toNatClampNeg (some q_102))))))), (q_102, .inr (9, [.ref a_106, .int 0]))]) rfl rfl rfl rfl (vpi (by decide +kernel)) rfl dX4_init_57 ?_
  generalize va_up f_101 (16 : Int32).toNatClampNeg (some q_102) = f_107
  refine v_forget (wc := [(h, .inr (4, [.ref q_1, .ref q_2, .ref q_5, .int 0, .int 0, .int 0])), (q_5, .inl (K 4, 32, .inr (.inr (.inr (.inr f_107)))))]) (wr := []) (sp_pl [0, 1] [] rfl rfl rfl rfl rfl) ?_
  refine v_iinc B (k := 0) (v := 17) (lv' := [(1, .int 17), (0, .ref h)]) dX4_init_58 rfl (by decide +kernel) (by decide +kernel) rfl ?_
  refine v_goto B (tgt := 34) dX4_init_61 (by decide +kernel) ?_
  refine v_iload_n B dX4_init_34 rfl rfl ?_
  refine v_aload_n B dX4_init_35 rfl rfl ?_
  refine v_get B (C := RX4) (T := TX4) (N := 6) (ci := 4) (k0 := 0) hi_c_Diary_init_X4 rfl rfl 2 (by decide +kernel) (List.mem_of_getElem? (i := 9) rfl) rfl dX4_init_36 ?_
  refine v_alen B (k0 := 1) (t0 := 4) (v := 32) rfl rfl rfl dX4_init_39 ?_
  refine v_icmp_ge B (tgt := 64) dX4_init_40 (by decide +kernel) (fun h => absurd h (by decide +kernel)) (fun _ => ?_)
  refine v_aload_n B dX4_init_43 rfl rfl ?_
  refine v_get B (C := RX4) (T := TX4) (N := 6) (ci := 4) (k0 := 0) hi_c_Diary_init_X4 rfl rfl 2 (by decide +kernel) (List.mem_of_getElem? (i := 9) rfl) rfl dX4_init_44 ?_
  refine v_iload_n B dX4_init_47 rfl rfl ?_
  refine v_new B (C := RX9) (T := TX9) (N := 2) (ci := 9) (fs := [.null, .int 0]) hi_c_Diary_init_X9 tyX9 tyX9_ok (List.mem_of_getElem? (i := 8) rfl) (List.mem_of_getElem? (i := 10) rfl) (List.mem_of_getElem? (i := 11) rfl) rfl (by decide +kernel) (by decide +kernel) (by decide +kernel) dX4_init_48 (fun q_108 => ?_)
  show V _ _ _ _ _ _ _ _ _ _ _ _ _ _ (70, 908) [(h, .inr (4, [.ref q_1, .ref q_2, .ref q_5, .int 0, .int 0, .int 0])), (q_5, .inl (K 4, 32, .inr (.inr (.inr (.inr f_107))))), (q_108, .inr (9, [.null, .int 0]))] _ _ _
  refine v_dup B dX4_init_51 rfl ?_
  refine v_bipush B (v := 40) dX4_init_52 (by decide +kernel) ?_
  refine v_callIv B (b := q_108) (n := 1) (As := [.int 40]) (rest := [.ref q_108, .int 17, .ref q_5]) (wc := [(q_108, .inr (9, [.null, .int 0]))]) (wr := [(h, .inr (4, [.ref q_1, .ref q_2, .ref q_5, .int 0, .int 0, .int 0])), (q_5, .inl (K 4, 32, .inr (.inr (.inr (.inr f_107)))))]) (c_RowN_init_40 l D K q_108) gd_c_Diary_init_c_RowN_init_40_26 rfl rfl rfl (by decide +kernel) ⟨by decide +kernel, by decide +kernel⟩ (List.mem_of_getElem? (i := 11) rfl) (List.mem_of_getElem? (i := 12) rfl) (List.mem_of_getElem? (i := 13) rfl) rfl (sp_pl [2] [0, 1] rfl rfl rfl rfl rfl) rfl rfl (Nat.le_of_ble_eq_true rfl) dX4_init_54 ⟨by decide +kernel, by decide +kernel⟩ (fun u_109 hp_110 => ?_)
  obtain ⟨a_112, rfl⟩ : ∃ z, z = u_109 := ⟨_, rfl⟩
  show V _ _ _ _ _ _ _ _ _ _ _ _ _ _ (71, 948) [(h, .inr (4, [.ref q_1, .ref q_2, .ref q_5, .int 0, .int 0, .int 0])), (q_5, .inl (K 4, 32, .inr (.inr (.inr (.inr f_107))))), (q_108, .inr (9, [.ref a_112, .int 0]))] _ _ _
  refine v_aast B (k0 := 1) (t0 := 4) (k1 := 2) (r := (RX9, TX9, 2)) (w' := [(h, .inr (4, [.ref q_1, .ref q_2, .ref q_5, .int 0, .int 0, .int 0])), (q_5, .inl (K 4, 32, .inr (.inr (.inr (.inr (va_up f_107 (17 : Int32).toNatClampNeg (some q_108))))))), (q_108, .inr (9, [.ref a_112, .int 0]))]) rfl rfl rfl rfl (vpi (by decide +kernel)) rfl dX4_init_57 ?_
  generalize va_up f_107 (17 : Int32).toNatClampNeg (some q_108) = f_113
  refine v_forget (wc := [(h, .inr (4, [.ref q_1, .ref q_2, .ref q_5, .int 0, .int 0, .int 0])), (q_5, .inl (K 4, 32, .inr (.inr (.inr (.inr f_113)))))]) (wr := []) (sp_pl [0, 1] [] rfl rfl rfl rfl rfl) ?_
  refine v_iinc B (k := 0) (v := 18) (lv' := [(1, .int 18), (0, .ref h)]) dX4_init_58 rfl (by decide +kernel) (by decide +kernel) rfl ?_
  refine v_goto B (tgt := 34) dX4_init_61 (by decide +kernel) ?_
  refine v_iload_n B dX4_init_34 rfl rfl ?_
  refine v_aload_n B dX4_init_35 rfl rfl ?_
  refine v_get B (C := RX4) (T := TX4) (N := 6) (ci := 4) (k0 := 0) hi_c_Diary_init_X4 rfl rfl 2 (by decide +kernel) (List.mem_of_getElem? (i := 9) rfl) rfl dX4_init_36 ?_
  refine v_alen B (k0 := 1) (t0 := 4) (v := 32) rfl rfl rfl dX4_init_39 ?_
  refine v_icmp_ge B (tgt := 64) dX4_init_40 (by decide +kernel) (fun h => absurd h (by decide +kernel)) (fun _ => ?_)
  refine v_aload_n B dX4_init_43 rfl rfl ?_
  refine v_get B (C := RX4) (T := TX4) (N := 6) (ci := 4) (k0 := 0) hi_c_Diary_init_X4 rfl rfl 2 (by decide +kernel) (List.mem_of_getElem? (i := 9) rfl) rfl dX4_init_44 ?_
  refine v_iload_n B dX4_init_47 rfl rfl ?_
  refine v_new B (C := RX9) (T := TX9) (N := 2) (ci := 9) (fs := [.null, .int 0]) hi_c_Diary_init_X9 tyX9 tyX9_ok (List.mem_of_getElem? (i := 8) rfl) (List.mem_of_getElem? (i := 10) rfl) (List.mem_of_getElem? (i := 11) rfl) rfl (by decide +kernel) (by decide +kernel) (by decide +kernel) dX4_init_48 (fun q_114 => ?_)
  show V _ _ _ _ _ _ _ _ _ _ _ _ _ _ (72, 950) [(h, .inr (4, [.ref q_1, .ref q_2, .ref q_5, .int 0, .int 0, .int 0])), (q_5, .inl (K 4, 32, .inr (.inr (.inr (.inr f_113))))), (q_114, .inr (9, [.null, .int 0]))] _ _ _
  refine v_dup B dX4_init_51 rfl ?_
  refine v_bipush B (v := 40) dX4_init_52 (by decide +kernel) ?_
  refine v_callIv B (b := q_114) (n := 1) (As := [.int 40]) (rest := [.ref q_114, .int 18, .ref q_5]) (wc := [(q_114, .inr (9, [.null, .int 0]))]) (wr := [(h, .inr (4, [.ref q_1, .ref q_2, .ref q_5, .int 0, .int 0, .int 0])), (q_5, .inl (K 4, 32, .inr (.inr (.inr (.inr f_113)))))]) (c_RowN_init_40 l D K q_114) gd_c_Diary_init_c_RowN_init_40_26 rfl rfl rfl (by decide +kernel) ⟨by decide +kernel, by decide +kernel⟩ (List.mem_of_getElem? (i := 11) rfl) (List.mem_of_getElem? (i := 12) rfl) (List.mem_of_getElem? (i := 13) rfl) rfl (sp_pl [2] [0, 1] rfl rfl rfl rfl rfl) rfl rfl (Nat.le_of_ble_eq_true rfl) dX4_init_54 ⟨by decide +kernel, by decide +kernel⟩ (fun u_115 hp_116 => ?_)
  obtain ⟨a_118, rfl⟩ : ∃ z, z = u_115 := ⟨_, rfl⟩
  show V _ _ _ _ _ _ _ _ _ _ _ _ _ _ (73, 990) [(h, .inr (4, [.ref q_1, .ref q_2, .ref q_5, .int 0, .int 0, .int 0])), (q_5, .inl (K 4, 32, .inr (.inr (.inr (.inr f_113))))), (q_114, .inr (9, [.ref a_118, .int 0]))] _ _ _
  refine v_aast B (k0 := 1) (t0 := 4) (k1 := 2) (r := (RX9, TX9, 2)) (w' := [(h, .inr (4, [.ref q_1, .ref q_2, .ref q_5, .int 0, .int 0, .int 0])), (q_5, .inl (K 4, 32, .inr (.inr (.inr (.inr (va_up f_113 (18 : Int32).toNatClampNeg (some q_114))))))), (q_114, .inr (9, [.ref a_118, .int 0]))]) rfl rfl rfl rfl (vpi (by decide +kernel)) rfl dX4_init_57 ?_
  generalize va_up f_113 (18 : Int32).toNatClampNeg (some q_114) = f_119
  refine v_forget (wc := [(h, .inr (4, [.ref q_1, .ref q_2, .ref q_5, .int 0, .int 0, .int 0])), (q_5, .inl (K 4, 32, .inr (.inr (.inr (.inr f_119)))))]) (wr := []) (sp_pl [0, 1] [] rfl rfl rfl rfl rfl) ?_
  refine v_iinc B (k := 0) (v := 19) (lv' := [(1, .int 19), (0, .ref h)]) dX4_init_58 rfl (by decide +kernel) (by decide +kernel) rfl ?_
  refine v_goto B (tgt := 34) dX4_init_61 (by decide +kernel) ?_
  refine v_iload_n B dX4_init_34 rfl rfl ?_
  refine v_aload_n B dX4_init_35 rfl rfl ?_
  refine v_get B (C := RX4) (T := TX4) (N := 6) (ci := 4) (k0 := 0) hi_c_Diary_init_X4 rfl rfl 2 (by decide +kernel) (List.mem_of_getElem? (i := 9) rfl) rfl dX4_init_36 ?_
  refine v_alen B (k0 := 1) (t0 := 4) (v := 32) rfl rfl rfl dX4_init_39 ?_
  refine v_icmp_ge B (tgt := 64) dX4_init_40 (by decide +kernel) (fun h => absurd h (by decide +kernel)) (fun _ => ?_)
  refine v_aload_n B dX4_init_43 rfl rfl ?_
  refine v_get B (C := RX4) (T := TX4) (N := 6) (ci := 4) (k0 := 0) hi_c_Diary_init_X4 rfl rfl 2 (by decide +kernel) (List.mem_of_getElem? (i := 9) rfl) rfl dX4_init_44 ?_
  refine v_iload_n B dX4_init_47 rfl rfl ?_
  refine v_new B (C := RX9) (T := TX9) (N := 2) (ci := 9) (fs := [.null, .int 0]) hi_c_Diary_init_X9 tyX9 tyX9_ok (List.mem_of_getElem? (i := 8) rfl) (List.mem_of_getElem? (i := 10) rfl) (List.mem_of_getElem? (i := 11) rfl) rfl (by decide +kernel) (by decide +kernel) (by decide +kernel) dX4_init_48 (fun q_120 => ?_)
  show V _ _ _ _ _ _ _ _ _ _ _ _ _ _ (74, 992) [(h, .inr (4, [.ref q_1, .ref q_2, .ref q_5, .int 0, .int 0, .int 0])), (q_5, .inl (K 4, 32, .inr (.inr (.inr (.inr f_119))))), (q_120, .inr (9, [.null, .int 0]))] _ _ _
  refine v_dup B dX4_init_51 rfl ?_
  refine v_bipush B (v := 40) dX4_init_52 (by decide +kernel) ?_
  refine v_callIv B (b := q_120) (n := 1) (As := [.int 40]) (rest := [.ref q_120, .int 19, .ref q_5]) (wc := [(q_120, .inr (9, [.null, .int 0]))]) (wr := [(h, .inr (4, [.ref q_1, .ref q_2, .ref q_5, .int 0, .int 0, .int 0])), (q_5, .inl (K 4, 32, .inr (.inr (.inr (.inr f_119)))))]) (c_RowN_init_40 l D K q_120) gd_c_Diary_init_c_RowN_init_40_26 rfl rfl rfl (by decide +kernel) ⟨by decide +kernel, by decide +kernel⟩ (List.mem_of_getElem? (i := 11) rfl) (List.mem_of_getElem? (i := 12) rfl) (List.mem_of_getElem? (i := 13) rfl) rfl (sp_pl [2] [0, 1] rfl rfl rfl rfl rfl) rfl rfl (Nat.le_of_ble_eq_true rfl) dX4_init_54 ⟨by decide +kernel, by decide +kernel⟩ (fun u_121 hp_122 => ?_)
  obtain ⟨a_124, rfl⟩ : ∃ z, z = u_121 := ⟨_, rfl⟩
  show V _ _ _ _ _ _ _ _ _ _ _ _ _ _ (75, 1032) [(h, .inr (4, [.ref q_1, .ref q_2, .ref q_5, .int 0, .int 0, .int 0])), (q_5, .inl (K 4, 32, .inr (.inr (.inr (.inr f_119))))), (q_120, .inr (9, [.ref a_124, .int 0]))] _ _ _
  refine v_aast B (k0 := 1) (t0 := 4) (k1 := 2) (r := (RX9, TX9, 2)) (w' := [(h, .inr (4, [.ref q_1, .ref q_2, .ref q_5, .int 0, .int 0, .int 0])), (q_5, .inl (K 4, 32, .inr (.inr (.inr (.inr (va_up f_119 (19 : Int32).toNatClampNeg (some q_120))))))), (q_120, .inr (9, [.ref a_124, .int 0]))]) rfl rfl rfl rfl (vpi (by decide +kernel)) rfl dX4_init_57 ?_
  generalize va_up f_119 (19 : Int32).toNatClampNeg (some q_120) = f_125
  refine v_forget (wc := [(h, .inr (4, [.ref q_1, .ref q_2, .ref q_5, .int 0, .int 0, .int 0])), (q_5, .inl (K 4, 32, .inr (.inr (.inr (.inr f_125)))))]) (wr := []) (sp_pl [0, 1] [] rfl rfl rfl rfl rfl) ?_
  refine v_iinc B (k := 0) (v := 20) (lv' := [(1, .int 20), (0, .ref h)]) dX4_init_58 rfl (by decide +kernel) (by decide +kernel) rfl ?_
  refine v_goto B (tgt := 34) dX4_init_61 (by decide +kernel) ?_
  refine v_iload_n B dX4_init_34 rfl rfl ?_
  refine v_aload_n B dX4_init_35 rfl rfl ?_
  refine v_get B (C := RX4) (T := TX4) (N := 6) (ci := 4) (k0 := 0) hi_c_Diary_init_X4 rfl rfl 2 (by decide +kernel) (List.mem_of_getElem? (i := 9) rfl) rfl dX4_init_36 ?_
  refine v_alen B (k0 := 1) (t0 := 4) (v := 32) rfl rfl rfl dX4_init_39 ?_
  refine v_icmp_ge B (tgt := 64) dX4_init_40 (by decide +kernel) (fun h => absurd h (by decide +kernel)) (fun _ => ?_)
  refine v_aload_n B dX4_init_43 rfl rfl ?_
  refine v_get B (C := RX4) (T := TX4) (N := 6) (ci := 4) (k0 := 0) hi_c_Diary_init_X4 rfl rfl 2 (by decide +kernel) (List.mem_of_getElem? (i := 9) rfl) rfl dX4_init_44 ?_
  refine v_iload_n B dX4_init_47 rfl rfl ?_
  refine v_new B (C := RX9) (T := TX9) (N := 2) (ci := 9) (fs := [.null, .int 0]) hi_c_Diary_init_X9 tyX9 tyX9_ok (List.mem_of_getElem? (i := 8) rfl) (List.mem_of_getElem? (i := 10) rfl) (List.mem_of_getElem? (i := 11) rfl) rfl (by decide +kernel) (by decide +kernel) (by decide +kernel) dX4_init_48 (fun q_126 => ?_)
  show V _ _ _ _ _ _ _ _ _ _ _ _ _ _ (76, 1034) [(h, .inr (4, [.ref q_1, .ref q_2, .ref q_5, .int 0, .int 0, .int 0])), (q_5, .inl (K 4, 32, .inr (.inr (.inr (.inr f_125))))), (q_126, .inr (9, [.null, .int 0]))] _ _ _
  refine v_dup B dX4_init_51 rfl ?_
  refine v_bipush B (v := 40) dX4_init_52 (by decide +kernel) ?_
  refine v_callIv B (b := q_126) (n := 1) (As := [.int 40]) (rest := [.ref q_126, .int 20, .ref q_5]) (wc := [(q_126, .inr (9, [.null, .int 0]))]) (wr := [(h, .inr (4, [.ref q_1, .ref q_2, .ref q_5, .int 0, .int 0, .int 0])), (q_5, .inl (K 4, 32, .inr (.inr (.inr (.inr f_125)))))]) (c_RowN_init_40 l D K q_126) gd_c_Diary_init_c_RowN_init_40_26 rfl rfl rfl (by decide +kernel) ⟨by decide +kernel, by decide +kernel⟩ (List.mem_of_getElem? (i := 11) rfl) (List.mem_of_getElem? (i := 12) rfl) (List.mem_of_getElem? (i := 13) rfl) rfl (sp_pl [2] [0, 1] rfl rfl rfl rfl rfl) rfl rfl (Nat.le_of_ble_eq_true rfl) dX4_init_54 ⟨by decide +kernel, by decide +kernel⟩ (fun u_127 hp_128 => ?_)
  obtain ⟨a_130, rfl⟩ : ∃ z, z = u_127 := ⟨_, rfl⟩
  show V _ _ _ _ _ _ _ _ _ _ _ _ _ _ (77, 1074) [(h, .inr (4, [.ref q_1, .ref q_2, .ref q_5, .int 0, .int 0, .int 0])), (q_5, .inl (K 4, 32, .inr (.inr (.inr (.inr f_125))))), (q_126, .inr (9, [.ref a_130, .int 0]))] _ _ _
  refine v_aast B (k0 := 1) (t0 := 4) (k1 := 2) (r := (RX9, TX9, 2)) (w' := [(h, .inr (4, [.ref q_1, .ref q_2, .ref q_5, .int 0, .int 0, .int 0])), (q_5, .inl (K 4, 32, .inr (.inr (.inr (.inr (va_up f_125 (20 : Int32).toNatClampNeg (some q_126))))))), (q_126, .inr (9, [.ref a_130, .int 0]))]) rfl rfl rfl rfl (vpi (by decide +kernel)) rfl dX4_init_57 ?_
  generalize va_up f_125 (20 : Int32).toNatClampNeg (some q_126) = f_131
  refine v_forget (wc := [(h, .inr (4, [.ref q_1, .ref q_2, .ref q_5, .int 0, .int 0, .int 0])), (q_5, .inl (K 4, 32, .inr (.inr (.inr (.inr f_131)))))]) (wr := []) (sp_pl [0, 1] [] rfl rfl rfl rfl rfl) ?_
  refine v_iinc B (k := 0) (v := 21) (lv' := [(1, .int 21), (0, .ref h)]) dX4_init_58 rfl (by decide +kernel) (by decide +kernel) rfl ?_
  refine v_goto B (tgt := 34) dX4_init_61 (by decide +kernel) ?_
  refine v_iload_n B dX4_init_34 rfl rfl ?_
  refine v_aload_n B dX4_init_35 rfl rfl ?_
  refine v_get B (C := RX4) (T := TX4) (N := 6) (ci := 4) (k0 := 0) hi_c_Diary_init_X4 rfl rfl 2 (by decide +kernel) (List.mem_of_getElem? (i := 9) rfl) rfl dX4_init_36 ?_
  refine v_alen B (k0 := 1) (t0 := 4) (v := 32) rfl rfl rfl dX4_init_39 ?_
  refine v_icmp_ge B (tgt := 64) dX4_init_40 (by decide +kernel) (fun h => absurd h (by decide +kernel)) (fun _ => ?_)
  refine v_aload_n B dX4_init_43 rfl rfl ?_
  refine v_get B (C := RX4) (T := TX4) (N := 6) (ci := 4) (k0 := 0) hi_c_Diary_init_X4 rfl rfl 2 (by decide +kernel) (List.mem_of_getElem? (i := 9) rfl) rfl dX4_init_44 ?_
  refine v_iload_n B dX4_init_47 rfl rfl ?_
  refine v_new B (C := RX9) (T := TX9) (N := 2) (ci := 9) (fs := [.null, .int 0]) hi_c_Diary_init_X9 tyX9 tyX9_ok (List.mem_of_getElem? (i := 8) rfl) (List.mem_of_getElem? (i := 10) rfl) (List.mem_of_getElem? (i := 11) rfl) rfl (by decide +kernel) (by decide +kernel) (by decide +kernel) dX4_init_48 (fun q_132 => ?_)
  show V _ _ _ _ _ _ _ _ _ _ _ _ _ _ (78, 1076) [(h, .inr (4, [.ref q_1, .ref q_2, .ref q_5, .int 0, .int 0, .int 0])), (q_5, .inl (K 4, 32, .inr (.inr (.inr (.inr f_131))))), (q_132, .inr (9, [.null, .int 0]))] _ _ _
  refine v_dup B dX4_init_51 rfl ?_
  refine v_bipush B (v := 40) dX4_init_52 (by decide +kernel) ?_
  refine v_callIv B (b := q_132) (n := 1) (As := [.int 40]) (rest := [.ref q_132, .int 21, .ref q_5]) (wc := [(q_132, .inr (9, [.null, .int 0]))]) (wr := [(h, .inr (4, [.ref q_1, .ref q_2, .ref q_5, .int 0, .int 0, .int 0])), (q_5, .inl (K 4, 32, .inr (.inr (.inr (.inr f_131)))))]) (c_RowN_init_40 l D K q_132) gd_c_Diary_init_c_RowN_init_40_26 rfl rfl rfl (by decide +kernel) ⟨by decide +kernel, by decide +kernel⟩ (List.mem_of_getElem? (i := 11) rfl) (List.mem_of_getElem? (i := 12) rfl) (List.mem_of_getElem? (i := 13) rfl) rfl (sp_pl [2] [0, 1] rfl rfl rfl rfl rfl) rfl rfl (Nat.le_of_ble_eq_true rfl) dX4_init_54 ⟨by decide +kernel, by decide +kernel⟩ (fun u_133 hp_134 => ?_)
  obtain ⟨a_136, rfl⟩ : ∃ z, z = u_133 := ⟨_, rfl⟩
  show V _ _ _ _ _ _ _ _ _ _ _ _ _ _ (79, 1116) [(h, .inr (4, [.ref q_1, .ref q_2, .ref q_5, .int 0, .int 0, .int 0])), (q_5, .inl (K 4, 32, .inr (.inr (.inr (.inr f_131))))), (q_132, .inr (9, [.ref a_136, .int 0]))] _ _ _
  refine v_aast B (k0 := 1) (t0 := 4) (k1 := 2) (r := (RX9, TX9, 2)) (w' := [(h, .inr (4, [.ref q_1, .ref q_2, .ref q_5, .int 0, .int 0, .int 0])), (q_5, .inl (K 4, 32, .inr (.inr (.inr (.inr (va_up f_131 (21 : Int32).toNatClampNeg (some q_132))))))), (q_132, .inr (9, [.ref a_136, .int 0]))]) rfl rfl rfl rfl (vpi (by decide +kernel)) rfl dX4_init_57 ?_
  generalize va_up f_131 (21 : Int32).toNatClampNeg (some q_132) = f_137
  refine v_forget (wc := [(h, .inr (4, [.ref q_1, .ref q_2, .ref q_5, .int 0, .int 0, .int 0])), (q_5, .inl (K 4, 32, .inr (.inr (.inr (.inr f_137)))))]) (wr := []) (sp_pl [0, 1] [] rfl rfl rfl rfl rfl) ?_
  refine v_iinc B (k := 0) (v := 22) (lv' := [(1, .int 22), (0, .ref h)]) dX4_init_58 rfl (by decide +kernel) (by decide +kernel) rfl ?_
  refine v_goto B (tgt := 34) dX4_init_61 (by decide +kernel) ?_
  refine v_iload_n B dX4_init_34 rfl rfl ?_
  refine v_aload_n B dX4_init_35 rfl rfl ?_
  refine v_get B (C := RX4) (T := TX4) (N := 6) (ci := 4) (k0 := 0) hi_c_Diary_init_X4 rfl rfl 2 (by decide +kernel) (List.mem_of_getElem? (i := 9) rfl) rfl dX4_init_36 ?_
  refine v_alen B (k0 := 1) (t0 := 4) (v := 32) rfl rfl rfl dX4_init_39 ?_
  refine v_icmp_ge B (tgt := 64) dX4_init_40 (by decide +kernel) (fun h => absurd h (by decide +kernel)) (fun _ => ?_)
  refine v_aload_n B dX4_init_43 rfl rfl ?_
  refine v_get B (C := RX4) (T := TX4) (N := 6) (ci := 4) (k0 := 0) hi_c_Diary_init_X4 rfl rfl 2 (by decide +kernel) (List.mem_of_getElem? (i := 9) rfl) rfl dX4_init_44 ?_
  refine v_iload_n B dX4_init_47 rfl rfl ?_
  refine v_new B (C := RX9) (T := TX9) (N := 2) (ci := 9) (fs := [.null, .int 0]) hi_c_Diary_init_X9 tyX9 tyX9_ok (List.mem_of_getElem? (i := 8) rfl) (List.mem_of_getElem? (i := 10) rfl) (List.mem_of_getElem? (i := 11) rfl) rfl (by decide +kernel) (by decide +kernel) (by decide +kernel) dX4_init_48 (fun q_138 => ?_)
  show V _ _ _ _ _ _ _ _ _ _ _ _ _ _ (80, 1118) [(h, .inr (4, [.ref q_1, .ref q_2, .ref q_5, .int 0, .int 0, .int 0])), (q_5, .inl (K 4, 32, .inr (.inr (.inr (.inr f_137))))), (q_138, .inr (9, [.null, .int 0]))] _ _ _
  refine v_dup B dX4_init_51 rfl ?_
  refine v_bipush B (v := 40) dX4_init_52 (by decide +kernel) ?_
  refine v_callIv B (b := q_138) (n := 1) (As := [.int 40]) (rest := [.ref q_138, .int 22, .ref q_5]) (wc := [(q_138, .inr (9, [.null, .int 0]))]) (wr := [(h, .inr (4, [.ref q_1, .ref q_2, .ref q_5, .int 0, .int 0, .int 0])), (q_5, .inl (K 4, 32, .inr (.inr (.inr (.inr f_137)))))]) (c_RowN_init_40 l D K q_138) gd_c_Diary_init_c_RowN_init_40_26 rfl rfl rfl (by decide +kernel) ⟨by decide +kernel, by decide +kernel⟩ (List.mem_of_getElem? (i := 11) rfl) (List.mem_of_getElem? (i := 12) rfl) (List.mem_of_getElem? (i := 13) rfl) rfl (sp_pl [2] [0, 1] rfl rfl rfl rfl rfl) rfl rfl (Nat.le_of_ble_eq_true rfl) dX4_init_54 ⟨by decide +kernel, by decide +kernel⟩ (fun u_139 hp_140 => ?_)
  obtain ⟨a_142, rfl⟩ : ∃ z, z = u_139 := ⟨_, rfl⟩
  show V _ _ _ _ _ _ _ _ _ _ _ _ _ _ (81, 1158) [(h, .inr (4, [.ref q_1, .ref q_2, .ref q_5, .int 0, .int 0, .int 0])), (q_5, .inl (K 4, 32, .inr (.inr (.inr (.inr f_137))))), (q_138, .inr (9, [.ref a_142, .int 0]))] _ _ _
  refine v_aast B (k0 := 1) (t0 := 4) (k1 := 2) (r := (RX9, TX9, 2)) (w' := [(h, .inr (4, [.ref q_1, .ref q_2, .ref q_5, .int 0, .int 0, .int 0])), (q_5, .inl (K 4, 32, .inr (.inr (.inr (.inr (va_up f_137 (22 : Int32).toNatClampNeg (some q_138))))))), (q_138, .inr (9, [.ref a_142, .int 0]))]) rfl rfl rfl rfl (vpi (by decide +kernel)) rfl dX4_init_57 ?_
  generalize va_up f_137 (22 : Int32).toNatClampNeg (some q_138) = f_143
  refine v_forget (wc := [(h, .inr (4, [.ref q_1, .ref q_2, .ref q_5, .int 0, .int 0, .int 0])), (q_5, .inl (K 4, 32, .inr (.inr (.inr (.inr f_143)))))]) (wr := []) (sp_pl [0, 1] [] rfl rfl rfl rfl rfl) ?_
  refine v_iinc B (k := 0) (v := 23) (lv' := [(1, .int 23), (0, .ref h)]) dX4_init_58 rfl (by decide +kernel) (by decide +kernel) rfl ?_
  refine v_goto B (tgt := 34) dX4_init_61 (by decide +kernel) ?_
  refine v_iload_n B dX4_init_34 rfl rfl ?_
  refine v_aload_n B dX4_init_35 rfl rfl ?_
  refine v_get B (C := RX4) (T := TX4) (N := 6) (ci := 4) (k0 := 0) hi_c_Diary_init_X4 rfl rfl 2 (by decide +kernel) (List.mem_of_getElem? (i := 9) rfl) rfl dX4_init_36 ?_
  refine v_alen B (k0 := 1) (t0 := 4) (v := 32) rfl rfl rfl dX4_init_39 ?_
  refine v_icmp_ge B (tgt := 64) dX4_init_40 (by decide +kernel) (fun h => absurd h (by decide +kernel)) (fun _ => ?_)
  refine v_aload_n B dX4_init_43 rfl rfl ?_
  refine v_get B (C := RX4) (T := TX4) (N := 6) (ci := 4) (k0 := 0) hi_c_Diary_init_X4 rfl rfl 2 (by decide +kernel) (List.mem_of_getElem? (i := 9) rfl) rfl dX4_init_44 ?_
  refine v_iload_n B dX4_init_47 rfl rfl ?_
  refine v_new B (C := RX9) (T := TX9) (N := 2) (ci := 9) (fs := [.null, .int 0]) hi_c_Diary_init_X9 tyX9 tyX9_ok (List.mem_of_getElem? (i := 8) rfl) (List.mem_of_getElem? (i := 10) rfl) (List.mem_of_getElem? (i := 11) rfl) rfl (by decide +kernel) (by decide +kernel) (by decide +kernel) dX4_init_48 (fun q_144 => ?_)
  show V _ _ _ _ _ _ _ _ _ _ _ _ _ _ (82, 1160) [(h, .inr (4, [.ref q_1, .ref q_2, .ref q_5, .int 0, .int 0, .int 0])), (q_5, .inl (K 4, 32, .inr (.inr (.inr (.inr f_143))))), (q_144, .inr (9, [.null, .int 0]))] _ _ _
  refine v_dup B dX4_init_51 rfl ?_
  refine v_bipush B (v := 40) dX4_init_52 (by decide +kernel) ?_
  refine v_callIv B (b := q_144) (n := 1) (As := [.int 40]) (rest := [.ref q_144, .int 23, .ref q_5]) (wc := [(q_144, .inr (9, [.null, .int 0]))]) (wr := [(h, .inr (4, [.ref q_1, .ref q_2, .ref q_5, .int 0, .int 0, .int 0])), (q_5, .inl (K 4, 32, .inr (.inr (.inr (.inr f_143)))))]) (c_RowN_init_40 l D K q_144) gd_c_Diary_init_c_RowN_init_40_26 rfl rfl rfl (by decide +kernel) ⟨by decide +kernel, by decide +kernel⟩ (List.mem_of_getElem? (i := 11) rfl) (List.mem_of_getElem? (i := 12) rfl) (List.mem_of_getElem? (i := 13) rfl) rfl (sp_pl [2] [0, 1] rfl rfl rfl rfl rfl) rfl rfl (Nat.le_of_ble_eq_true rfl) dX4_init_54 ⟨by decide +kernel, by decide +kernel⟩ (fun u_145 hp_146 => ?_)
  obtain ⟨a_148, rfl⟩ : ∃ z, z = u_145 := ⟨_, rfl⟩
  show V _ _ _ _ _ _ _ _ _ _ _ _ _ _ (83, 1200) [(h, .inr (4, [.ref q_1, .ref q_2, .ref q_5, .int 0, .int 0, .int 0])), (q_5, .inl (K 4, 32, .inr (.inr (.inr (.inr f_143))))), (q_144, .inr (9, [.ref a_148, .int 0]))] _ _ _
  refine v_aast B (k0 := 1) (t0 := 4) (k1 := 2) (r := (RX9, TX9, 2)) (w' := [(h, .inr (4, [.ref q_1, .ref q_2, .ref q_5, .int 0, .int 0, .int 0])), (q_5, .inl (K 4, 32, .inr (.inr (.inr (.inr (va_up f_143 (23 : Int32).toNatClampNeg (some q_144))))))), (q_144, .inr (9, [.ref a_148, .int 0]))]) rfl rfl rfl rfl (vpi (by decide +kernel)) rfl dX4_init_57 ?_
  generalize va_up f_143 (23 : Int32).toNatClampNeg (some q_144) = f_149
  refine v_forget (wc := [(h, .inr (4, [.ref q_1, .ref q_2, .ref q_5, .int 0, .int 0, .int 0])), (q_5, .inl (K 4, 32, .inr (.inr (.inr (.inr f_149)))))]) (wr := []) (sp_pl [0, 1] [] rfl rfl rfl rfl rfl) ?_
  refine v_iinc B (k := 0) (v := 24) (lv' := [(1, .int 24), (0, .ref h)]) dX4_init_58 rfl (by decide +kernel) (by decide +kernel) rfl ?_
  refine v_goto B (tgt := 34) dX4_init_61 (by decide +kernel) ?_
  refine v_iload_n B dX4_init_34 rfl rfl ?_
  refine v_aload_n B dX4_init_35 rfl rfl ?_
  refine v_get B (C := RX4) (T := TX4) (N := 6) (ci := 4) (k0 := 0) hi_c_Diary_init_X4 rfl rfl 2 (by decide +kernel) (List.mem_of_getElem? (i := 9) rfl) rfl dX4_init_36 ?_
  refine v_alen B (k0 := 1) (t0 := 4) (v := 32) rfl rfl rfl dX4_init_39 ?_
  refine v_icmp_ge B (tgt := 64) dX4_init_40 (by decide +kernel) (fun h => absurd h (by decide +kernel)) (fun _ => ?_)
  refine v_aload_n B dX4_init_43 rfl rfl ?_
  refine v_get B (C := RX4) (T := TX4) (N := 6) (ci := 4) (k0 := 0) hi_c_Diary_init_X4 rfl rfl 2 (by decide +kernel) (List.mem_of_getElem? (i := 9) rfl) rfl dX4_init_44 ?_
  refine v_iload_n B dX4_init_47 rfl rfl ?_
  refine v_new B (C := RX9) (T := TX9) (N := 2) (ci := 9) (fs := [.null, .int 0]) hi_c_Diary_init_X9 tyX9 tyX9_ok (List.mem_of_getElem? (i := 8) rfl) (List.mem_of_getElem? (i := 10) rfl) (List.mem_of_getElem? (i := 11) rfl) rfl (by decide +kernel) (by decide +kernel) (by decide +kernel) dX4_init_48 (fun q_150 => ?_)
  show V _ _ _ _ _ _ _ _ _ _ _ _ _ _ (84, 1202) [(h, .inr (4, [.ref q_1, .ref q_2, .ref q_5, .int 0, .int 0, .int 0])), (q_5, .inl (K 4, 32, .inr (.inr (.inr (.inr f_149))))), (q_150, .inr (9, [.null, .int 0]))] _ _ _
  refine v_dup B dX4_init_51 rfl ?_
  refine v_bipush B (v := 40) dX4_init_52 (by decide +kernel) ?_
  refine v_callIv B (b := q_150) (n := 1) (As := [.int 40]) (rest := [.ref q_150, .int 24, .ref q_5]) (wc := [(q_150, .inr (9, [.null, .int 0]))]) (wr := [(h, .inr (4, [.ref q_1, .ref q_2, .ref q_5, .int 0, .int 0, .int 0])), (q_5, .inl (K 4, 32, .inr (.inr (.inr (.inr f_149)))))]) (c_RowN_init_40 l D K q_150) gd_c_Diary_init_c_RowN_init_40_26 rfl rfl rfl (by decide +kernel) ⟨by decide +kernel, by decide +kernel⟩ (List.mem_of_getElem? (i := 11) rfl) (List.mem_of_getElem? (i := 12) rfl) (List.mem_of_getElem? (i := 13) rfl) rfl (sp_pl [2] [0, 1] rfl rfl rfl rfl rfl) rfl rfl (Nat.le_of_ble_eq_true rfl) dX4_init_54 ⟨by decide +kernel, by decide +kernel⟩ (fun u_151 hp_152 => ?_)
  obtain ⟨a_154, rfl⟩ : ∃ z, z = u_151 := ⟨_, rfl⟩
  show V _ _ _ _ _ _ _ _ _ _ _ _ _ _ (85, 1242) [(h, .inr (4, [.ref q_1, .ref q_2, .ref q_5, .int 0, .int 0, .int 0])), (q_5, .inl (K 4, 32, .inr (.inr (.inr (.inr f_149))))), (q_150, .inr (9, [.ref a_154, .int 0]))] _ _ _
  refine v_aast B (k0 := 1) (t0 := 4) (k1 := 2) (r := (RX9, TX9, 2)) (w' := [(h, .inr (4, [.ref q_1, .ref q_2, .ref q_5, .int 0, .int 0, .int 0])), (q_5, .inl (K 4, 32, .inr (.inr (.inr (.inr (va_up f_149 (24 : Int32).toNatClampNeg (some q_150))))))), (q_150, .inr (9, [.ref a_154, .int 0]))]) rfl rfl rfl rfl (vpi (by decide +kernel)) rfl dX4_init_57 ?_
  generalize va_up f_149 (24 : Int32).toNatClampNeg (some q_150) = f_155
  refine v_forget (wc := [(h, .inr (4, [.ref q_1, .ref q_2, .ref q_5, .int 0, .int 0, .int 0])), (q_5, .inl (K 4, 32, .inr (.inr (.inr (.inr f_155)))))]) (wr := []) (sp_pl [0, 1] [] rfl rfl rfl rfl rfl) ?_
  refine v_iinc B (k := 0) (v := 25) (lv' := [(1, .int 25), (0, .ref h)]) dX4_init_58 rfl (by decide +kernel) (by decide +kernel) rfl ?_
  refine v_goto B (tgt := 34) dX4_init_61 (by decide +kernel) ?_
  refine v_iload_n B dX4_init_34 rfl rfl ?_
  refine v_aload_n B dX4_init_35 rfl rfl ?_
  refine v_get B (C := RX4) (T := TX4) (N := 6) (ci := 4) (k0 := 0) hi_c_Diary_init_X4 rfl rfl 2 (by decide +kernel) (List.mem_of_getElem? (i := 9) rfl) rfl dX4_init_36 ?_
  refine v_alen B (k0 := 1) (t0 := 4) (v := 32) rfl rfl rfl dX4_init_39 ?_
  refine v_icmp_ge B (tgt := 64) dX4_init_40 (by decide +kernel) (fun h => absurd h (by decide +kernel)) (fun _ => ?_)
  refine v_aload_n B dX4_init_43 rfl rfl ?_
  refine v_get B (C := RX4) (T := TX4) (N := 6) (ci := 4) (k0 := 0) hi_c_Diary_init_X4 rfl rfl 2 (by decide +kernel) (List.mem_of_getElem? (i := 9) rfl) rfl dX4_init_44 ?_
  refine v_iload_n B dX4_init_47 rfl rfl ?_
  refine v_new B (C := RX9) (T := TX9) (N := 2) (ci := 9) (fs := [.null, .int 0]) hi_c_Diary_init_X9 tyX9 tyX9_ok (List.mem_of_getElem? (i := 8) rfl) (List.mem_of_getElem? (i := 10) rfl) (List.mem_of_getElem? (i := 11) rfl) rfl (by decide +kernel) (by decide +kernel) (by decide +kernel) dX4_init_48 (fun q_156 => ?_)
  show V _ _ _ _ _ _ _ _ _ _ _ _ _ _ (86, 1244) [(h, .inr (4, [.ref q_1, .ref q_2, .ref q_5, .int 0, .int 0, .int 0])), (q_5, .inl (K 4, 32, .inr (.inr (.inr (.inr f_155))))), (q_156, .inr (9, [.null, .int 0]))] _ _ _
  refine v_dup B dX4_init_51 rfl ?_
  refine v_bipush B (v := 40) dX4_init_52 (by decide +kernel) ?_
  refine v_callIv B (b := q_156) (n := 1) (As := [.int 40]) (rest := [.ref q_156, .int 25, .ref q_5]) (wc := [(q_156, .inr (9, [.null, .int 0]))]) (wr := [(h, .inr (4, [.ref q_1, .ref q_2, .ref q_5, .int 0, .int 0, .int 0])), (q_5, .inl (K 4, 32, .inr (.inr (.inr (.inr f_155)))))]) (c_RowN_init_40 l D K q_156) gd_c_Diary_init_c_RowN_init_40_26 rfl rfl rfl (by decide +kernel) ⟨by decide +kernel, by decide +kernel⟩ (List.mem_of_getElem? (i := 11) rfl) (List.mem_of_getElem? (i := 12) rfl) (List.mem_of_getElem? (i := 13) rfl) rfl (sp_pl [2] [0, 1] rfl rfl rfl rfl rfl) rfl rfl (Nat.le_of_ble_eq_true rfl) dX4_init_54 ⟨by decide +kernel, by decide +kernel⟩ (fun u_157 hp_158 => ?_)
  obtain ⟨a_160, rfl⟩ : ∃ z, z = u_157 := ⟨_, rfl⟩
  show V _ _ _ _ _ _ _ _ _ _ _ _ _ _ (87, 1284) [(h, .inr (4, [.ref q_1, .ref q_2, .ref q_5, .int 0, .int 0, .int 0])), (q_5, .inl (K 4, 32, .inr (.inr (.inr (.inr f_155))))), (q_156, .inr (9, [.ref a_160, .int 0]))] _ _ _
  refine v_aast B (k0 := 1) (t0 := 4) (k1 := 2) (r := (RX9, TX9, 2)) (w' := [(h, .inr (4, [.ref q_1, .ref q_2, .ref q_5, .int 0, .int 0, .int 0])), (q_5, .inl (K 4, 32, .inr (.inr (.inr (.inr (va_up f_155 (25 : Int32).toNatClampNeg (some q_156))))))), (q_156, .inr (9, [.ref a_160, .int 0]))]) rfl rfl rfl rfl (vpi (by decide +kernel)) rfl dX4_init_57 ?_
  generalize va_up f_155 (25 : Int32).toNatClampNeg (some q_156) = f_161
  refine v_forget (wc := [(h, .inr (4, [.ref q_1, .ref q_2, .ref q_5, .int 0, .int 0, .int 0])), (q_5, .inl (K 4, 32, .inr (.inr (.inr (.inr f_161)))))]) (wr := []) (sp_pl [0, 1] [] rfl rfl rfl rfl rfl) ?_
  refine v_iinc B (k := 0) (v := 26) (lv' := [(1, .int 26), (0, .ref h)]) dX4_init_58 rfl (by decide +kernel) (by decide +kernel) rfl ?_
  refine v_goto B (tgt := 34) dX4_init_61 (by decide +kernel) ?_
  refine v_iload_n B dX4_init_34 rfl rfl ?_
  refine v_aload_n B dX4_init_35 rfl rfl ?_
  refine v_get B (C := RX4) (T := TX4) (N := 6) (ci := 4) (k0 := 0) hi_c_Diary_init_X4 rfl rfl 2 (by decide +kernel) (List.mem_of_getElem? (i := 9) rfl) rfl dX4_init_36 ?_
  refine v_alen B (k0 := 1) (t0 := 4) (v := 32) rfl rfl rfl dX4_init_39 ?_
  refine v_icmp_ge B (tgt := 64) dX4_init_40 (by decide +kernel) (fun h => absurd h (by decide +kernel)) (fun _ => ?_)
  refine v_aload_n B dX4_init_43 rfl rfl ?_
  refine v_get B (C := RX4) (T := TX4) (N := 6) (ci := 4) (k0 := 0) hi_c_Diary_init_X4 rfl rfl 2 (by decide +kernel) (List.mem_of_getElem? (i := 9) rfl) rfl dX4_init_44 ?_
  refine v_iload_n B dX4_init_47 rfl rfl ?_
  refine v_new B (C := RX9) (T := TX9) (N := 2) (ci := 9) (fs := [.null, .int 0]) hi_c_Diary_init_X9 tyX9 tyX9_ok (List.mem_of_getElem? (i := 8) rfl) (List.mem_of_getElem? (i := 10) rfl) (List.mem_of_getElem? (i := 11) rfl) rfl (by decide +kernel) (by decide +kernel) (by decide +kernel) dX4_init_48 (fun q_162 => ?_)
  show V _ _ _ _ _ _ _ _ _ _ _ _ _ _ (88, 1286) [(h, .inr (4, [.ref q_1, .ref q_2, .ref q_5, .int 0, .int 0, .int 0])), (q_5, .inl (K 4, 32, .inr (.inr (.inr (.inr f_161))))), (q_162, .inr (9, [.null, .int 0]))] _ _ _
  refine v_dup B dX4_init_51 rfl ?_
  refine v_bipush B (v := 40) dX4_init_52 (by decide +kernel) ?_
  refine v_callIv B (b := q_162) (n := 1) (As := [.int 40]) (rest := [.ref q_162, .int 26, .ref q_5]) (wc := [(q_162, .inr (9, [.null, .int 0]))]) (wr := [(h, .inr (4, [.ref q_1, .ref q_2, .ref q_5, .int 0, .int 0, .int 0])), (q_5, .inl (K 4, 32, .inr (.inr (.inr (.inr f_161)))))]) (c_RowN_init_40 l D K q_162) gd_c_Diary_init_c_RowN_init_40_26 rfl rfl rfl (by decide +kernel) ⟨by decide +kernel, by decide +kernel⟩ (List.mem_of_getElem? (i := 11) rfl) (List.mem_of_getElem? (i := 12) rfl) (List.mem_of_getElem? (i := 13) rfl) rfl (sp_pl [2] [0, 1] rfl rfl rfl rfl rfl) rfl rfl (Nat.le_of_ble_eq_true rfl) dX4_init_54 ⟨by decide +kernel, by decide +kernel⟩ (fun u_163 hp_164 => ?_)
  obtain ⟨a_166, rfl⟩ : ∃ z, z = u_163 := ⟨_, rfl⟩
  show V _ _ _ _ _ _ _ _ _ _ _ _ _ _ (89, 1326) [(h, .inr (4, [.ref q_1, .ref q_2, .ref q_5, .int 0, .int 0, .int 0])), (q_5, .inl (K 4, 32, .inr (.inr (.inr (.inr f_161))))), (q_162, .inr (9, [.ref a_166, .int 0]))] _ _ _
  refine v_aast B (k0 := 1) (t0 := 4) (k1 := 2) (r := (RX9, TX9, 2)) (w' := [(h, .inr (4, [.ref q_1, .ref q_2, .ref q_5, .int 0, .int 0, .int 0])), (q_5, .inl (K 4, 32, .inr (.inr (.inr (.inr (va_up f_161 (26 : Int32).toNatClampNeg (some q_162))))))), (q_162, .inr (9, [.ref a_166, .int 0]))]) rfl rfl rfl rfl (vpi (by decide +kernel)) rfl dX4_init_57 ?_
  generalize va_up f_161 (26 : Int32).toNatClampNeg (some q_162) = f_167
  refine v_forget (wc := [(h, .inr (4, [.ref q_1, .ref q_2, .ref q_5, .int 0, .int 0, .int 0])), (q_5, .inl (K 4, 32, .inr (.inr (.inr (.inr f_167)))))]) (wr := []) (sp_pl [0, 1] [] rfl rfl rfl rfl rfl) ?_
  refine v_iinc B (k := 0) (v := 27) (lv' := [(1, .int 27), (0, .ref h)]) dX4_init_58 rfl (by decide +kernel) (by decide +kernel) rfl ?_
  refine v_goto B (tgt := 34) dX4_init_61 (by decide +kernel) ?_
  refine v_iload_n B dX4_init_34 rfl rfl ?_
  refine v_aload_n B dX4_init_35 rfl rfl ?_
  refine v_get B (C := RX4) (T := TX4) (N := 6) (ci := 4) (k0 := 0) hi_c_Diary_init_X4 rfl rfl 2 (by decide +kernel) (List.mem_of_getElem? (i := 9) rfl) rfl dX4_init_36 ?_
  refine v_alen B (k0 := 1) (t0 := 4) (v := 32) rfl rfl rfl dX4_init_39 ?_
  refine v_icmp_ge B (tgt := 64) dX4_init_40 (by decide +kernel) (fun h => absurd h (by decide +kernel)) (fun _ => ?_)
  refine v_aload_n B dX4_init_43 rfl rfl ?_
  refine v_get B (C := RX4) (T := TX4) (N := 6) (ci := 4) (k0 := 0) hi_c_Diary_init_X4 rfl rfl 2 (by decide +kernel) (List.mem_of_getElem? (i := 9) rfl) rfl dX4_init_44 ?_
  refine v_iload_n B dX4_init_47 rfl rfl ?_
  refine v_new B (C := RX9) (T := TX9) (N := 2) (ci := 9) (fs := [.null, .int 0]) hi_c_Diary_init_X9 tyX9 tyX9_ok (List.mem_of_getElem? (i := 8) rfl) (List.mem_of_getElem? (i := 10) rfl) (List.mem_of_getElem? (i := 11) rfl) rfl (by decide +kernel) (by decide +kernel) (by decide +kernel) dX4_init_48 (fun q_168 => ?_)
  show V _ _ _ _ _ _ _ _ _ _ _ _ _ _ (90, 1328) [(h, .inr (4, [.ref q_1, .ref q_2, .ref q_5, .int 0, .int 0, .int 0])), (q_5, .inl (K 4, 32, .inr (.inr (.inr (.inr f_167))))), (q_168, .inr (9, [.null, .int 0]))] _ _ _
  refine v_dup B dX4_init_51 rfl ?_
  refine v_bipush B (v := 40) dX4_init_52 (by decide +kernel) ?_
  refine v_callIv B (b := q_168) (n := 1) (As := [.int 40]) (rest := [.ref q_168, .int 27, .ref q_5]) (wc := [(q_168, .inr (9, [.null, .int 0]))]) (wr := [(h, .inr (4, [.ref q_1, .ref q_2, .ref q_5, .int 0, .int 0, .int 0])), (q_5, .inl (K 4, 32, .inr (.inr (.inr (.inr f_167)))))]) (c_RowN_init_40 l D K q_168) gd_c_Diary_init_c_RowN_init_40_26 rfl rfl rfl (by decide +kernel) ⟨by decide +kernel, by decide +kernel⟩ (List.mem_of_getElem? (i := 11) rfl) (List.mem_of_getElem? (i := 12) rfl) (List.mem_of_getElem? (i := 13) rfl) rfl (sp_pl [2] [0, 1] rfl rfl rfl rfl rfl) rfl rfl (Nat.le_of_ble_eq_true rfl) dX4_init_54 ⟨by decide +kernel, by decide +kernel⟩ (fun u_169 hp_170 => ?_)
  obtain ⟨a_172, rfl⟩ : ∃ z, z = u_169 := ⟨_, rfl⟩
  show V _ _ _ _ _ _ _ _ _ _ _ _ _ _ (91, 1368) [(h, .inr (4, [.ref q_1, .ref q_2, .ref q_5, .int 0, .int 0, .int 0])), (q_5, .inl (K 4, 32, .inr (.inr (.inr (.inr f_167))))), (q_168, .inr (9, [.ref a_172, .int 0]))] _ _ _
  refine v_aast B (k0 := 1) (t0 := 4) (k1 := 2) (r := (RX9, TX9, 2)) (w' := [(h, .inr (4, [.ref q_1, .ref q_2, .ref q_5, .int 0, .int 0, .int 0])), (q_5, .inl (K 4, 32, .inr (.inr (.inr (.inr (va_up f_167 (27 : Int32).toNatClampNeg (some q_168))))))), (q_168, .inr (9, [.ref a_172, .int 0]))]) rfl rfl rfl rfl (vpi (by decide +kernel)) rfl dX4_init_57 ?_
  generalize va_up f_167 (27 : Int32).toNatClampNeg (some q_168) = f_173
  refine v_forget (wc := [(h, .inr (4, [.ref q_1, .ref q_2, .ref q_5, .int 0, .int 0, .int 0])), (q_5, .inl (K 4, 32, .inr (.inr (.inr (.inr f_173)))))]) (wr := []) (sp_pl [0, 1] [] rfl rfl rfl rfl rfl) ?_
  refine v_iinc B (k := 0) (v := 28) (lv' := [(1, .int 28), (0, .ref h)]) dX4_init_58 rfl (by decide +kernel) (by decide +kernel) rfl ?_
  refine v_goto B (tgt := 34) dX4_init_61 (by decide +kernel) ?_
  refine v_iload_n B dX4_init_34 rfl rfl ?_
  refine v_aload_n B dX4_init_35 rfl rfl ?_
  refine v_get B (C := RX4) (T := TX4) (N := 6) (ci := 4) (k0 := 0) hi_c_Diary_init_X4 rfl rfl 2 (by decide +kernel) (List.mem_of_getElem? (i := 9) rfl) rfl dX4_init_36 ?_
  refine v_alen B (k0 := 1) (t0 := 4) (v := 32) rfl rfl rfl dX4_init_39 ?_
  refine v_icmp_ge B (tgt := 64) dX4_init_40 (by decide +kernel) (fun h => absurd h (by decide +kernel)) (fun _ => ?_)
  refine v_aload_n B dX4_init_43 rfl rfl ?_
  refine v_get B (C := RX4) (T := TX4) (N := 6) (ci := 4) (k0 := 0) hi_c_Diary_init_X4 rfl rfl 2 (by decide +kernel) (List.mem_of_getElem? (i := 9) rfl) rfl dX4_init_44 ?_
  refine v_iload_n B dX4_init_47 rfl rfl ?_
  refine v_new B (C := RX9) (T := TX9) (N := 2) (ci := 9) (fs := [.null, .int 0]) hi_c_Diary_init_X9 tyX9 tyX9_ok (List.mem_of_getElem? (i := 8) rfl) (List.mem_of_getElem? (i := 10) rfl) (List.mem_of_getElem? (i := 11) rfl) rfl (by decide +kernel) (by decide +kernel) (by decide +kernel) dX4_init_48 (fun q_174 => ?_)
  show V _ _ _ _ _ _ _ _ _ _ _ _ _ _ (92, 1370) [(h, .inr (4, [.ref q_1, .ref q_2, .ref q_5, .int 0, .int 0, .int 0])), (q_5, .inl (K 4, 32, .inr (.inr (.inr (.inr f_173))))), (q_174, .inr (9, [.null, .int 0]))] _ _ _
  refine v_dup B dX4_init_51 rfl ?_
  refine v_bipush B (v := 40) dX4_init_52 (by decide +kernel) ?_
  refine v_callIv B (b := q_174) (n := 1) (As := [.int 40]) (rest := [.ref q_174, .int 28, .ref q_5]) (wc := [(q_174, .inr (9, [.null, .int 0]))]) (wr := [(h, .inr (4, [.ref q_1, .ref q_2, .ref q_5, .int 0, .int 0, .int 0])), (q_5, .inl (K 4, 32, .inr (.inr (.inr (.inr f_173)))))]) (c_RowN_init_40 l D K q_174) gd_c_Diary_init_c_RowN_init_40_26 rfl rfl rfl (by decide +kernel) ⟨by decide +kernel, by decide +kernel⟩ (List.mem_of_getElem? (i := 11) rfl) (List.mem_of_getElem? (i := 12) rfl) (List.mem_of_getElem? (i := 13) rfl) rfl (sp_pl [2] [0, 1] rfl rfl rfl rfl rfl) rfl rfl (Nat.le_of_ble_eq_true rfl) dX4_init_54 ⟨by decide +kernel, by decide +kernel⟩ (fun u_175 hp_176 => ?_)
  obtain ⟨a_178, rfl⟩ : ∃ z, z = u_175 := ⟨_, rfl⟩
  show V _ _ _ _ _ _ _ _ _ _ _ _ _ _ (93, 1410) [(h, .inr (4, [.ref q_1, .ref q_2, .ref q_5, .int 0, .int 0, .int 0])), (q_5, .inl (K 4, 32, .inr (.inr (.inr (.inr f_173))))), (q_174, .inr (9, [.ref a_178, .int 0]))] _ _ _
  refine v_aast B (k0 := 1) (t0 := 4) (k1 := 2) (r := (RX9, TX9, 2)) (w' := [(h, .inr (4, [.ref q_1, .ref q_2, .ref q_5, .int 0, .int 0, .int 0])), (q_5, .inl (K 4, 32, .inr (.inr (.inr (.inr (va_up f_173 (28 : Int32).toNatClampNeg (some q_174))))))), (q_174, .inr (9, [.ref a_178, .int 0]))]) rfl rfl rfl rfl (vpi (by decide +kernel)) rfl dX4_init_57 ?_
  generalize va_up f_173 (28 : Int32).toNatClampNeg (some q_174) = f_179
  refine v_forget (wc := [(h, .inr (4, [.ref q_1, .ref q_2, .ref q_5, .int 0, .int 0, .int 0])), (q_5, .inl (K 4, 32, .inr (.inr (.inr (.inr f_179)))))]) (wr := []) (sp_pl [0, 1] [] rfl rfl rfl rfl rfl) ?_
  refine v_iinc B (k := 0) (v := 29) (lv' := [(1, .int 29), (0, .ref h)]) dX4_init_58 rfl (by decide +kernel) (by decide +kernel) rfl ?_
  refine v_goto B (tgt := 34) dX4_init_61 (by decide +kernel) ?_
  refine v_iload_n B dX4_init_34 rfl rfl ?_
  refine v_aload_n B dX4_init_35 rfl rfl ?_
  refine v_get B (C := RX4) (T := TX4) (N := 6) (ci := 4) (k0 := 0) hi_c_Diary_init_X4 rfl rfl 2 (by decide +kernel) (List.mem_of_getElem? (i := 9) rfl) rfl dX4_init_36 ?_
  refine v_alen B (k0 := 1) (t0 := 4) (v := 32) rfl rfl rfl dX4_init_39 ?_
  refine v_icmp_ge B (tgt := 64) dX4_init_40 (by decide +kernel) (fun h => absurd h (by decide +kernel)) (fun _ => ?_)
  refine v_aload_n B dX4_init_43 rfl rfl ?_
  refine v_get B (C := RX4) (T := TX4) (N := 6) (ci := 4) (k0 := 0) hi_c_Diary_init_X4 rfl rfl 2 (by decide +kernel) (List.mem_of_getElem? (i := 9) rfl) rfl dX4_init_44 ?_
  refine v_iload_n B dX4_init_47 rfl rfl ?_
  refine v_new B (C := RX9) (T := TX9) (N := 2) (ci := 9) (fs := [.null, .int 0]) hi_c_Diary_init_X9 tyX9 tyX9_ok (List.mem_of_getElem? (i := 8) rfl) (List.mem_of_getElem? (i := 10) rfl) (List.mem_of_getElem? (i := 11) rfl) rfl (by decide +kernel) (by decide +kernel) (by decide +kernel) dX4_init_48 (fun q_180 => ?_)
  show V _ _ _ _ _ _ _ _ _ _ _ _ _ _ (94, 1412) [(h, .inr (4, [.ref q_1, .ref q_2, .ref q_5, .int 0, .int 0, .int 0])), (q_5, .inl (K 4, 32, .inr (.inr (.inr (.inr f_179))))), (q_180, .inr (9, [.null, .int 0]))] _ _ _
  refine v_dup B dX4_init_51 rfl ?_
  refine v_bipush B (v := 40) dX4_init_52 (by decide +kernel) ?_
  refine v_callIv B (b := q_180) (n := 1) (As := [.int 40]) (rest := [.ref q_180, .int 29, .ref q_5]) (wc := [(q_180, .inr (9, [.null, .int 0]))]) (wr := [(h, .inr (4, [.ref q_1, .ref q_2, .ref q_5, .int 0, .int 0, .int 0])), (q_5, .inl (K 4, 32, .inr (.inr (.inr (.inr f_179)))))]) (c_RowN_init_40 l D K q_180) gd_c_Diary_init_c_RowN_init_40_26 rfl rfl rfl (by decide +kernel) ⟨by decide +kernel, by decide +kernel⟩ (List.mem_of_getElem? (i := 11) rfl) (List.mem_of_getElem? (i := 12) rfl) (List.mem_of_getElem? (i := 13) rfl) rfl (sp_pl [2] [0, 1] rfl rfl rfl rfl rfl) rfl rfl (Nat.le_of_ble_eq_true rfl) dX4_init_54 ⟨by decide +kernel, by decide +kernel⟩ (fun u_181 hp_182 => ?_)
  obtain ⟨a_184, rfl⟩ : ∃ z, z = u_181 := ⟨_, rfl⟩
  show V _ _ _ _ _ _ _ _ _ _ _ _ _ _ (95, 1452) [(h, .inr (4, [.ref q_1, .ref q_2, .ref q_5, .int 0, .int 0, .int 0])), (q_5, .inl (K 4, 32, .inr (.inr (.inr (.inr f_179))))), (q_180, .inr (9, [.ref a_184, .int 0]))] _ _ _
  refine v_aast B (k0 := 1) (t0 := 4) (k1 := 2) (r := (RX9, TX9, 2)) (w' := [(h, .inr (4, [.ref q_1, .ref q_2, .ref q_5, .int 0, .int 0, .int 0])), (q_5, .inl (K 4, 32, .inr (.inr (.inr (.inr (va_up f_179 (29 : Int32).toNatClampNeg (some q_180))))))), (q_180, .inr (9, [.ref a_184, .int 0]))]) rfl rfl rfl rfl (vpi (by decide +kernel)) rfl dX4_init_57 ?_
  generalize va_up f_179 (29 : Int32).toNatClampNeg (some q_180) = f_185
  refine v_forget (wc := [(h, .inr (4, [.ref q_1, .ref q_2, .ref q_5, .int 0, .int 0, .int 0])), (q_5, .inl (K 4, 32, .inr (.inr (.inr (.inr f_185)))))]) (wr := []) (sp_pl [0, 1] [] rfl rfl rfl rfl rfl) ?_
  refine v_iinc B (k := 0) (v := 30) (lv' := [(1, .int 30), (0, .ref h)]) dX4_init_58 rfl (by decide +kernel) (by decide +kernel) rfl ?_
  refine v_goto B (tgt := 34) dX4_init_61 (by decide +kernel) ?_
  refine v_iload_n B dX4_init_34 rfl rfl ?_
  refine v_aload_n B dX4_init_35 rfl rfl ?_
  refine v_get B (C := RX4) (T := TX4) (N := 6) (ci := 4) (k0 := 0) hi_c_Diary_init_X4 rfl rfl 2 (by decide +kernel) (List.mem_of_getElem? (i := 9) rfl) rfl dX4_init_36 ?_
  refine v_alen B (k0 := 1) (t0 := 4) (v := 32) rfl rfl rfl dX4_init_39 ?_
  refine v_icmp_ge B (tgt := 64) dX4_init_40 (by decide +kernel) (fun h => absurd h (by decide +kernel)) (fun _ => ?_)
  refine v_aload_n B dX4_init_43 rfl rfl ?_
  refine v_get B (C := RX4) (T := TX4) (N := 6) (ci := 4) (k0 := 0) hi_c_Diary_init_X4 rfl rfl 2 (by decide +kernel) (List.mem_of_getElem? (i := 9) rfl) rfl dX4_init_44 ?_
  refine v_iload_n B dX4_init_47 rfl rfl ?_
  refine v_new B (C := RX9) (T := TX9) (N := 2) (ci := 9) (fs := [.null, .int 0]) hi_c_Diary_init_X9 tyX9 tyX9_ok (List.mem_of_getElem? (i := 8) rfl) (List.mem_of_getElem? (i := 10) rfl) (List.mem_of_getElem? (i := 11) rfl) rfl (by decide +kernel) (by decide +kernel) (by decide +kernel) dX4_init_48 (fun q_186 => ?_)
  show V _ _ _ _ _ _ _ _ _ _ _ _ _ _ (96, 1454) [(h, .inr (4, [.ref q_1, .ref q_2, .ref q_5, .int 0, .int 0, .int 0])), (q_5, .inl (K 4, 32, .inr (.inr (.inr (.inr f_185))))), (q_186, .inr (9, [.null, .int 0]))] _ _ _
  refine v_dup B dX4_init_51 rfl ?_
  refine v_bipush B (v := 40) dX4_init_52 (by decide +kernel) ?_
  refine v_callIv B (b := q_186) (n := 1) (As := [.int 40]) (rest := [.ref q_186, .int 30, .ref q_5]) (wc := [(q_186, .inr (9, [.null, .int 0]))]) (wr := [(h, .inr (4, [.ref q_1, .ref q_2, .ref q_5, .int 0, .int 0, .int 0])), (q_5, .inl (K 4, 32, .inr (.inr (.inr (.inr f_185)))))]) (c_RowN_init_40 l D K q_186) gd_c_Diary_init_c_RowN_init_40_26 rfl rfl rfl (by decide +kernel) ⟨by decide +kernel, by decide +kernel⟩ (List.mem_of_getElem? (i := 11) rfl) (List.mem_of_getElem? (i := 12) rfl) (List.mem_of_getElem? (i := 13) rfl) rfl (sp_pl [2] [0, 1] rfl rfl rfl rfl rfl) rfl rfl (Nat.le_of_ble_eq_true rfl) dX4_init_54 ⟨by decide +kernel, by decide +kernel⟩ (fun u_187 hp_188 => ?_)
  obtain ⟨a_190, rfl⟩ : ∃ z, z = u_187 := ⟨_, rfl⟩
  show V _ _ _ _ _ _ _ _ _ _ _ _ _ _ (97, 1494) [(h, .inr (4, [.ref q_1, .ref q_2, .ref q_5, .int 0, .int 0, .int 0])), (q_5, .inl (K 4, 32, .inr (.inr (.inr (.inr f_185))))), (q_186, .inr (9, [.ref a_190, .int 0]))] _ _ _
  refine v_aast B (k0 := 1) (t0 := 4) (k1 := 2) (r := (RX9, TX9, 2)) (w' := [(h, .inr (4, [.ref q_1, .ref q_2, .ref q_5, .int 0, .int 0, .int 0])), (q_5, .inl (K 4, 32, .inr (.inr (.inr (.inr (va_up f_185 (30 : Int32).toNatClampNeg (some q_186))))))), (q_186, .inr (9, [.ref a_190, .int 0]))]) rfl rfl rfl rfl (vpi (by decide +kernel)) rfl dX4_init_57 ?_
  generalize va_up f_185 (30 : Int32).toNatClampNeg (some q_186) = f_191
  refine v_forget (wc := [(h, .inr (4, [.ref q_1, .ref q_2, .ref q_5, .int 0, .int 0, .int 0])), (q_5, .inl (K 4, 32, .inr (.inr (.inr (.inr f_191)))))]) (wr := []) (sp_pl [0, 1] [] rfl rfl rfl rfl rfl) ?_
  refine v_iinc B (k := 0) (v := 31) (lv' := [(1, .int 31), (0, .ref h)]) dX4_init_58 rfl (by decide +kernel) (by decide +kernel) rfl ?_
  refine v_goto B (tgt := 34) dX4_init_61 (by decide +kernel) ?_
  refine v_iload_n B dX4_init_34 rfl rfl ?_
  refine v_aload_n B dX4_init_35 rfl rfl ?_
  refine v_get B (C := RX4) (T := TX4) (N := 6) (ci := 4) (k0 := 0) hi_c_Diary_init_X4 rfl rfl 2 (by decide +kernel) (List.mem_of_getElem? (i := 9) rfl) rfl dX4_init_36 ?_
  refine v_alen B (k0 := 1) (t0 := 4) (v := 32) rfl rfl rfl dX4_init_39 ?_
  refine v_icmp_ge B (tgt := 64) dX4_init_40 (by decide +kernel) (fun h => absurd h (by decide +kernel)) (fun _ => ?_)
  refine v_aload_n B dX4_init_43 rfl rfl ?_
  refine v_get B (C := RX4) (T := TX4) (N := 6) (ci := 4) (k0 := 0) hi_c_Diary_init_X4 rfl rfl 2 (by decide +kernel) (List.mem_of_getElem? (i := 9) rfl) rfl dX4_init_44 ?_
  refine v_iload_n B dX4_init_47 rfl rfl ?_
  refine v_new B (C := RX9) (T := TX9) (N := 2) (ci := 9) (fs := [.null, .int 0]) hi_c_Diary_init_X9 tyX9 tyX9_ok (List.mem_of_getElem? (i := 8) rfl) (List.mem_of_getElem? (i := 10) rfl) (List.mem_of_getElem? (i := 11) rfl) rfl (by decide +kernel) (by decide +kernel) (by decide +kernel) dX4_init_48 (fun q_192 => ?_)
  show V _ _ _ _ _ _ _ _ _ _ _ _ _ _ (98, 1496) [(h, .inr (4, [.ref q_1, .ref q_2, .ref q_5, .int 0, .int 0, .int 0])), (q_5, .inl (K 4, 32, .inr (.inr (.inr (.inr f_191))))), (q_192, .inr (9, [.null, .int 0]))] _ _ _
  refine v_dup B dX4_init_51 rfl ?_
  refine v_bipush B (v := 40) dX4_init_52 (by decide +kernel) ?_
  refine v_callIv B (b := q_192) (n := 1) (As := [.int 40]) (rest := [.ref q_192, .int 31, .ref q_5]) (wc := [(q_192, .inr (9, [.null, .int 0]))]) (wr := [(h, .inr (4, [.ref q_1, .ref q_2, .ref q_5, .int 0, .int 0, .int 0])), (q_5, .inl (K 4, 32, .inr (.inr (.inr (.inr f_191)))))]) (c_RowN_init_40 l D K q_192) gd_c_Diary_init_c_RowN_init_40_26 rfl rfl rfl (by decide +kernel) ⟨by decide +kernel, by decide +kernel⟩ (List.mem_of_getElem? (i := 11) rfl) (List.mem_of_getElem? (i := 12) rfl) (List.mem_of_getElem? (i := 13) rfl) rfl (sp_pl [2] [0, 1] rfl rfl rfl rfl rfl) rfl rfl (Nat.le_of_ble_eq_true rfl) dX4_init_54 ⟨by decide +kernel, by decide +kernel⟩ (fun u_193 hp_194 => ?_)
  obtain ⟨a_196, rfl⟩ : ∃ z, z = u_193 := ⟨_, rfl⟩
  show V _ _ _ _ _ _ _ _ _ _ _ _ _ _ (99, 1536) [(h, .inr (4, [.ref q_1, .ref q_2, .ref q_5, .int 0, .int 0, .int 0])), (q_5, .inl (K 4, 32, .inr (.inr (.inr (.inr f_191))))), (q_192, .inr (9, [.ref a_196, .int 0]))] _ _ _
  refine v_aast B (k0 := 1) (t0 := 4) (k1 := 2) (r := (RX9, TX9, 2)) (w' := [(h, .inr (4, [.ref q_1, .ref q_2, .ref q_5, .int 0, .int 0, .int 0])), (q_5, .inl (K 4, 32, .inr (.inr (.inr (.inr (va_up f_191 (31 : Int32).toNatClampNeg (some q_192))))))), (q_192, .inr (9, [.ref a_196, .int 0]))]) rfl rfl rfl rfl (vpi (by decide +kernel)) rfl dX4_init_57 ?_
  generalize va_up f_191 (31 : Int32).toNatClampNeg (some q_192) = f_197
  refine v_forget (wc := [(h, .inr (4, [.ref q_1, .ref q_2, .ref q_5, .int 0, .int 0, .int 0])), (q_5, .inl (K 4, 32, .inr (.inr (.inr (.inr f_197)))))]) (wr := []) (sp_pl [0, 1] [] rfl rfl rfl rfl rfl) ?_
  refine v_iinc B (k := 0) (v := 32) (lv' := [(1, .int 32), (0, .ref h)]) dX4_init_58 rfl (by decide +kernel) (by decide +kernel) rfl ?_
  refine v_goto B (tgt := 34) dX4_init_61 (by decide +kernel) ?_
  refine v_iload_n B dX4_init_34 rfl rfl ?_
  refine v_aload_n B dX4_init_35 rfl rfl ?_
  refine v_get B (C := RX4) (T := TX4) (N := 6) (ci := 4) (k0 := 0) hi_c_Diary_init_X4 rfl rfl 2 (by decide +kernel) (List.mem_of_getElem? (i := 9) rfl) rfl dX4_init_36 ?_
  refine v_alen B (k0 := 1) (t0 := 4) (v := 32) rfl rfl rfl dX4_init_39 ?_
  refine v_icmp_ge B (tgt := 64) dX4_init_40 (by decide +kernel) (fun _ => ?_) (fun h => absurd (by decide +kernel) h)
  refine v_forget (wc := [(h, .inr (4, [.ref q_1, .ref q_2, .ref q_5, .int 0, .int 0, .int 0]))]) (wr := []) (sp_pl [0] [] rfl rfl rfl rfl rfl) ?_
  exact v_vret B hr hlk (q_1, q_2, q_5) trivial rfl (by decide +kernel) (by decide +kernel) dX4_init_64

def wp_c_Air_init : List Cond := .code yX0_init cX0_init 2 none :: ([.methodLink RX0 3 objectInit, .instanceMethod objectInit, .code objectInit ⟨#[0xb1]⟩ 1 none, .classLink RX0 11 RX9, .fieldLink RX0 13 "LowEnergy$Air" "packets" "[LLowEnergy$Row;", .arrayClass .int, .fieldLink RX0 17 "LowEnergy$Air" "channels" "[I", .classLink RX0 21 "[[I", .fieldLink RX0 23 "LowEnergy$Air" "noises" "[[I", .fieldLink RX0 26 "LowEnergy$Air" "noiseCounts" "[I", .fieldLink RX0 29 "LowEnergy$Air" "losses" "[I", .instantiable RX9 2, .initialized RX9, .methodLink RX0 32 yX9_init, .instanceMethod yX9_init, .code yX9_init cX9_init 2 none, .methodLink RX9 3 objectInit, .methodLink RX9 9 Lib.Math.max.name, .static Lib.Math.max.name, .initialized "java/lang/Math", .code Lib.Math.max.name Lib.Math.max.code 2 (some .int), .fieldLink RX9 15 "LowEnergy$Row" "bytes" "[I", .fieldLink RX0 35 "LowEnergy$Air" "plain" "LLowEnergy$Row;", .fieldLink RX0 39 "LowEnergy$Air" "payload" "LLowEnergy$Row;"] ++ (wsX00 ++ (wsX90 ++ ([]))))
theorem hi_c_Air_init_X0 : ∀ x ∈ u_ws RX0 TX0 10, x ∈ wp_c_Air_init := fun _ h => List.mem_cons_of_mem _ (List.mem_append_right _ (List.mem_append_left _ h))
theorem hi_c_Air_init_X9 : ∀ x ∈ u_ws RX9 TX9 2, x ∈ wp_c_Air_init := fun _ h => List.mem_cons_of_mem _ (List.mem_append_right _ (List.mem_append_right _ (List.mem_append_left _ h)))
set_option maxRecDepth 100000 in
theorem gd_c_Air_init_c_RowN_init_40_32 : GoodIn wp_c_Air_init (wp_c_RowN_init_40) := goodIn_ca (goodIn_r _ [16, 17, 2, 3, 18, 19, 20, 21, 6, 22] rfl rfl) (goodIn_app (goodIn_cls hi_c_Air_init_X9 gw_X9) (goodIn_nil))
set_option maxRecDepth 100000 in
theorem gd_c_Air_init_c_RowN_init_31_32 : GoodIn wp_c_Air_init (wp_c_RowN_init_31) := goodIn_ca (goodIn_r _ [16, 17, 2, 3, 18, 19, 20, 21, 6, 22] rfl rfl) (goodIn_app (goodIn_cls hi_c_Air_init_X9 gw_X9) (goodIn_nil))
set_option maxHeartbeats 4000000 in
set_option maxRecDepth 100000 in
/-- a new Air, silent -/
theorem c_Air_init (l : Launch) (D : va_G) (K : Nat → ClassId) (h : Nat) : MG l yX0_init wp_c_Air_init ({ frames := 2, cells := 27, slots := 561, locals := 35 }) D (tysA K) [.ref h] [(h, .inr (0, [.null, .null, .null, .null, .null, .null, .null, .int 0, .int 0, .int 0]))] (Qv D (fun _ : Nat × Nat × Nat × Nat × Nat × Nat × Nat × Nat × Nat => True) (fun u => [(h, .inr (0, [.ref u.1, .ref u.2.1, .ref u.2.2.1, .ref u.2.2.2.1, .ref u.2.2.2.2.1, .ref u.2.2.2.2.2.1, .ref u.2.2.2.2.2.2.1, .int 0, .int 0, .int 0])), (u.2.2.1, .inl (K 6, 2, .inr (.inr (.inr (.inr (va_up (va_up (fun _ => none) 0 (some u.2.2.2.2.2.2.2.1)) 1 (some u.2.2.2.2.2.2.2.2))))))), (u.2.2.2.2.2.2.2.1, .inl (K 0, 64, .inl (fun _ => 0))), (u.2.2.2.2.2.2.2.2, .inl (K 0, 64, .inl (fun _ => 0))), (u.2.2.2.1, .inl (K 0, 2, .inl (fun _ => 0))), (u.2.2.2.2.1, .inl (K 0, 2, .inl (fun _ => 0)))])) 27 561 := by
  refine mg_of (cc := cX0_init) (maxL := 2) (ret := none) (by decide +kernel) rfl (Nat.le_of_ble_eq_true rfl) ?_
  intro p e s m below meth c A B hr hlk hnam
  show V _ _ _ _ _ _ _ _ _ _ _ _ _ _ _ _ [(0, .ref h)] _ _
  refine v_aload_n B dX0_init_0 rfl rfl ?_
  refine v_objInit B (List.mem_of_getElem? (i := 1) rfl) (List.mem_of_getElem? (i := 2) rfl) (List.mem_of_getElem? (i := 3) rfl) dX0_init_1 (by decide +kernel) (Nat.le_of_ble_eq_true rfl) ?_
  refine v_aload_n B dX0_init_4 rfl rfl ?_
  refine v_bipush B (v := 8) dX0_init_5 (by decide +kernel) ?_
  refine v_newq B (C := RX9) (cA := K 4) (t0 := 4) (N' := 8) (List.mem_of_getElem? (i := 4) rfl) B.2.2.2.2.2.1.2.2.1 rfl (by decide +kernel) (by decide +kernel) (by decide +kernel) (by decide +kernel) (by decide +kernel) dX0_init_7 (fun q_1 => ?_)
  show V _ _ _ _ _ _ _ _ _ _ _ _ _ _ (1, 8) [(h, .inr (0, [.null, .null, .null, .null, .null, .null, .null, .int 0, .int 0, .int 0])), (q_1, .inl (K 4, 8, .inr (.inr (.inr (.inr (fun _ => none))))))] _ _ _
  refine v_putF B (C := RX0) (T := TX0) (N := 10) (ci := 0) (k0 := 0) hi_c_Air_init_X0 rfl rfl 0 (by decide +kernel) tyX0 tyX0_ok nmX0 (List.mem_of_getElem? (i := 5) rfl) rfl hnam rfl (ty := .array (.object "LowEnergy$Row")) (tyX0_ok 0 (by decide +kernel)) rfl rfl (Nat.le_of_ble_eq_true rfl) (w' := [(h, .inr (0, [.ref q_1, .null, .null, .null, .null, .null, .null, .int 0, .int 0, .int 0])), (q_1, .inl (K 4, 8, .inr (.inr (.inr (.inr (fun _ => none))))))]) rfl dX0_init_10 ?_
  refine v_aload_n B dX0_init_13 rfl rfl ?_
  refine v_bipush B (v := 8) dX0_init_14 (by decide +kernel) ?_
  refine v_newa_int B (cA := K 0) (t0 := 0) (N' := 8) (List.mem_of_getElem? (i := 6) rfl) rfl (by decide +kernel) (by decide +kernel) (by decide +kernel) (by decide +kernel) (by decide +kernel) dX0_init_16 (fun q_2 => ?_)
  show V _ _ _ _ _ _ _ _ _ _ _ _ _ _ (2, 16) [(h, .inr (0, [.ref q_1, .null, .null, .null, .null, .null, .null, .int 0, .int 0, .int 0])), (q_1, .inl (K 4, 8, .inr (.inr (.inr (.inr (fun _ => none)))))), (q_2, .inl (K 0, 8, .inl (fun _ => 0)))] _ _ _
  refine v_putF B (C := RX0) (T := TX0) (N := 10) (ci := 0) (k0 := 0) hi_c_Air_init_X0 rfl rfl 1 (by decide +kernel) tyX0 tyX0_ok nmX0 (List.mem_of_getElem? (i := 7) rfl) rfl hnam rfl (ty := .array .int) (tyX0_ok 1 (by decide +kernel)) rfl rfl (Nat.le_of_ble_eq_true rfl) (w' := [(h, .inr (0, [.ref q_1, .ref q_2, .null, .null, .null, .null, .null, .int 0, .int 0, .int 0])), (q_1, .inl (K 4, 8, .inr (.inr (.inr (.inr (fun _ => none)))))), (q_2, .inl (K 0, 8, .inl (fun _ => 0)))]) rfl dX0_init_18 ?_
  refine v_aload_n B dX0_init_21 rfl rfl ?_
  refine v_iconst B (v := 2) dX0_init_22 (by decide +kernel) ?_
  refine v_bipush B (v := 64) dX0_init_23 (by decide +kernel) ?_
  refine v_mna2 B (K' := 64) (z := (64, .inl (fun _ => 0))) (t0 := 0) (t1 := 6) (cA := K 6) (cI := K 0) (List.mem_of_getElem? (i := 8) rfl) (List.mem_of_getElem? (i := 6) rfl) rfl rfl (by decide +kernel) (by decide +kernel) (by decide +kernel) (by decide +kernel) (by decide +kernel) (by decide +kernel) (by decide +kernel) (fun _ => rfl) dX0_init_25 (fun q_3 q_4 q_5 => ?_)
  show V _ _ _ _ _ _ _ _ _ _ _ _ _ _ (5, 146) [(h, .inr (0, [.ref q_1, .ref q_2, .null, .null, .null, .null, .null, .int 0, .int 0, .int 0])), (q_1, .inl (K 4, 8, .inr (.inr (.inr (.inr (fun _ => none)))))), (q_2, .inl (K 0, 8, .inl (fun _ => 0))), (q_3, .inl (K 6, 2, .inr (.inr (.inr (.inr (va_up (va_up (fun _ => none) 0 (some q_4)) 1 (some q_5))))))), (q_4, .inl (K 0, 64, .inl (fun _ => 0))), (q_5, .inl (K 0, 64, .inl (fun _ => 0)))] _ _ _
  refine v_putF B (C := RX0) (T := TX0) (N := 10) (ci := 0) (k0 := 0) hi_c_Air_init_X0 rfl rfl 2 (by decide +kernel) tyX0 tyX0_ok nmX0 (List.mem_of_getElem? (i := 9) rfl) rfl hnam rfl (ty := .array (.array .int)) (tyX0_ok 2 (by decide +kernel)) rfl rfl (Nat.le_of_ble_eq_true rfl) (w' := [(h, .inr (0, [.ref q_1, .ref q_2, .ref q_3, .null, .null, .null, .null, .int 0, .int 0, .int 0])), (q_1, .inl (K 4, 8, .inr (.inr (.inr (.inr (fun _ => none)))))), (q_2, .inl (K 0, 8, .inl (fun _ => 0))), (q_3, .inl (K 6, 2, .inr (.inr (.inr (.inr (va_up (va_up (fun _ => none) 0 (some q_4)) 1 (some q_5))))))), (q_4, .inl (K 0, 64, .inl (fun _ => 0))), (q_5, .inl (K 0, 64, .inl (fun _ => 0)))]) rfl dX0_init_29 ?_
  refine v_aload_n B dX0_init_32 rfl rfl ?_
  refine v_iconst B (v := 2) dX0_init_33 (by decide +kernel) ?_
  refine v_newa_int B (cA := K 0) (t0 := 0) (N' := 2) (List.mem_of_getElem? (i := 6) rfl) rfl (by decide +kernel) (by decide +kernel) (by decide +kernel) (by decide +kernel) (by decide +kernel) dX0_init_34 (fun q_6 => ?_)
  show V _ _ _ _ _ _ _ _ _ _ _ _ _ _ (6, 148) [(h, .inr (0, [.ref q_1, .ref q_2, .ref q_3, .null, .null, .null, .null, .int 0, .int 0, .int 0])), (q_1, .inl (K 4, 8, .inr (.inr (.inr (.inr (fun _ => none)))))), (q_2, .inl (K 0, 8, .inl (fun _ => 0))), (q_3, .inl (K 6, 2, .inr (.inr (.inr (.inr (va_up (va_up (fun _ => none) 0 (some q_4)) 1 (some q_5))))))), (q_4, .inl (K 0, 64, .inl (fun _ => 0))), (q_5, .inl (K 0, 64, .inl (fun _ => 0))), (q_6, .inl (K 0, 2, .inl (fun _ => 0)))] _ _ _
  refine v_putF B (C := RX0) (T := TX0) (N := 10) (ci := 0) (k0 := 0) hi_c_Air_init_X0 rfl rfl 3 (by decide +kernel) tyX0 tyX0_ok nmX0 (List.mem_of_getElem? (i := 10) rfl) rfl hnam rfl (ty := .array .int) (tyX0_ok 3 (by decide +kernel)) rfl rfl (Nat.le_of_ble_eq_true rfl) (w' := [(h, .inr (0, [.ref q_1, .ref q_2, .ref q_3, .ref q_6, .null, .null, .null, .int 0, .int 0, .int 0])), (q_1, .inl (K 4, 8, .inr (.inr (.inr (.inr (fun _ => none)))))), (q_2, .inl (K 0, 8, .inl (fun _ => 0))), (q_3, .inl (K 6, 2, .inr (.inr (.inr (.inr (va_up (va_up (fun _ => none) 0 (some q_4)) 1 (some q_5))))))), (q_4, .inl (K 0, 64, .inl (fun _ => 0))), (q_5, .inl (K 0, 64, .inl (fun _ => 0))), (q_6, .inl (K 0, 2, .inl (fun _ => 0)))]) rfl dX0_init_36 ?_
  refine v_aload_n B dX0_init_39 rfl rfl ?_
  refine v_iconst B (v := 2) dX0_init_40 (by decide +kernel) ?_
  refine v_newa_int B (cA := K 0) (t0 := 0) (N' := 2) (List.mem_of_getElem? (i := 6) rfl) rfl (by decide +kernel) (by decide +kernel) (by decide +kernel) (by decide +kernel) (by decide +kernel) dX0_init_41 (fun q_7 => ?_)
  show V _ _ _ _ _ _ _ _ _ _ _ _ _ _ (7, 150) [(h, .inr (0, [.ref q_1, .ref q_2, .ref q_3, .ref q_6, .null, .null, .null, .int 0, .int 0, .int 0])), (q_1, .inl (K 4, 8, .inr (.inr (.inr (.inr (fun _ => none)))))), (q_2, .inl (K 0, 8, .inl (fun _ => 0))), (q_3, .inl (K 6, 2, .inr (.inr (.inr (.inr (va_up (va_up (fun _ => none) 0 (some q_4)) 1 (some q_5))))))), (q_4, .inl (K 0, 64, .inl (fun _ => 0))), (q_5, .inl (K 0, 64, .inl (fun _ => 0))), (q_6, .inl (K 0, 2, .inl (fun _ => 0))), (q_7, .inl (K 0, 2, .inl (fun _ => 0)))] _ _ _
  refine v_putF B (C := RX0) (T := TX0) (N := 10) (ci := 0) (k0 := 0) hi_c_Air_init_X0 rfl rfl 4 (by decide +kernel) tyX0 tyX0_ok nmX0 (List.mem_of_getElem? (i := 11) rfl) rfl hnam rfl (ty := .array .int) (tyX0_ok 4 (by decide +kernel)) rfl rfl (Nat.le_of_ble_eq_true rfl) (w' := [(h, .inr (0, [.ref q_1, .ref q_2, .ref q_3, .ref q_6, .ref q_7, .null, .null, .int 0, .int 0, .int 0])), (q_1, .inl (K 4, 8, .inr (.inr (.inr (.inr (fun _ => none)))))), (q_2, .inl (K 0, 8, .inl (fun _ => 0))), (q_3, .inl (K 6, 2, .inr (.inr (.inr (.inr (va_up (va_up (fun _ => none) 0 (some q_4)) 1 (some q_5))))))), (q_4, .inl (K 0, 64, .inl (fun _ => 0))), (q_5, .inl (K 0, 64, .inl (fun _ => 0))), (q_6, .inl (K 0, 2, .inl (fun _ => 0))), (q_7, .inl (K 0, 2, .inl (fun _ => 0)))]) rfl dX0_init_43 ?_
  refine v_aload_n B dX0_init_46 rfl rfl ?_
  refine v_new B (C := RX9) (T := TX9) (N := 2) (ci := 9) (fs := [.null, .int 0]) hi_c_Air_init_X9 tyX9 tyX9_ok (List.mem_of_getElem? (i := 4) rfl) (List.mem_of_getElem? (i := 12) rfl) (List.mem_of_getElem? (i := 13) rfl) rfl (by decide +kernel) (by decide +kernel) (by decide +kernel) dX0_init_47 (fun q_8 => ?_)
  show V _ _ _ _ _ _ _ _ _ _ _ _ _ _ (8, 152) [(h, .inr (0, [.ref q_1, .ref q_2, .ref q_3, .ref q_6, .ref q_7, .null, .null, .int 0, .int 0, .int 0])), (q_1, .inl (K 4, 8, .inr (.inr (.inr (.inr (fun _ => none)))))), (q_2, .inl (K 0, 8, .inl (fun _ => 0))), (q_3, .inl (K 6, 2, .inr (.inr (.inr (.inr (va_up (va_up (fun _ => none) 0 (some q_4)) 1 (some q_5))))))), (q_4, .inl (K 0, 64, .inl (fun _ => 0))), (q_5, .inl (K 0, 64, .inl (fun _ => 0))), (q_6, .inl (K 0, 2, .inl (fun _ => 0))), (q_7, .inl (K 0, 2, .inl (fun _ => 0))), (q_8, .inr (9, [.null, .int 0]))] _ _ _
  refine v_dup B dX0_init_50 rfl ?_
  refine v_bipush B (v := 40) dX0_init_51 (by decide +kernel) ?_
  refine v_callIv B (b := q_8) (n := 1) (As := [.int 40]) (rest := [.ref q_8, .ref h]) (wc := [(q_8, .inr (9, [.null, .int 0]))]) (wr := [(h, .inr (0, [.ref q_1, .ref q_2, .ref q_3, .ref q_6, .ref q_7, .null, .null, .int 0, .int 0, .int 0])), (q_1, .inl (K 4, 8, .inr (.inr (.inr (.inr (fun _ => none)))))), (q_2, .inl (K 0, 8, .inl (fun _ => 0))), (q_3, .inl (K 6, 2, .inr (.inr (.inr (.inr (va_up (va_up (fun _ => none) 0 (some q_4)) 1 (some q_5))))))), (q_4, .inl (K 0, 64, .inl (fun _ => 0))), (q_5, .inl (K 0, 64, .inl (fun _ => 0))), (q_6, .inl (K 0, 2, .inl (fun _ => 0))), (q_7, .inl (K 0, 2, .inl (fun _ => 0)))]) (c_RowN_init_40 l D K q_8) gd_c_Air_init_c_RowN_init_40_32 rfl rfl rfl (by decide +kernel) ⟨by decide +kernel, by decide +kernel⟩ (List.mem_of_getElem? (i := 13) rfl) (List.mem_of_getElem? (i := 14) rfl) (List.mem_of_getElem? (i := 15) rfl) rfl (sp_pl [8] [0, 1, 2, 3, 4, 5, 6, 7] rfl rfl rfl rfl rfl) rfl rfl (Nat.le_of_ble_eq_true rfl) dX0_init_53 ⟨by decide +kernel, by decide +kernel⟩ (fun u_9 hp_10 => ?_)
  obtain ⟨a_12, rfl⟩ : ∃ z, z = u_9 := ⟨_, rfl⟩
  show V _ _ _ _ _ _ _ _ _ _ _ _ _ _ (9, 192) [(h, .inr (0, [.ref q_1, .ref q_2, .ref q_3, .ref q_6, .ref q_7, .null, .null, .int 0, .int 0, .int 0])), (q_1, .inl (K 4, 8, .inr (.inr (.inr (.inr (fun _ => none)))))), (q_2, .inl (K 0, 8, .inl (fun _ => 0))), (q_3, .inl (K 6, 2, .inr (.inr (.inr (.inr (va_up (va_up (fun _ => none) 0 (some q_4)) 1 (some q_5))))))), (q_4, .inl (K 0, 64, .inl (fun _ => 0))), (q_5, .inl (K 0, 64, .inl (fun _ => 0))), (q_6, .inl (K 0, 2, .inl (fun _ => 0))), (q_7, .inl (K 0, 2, .inl (fun _ => 0))), (q_8, .inr (9, [.ref a_12, .int 0]))] _ _ _
  refine v_putF B (C := RX0) (T := TX0) (N := 10) (ci := 0) (k0 := 0) hi_c_Air_init_X0 rfl rfl 5 (by decide +kernel) tyX0 tyX0_ok nmX0 (List.mem_of_getElem? (i := 23) rfl) rfl hnam rfl (ty := .object "LowEnergy$Row") (tyX0_ok 5 (by decide +kernel)) rfl rfl (Nat.le_of_ble_eq_true rfl) (w' := [(h, .inr (0, [.ref q_1, .ref q_2, .ref q_3, .ref q_6, .ref q_7, .ref q_8, .null, .int 0, .int 0, .int 0])), (q_1, .inl (K 4, 8, .inr (.inr (.inr (.inr (fun _ => none)))))), (q_2, .inl (K 0, 8, .inl (fun _ => 0))), (q_3, .inl (K 6, 2, .inr (.inr (.inr (.inr (va_up (va_up (fun _ => none) 0 (some q_4)) 1 (some q_5))))))), (q_4, .inl (K 0, 64, .inl (fun _ => 0))), (q_5, .inl (K 0, 64, .inl (fun _ => 0))), (q_6, .inl (K 0, 2, .inl (fun _ => 0))), (q_7, .inl (K 0, 2, .inl (fun _ => 0))), (q_8, .inr (9, [.ref a_12, .int 0]))]) rfl dX0_init_56 ?_
  refine v_aload_n B dX0_init_59 rfl rfl ?_
  refine v_new B (C := RX9) (T := TX9) (N := 2) (ci := 9) (fs := [.null, .int 0]) hi_c_Air_init_X9 tyX9 tyX9_ok (List.mem_of_getElem? (i := 4) rfl) (List.mem_of_getElem? (i := 12) rfl) (List.mem_of_getElem? (i := 13) rfl) rfl (by decide +kernel) (by decide +kernel) (by decide +kernel) dX0_init_60 (fun q_13 => ?_)
  show V _ _ _ _ _ _ _ _ _ _ _ _ _ _ (10, 194) [(h, .inr (0, [.ref q_1, .ref q_2, .ref q_3, .ref q_6, .ref q_7, .ref q_8, .null, .int 0, .int 0, .int 0])), (q_1, .inl (K 4, 8, .inr (.inr (.inr (.inr (fun _ => none)))))), (q_2, .inl (K 0, 8, .inl (fun _ => 0))), (q_3, .inl (K 6, 2, .inr (.inr (.inr (.inr (va_up (va_up (fun _ => none) 0 (some q_4)) 1 (some q_5))))))), (q_4, .inl (K 0, 64, .inl (fun _ => 0))), (q_5, .inl (K 0, 64, .inl (fun _ => 0))), (q_6, .inl (K 0, 2, .inl (fun _ => 0))), (q_7, .inl (K 0, 2, .inl (fun _ => 0))), (q_8, .inr (9, [.ref a_12, .int 0])), (q_13, .inr (9, [.null, .int 0]))] _ _ _
  refine v_dup B dX0_init_63 rfl ?_
  refine v_bipush B (v := 31) dX0_init_64 (by decide +kernel) ?_
  refine v_callIv B (b := q_13) (n := 1) (As := [.int 31]) (rest := [.ref q_13, .ref h]) (wc := [(q_13, .inr (9, [.null, .int 0]))]) (wr := [(h, .inr (0, [.ref q_1, .ref q_2, .ref q_3, .ref q_6, .ref q_7, .ref q_8, .null, .int 0, .int 0, .int 0])), (q_1, .inl (K 4, 8, .inr (.inr (.inr (.inr (fun _ => none)))))), (q_2, .inl (K 0, 8, .inl (fun _ => 0))), (q_3, .inl (K 6, 2, .inr (.inr (.inr (.inr (va_up (va_up (fun _ => none) 0 (some q_4)) 1 (some q_5))))))), (q_4, .inl (K 0, 64, .inl (fun _ => 0))), (q_5, .inl (K 0, 64, .inl (fun _ => 0))), (q_6, .inl (K 0, 2, .inl (fun _ => 0))), (q_7, .inl (K 0, 2, .inl (fun _ => 0))), (q_8, .inr (9, [.ref a_12, .int 0]))]) (c_RowN_init_31 l D K q_13) gd_c_Air_init_c_RowN_init_31_32 rfl rfl rfl (by decide +kernel) ⟨by decide +kernel, by decide +kernel⟩ (List.mem_of_getElem? (i := 13) rfl) (List.mem_of_getElem? (i := 14) rfl) (List.mem_of_getElem? (i := 15) rfl) rfl (sp_pl [9] [0, 1, 2, 3, 4, 5, 6, 7, 8] rfl rfl rfl rfl rfl) rfl rfl (Nat.le_of_ble_eq_true rfl) dX0_init_66 ⟨by decide +kernel, by decide +kernel⟩ (fun u_14 hp_15 => ?_)
  obtain ⟨a_17, rfl⟩ : ∃ z, z = u_14 := ⟨_, rfl⟩
  show V _ _ _ _ _ _ _ _ _ _ _ _ _ _ (11, 225) [(h, .inr (0, [.ref q_1, .ref q_2, .ref q_3, .ref q_6, .ref q_7, .ref q_8, .null, .int 0, .int 0, .int 0])), (q_1, .inl (K 4, 8, .inr (.inr (.inr (.inr (fun _ => none)))))), (q_2, .inl (K 0, 8, .inl (fun _ => 0))), (q_3, .inl (K 6, 2, .inr (.inr (.inr (.inr (va_up (va_up (fun _ => none) 0 (some q_4)) 1 (some q_5))))))), (q_4, .inl (K 0, 64, .inl (fun _ => 0))), (q_5, .inl (K 0, 64, .inl (fun _ => 0))), (q_6, .inl (K 0, 2, .inl (fun _ => 0))), (q_7, .inl (K 0, 2, .inl (fun _ => 0))), (q_8, .inr (9, [.ref a_12, .int 0])), (q_13, .inr (9, [.ref a_17, .int 0]))] _ _ _
  refine v_putF B (C := RX0) (T := TX0) (N := 10) (ci := 0) (k0 := 0) hi_c_Air_init_X0 rfl rfl 6 (by decide +kernel) tyX0 tyX0_ok nmX0 (List.mem_of_getElem? (i := 24) rfl) rfl hnam rfl (ty := .object "LowEnergy$Row") (tyX0_ok 6 (by decide +kernel)) rfl rfl (Nat.le_of_ble_eq_true rfl) (w' := [(h, .inr (0, [.ref q_1, .ref q_2, .ref q_3, .ref q_6, .ref q_7, .ref q_8, .ref q_13, .int 0, .int 0, .int 0])), (q_1, .inl (K 4, 8, .inr (.inr (.inr (.inr (fun _ => none)))))), (q_2, .inl (K 0, 8, .inl (fun _ => 0))), (q_3, .inl (K 6, 2, .inr (.inr (.inr (.inr (va_up (va_up (fun _ => none) 0 (some q_4)) 1 (some q_5))))))), (q_4, .inl (K 0, 64, .inl (fun _ => 0))), (q_5, .inl (K 0, 64, .inl (fun _ => 0))), (q_6, .inl (K 0, 2, .inl (fun _ => 0))), (q_7, .inl (K 0, 2, .inl (fun _ => 0))), (q_8, .inr (9, [.ref a_12, .int 0])), (q_13, .inr (9, [.ref a_17, .int 0]))]) rfl dX0_init_69 ?_
  refine v_iconst B (v := 0) dX0_init_72 (by decide +kernel) ?_
  refine v_istore_n B (lv' := [(1, .int 0), (0, .ref h)]) dX0_init_73 rfl (by decide +kernel) rfl ?_
  refine v_iload_n B dX0_init_74 rfl rfl ?_
  refine v_aload_n B dX0_init_75 rfl rfl ?_
  refine v_get B (C := RX0) (T := TX0) (N := 10) (ci := 0) (k0 := 0) hi_c_Air_init_X0 rfl rfl 0 (by decide +kernel) (List.mem_of_getElem? (i := 5) rfl) rfl dX0_init_76 ?_
  refine v_alen B (k0 := 1) (t0 := 4) (v := 8) rfl rfl rfl dX0_init_79 ?_
  refine v_icmp_ge B (tgt := 104) dX0_init_80 (by decide +kernel) (fun h => absurd h (by decide +kernel)) (fun _ => ?_)
  refine v_aload_n B dX0_init_83 rfl rfl ?_
  refine v_get B (C := RX0) (T := TX0) (N := 10) (ci := 0) (k0 := 0) hi_c_Air_init_X0 rfl rfl 0 (by decide +kernel) (List.mem_of_getElem? (i := 5) rfl) rfl dX0_init_84 ?_
  refine v_iload_n B dX0_init_87 rfl rfl ?_
  refine v_new B (C := RX9) (T := TX9) (N := 2) (ci := 9) (fs := [.null, .int 0]) hi_c_Air_init_X9 tyX9 tyX9_ok (List.mem_of_getElem? (i := 4) rfl) (List.mem_of_getElem? (i := 12) rfl) (List.mem_of_getElem? (i := 13) rfl) rfl (by decide +kernel) (by decide +kernel) (by decide +kernel) dX0_init_88 (fun q_18 => ?_)
  show V _ _ _ _ _ _ _ _ _ _ _ _ _ _ (12, 227) [(h, .inr (0, [.ref q_1, .ref q_2, .ref q_3, .ref q_6, .ref q_7, .ref q_8, .ref q_13, .int 0, .int 0, .int 0])), (q_1, .inl (K 4, 8, .inr (.inr (.inr (.inr (fun _ => none)))))), (q_2, .inl (K 0, 8, .inl (fun _ => 0))), (q_3, .inl (K 6, 2, .inr (.inr (.inr (.inr (va_up (va_up (fun _ => none) 0 (some q_4)) 1 (some q_5))))))), (q_4, .inl (K 0, 64, .inl (fun _ => 0))), (q_5, .inl (K 0, 64, .inl (fun _ => 0))), (q_6, .inl (K 0, 2, .inl (fun _ => 0))), (q_7, .inl (K 0, 2, .inl (fun _ => 0))), (q_8, .inr (9, [.ref a_12, .int 0])), (q_13, .inr (9, [.ref a_17, .int 0])), (q_18, .inr (9, [.null, .int 0]))] _ _ _
  refine v_dup B dX0_init_91 rfl ?_
  refine v_bipush B (v := 40) dX0_init_92 (by decide +kernel) ?_
  refine v_callIv B (b := q_18) (n := 1) (As := [.int 40]) (rest := [.ref q_18, .int 0, .ref q_1]) (wc := [(q_18, .inr (9, [.null, .int 0]))]) (wr := [(h, .inr (0, [.ref q_1, .ref q_2, .ref q_3, .ref q_6, .ref q_7, .ref q_8, .ref q_13, .int 0, .int 0, .int 0])), (q_1, .inl (K 4, 8, .inr (.inr (.inr (.inr (fun _ => none)))))), (q_2, .inl (K 0, 8, .inl (fun _ => 0))), (q_3, .inl (K 6, 2, .inr (.inr (.inr (.inr (va_up (va_up (fun _ => none) 0 (some q_4)) 1 (some q_5))))))), (q_4, .inl (K 0, 64, .inl (fun _ => 0))), (q_5, .inl (K 0, 64, .inl (fun _ => 0))), (q_6, .inl (K 0, 2, .inl (fun _ => 0))), (q_7, .inl (K 0, 2, .inl (fun _ => 0))), (q_8, .inr (9, [.ref a_12, .int 0])), (q_13, .inr (9, [.ref a_17, .int 0]))]) (c_RowN_init_40 l D K q_18) gd_c_Air_init_c_RowN_init_40_32 rfl rfl rfl (by decide +kernel) ⟨by decide +kernel, by decide +kernel⟩ (List.mem_of_getElem? (i := 13) rfl) (List.mem_of_getElem? (i := 14) rfl) (List.mem_of_getElem? (i := 15) rfl) rfl (sp_pl [10] [0, 1, 2, 3, 4, 5, 6, 7, 8, 9] rfl rfl rfl rfl rfl) rfl rfl (Nat.le_of_ble_eq_true rfl) dX0_init_94 ⟨by decide +kernel, by decide +kernel⟩ (fun u_19 hp_20 => ?_)
  obtain ⟨a_22, rfl⟩ : ∃ z, z = u_19 := ⟨_, rfl⟩
  show V _ _ _ _ _ _ _ _ _ _ _ _ _ _ (13, 267) [(h, .inr (0, [.ref q_1, .ref q_2, .ref q_3, .ref q_6, .ref q_7, .ref q_8, .ref q_13, .int 0, .int 0, .int 0])), (q_1, .inl (K 4, 8, .inr (.inr (.inr (.inr (fun _ => none)))))), (q_2, .inl (K 0, 8, .inl (fun _ => 0))), (q_3, .inl (K 6, 2, .inr (.inr (.inr (.inr (va_up (va_up (fun _ => none) 0 (some q_4)) 1 (some q_5))))))), (q_4, .inl (K 0, 64, .inl (fun _ => 0))), (q_5, .inl (K 0, 64, .inl (fun _ => 0))), (q_6, .inl (K 0, 2, .inl (fun _ => 0))), (q_7, .inl (K 0, 2, .inl (fun _ => 0))), (q_8, .inr (9, [.ref a_12, .int 0])), (q_13, .inr (9, [.ref a_17, .int 0])), (q_18, .inr (9, [.ref a_22, .int 0]))] _ _ _
  refine v_aast B (k0 := 1) (t0 := 4) (k1 := 10) (r := (RX9, TX9, 2)) (w' := [(h, .inr (0, [.ref q_1, .ref q_2, .ref q_3, .ref q_6, .ref q_7, .ref q_8, .ref q_13, .int 0, .int 0, .int 0])), (q_1, .inl (K 4, 8, .inr (.inr (.inr (.inr (va_up (fun _ => none) (0 : Int32).toNatClampNeg (some q_18))))))), (q_2, .inl (K 0, 8, .inl (fun _ => 0))), (q_3, .inl (K 6, 2, .inr (.inr (.inr (.inr (va_up (va_up (fun _ => none) 0 (some q_4)) 1 (some q_5))))))), (q_4, .inl (K 0, 64, .inl (fun _ => 0))), (q_5, .inl (K 0, 64, .inl (fun _ => 0))), (q_6, .inl (K 0, 2, .inl (fun _ => 0))), (q_7, .inl (K 0, 2, .inl (fun _ => 0))), (q_8, .inr (9, [.ref a_12, .int 0])), (q_13, .inr (9, [.ref a_17, .int 0])), (q_18, .inr (9, [.ref a_22, .int 0]))]) rfl rfl rfl rfl (vpi (by decide +kernel)) rfl dX0_init_97 ?_
  generalize va_up (fun _ => none) (0 : Int32).toNatClampNeg (some q_18) = f_23
  refine v_forget (wc := [(h, .inr (0, [.ref q_1, .ref q_2, .ref q_3, .ref q_6, .ref q_7, .ref q_8, .ref q_13, .int 0, .int 0, .int 0])), (q_1, .inl (K 4, 8, .inr (.inr (.inr (.inr f_23))))), (q_3, .inl (K 6, 2, .inr (.inr (.inr (.inr (va_up (va_up (fun _ => none) 0 (some q_4)) 1 (some q_5))))))), (q_4, .inl (K 0, 64, .inl (fun _ => 0))), (q_5, .inl (K 0, 64, .inl (fun _ => 0))), (q_6, .inl (K 0, 2, .inl (fun _ => 0))), (q_7, .inl (K 0, 2, .inl (fun _ => 0)))]) (wr := []) (sp_pl [0, 1, 3, 4, 5, 6, 7] [] rfl rfl rfl rfl rfl) ?_
  refine v_iinc B (k := 0) (v := 1) (lv' := [(1, .int 1), (0, .ref h)]) dX0_init_98 rfl (by decide +kernel) (by decide +kernel) rfl ?_
  refine v_goto B (tgt := 74) dX0_init_101 (by decide +kernel) ?_
  refine v_iload_n B dX0_init_74 rfl rfl ?_
  refine v_aload_n B dX0_init_75 rfl rfl ?_
  refine v_get B (C := RX0) (T := TX0) (N := 10) (ci := 0) (k0 := 0) hi_c_Air_init_X0 rfl rfl 0 (by decide +kernel) (List.mem_of_getElem? (i := 5) rfl) rfl dX0_init_76 ?_
  refine v_alen B (k0 := 1) (t0 := 4) (v := 8) rfl rfl rfl dX0_init_79 ?_
  refine v_icmp_ge B (tgt := 104) dX0_init_80 (by decide +kernel) (fun h => absurd h (by decide +kernel)) (fun _ => ?_)
  refine v_aload_n B dX0_init_83 rfl rfl ?_
  refine v_get B (C := RX0) (T := TX0) (N := 10) (ci := 0) (k0 := 0) hi_c_Air_init_X0 rfl rfl 0 (by decide +kernel) (List.mem_of_getElem? (i := 5) rfl) rfl dX0_init_84 ?_
  refine v_iload_n B dX0_init_87 rfl rfl ?_
  refine v_new B (C := RX9) (T := TX9) (N := 2) (ci := 9) (fs := [.null, .int 0]) hi_c_Air_init_X9 tyX9 tyX9_ok (List.mem_of_getElem? (i := 4) rfl) (List.mem_of_getElem? (i := 12) rfl) (List.mem_of_getElem? (i := 13) rfl) rfl (by decide +kernel) (by decide +kernel) (by decide +kernel) dX0_init_88 (fun q_24 => ?_)
  show V _ _ _ _ _ _ _ _ _ _ _ _ _ _ (14, 269) [(h, .inr (0, [.ref q_1, .ref q_2, .ref q_3, .ref q_6, .ref q_7, .ref q_8, .ref q_13, .int 0, .int 0, .int 0])), (q_1, .inl (K 4, 8, .inr (.inr (.inr (.inr f_23))))), (q_3, .inl (K 6, 2, .inr (.inr (.inr (.inr (va_up (va_up (fun _ => none) 0 (some q_4)) 1 (some q_5))))))), (q_4, .inl (K 0, 64, .inl (fun _ => 0))), (q_5, .inl (K 0, 64, .inl (fun _ => 0))), (q_6, .inl (K 0, 2, .inl (fun _ => 0))), (q_7, .inl (K 0, 2, .inl (fun _ => 0))), (q_24, .inr (9, [.null, .int 0]))] _ _ _
  refine v_dup B dX0_init_91 rfl ?_
  refine v_bipush B (v := 40) dX0_init_92 (by decide +kernel) ?_
  refine v_callIv B (b := q_24) (n := 1) (As := [.int 40]) (rest := [.ref q_24, .int 1, .ref q_1]) (wc := [(q_24, .inr (9, [.null, .int 0]))]) (wr := [(h, .inr (0, [.ref q_1, .ref q_2, .ref q_3, .ref q_6, .ref q_7, .ref q_8, .ref q_13, .int 0, .int 0, .int 0])), (q_1, .inl (K 4, 8, .inr (.inr (.inr (.inr f_23))))), (q_3, .inl (K 6, 2, .inr (.inr (.inr (.inr (va_up (va_up (fun _ => none) 0 (some q_4)) 1 (some q_5))))))), (q_4, .inl (K 0, 64, .inl (fun _ => 0))), (q_5, .inl (K 0, 64, .inl (fun _ => 0))), (q_6, .inl (K 0, 2, .inl (fun _ => 0))), (q_7, .inl (K 0, 2, .inl (fun _ => 0)))]) (c_RowN_init_40 l D K q_24) gd_c_Air_init_c_RowN_init_40_32 rfl rfl rfl (by decide +kernel) ⟨by decide +kernel, by decide +kernel⟩ (List.mem_of_getElem? (i := 13) rfl) (List.mem_of_getElem? (i := 14) rfl) (List.mem_of_getElem? (i := 15) rfl) rfl (sp_pl [7] [0, 1, 2, 3, 4, 5, 6] rfl rfl rfl rfl rfl) rfl rfl (Nat.le_of_ble_eq_true rfl) dX0_init_94 ⟨by decide +kernel, by decide +kernel⟩ (fun u_25 hp_26 => ?_)
  obtain ⟨a_28, rfl⟩ : ∃ z, z = u_25 := ⟨_, rfl⟩
  show V _ _ _ _ _ _ _ _ _ _ _ _ _ _ (15, 309) [(h, .inr (0, [.ref q_1, .ref q_2, .ref q_3, .ref q_6, .ref q_7, .ref q_8, .ref q_13, .int 0, .int 0, .int 0])), (q_1, .inl (K 4, 8, .inr (.inr (.inr (.inr f_23))))), (q_3, .inl (K 6, 2, .inr (.inr (.inr (.inr (va_up (va_up (fun _ => none) 0 (some q_4)) 1 (some q_5))))))), (q_4, .inl (K 0, 64, .inl (fun _ => 0))), (q_5, .inl (K 0, 64, .inl (fun _ => 0))), (q_6, .inl (K 0, 2, .inl (fun _ => 0))), (q_7, .inl (K 0, 2, .inl (fun _ => 0))), (q_24, .inr (9, [.ref a_28, .int 0]))] _ _ _
  refine v_aast B (k0 := 1) (t0 := 4) (k1 := 7) (r := (RX9, TX9, 2)) (w' := [(h, .inr (0, [.ref q_1, .ref q_2, .ref q_3, .ref q_6, .ref q_7, .ref q_8, .ref q_13, .int 0, .int 0, .int 0])), (q_1, .inl (K 4, 8, .inr (.inr (.inr (.inr (va_up f_23 (1 : Int32).toNatClampNeg (some q_24))))))), (q_3, .inl (K 6, 2, .inr (.inr (.inr (.inr (va_up (va_up (fun _ => none) 0 (some q_4)) 1 (some q_5))))))), (q_4, .inl (K 0, 64, .inl (fun _ => 0))), (q_5, .inl (K 0, 64, .inl (fun _ => 0))), (q_6, .inl (K 0, 2, .inl (fun _ => 0))), (q_7, .inl (K 0, 2, .inl (fun _ => 0))), (q_24, .inr (9, [.ref a_28, .int 0]))]) rfl rfl rfl rfl (vpi (by decide +kernel)) rfl dX0_init_97 ?_
  generalize va_up f_23 (1 : Int32).toNatClampNeg (some q_24) = f_29
  refine v_forget (wc := [(h, .inr (0, [.ref q_1, .ref q_2, .ref q_3, .ref q_6, .ref q_7, .ref q_8, .ref q_13, .int 0, .int 0, .int 0])), (q_1, .inl (K 4, 8, .inr (.inr (.inr (.inr f_29))))), (q_3, .inl (K 6, 2, .inr (.inr (.inr (.inr (va_up (va_up (fun _ => none) 0 (some q_4)) 1 (some q_5))))))), (q_4, .inl (K 0, 64, .inl (fun _ => 0))), (q_5, .inl (K 0, 64, .inl (fun _ => 0))), (q_6, .inl (K 0, 2, .inl (fun _ => 0))), (q_7, .inl (K 0, 2, .inl (fun _ => 0)))]) (wr := []) (sp_pl [0, 1, 2, 3, 4, 5, 6] [] rfl rfl rfl rfl rfl) ?_
  refine v_iinc B (k := 0) (v := 2) (lv' := [(1, .int 2), (0, .ref h)]) dX0_init_98 rfl (by decide +kernel) (by decide +kernel) rfl ?_
  refine v_goto B (tgt := 74) dX0_init_101 (by decide +kernel) ?_
  refine v_iload_n B dX0_init_74 rfl rfl ?_
  refine v_aload_n B dX0_init_75 rfl rfl ?_
  refine v_get B (C := RX0) (T := TX0) (N := 10) (ci := 0) (k0 := 0) hi_c_Air_init_X0 rfl rfl 0 (by decide +kernel) (List.mem_of_getElem? (i := 5) rfl) rfl dX0_init_76 ?_
  refine v_alen B (k0 := 1) (t0 := 4) (v := 8) rfl rfl rfl dX0_init_79 ?_
  refine v_icmp_ge B (tgt := 104) dX0_init_80 (by decide +kernel) (fun h => absurd h (by decide +kernel)) (fun _ => ?_)
  refine v_aload_n B dX0_init_83 rfl rfl ?_
  refine v_get B (C := RX0) (T := TX0) (N := 10) (ci := 0) (k0 := 0) hi_c_Air_init_X0 rfl rfl 0 (by decide +kernel) (List.mem_of_getElem? (i := 5) rfl) rfl dX0_init_84 ?_
  refine v_iload_n B dX0_init_87 rfl rfl ?_
  refine v_new B (C := RX9) (T := TX9) (N := 2) (ci := 9) (fs := [.null, .int 0]) hi_c_Air_init_X9 tyX9 tyX9_ok (List.mem_of_getElem? (i := 4) rfl) (List.mem_of_getElem? (i := 12) rfl) (List.mem_of_getElem? (i := 13) rfl) rfl (by decide +kernel) (by decide +kernel) (by decide +kernel) dX0_init_88 (fun q_30 => ?_)
  show V _ _ _ _ _ _ _ _ _ _ _ _ _ _ (16, 311) [(h, .inr (0, [.ref q_1, .ref q_2, .ref q_3, .ref q_6, .ref q_7, .ref q_8, .ref q_13, .int 0, .int 0, .int 0])), (q_1, .inl (K 4, 8, .inr (.inr (.inr (.inr f_29))))), (q_3, .inl (K 6, 2, .inr (.inr (.inr (.inr (va_up (va_up (fun _ => none) 0 (some q_4)) 1 (some q_5))))))), (q_4, .inl (K 0, 64, .inl (fun _ => 0))), (q_5, .inl (K 0, 64, .inl (fun _ => 0))), (q_6, .inl (K 0, 2, .inl (fun _ => 0))), (q_7, .inl (K 0, 2, .inl (fun _ => 0))), (q_30, .inr (9, [.null, .int 0]))] _ _ _
  refine v_dup B dX0_init_91 rfl ?_
  refine v_bipush B (v := 40) dX0_init_92 (by decide +kernel) ?_
  refine v_callIv B (b := q_30) (n := 1) (As := [.int 40]) (rest := [.ref q_30, .int 2, .ref q_1]) (wc := [(q_30, .inr (9, [.null, .int 0]))]) (wr := [(h, .inr (0, [.ref q_1, .ref q_2, .ref q_3, .ref q_6, .ref q_7, .ref q_8, .ref q_13, .int 0, .int 0, .int 0])), (q_1, .inl (K 4, 8, .inr (.inr (.inr (.inr f_29))))), (q_3, .inl (K 6, 2, .inr (.inr (.inr (.inr (va_up (va_up (fun _ => none) 0 (some q_4)) 1 (some q_5))))))), (q_4, .inl (K 0, 64, .inl (fun _ => 0))), (q_5, .inl (K 0, 64, .inl (fun _ => 0))), (q_6, .inl (K 0, 2, .inl (fun _ => 0))), (q_7, .inl (K 0, 2, .inl (fun _ => 0)))]) (c_RowN_init_40 l D K q_30) gd_c_Air_init_c_RowN_init_40_32 rfl rfl rfl (by decide +kernel) ⟨by decide +kernel, by decide +kernel⟩ (List.mem_of_getElem? (i := 13) rfl) (List.mem_of_getElem? (i := 14) rfl) (List.mem_of_getElem? (i := 15) rfl) rfl (sp_pl [7] [0, 1, 2, 3, 4, 5, 6] rfl rfl rfl rfl rfl) rfl rfl (Nat.le_of_ble_eq_true rfl) dX0_init_94 ⟨by decide +kernel, by decide +kernel⟩ (fun u_31 hp_32 => ?_)
  obtain ⟨a_34, rfl⟩ : ∃ z, z = u_31 := ⟨_, rfl⟩
  show V _ _ _ _ _ _ _ _ _ _ _ _ _ _ (17, 351) [(h, .inr (0, [.ref q_1, .ref q_2, .ref q_3, .ref q_6, .ref q_7, .ref q_8, .ref q_13, .int 0, .int 0, .int 0])), (q_1, .inl (K 4, 8, .inr (.inr (.inr (.inr f_29))))), (q_3, .inl (K 6, 2, .inr (.inr (.inr (.inr (va_up (va_up (fun _ => none) 0 (some q_4)) 1 (some q_5))))))), (q_4, .inl (K 0, 64, .inl (fun _ => 0))), (q_5, .inl (K 0, 64, .inl (fun _ => 0))), (q_6, .inl (K 0, 2, .inl (fun _ => 0))), (q_7, .inl (K 0, 2, .inl (fun _ => 0))), (q_30, .inr (9, [.ref a_34, .int 0]))] _ _ _
  refine v_aast B (k0 := 1) (t0 := 4) (k1 := 7) (r := (RX9, TX9, 2)) (w' := [(h, .inr (0, [.ref q_1, .ref q_2, .ref q_3, .ref q_6, .ref q_7, .ref q_8, .ref q_13, .int 0, .int 0, .int 0])), (q_1, .inl (K 4, 8, .inr (.inr (.inr (.inr (va_up f_29 (2 : Int32).toNatClampNeg (some q_30))))))), (q_3, .inl (K 6, 2, .inr (.inr (.inr (.inr (va_up (va_up (fun _ => none) 0 (some q_4)) 1 (some q_5))))))), (q_4, .inl (K 0, 64, .inl (fun _ => 0))), (q_5, .inl (K 0, 64, .inl (fun _ => 0))), (q_6, .inl (K 0, 2, .inl (fun _ => 0))), (q_7, .inl (K 0, 2, .inl (fun _ => 0))), (q_30, .inr (9, [.ref a_34, .int 0]))]) rfl rfl rfl rfl (vpi (by decide +kernel)) rfl dX0_init_97 ?_
  generalize va_up f_29 (2 : Int32).toNatClampNeg (some q_30) = f_35
  refine v_forget (wc := [(h, .inr (0, [.ref q_1, .ref q_2, .ref q_3, .ref q_6, .ref q_7, .ref q_8, .ref q_13, .int 0, .int 0, .int 0])), (q_1, .inl (K 4, 8, .inr (.inr (.inr (.inr f_35))))), (q_3, .inl (K 6, 2, .inr (.inr (.inr (.inr (va_up (va_up (fun _ => none) 0 (some q_4)) 1 (some q_5))))))), (q_4, .inl (K 0, 64, .inl (fun _ => 0))), (q_5, .inl (K 0, 64, .inl (fun _ => 0))), (q_6, .inl (K 0, 2, .inl (fun _ => 0))), (q_7, .inl (K 0, 2, .inl (fun _ => 0)))]) (wr := []) (sp_pl [0, 1, 2, 3, 4, 5, 6] [] rfl rfl rfl rfl rfl) ?_
  refine v_iinc B (k := 0) (v := 3) (lv' := [(1, .int 3), (0, .ref h)]) dX0_init_98 rfl (by decide +kernel) (by decide +kernel) rfl ?_
  refine v_goto B (tgt := 74) dX0_init_101 (by decide +kernel) ?_
  refine v_iload_n B dX0_init_74 rfl rfl ?_
  refine v_aload_n B dX0_init_75 rfl rfl ?_
  refine v_get B (C := RX0) (T := TX0) (N := 10) (ci := 0) (k0 := 0) hi_c_Air_init_X0 rfl rfl 0 (by decide +kernel) (List.mem_of_getElem? (i := 5) rfl) rfl dX0_init_76 ?_
  refine v_alen B (k0 := 1) (t0 := 4) (v := 8) rfl rfl rfl dX0_init_79 ?_
  refine v_icmp_ge B (tgt := 104) dX0_init_80 (by decide +kernel) (fun h => absurd h (by decide +kernel)) (fun _ => ?_)
  refine v_aload_n B dX0_init_83 rfl rfl ?_
  refine v_get B (C := RX0) (T := TX0) (N := 10) (ci := 0) (k0 := 0) hi_c_Air_init_X0 rfl rfl 0 (by decide +kernel) (List.mem_of_getElem? (i := 5) rfl) rfl dX0_init_84 ?_
  refine v_iload_n B dX0_init_87 rfl rfl ?_
  refine v_new B (C := RX9) (T := TX9) (N := 2) (ci := 9) (fs := [.null, .int 0]) hi_c_Air_init_X9 tyX9 tyX9_ok (List.mem_of_getElem? (i := 4) rfl) (List.mem_of_getElem? (i := 12) rfl) (List.mem_of_getElem? (i := 13) rfl) rfl (by decide +kernel) (by decide +kernel) (by decide +kernel) dX0_init_88 (fun q_36 => ?_)
  show V _ _ _ _ _ _ _ _ _ _ _ _ _ _ (18, 353) [(h, .inr (0, [.ref q_1, .ref q_2, .ref q_3, .ref q_6, .ref q_7, .ref q_8, .ref q_13, .int 0, .int 0, .int 0])), (q_1, .inl (K 4, 8, .inr (.inr (.inr (.inr f_35))))), (q_3, .inl (K 6, 2, .inr (.inr (.inr (.inr (va_up (va_up (fun _ => none) 0 (some q_4)) 1 (some q_5))))))), (q_4, .inl (K 0, 64, .inl (fun _ => 0))), (q_5, .inl (K 0, 64, .inl (fun _ => 0))), (q_6, .inl (K 0, 2, .inl (fun _ => 0))), (q_7, .inl (K 0, 2, .inl (fun _ => 0))), (q_36, .inr (9, [.null, .int 0]))] _ _ _
  refine v_dup B dX0_init_91 rfl ?_
  refine v_bipush B (v := 40) dX0_init_92 (by decide +kernel) ?_
  refine v_callIv B (b := q_36) (n := 1) (As := [.int 40]) (rest := [.ref q_36, .int 3, .ref q_1]) (wc := [(q_36, .inr (9, [.null, .int 0]))]) (wr := [(h, .inr (0, [.ref q_1, .ref q_2, .ref q_3, .ref q_6, .ref q_7, .ref q_8, .ref q_13, .int 0, .int 0, .int 0])), (q_1, .inl (K 4, 8, .inr (.inr (.inr (.inr f_35))))), (q_3, .inl (K 6, 2, .inr (.inr (.inr (.inr (va_up (va_up (fun _ => none) 0 (some q_4)) 1 (some q_5))))))), (q_4, .inl (K 0, 64, .inl (fun _ => 0))), (q_5, .inl (K 0, 64, .inl (fun _ => 0))), (q_6, .inl (K 0, 2, .inl (fun _ => 0))), (q_7, .inl (K 0, 2, .inl (fun _ => 0)))]) (c_RowN_init_40 l D K q_36) gd_c_Air_init_c_RowN_init_40_32 rfl rfl rfl (by decide +kernel) ⟨by decide +kernel, by decide +kernel⟩ (List.mem_of_getElem? (i := 13) rfl) (List.mem_of_getElem? (i := 14) rfl) (List.mem_of_getElem? (i := 15) rfl) rfl (sp_pl [7] [0, 1, 2, 3, 4, 5, 6] rfl rfl rfl rfl rfl) rfl rfl (Nat.le_of_ble_eq_true rfl) dX0_init_94 ⟨by decide +kernel, by decide +kernel⟩ (fun u_37 hp_38 => ?_)
  obtain ⟨a_40, rfl⟩ : ∃ z, z = u_37 := ⟨_, rfl⟩
  show V _ _ _ _ _ _ _ _ _ _ _ _ _ _ (19, 393) [(h, .inr (0, [.ref q_1, .ref q_2, .ref q_3, .ref q_6, .ref q_7, .ref q_8, .ref q_13, .int 0, .int 0, .int 0])), (q_1, .inl (K 4, 8, .inr (.inr (.inr (.inr f_35))))), (q_3, .inl (K 6, 2, .inr (.inr (.inr (.inr (va_up (va_up (fun _ => none) 0 (some q_4)) 1 (some q_5))))))), (q_4, .inl (K 0, 64, .inl (fun _ => 0))), (q_5, .inl (K 0, 64, .inl (fun _ => 0))), (q_6, .inl (K 0, 2, .inl (fun _ => 0))), (q_7, .inl (K 0, 2, .inl (fun _ => 0))), (q_36, .inr (9, [.ref a_40, .int 0]))] _ _ _
  refine v_aast B (k0 := 1) (t0 := 4) (k1 := 7) (r := (RX9, TX9, 2)) (w' := [(h, .inr (0, [.ref q_1, .ref q_2, .ref q_3, .ref q_6, .ref q_7, .ref q_8, .ref q_13, .int 0, .int 0, .int 0])), (q_1, .inl (K 4, 8, .inr (.inr (.inr (.inr (va_up f_35 (3 : Int32).toNatClampNeg (some q_36))))))), (q_3, .inl (K 6, 2, .inr (.inr (.inr (.inr (va_up (va_up (fun _ => none) 0 (some q_4)) 1 (some q_5))))))), (q_4, .inl (K 0, 64, .inl (fun _ => 0))), (q_5, .inl (K 0, 64, .inl (fun _ => 0))), (q_6, .inl (K 0, 2, .inl (fun _ => 0))), (q_7, .inl (K 0, 2, .inl (fun _ => 0))), (q_36, .inr (9, [.ref a_40, .int 0]))]) rfl rfl rfl rfl (vpi (by decide +kernel)) rfl dX0_init_97 ?_
  generalize va_up f_35 (3 : Int32).toNatClampNeg (some q_36) = f_41
  refine v_forget (wc := [(h, .inr (0, [.ref q_1, .ref q_2, .ref q_3, .ref q_6, .ref q_7, .ref q_8, .ref q_13, .int 0, .int 0, .int 0])), (q_1, .inl (K 4, 8, .inr (.inr (.inr (.inr f_41))))), (q_3, .inl (K 6, 2, .inr (.inr (.inr (.inr (va_up (va_up (fun _ => none) 0 (some q_4)) 1 (some q_5))))))), (q_4, .inl (K 0, 64, .inl (fun _ => 0))), (q_5, .inl (K 0, 64, .inl (fun _ => 0))), (q_6, .inl (K 0, 2, .inl (fun _ => 0))), (q_7, .inl (K 0, 2, .inl (fun _ => 0)))]) (wr := []) (sp_pl [0, 1, 2, 3, 4, 5, 6] [] rfl rfl rfl rfl rfl) ?_
  refine v_iinc B (k := 0) (v := 4) (lv' := [(1, .int 4), (0, .ref h)]) dX0_init_98 rfl (by decide +kernel) (by decide +kernel) rfl ?_
  refine v_goto B (tgt := 74) dX0_init_101 (by decide +kernel) ?_
  refine v_iload_n B dX0_init_74 rfl rfl ?_
  refine v_aload_n B dX0_init_75 rfl rfl ?_
  refine v_get B (C := RX0) (T := TX0) (N := 10) (ci := 0) (k0 := 0) hi_c_Air_init_X0 rfl rfl 0 (by decide +kernel) (List.mem_of_getElem? (i := 5) rfl) rfl dX0_init_76 ?_
  refine v_alen B (k0 := 1) (t0 := 4) (v := 8) rfl rfl rfl dX0_init_79 ?_
  refine v_icmp_ge B (tgt := 104) dX0_init_80 (by decide +kernel) (fun h => absurd h (by decide +kernel)) (fun _ => ?_)
  refine v_aload_n B dX0_init_83 rfl rfl ?_
  refine v_get B (C := RX0) (T := TX0) (N := 10) (ci := 0) (k0 := 0) hi_c_Air_init_X0 rfl rfl 0 (by decide +kernel) (List.mem_of_getElem? (i := 5) rfl) rfl dX0_init_84 ?_
  refine v_iload_n B dX0_init_87 rfl rfl ?_
  refine v_new B (C := RX9) (T := TX9) (N := 2) (ci := 9) (fs := [.null, .int 0]) hi_c_Air_init_X9 tyX9 tyX9_ok (List.mem_of_getElem? (i := 4) rfl) (List.mem_of_getElem? (i := 12) rfl) (List.mem_of_getElem? (i := 13) rfl) rfl (by decide +kernel) (by decide +kernel) (by decide +kernel) dX0_init_88 (fun q_42 => ?_)
  show V _ _ _ _ _ _ _ _ _ _ _ _ _ _ (20, 395) [(h, .inr (0, [.ref q_1, .ref q_2, .ref q_3, .ref q_6, .ref q_7, .ref q_8, .ref q_13, .int 0, .int 0, .int 0])), (q_1, .inl (K 4, 8, .inr (.inr (.inr (.inr f_41))))), (q_3, .inl (K 6, 2, .inr (.inr (.inr (.inr (va_up (va_up (fun _ => none) 0 (some q_4)) 1 (some q_5))))))), (q_4, .inl (K 0, 64, .inl (fun _ => 0))), (q_5, .inl (K 0, 64, .inl (fun _ => 0))), (q_6, .inl (K 0, 2, .inl (fun _ => 0))), (q_7, .inl (K 0, 2, .inl (fun _ => 0))), (q_42, .inr (9, [.null, .int 0]))] _ _ _
  refine v_dup B dX0_init_91 rfl ?_
  refine v_bipush B (v := 40) dX0_init_92 (by decide +kernel) ?_
  refine v_callIv B (b := q_42) (n := 1) (As := [.int 40]) (rest := [.ref q_42, .int 4, .ref q_1]) (wc := [(q_42, .inr (9, [.null, .int 0]))]) (wr := [(h, .inr (0, [.ref q_1, .ref q_2, .ref q_3, .ref q_6, .ref q_7, .ref q_8, .ref q_13, .int 0, .int 0, .int 0])), (q_1, .inl (K 4, 8, .inr (.inr (.inr (.inr f_41))))), (q_3, .inl (K 6, 2, .inr (.inr (.inr (.inr (va_up (va_up (fun _ => none) 0 (some q_4)) 1 (some q_5))))))), (q_4, .inl (K 0, 64, .inl (fun _ => 0))), (q_5, .inl (K 0, 64, .inl (fun _ => 0))), (q_6, .inl (K 0, 2, .inl (fun _ => 0))), (q_7, .inl (K 0, 2, .inl (fun _ => 0)))]) (c_RowN_init_40 l D K q_42) gd_c_Air_init_c_RowN_init_40_32 rfl rfl rfl (by decide +kernel) ⟨by decide +kernel, by decide +kernel⟩ (List.mem_of_getElem? (i := 13) rfl) (List.mem_of_getElem? (i := 14) rfl) (List.mem_of_getElem? (i := 15) rfl) rfl (sp_pl [7] [0, 1, 2, 3, 4, 5, 6] rfl rfl rfl rfl rfl) rfl rfl (Nat.le_of_ble_eq_true rfl) dX0_init_94 ⟨by decide +kernel, by decide +kernel⟩ (fun u_43 hp_44 => ?_)
  obtain ⟨a_46, rfl⟩ : ∃ z, z = u_43 := ⟨_, rfl⟩
  show V _ _ _ _ _ _ _ _ _ _ _ _ _ _ (21, 435) [(h, .inr (0, [.ref q_1, .ref q_2, .ref q_3, .ref q_6, .ref q_7, .ref q_8, .ref q_13, .int 0, .int 0, .int 0])), (q_1, .inl (K 4, 8, .inr (.inr (.inr (.inr f_41))))), (q_3, .inl (K 6, 2, .inr (.inr (.inr (.inr (va_up (va_up (fun _ => none) 0 (some q_4)) 1 (some q_5))))))), (q_4, .inl (K 0, 64, .inl (fun _ => 0))), (q_5, .inl (K 0, 64, .inl (fun _ => 0))), (q_6, .inl (K 0, 2, .inl (fun _ => 0))), (q_7, .inl (K 0, 2, .inl (fun _ => 0))), (q_42, .inr (9, [.ref a_46, .int 0]))] _ _ _
  refine v_aast B (k0 := 1) (t0 := 4) (k1 := 7) (r := (RX9, TX9, 2)) (w' := [(h, .inr (0, [.ref q_1, .ref q_2, .ref q_3, .ref q_6, .ref q_7, .ref q_8, .ref q_13, .int 0, .int 0, .int 0])), (q_1, .inl (K 4, 8, .inr (.inr (.inr (.inr (va_up f_41 (4 : Int32).toNatClampNeg (some q_42))))))), (q_3, .inl (K 6, 2, .inr (.inr (.inr (.inr (va_up (va_up (fun _ => none) 0 (some q_4)) 1 (some q_5))))))), (q_4, .inl (K 0, 64, .inl (fun _ => 0))), (q_5, .inl (K 0, 64, .inl (fun _ => 0))), (q_6, .inl (K 0, 2, .inl (fun _ => 0))), (q_7, .inl (K 0, 2, .inl (fun _ => 0))), (q_42, .inr (9, [.ref a_46, .int 0]))]) rfl rfl rfl rfl (vpi (by decide +kernel)) rfl dX0_init_97 ?_
  generalize va_up f_41 (4 : Int32).toNatClampNeg (some q_42) = f_47
  refine v_forget (wc := [(h, .inr (0, [.ref q_1, .ref q_2, .ref q_3, .ref q_6, .ref q_7, .ref q_8, .ref q_13, .int 0, .int 0, .int 0])), (q_1, .inl (K 4, 8, .inr (.inr (.inr (.inr f_47))))), (q_3, .inl (K 6, 2, .inr (.inr (.inr (.inr (va_up (va_up (fun _ => none) 0 (some q_4)) 1 (some q_5))))))), (q_4, .inl (K 0, 64, .inl (fun _ => 0))), (q_5, .inl (K 0, 64, .inl (fun _ => 0))), (q_6, .inl (K 0, 2, .inl (fun _ => 0))), (q_7, .inl (K 0, 2, .inl (fun _ => 0)))]) (wr := []) (sp_pl [0, 1, 2, 3, 4, 5, 6] [] rfl rfl rfl rfl rfl) ?_
  refine v_iinc B (k := 0) (v := 5) (lv' := [(1, .int 5), (0, .ref h)]) dX0_init_98 rfl (by decide +kernel) (by decide +kernel) rfl ?_
  refine v_goto B (tgt := 74) dX0_init_101 (by decide +kernel) ?_
  refine v_iload_n B dX0_init_74 rfl rfl ?_
  refine v_aload_n B dX0_init_75 rfl rfl ?_
  refine v_get B (C := RX0) (T := TX0) (N := 10) (ci := 0) (k0 := 0) hi_c_Air_init_X0 rfl rfl 0 (by decide +kernel) (List.mem_of_getElem? (i := 5) rfl) rfl dX0_init_76 ?_
  refine v_alen B (k0 := 1) (t0 := 4) (v := 8) rfl rfl rfl dX0_init_79 ?_
  refine v_icmp_ge B (tgt := 104) dX0_init_80 (by decide +kernel) (fun h => absurd h (by decide +kernel)) (fun _ => ?_)
  refine v_aload_n B dX0_init_83 rfl rfl ?_
  refine v_get B (C := RX0) (T := TX0) (N := 10) (ci := 0) (k0 := 0) hi_c_Air_init_X0 rfl rfl 0 (by decide +kernel) (List.mem_of_getElem? (i := 5) rfl) rfl dX0_init_84 ?_
  refine v_iload_n B dX0_init_87 rfl rfl ?_
  refine v_new B (C := RX9) (T := TX9) (N := 2) (ci := 9) (fs := [.null, .int 0]) hi_c_Air_init_X9 tyX9 tyX9_ok (List.mem_of_getElem? (i := 4) rfl) (List.mem_of_getElem? (i := 12) rfl) (List.mem_of_getElem? (i := 13) rfl) rfl (by decide +kernel) (by decide +kernel) (by decide +kernel) dX0_init_88 (fun q_48 => ?_)
  show V _ _ _ _ _ _ _ _ _ _ _ _ _ _ (22, 437) [(h, .inr (0, [.ref q_1, .ref q_2, .ref q_3, .ref q_6, .ref q_7, .ref q_8, .ref q_13, .int 0, .int 0, .int 0])), (q_1, .inl (K 4, 8, .inr (.inr (.inr (.inr f_47))))), (q_3, .inl (K 6, 2, .inr (.inr (.inr (.inr (va_up (va_up (fun _ => none) 0 (some q_4)) 1 (some q_5))))))), (q_4, .inl (K 0, 64, .inl (fun _ => 0))), (q_5, .inl (K 0, 64, .inl (fun _ => 0))), (q_6, .inl (K 0, 2, .inl (fun _ => 0))), (q_7, .inl (K 0, 2, .inl (fun _ => 0))), (q_48, .inr (9, [.null, .int 0]))] _ _ _
  refine v_dup B dX0_init_91 rfl ?_
  refine v_bipush B (v := 40) dX0_init_92 (by decide +kernel) ?_
  refine v_callIv B (b := q_48) (n := 1) (As := [.int 40]) (rest := [.ref q_48, .int 5, .ref q_1]) (wc := [(q_48, .inr (9, [.null, .int 0]))]) (wr := [(h, .inr (0, [.ref q_1, .ref q_2, .ref q_3, .ref q_6, .ref q_7, .ref q_8, .ref q_13, .int 0, .int 0, .int 0])), (q_1, .inl (K 4, 8, .inr (.inr (.inr (.inr f_47))))), (q_3, .inl (K 6, 2, .inr (.inr (.inr (.inr (va_up (va_up (fun _ => none) 0 (some q_4)) 1 (some q_5))))))), (q_4, .inl (K 0, 64, .inl (fun _ => 0))), (q_5, .inl (K 0, 64, .inl (fun _ => 0))), (q_6, .inl (K 0, 2, .inl (fun _ => 0))), (q_7, .inl (K 0, 2, .inl (fun _ => 0)))]) (c_RowN_init_40 l D K q_48) gd_c_Air_init_c_RowN_init_40_32 rfl rfl rfl (by decide +kernel) ⟨by decide +kernel, by decide +kernel⟩ (List.mem_of_getElem? (i := 13) rfl) (List.mem_of_getElem? (i := 14) rfl) (List.mem_of_getElem? (i := 15) rfl) rfl (sp_pl [7] [0, 1, 2, 3, 4, 5, 6] rfl rfl rfl rfl rfl) rfl rfl (Nat.le_of_ble_eq_true rfl) dX0_init_94 ⟨by decide +kernel, by decide +kernel⟩ (fun u_49 hp_50 => ?_)
  obtain ⟨a_52, rfl⟩ : ∃ z, z = u_49 := ⟨_, rfl⟩
  show V _ _ _ _ _ _ _ _ _ _ _ _ _ _ (23, 477) [(h, .inr (0, [.ref q_1, .ref q_2, .ref q_3, .ref q_6, .ref q_7, .ref q_8, .ref q_13, .int 0, .int 0, .int 0])), (q_1, .inl (K 4, 8, .inr (.inr (.inr (.inr f_47))))), (q_3, .inl (K 6, 2, .inr (.inr (.inr (.inr (va_up (va_up (fun _ => none) 0 (some q_4)) 1 (some q_5))))))), (q_4, .inl (K 0, 64, .inl (fun _ => 0))), (q_5, .inl (K 0, 64, .inl (fun _ => 0))), (q_6, .inl (K 0, 2, .inl (fun _ => 0))), (q_7, .inl (K 0, 2, .inl (fun _ => 0))), (q_48, .inr (9, [.ref a_52, .int 0]))] _ _ _
  refine v_aast B (k0 := 1) (t0 := 4) (k1 := 7) (r := (RX9, TX9, 2)) (w' := [(h, .inr (0, [.ref q_1, .ref q_2, .ref q_3, .ref q_6, .ref q_7, .ref q_8, .ref q_13, .int 0, .int 0, .int 0])), (q_1, .inl (K 4, 8, .inr (.inr (.inr (.inr (va_up f_47 (5 : Int32).toNatClampNeg (some q_48))))))), (q_3, .inl (K 6, 2, .inr (.inr (.inr (.inr (va_up (va_up (fun _ => none) 0 (some q_4)) 1 (some q_5))))))), (q_4, .inl (K 0, 64, .inl (fun _ => 0))), (q_5, .inl (K 0, 64, .inl (fun _ => 0))), (q_6, .inl (K 0, 2, .inl (fun _ => 0))), (q_7, .inl (K 0, 2, .inl (fun _ => 0))), (q_48, .inr (9, [.ref a_52, .int 0]))]) rfl rfl rfl rfl (vpi (by decide +kernel)) rfl dX0_init_97 ?_
  generalize va_up f_47 (5 : Int32).toNatClampNeg (some q_48) = f_53
  refine v_forget (wc := [(h, .inr (0, [.ref q_1, .ref q_2, .ref q_3, .ref q_6, .ref q_7, .ref q_8, .ref q_13, .int 0, .int 0, .int 0])), (q_1, .inl (K 4, 8, .inr (.inr (.inr (.inr f_53))))), (q_3, .inl (K 6, 2, .inr (.inr (.inr (.inr (va_up (va_up (fun _ => none) 0 (some q_4)) 1 (some q_5))))))), (q_4, .inl (K 0, 64, .inl (fun _ => 0))), (q_5, .inl (K 0, 64, .inl (fun _ => 0))), (q_6, .inl (K 0, 2, .inl (fun _ => 0))), (q_7, .inl (K 0, 2, .inl (fun _ => 0)))]) (wr := []) (sp_pl [0, 1, 2, 3, 4, 5, 6] [] rfl rfl rfl rfl rfl) ?_
  refine v_iinc B (k := 0) (v := 6) (lv' := [(1, .int 6), (0, .ref h)]) dX0_init_98 rfl (by decide +kernel) (by decide +kernel) rfl ?_
  refine v_goto B (tgt := 74) dX0_init_101 (by decide +kernel) ?_
  refine v_iload_n B dX0_init_74 rfl rfl ?_
  refine v_aload_n B dX0_init_75 rfl rfl ?_
  refine v_get B (C := RX0) (T := TX0) (N := 10) (ci := 0) (k0 := 0) hi_c_Air_init_X0 rfl rfl 0 (by decide +kernel) (List.mem_of_getElem? (i := 5) rfl) rfl dX0_init_76 ?_
  refine v_alen B (k0 := 1) (t0 := 4) (v := 8) rfl rfl rfl dX0_init_79 ?_
  refine v_icmp_ge B (tgt := 104) dX0_init_80 (by decide +kernel) (fun h => absurd h (by decide +kernel)) (fun _ => ?_)
  refine v_aload_n B dX0_init_83 rfl rfl ?_
  refine v_get B (C := RX0) (T := TX0) (N := 10) (ci := 0) (k0 := 0) hi_c_Air_init_X0 rfl rfl 0 (by decide +kernel) (List.mem_of_getElem? (i := 5) rfl) rfl dX0_init_84 ?_
  refine v_iload_n B dX0_init_87 rfl rfl ?_
  refine v_new B (C := RX9) (T := TX9) (N := 2) (ci := 9) (fs := [.null, .int 0]) hi_c_Air_init_X9 tyX9 tyX9_ok (List.mem_of_getElem? (i := 4) rfl) (List.mem_of_getElem? (i := 12) rfl) (List.mem_of_getElem? (i := 13) rfl) rfl (by decide +kernel) (by decide +kernel) (by decide +kernel) dX0_init_88 (fun q_54 => ?_)
  show V _ _ _ _ _ _ _ _ _ _ _ _ _ _ (24, 479) [(h, .inr (0, [.ref q_1, .ref q_2, .ref q_3, .ref q_6, .ref q_7, .ref q_8, .ref q_13, .int 0, .int 0, .int 0])), (q_1, .inl (K 4, 8, .inr (.inr (.inr (.inr f_53))))), (q_3, .inl (K 6, 2, .inr (.inr (.inr (.inr (va_up (va_up (fun _ => none) 0 (some q_4)) 1 (some q_5))))))), (q_4, .inl (K 0, 64, .inl (fun _ => 0))), (q_5, .inl (K 0, 64, .inl (fun _ => 0))), (q_6, .inl (K 0, 2, .inl (fun _ => 0))), (q_7, .inl (K 0, 2, .inl (fun _ => 0))), (q_54, .inr (9, [.null, .int 0]))] _ _ _
  refine v_dup B dX0_init_91 rfl ?_
  refine v_bipush B (v := 40) dX0_init_92 (by decide +kernel) ?_
  refine v_callIv B (b := q_54) (n := 1) (As := [.int 40]) (rest := [.ref q_54, .int 6, .ref q_1]) (wc := [(q_54, .inr (9, [.null, .int 0]))]) (wr := [(h, .inr (0, [.ref q_1, .ref q_2, .ref q_3, .ref q_6, .ref q_7, .ref q_8, .ref q_13, .int 0, .int 0, .int 0])), (q_1, .inl (K 4, 8, .inr (.inr (.inr (.inr f_53))))), (q_3, .inl (K 6, 2, .inr (.inr (.inr (.inr (va_up (va_up (fun _ => none) 0 (some q_4)) 1 (some q_5))))))), (q_4, .inl (K 0, 64, .inl (fun _ => 0))), (q_5, .inl (K 0, 64, .inl (fun _ => 0))), (q_6, .inl (K 0, 2, .inl (fun _ => 0))), (q_7, .inl (K 0, 2, .inl (fun _ => 0)))]) (c_RowN_init_40 l D K q_54) gd_c_Air_init_c_RowN_init_40_32 rfl rfl rfl (by decide +kernel) ⟨by decide +kernel, by decide +kernel⟩ (List.mem_of_getElem? (i := 13) rfl) (List.mem_of_getElem? (i := 14) rfl) (List.mem_of_getElem? (i := 15) rfl) rfl (sp_pl [7] [0, 1, 2, 3, 4, 5, 6] rfl rfl rfl rfl rfl) rfl rfl (Nat.le_of_ble_eq_true rfl) dX0_init_94 ⟨by decide +kernel, by decide +kernel⟩ (fun u_55 hp_56 => ?_)
  obtain ⟨a_58, rfl⟩ : ∃ z, z = u_55 := ⟨_, rfl⟩
  show V _ _ _ _ _ _ _ _ _ _ _ _ _ _ (25, 519) [(h, .inr (0, [.ref q_1, .ref q_2, .ref q_3, .ref q_6, .ref q_7, .ref q_8, .ref q_13, .int 0, .int 0, .int 0])), (q_1, .inl (K 4, 8, .inr (.inr (.inr (.inr f_53))))), (q_3, .inl (K 6, 2, .inr (.inr (.inr (.inr (va_up (va_up (fun _ => none) 0 (some q_4)) 1 (some q_5))))))), (q_4, .inl (K 0, 64, .inl (fun _ => 0))), (q_5, .inl (K 0, 64, .inl (fun _ => 0))), (q_6, .inl (K 0, 2, .inl (fun _ => 0))), (q_7, .inl (K 0, 2, .inl (fun _ => 0))), (q_54, .inr (9, [.ref a_58, .int 0]))] _ _ _
  refine v_aast B (k0 := 1) (t0 := 4) (k1 := 7) (r := (RX9, TX9, 2)) (w' := [(h, .inr (0, [.ref q_1, .ref q_2, .ref q_3, .ref q_6, .ref q_7, .ref q_8, .ref q_13, .int 0, .int 0, .int 0])), (q_1, .inl (K 4, 8, .inr (.inr (.inr (.inr (va_up f_53 (6 : Int32).toNatClampNeg (some q_54))))))), (q_3, .inl (K 6, 2, .inr (.inr (.inr (.inr (va_up (va_up (fun _ => none) 0 (some q_4)) 1 (some q_5))))))), (q_4, .inl (K 0, 64, .inl (fun _ => 0))), (q_5, .inl (K 0, 64, .inl (fun _ => 0))), (q_6, .inl (K 0, 2, .inl (fun _ => 0))), (q_7, .inl (K 0, 2, .inl (fun _ => 0))), (q_54, .inr (9, [.ref a_58, .int 0]))]) rfl rfl rfl rfl (vpi (by decide +kernel)) rfl dX0_init_97 ?_
  generalize va_up f_53 (6 : Int32).toNatClampNeg (some q_54) = f_59
  refine v_forget (wc := [(h, .inr (0, [.ref q_1, .ref q_2, .ref q_3, .ref q_6, .ref q_7, .ref q_8, .ref q_13, .int 0, .int 0, .int 0])), (q_1, .inl (K 4, 8, .inr (.inr (.inr (.inr f_59))))), (q_3, .inl (K 6, 2, .inr (.inr (.inr (.inr (va_up (va_up (fun _ => none) 0 (some q_4)) 1 (some q_5))))))), (q_4, .inl (K 0, 64, .inl (fun _ => 0))), (q_5, .inl (K 0, 64, .inl (fun _ => 0))), (q_6, .inl (K 0, 2, .inl (fun _ => 0))), (q_7, .inl (K 0, 2, .inl (fun _ => 0)))]) (wr := []) (sp_pl [0, 1, 2, 3, 4, 5, 6] [] rfl rfl rfl rfl rfl) ?_
  refine v_iinc B (k := 0) (v := 7) (lv' := [(1, .int 7), (0, .ref h)]) dX0_init_98 rfl (by decide +kernel) (by decide +kernel) rfl ?_
  refine v_goto B (tgt := 74) dX0_init_101 (by decide +kernel) ?_
  refine v_iload_n B dX0_init_74 rfl rfl ?_
  refine v_aload_n B dX0_init_75 rfl rfl ?_
  refine v_get B (C := RX0) (T := TX0) (N := 10) (ci := 0) (k0 := 0) hi_c_Air_init_X0 rfl rfl 0 (by decide +kernel) (List.mem_of_getElem? (i := 5) rfl) rfl dX0_init_76 ?_
  refine v_alen B (k0 := 1) (t0 := 4) (v := 8) rfl rfl rfl dX0_init_79 ?_
  refine v_icmp_ge B (tgt := 104) dX0_init_80 (by decide +kernel) (fun h => absurd h (by decide +kernel)) (fun _ => ?_)
  refine v_aload_n B dX0_init_83 rfl rfl ?_
  refine v_get B (C := RX0) (T := TX0) (N := 10) (ci := 0) (k0 := 0) hi_c_Air_init_X0 rfl rfl 0 (by decide +kernel) (List.mem_of_getElem? (i := 5) rfl) rfl dX0_init_84 ?_
  refine v_iload_n B dX0_init_87 rfl rfl ?_
  refine v_new B (C := RX9) (T := TX9) (N := 2) (ci := 9) (fs := [.null, .int 0]) hi_c_Air_init_X9 tyX9 tyX9_ok (List.mem_of_getElem? (i := 4) rfl) (List.mem_of_getElem? (i := 12) rfl) (List.mem_of_getElem? (i := 13) rfl) rfl (by decide +kernel) (by decide +kernel) (by decide +kernel) dX0_init_88 (fun q_60 => ?_)
  show V _ _ _ _ _ _ _ _ _ _ _ _ _ _ (26, 521) [(h, .inr (0, [.ref q_1, .ref q_2, .ref q_3, .ref q_6, .ref q_7, .ref q_8, .ref q_13, .int 0, .int 0, .int 0])), (q_1, .inl (K 4, 8, .inr (.inr (.inr (.inr f_59))))), (q_3, .inl (K 6, 2, .inr (.inr (.inr (.inr (va_up (va_up (fun _ => none) 0 (some q_4)) 1 (some q_5))))))), (q_4, .inl (K 0, 64, .inl (fun _ => 0))), (q_5, .inl (K 0, 64, .inl (fun _ => 0))), (q_6, .inl (K 0, 2, .inl (fun _ => 0))), (q_7, .inl (K 0, 2, .inl (fun _ => 0))), (q_60, .inr (9, [.null, .int 0]))] _ _ _
  refine v_dup B dX0_init_91 rfl ?_
  refine v_bipush B (v := 40) dX0_init_92 (by decide +kernel) ?_
  refine v_callIv B (b := q_60) (n := 1) (As := [.int 40]) (rest := [.ref q_60, .int 7, .ref q_1]) (wc := [(q_60, .inr (9, [.null, .int 0]))]) (wr := [(h, .inr (0, [.ref q_1, .ref q_2, .ref q_3, .ref q_6, .ref q_7, .ref q_8, .ref q_13, .int 0, .int 0, .int 0])), (q_1, .inl (K 4, 8, .inr (.inr (.inr (.inr f_59))))), (q_3, .inl (K 6, 2, .inr (.inr (.inr (.inr (va_up (va_up (fun _ => none) 0 (some q_4)) 1 (some q_5))))))), (q_4, .inl (K 0, 64, .inl (fun _ => 0))), (q_5, .inl (K 0, 64, .inl (fun _ => 0))), (q_6, .inl (K 0, 2, .inl (fun _ => 0))), (q_7, .inl (K 0, 2, .inl (fun _ => 0)))]) (c_RowN_init_40 l D K q_60) gd_c_Air_init_c_RowN_init_40_32 rfl rfl rfl (by decide +kernel) ⟨by decide +kernel, by decide +kernel⟩ (List.mem_of_getElem? (i := 13) rfl) (List.mem_of_getElem? (i := 14) rfl) (List.mem_of_getElem? (i := 15) rfl) rfl (sp_pl [7] [0, 1, 2, 3, 4, 5, 6] rfl rfl rfl rfl rfl) rfl rfl (Nat.le_of_ble_eq_true rfl) dX0_init_94 ⟨by decide +kernel, by decide +kernel⟩ (fun u_61 hp_62 => ?_)
  obtain ⟨a_64, rfl⟩ : ∃ z, z = u_61 := ⟨_, rfl⟩
  show V _ _ _ _ _ _ _ _ _ _ _ _ _ _ (27, 561) [(h, .inr (0, [.ref q_1, .ref q_2, .ref q_3, .ref q_6, .ref q_7, .ref q_8, .ref q_13, .int 0, .int 0, .int 0])), (q_1, .inl (K 4, 8, .inr (.inr (.inr (.inr f_59))))), (q_3, .inl (K 6, 2, .inr (.inr (.inr (.inr (va_up (va_up (fun _ => none) 0 (some q_4)) 1 (some q_5))))))), (q_4, .inl (K 0, 64, .inl (fun _ => 0))), (q_5, .inl (K 0, 64, .inl (fun _ => 0))), (q_6, .inl (K 0, 2, .inl (fun _ => 0))), (q_7, .inl (K 0, 2, .inl (fun _ => 0))), (q_60, .inr (9, [.ref a_64, .int 0]))] _ _ _
  refine v_aast B (k0 := 1) (t0 := 4) (k1 := 7) (r := (RX9, TX9, 2)) (w' := [(h, .inr (0, [.ref q_1, .ref q_2, .ref q_3, .ref q_6, .ref q_7, .ref q_8, .ref q_13, .int 0, .int 0, .int 0])), (q_1, .inl (K 4, 8, .inr (.inr (.inr (.inr (va_up f_59 (7 : Int32).toNatClampNeg (some q_60))))))), (q_3, .inl (K 6, 2, .inr (.inr (.inr (.inr (va_up (va_up (fun _ => none) 0 (some q_4)) 1 (some q_5))))))), (q_4, .inl (K 0, 64, .inl (fun _ => 0))), (q_5, .inl (K 0, 64, .inl (fun _ => 0))), (q_6, .inl (K 0, 2, .inl (fun _ => 0))), (q_7, .inl (K 0, 2, .inl (fun _ => 0))), (q_60, .inr (9, [.ref a_64, .int 0]))]) rfl rfl rfl rfl (vpi (by decide +kernel)) rfl dX0_init_97 ?_
  generalize va_up f_59 (7 : Int32).toNatClampNeg (some q_60) = f_65
  refine v_forget (wc := [(h, .inr (0, [.ref q_1, .ref q_2, .ref q_3, .ref q_6, .ref q_7, .ref q_8, .ref q_13, .int 0, .int 0, .int 0])), (q_1, .inl (K 4, 8, .inr (.inr (.inr (.inr f_65))))), (q_3, .inl (K 6, 2, .inr (.inr (.inr (.inr (va_up (va_up (fun _ => none) 0 (some q_4)) 1 (some q_5))))))), (q_4, .inl (K 0, 64, .inl (fun _ => 0))), (q_5, .inl (K 0, 64, .inl (fun _ => 0))), (q_6, .inl (K 0, 2, .inl (fun _ => 0))), (q_7, .inl (K 0, 2, .inl (fun _ => 0)))]) (wr := []) (sp_pl [0, 1, 2, 3, 4, 5, 6] [] rfl rfl rfl rfl rfl) ?_
  refine v_iinc B (k := 0) (v := 8) (lv' := [(1, .int 8), (0, .ref h)]) dX0_init_98 rfl (by decide +kernel) (by decide +kernel) rfl ?_
  refine v_goto B (tgt := 74) dX0_init_101 (by decide +kernel) ?_
  refine v_iload_n B dX0_init_74 rfl rfl ?_
  refine v_aload_n B dX0_init_75 rfl rfl ?_
  refine v_get B (C := RX0) (T := TX0) (N := 10) (ci := 0) (k0 := 0) hi_c_Air_init_X0 rfl rfl 0 (by decide +kernel) (List.mem_of_getElem? (i := 5) rfl) rfl dX0_init_76 ?_
  refine v_alen B (k0 := 1) (t0 := 4) (v := 8) rfl rfl rfl dX0_init_79 ?_
  refine v_icmp_ge B (tgt := 104) dX0_init_80 (by decide +kernel) (fun _ => ?_) (fun h => absurd (by decide +kernel) h)
  refine v_forget (wc := [(h, .inr (0, [.ref q_1, .ref q_2, .ref q_3, .ref q_6, .ref q_7, .ref q_8, .ref q_13, .int 0, .int 0, .int 0])), (q_3, .inl (K 6, 2, .inr (.inr (.inr (.inr (va_up (va_up (fun _ => none) 0 (some q_4)) 1 (some q_5))))))), (q_4, .inl (K 0, 64, .inl (fun _ => 0))), (q_5, .inl (K 0, 64, .inl (fun _ => 0))), (q_6, .inl (K 0, 2, .inl (fun _ => 0))), (q_7, .inl (K 0, 2, .inl (fun _ => 0)))]) (wr := []) (sp_pl [0, 2, 3, 4, 5, 6] [] rfl rfl rfl rfl rfl) ?_
  exact v_vret B hr hlk (q_1, q_2, q_3, q_6, q_7, q_8, q_13, q_4, q_5) trivial rfl (by decide +kernel) (by decide +kernel) dX0_init_104
